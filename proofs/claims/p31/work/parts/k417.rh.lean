/-! the graph drawn twice: what is reached is the least closed set (behind sp_reach, GeI) -/
def eG (S : MS) (b c : Nat) : Prop := ∃ k : Nat, (qI S 51 b).toInt ≤ k ∧ (k : Int) < (qI S 51 (b + 1)).toInt ∧ (qI S 52 k).toInt = c
def clG (S : MS) (P : Nat → Prop) : Prop := ∀ b c : Nat, (b : Int) < (qI S 0 105).toInt → P b → eG S b c → P c
def lsG (S u : MS) : Prop := ∀ P : Nat → Prop, P 0 → clG S P → ∀ b : Nat, (b : Int) < (qI S 0 105).toInt → ¬ (qI u 53 b).toInt = 0 → P b
def RhP (S u : MS) : Prop := ¬ (qI u 53 0).toInt = 0 ∧ clG S (fun b => ¬ (qI u 53 b).toInt = 0) ∧ lsG S u
def RcX (S S0 U : MS) (m : Int32) (B : Nat) : Prop := RcR S0 U m ∧ lsG S U ∧ ¬ (qI U 53 0).toInt = 0 ∧ (m.toInt = 0 → ∀ b c : Nat, b < B → ¬ (qI U 53 b).toInt = 0 → eG S b c → ¬ (qI U 53 c).toInt = 0)
theorem sp_reach2 {S : MS} (h : GeI S) (h1 : 1 ≤ (qI S 0 105).toInt) : w_reach S (fun u => frm [53] [] S u ∧ RhP S u) := by
  have l0 : (0 : Int32).toInt = 0 := rfl
  have bc := h.1
  have ec := h.2.1
  have same : ∀ U : MS, frm [53] [] S U → qI U 51 = qI S 51 ∧ qI U 52 = qI S 52 ∧ qI U 0 105 = qI S 0 105 ∧ qI U 0 110 = qI S 0 110 := fun U fU => ⟨(fU.2.2.2.2.1 51 (by decide) (by decide)).1, (fU.2.2.2.2.1 52 (by decide) (by decide)).1, (fU.2.2.2.2.2 105 (by decide)).1, (fU.2.2.2.2.2 110 (by decide)).1⟩
  have L56 : ∀ (S0 : MS) (k41 : MS → Int32 → Int32 → Prop) (b : Int32), frm [53] [] S S0 → (0 ≤ b.toInt ∧ b.toInt < (qI S 0 105).toInt) → (∀ (U : MS) (m : Int32), RcX S S0 U m (b.toInt.toNat + 1) → k41 U m (b + Int32.ofInt 1)) → ∀ (c : Nat) (U : MS) (m k : Int32), RcX S S0 U m b.toInt.toNat → 0 ≤ k.toInt → (m.toInt = 0 → ∀ k' : Nat, (qI S 51 b.toInt.toNat).toInt ≤ k' → (k' : Int) < k.toInt → ¬ (qI U 53 (qI S 52 k').toInt.toNat).toInt = 0) → (qI S 51 b.toInt.toNat).toInt ≤ k.toInt → (24000 - k.toInt).toNat < c → w_reach_L56 (fun u => frm [53] [] S u ∧ RhP S u) k41 c U m b k := by
    intro S0 k41 b f0 hb hk
    intro c
    induction c with
    | zero => intro U m k _ _ _ _ h9; exact absurd h9 (Nat.not_lt_zero _)
    | succ c ih =>
      intro U m k hU k0 hkk hkl hc
      have fU : frm [53] [] S U := f0.tr hU.1.1
      obtain ⟨u51, u52, u105, u110⟩ := same U fU
      have eb : (b + (1 : Int32)).toInt = b.toInt + 1 := by rw [t_add (by rw [li_1]; omega), li_1]
      have ebn : (b.toInt + 1).toNat = b.toInt.toNat + 1 := by omega
      have nxt : (m.toInt = 0 → ¬ (qI U 53 b.toInt.toNat).toInt = 0 → ∀ k' : Nat, (qI S 51 b.toInt.toNat).toInt ≤ k' → (k' : Int) < (qI S 51 (b.toInt.toNat + 1)).toInt → ¬ (qI U 53 (qI S 52 k').toInt.toNat).toInt = 0) → w_reach_J119 (fun u => frm [53] [] S u ∧ RhP S u) k41 U m b := fun hz => by
        unfold w_reach_J119
        intro a ea
        subst ea
        refine hk U m ⟨hU.1, hU.2.1, hU.2.2.1, fun mz b' c' hb' nb eg => ?_⟩
        by_cases q : b' = b.toInt.toNat
        · subst q
          obtain ⟨k', k1, k2, k3⟩ := eg
          have := hz mz nb k' k1 k2
          rw [k3] at this
          exact this
        · exact hU.2.2.2 mz b' c' (by omega) nb eg
      unfold w_reach_L56
      rw [eb, u51, u52]
      refine ⟨⟨hb.1, by omega⟩, fun z => nxt (fun _ nb => absurd z nb), fun c0 => ⟨⟨by omega, by omega⟩, fun z => nxt (fun mz _ k' k1 k2 => hkk mz k' k1 (by rw [ebn] at z; omega)), fun c1 => ?_⟩⟩
      have e1 := h.2.2.1 (b.toInt + 1).toNat (by omega)
      have e2 := h.2.2.2 k.toInt.toNat (by omega)
      have ek : (k + Int32.ofInt 1).toInt = k.toInt + 1 := by rw [t_add (by rw [lo_1]; omega), lo_1]
      have j100 : ∀ m' : Int32, (¬ m'.toInt = 0 → ¬ m.toInt = 0 ∨ (qI U 53 (qI S 52 k.toInt.toNat).toInt.toNat).toInt = 0) → (m'.toInt = 0 → m.toInt = 0 ∧ ¬ (qI U 53 (qI S 52 k.toInt.toNat).toInt.toNat).toInt = 0) → w_reach_J100 (fun u => frm [53] [] S u ∧ RhP S u) (w_reach_L56 (fun u => frm [53] [] S u ∧ RhP S u) k41 c) U m' b k := fun m' hm hm2 => by
        unfold w_reach_J100
        rw [u52]
        refine ⟨⟨k0, by omega⟩, ⟨by omega, by omega⟩, fun D eD a ea => ?_⟩
        subst ea
        have z := zc_set (S := U) (h := 53) (i := (qI S 52 k.toInt.toNat).toInt.toNat) (n := (qI U 0 105).toInt.toNat) (v := vp_nar .boolean (1 : Int32)) (by rw [u105]; omega) vb1
        rw [← eD] at z
        have d105 : qI D 0 105 = qI U 0 105 := by rw [eD, rdH (by decide)]
        have d53 : ∀ j : Nat, qI D 53 j = if j = (qI S 52 k.toInt.toNat).toInt.toNat then vp_nar .boolean (1 : Int32) else qI U 53 j := fun j => by
          rw [eD, qI_wI]
          by_cases q : j = (qI S 52 k.toInt.toNat).toInt.toNat
          · rw [if_pos ⟨rfl, q⟩, if_pos q]
          · rw [if_neg (fun z => q z.2), if_neg q]
        have up : ∀ j : Nat, ¬ (qI U 53 j).toInt = 0 → ¬ (qI D 53 j).toInt = 0 := fun j hj => by
          rw [d53]
          by_cases q : j = (qI S 52 k.toInt.toNat).toInt.toNat
          · rw [if_pos q]; exact vb1
          · rw [if_neg q]; exact hj
        have dn : ¬ (qI U 53 (qI S 52 k.toInt.toNat).toInt.toNat).toInt = 0 → ∀ j : Nat, ¬ (qI D 53 j).toInt = 0 → ¬ (qI U 53 j).toInt = 0 := fun hn j hj => by
          rw [d53] at hj
          by_cases q : j = (qI S 52 k.toInt.toNat).toInt.toNat
          · rw [q]; exact hn
          · rw [if_neg q] at hj; exact hj
        have r1 : rcN D ≤ rcN U := by unfold rcN; rw [d105]; exact z.1
        have r2 : (qI U 53 (qI S 52 k.toInt.toNat).toInt.toNat).toInt = 0 → rcN D < rcN U := fun q => by unfold rcN; rw [d105]; exact z.2 q
        refine ih D m' _ ⟨⟨hU.1.1.tr (by rw [eD]; exact frm.pI (by decide)), by have := hU.1.2.1; omega, fun q => ?_⟩, fun P p0 pc b' hb' nb => ?_, up 0 hU.2.2.1, fun mz b' c' hb' nb eg => ?_⟩ (by omega) (fun mz k' k1 k2 => ?_) (by omega) (by omega)
        · rcases hm q with y | y
          · have := hU.1.2.2 y; omega
          · have := r2 y; have := hU.1.2.1; omega
        · rw [d53] at nb
          by_cases q : b' = (qI S 52 k.toInt.toNat).toInt.toNat
          · have pb := hU.2.1 P p0 pc b.toInt.toNat (by omega) c0
            refine pc b.toInt.toNat b' (by omega) pb ⟨k.toInt.toNat, by omega, by rw [ebn] at c1; omega, by omega⟩
          · rw [if_neg q] at nb
            exact hU.2.1 P p0 pc b' hb' nb
        · obtain ⟨m0, hn⟩ := hm2 mz
          exact up c' (hU.2.2.2 m0 b' c' hb' (dn hn b' nb) eg)
        · obtain ⟨m0, hn⟩ := hm2 mz
          by_cases q : k' = k.toInt.toNat
          · rw [q]; exact up _ hn
          · exact up _ (hkk m0 k' k1 (by omega))
      refine ⟨fun c2 => ⟨⟨k0, by omega⟩, ⟨by omega, by omega⟩, fun c3 => ?_, fun c3 => j100 0 (fun q => absurd rfl q) (fun _ => ⟨c2, c3⟩)⟩, fun c2 => ?_⟩
      · exact j100 1 (fun _ => Or.inr c3) (fun q => absurd q (by decide))
      · exact j100 1 (fun _ => Or.inl c2) (fun q => absurd q (by decide))
  have L41 : ∀ (S0 : MS) (k33 : MS → Int32 → Prop), frm [53] [] S S0 → (∀ (U : MS) (m : Int32), RcX S S0 U m (qI S 0 105).toInt.toNat → k33 U m) → ∀ (c : Nat) (U : MS) (m b : Int32), RcX S S0 U m b.toInt.toNat → 0 ≤ b.toInt → b.toInt ≤ (qI S 0 105).toInt → (1200 - b.toInt).toNat < c → w_reach_L41 (fun u => frm [53] [] S u ∧ RhP S u) k33 c U m b := by
    intro S0 k33 f0 hk c
    induction c with
    | zero => intro U m b _ _ _ h9; exact absurd h9 (Nat.not_lt_zero _)
    | succ c ih =>
      intro U m b hU b0 b1 hc
      have fU : frm [53] [] S U := f0.tr hU.1.1
      obtain ⟨u51, u52, u105, u110⟩ := same U fU
      unfold w_reach_L41
      rw [u105, u51]
      refine ⟨fun c1 => hk U m (by rw [show (qI S 0 105).toInt.toNat = b.toInt.toNat by omega]; exact hU), fun c1 => ⟨⟨b0, by omega⟩, fun a ea => ?_⟩⟩
      have e1 := h.2.2.1 b.toInt.toNat (by omega)
      have ek : (b + Int32.ofInt 1).toInt = b.toInt + 1 := by rw [t_add (by rw [lo_1]; omega), lo_1]
      exact ⟨_, L56 S0 _ b f0 ⟨b0, by omega⟩ (fun U' m' h' => ih U' m' _ (by rw [show (b + Int32.ofInt 1).toInt.toNat = b.toInt.toNat + 1 by omega]; exact h') (by omega) (by omega) (by omega)) _ U m a hU (by rw [ea]; exact e1.1) (fun _ k' k1 k2 => by rw [ea] at k2; omega) (by rw [ea]; omega) (Nat.lt_succ_self _)⟩
  have L33 : ∀ (c : Nat) (U : MS) (m : Int32), frm [53] [] S U → lsG S U → ¬ (qI U 53 0).toInt = 0 → (m.toInt = 0 → clG S (fun b => ¬ (qI U 53 b).toInt = 0)) → (m.toInt = 0 ∧ 1 ≤ c ∨ rcN U + 2 ≤ c) → w_reach_L33 (fun u => frm [53] [] S u ∧ RhP S u) c U m := by
    intro c
    induction c with
    | zero => intro U m _ _ _ _ h9; exact absurd h9 (by omega)
    | succ c ih =>
      intro U m fU hl hz hcl hc
      unfold w_reach_L33
      refine ⟨fun c1 => ⟨fU, hz, hcl c1, hl⟩, fun c1 => ?_⟩
      have hc2 : rcN U + 2 ≤ c + 1 := by omega
      refine ⟨_, L41 U _ fU (fun V m' hV => ih V m' (fU.tr hV.1.1) hV.2.1 hV.2.2.1 (fun mz b c' hb nb eg => hV.2.2.2 mz b c' (by omega) nb eg) ?_) _ U 0 0 ⟨⟨frm.rf, Nat.le_refl _, fun q => absurd rfl q⟩, hl, hz, fun _ b c' hb => absurd hb (by rw [l0]; exact Nat.not_lt_zero _)⟩ (by decide) (by rw [l0]; exact bc.1) (Nat.lt_succ_self _)⟩
      by_cases z : m'.toInt = 0
      · exact Or.inl ⟨z, by omega⟩
      · have := hV.1.2.2 z
        exact Or.inr (by omega)
  have L2 : ∀ (c : Nat) (U : MS) (b : Int32), frm [53] [] S U → 0 ≤ b.toInt → b.toInt ≤ (qI S 0 105).toInt → (∀ j : Nat, (j : Int) < b.toInt → ¬ (qI U 53 j).toInt = 0 → j = 0) → (1 ≤ b.toInt → ¬ (qI U 53 0).toInt = 0) → (1200 - b.toInt).toNat < c → w_reach_L2 (fun u => frm [53] [] S u ∧ RhP S u) c U b := by
    intro c
    induction c with
    | zero => intro U b _ _ _ _ _ h9; exact absurd h9 (Nat.not_lt_zero _)
    | succ c ih =>
      intro U b fU b0 b1 hj hz hc
      obtain ⟨u51, u52, u105, u110⟩ := same U fU
      unfold w_reach_L2
      rw [u105]
      refine ⟨fun c1 => ⟨_, L33 _ U 1 fU (fun P p0 _ j jb nj => ?_) (hz (by omega)) (fun q => absurd q (by decide)) (Or.inr (Nat.le_refl _))⟩, fun c1 => ?_⟩
      · have := hj j (by omega) nj
        rw [this]; exact p0
      have ek : (b + Int32.ofInt 1).toInt = b.toInt + 1 := by rw [t_add (by rw [lo_1]; omega), lo_1]
      have j24 : ∀ v : Int32, (b.toInt = 0 → v = 1) → (¬ b.toInt = 0 → v = 0) → w_reach_J24 (fun u => frm [53] [] S u ∧ RhP S u) (w_reach_L2 (fun u => frm [53] [] S u ∧ RhP S u) c) U v b b := fun v v1 v2 => by
        unfold w_reach_J24
        refine ⟨⟨b0, by omega⟩, fun D eD a ea => ?_⟩
        subst ea
        have d53 : ∀ j : Nat, qI D 53 j = if j = b.toInt.toNat then vp_nar .boolean v else qI U 53 j := fun j => by
          rw [eD, qI_wI]
          by_cases q : j = b.toInt.toNat
          · rw [if_pos ⟨rfl, q⟩, if_pos q]
          · rw [if_neg (fun z => q z.2), if_neg q]
        refine ih D _ (fU.tr (by rw [eD]; exact frm.pI (by decide))) (by omega) (by omega) (fun j jb nj => ?_) (fun _ => ?_) (by omega)
        · rw [d53] at nj
          by_cases q : j = b.toInt.toNat
          · rw [if_pos q] at nj
            by_cases z : b.toInt = 0
            · omega
            · rw [v2 z] at nj; exact absurd (by decide) nj
          · rw [if_neg q] at nj
            exact hj j (by omega) nj
        · rw [d53]
          by_cases q : 0 = b.toInt.toNat
          · rw [if_pos q, v1 (by omega)]; exact vb1
          · rw [if_neg q]; exact hz (by omega)
      exact ⟨fun z => j24 1 (fun _ => rfl) (fun q => absurd z q), fun z => j24 0 (fun q => absurd q z) (fun _ => rfl)⟩
  unfold w_reach
  exact ⟨_, L2 _ S 0 frm.rf (by decide) (by rw [l0]; exact bc.1) (fun j hj => by rw [l0] at hj; omega) (fun q => by rw [l0] at q; omega) (Nat.lt_succ_self _)⟩
/-! the graph drawn twice: the edges, said by the rows (behind sp_edges, eG) -/
def edW (A u : MS) (x : Int32) (c : Nat) : Prop := ∃ k : Int32, 0 ≤ k.toInt ∧ k.toInt < (f_ways A x).toInt ∧ (c : Int) = (qI u 50 (f_way A x k).toInt.toNat).toInt
def edT (A u : MS) (x : Int32) (c : Nat) : Prop := ∃ t : Int32, 0 ≤ t.toInt ∧ t.toInt < (qI A 0 54).toInt ∧ ¬ (f_isCaught A x t).toInt = 0 ∧ (c : Int) = (qI u 50 (f_catchWord A t 2).toInt.toNat).toInt
def edN (A : MS) (x : Int32) (b c : Nat) : Prop := ¬ (f_goesOn A (f_op A x)).toInt = 0 ∧ x.toInt + 1 < (qI A 0 52).toInt ∧ c = b + 1
def edC (A u : MS) (b c : Nat) : Prop := ∃ x : Int32, x.toInt = (qI u 49 (b + 1)).toInt - 1 ∧ ((edN A x b c ∨ edW A u x c) ∨ edT A u x c)
def eH (U : MS) (b c : Nat) : Prop := ∃ k : Nat, (qI U 51 b).toInt ≤ k ∧ (k : Int) < (qI U 0 110).toInt ∧ (qI U 52 k).toInt = c
def EdX (S U : MS) (b : Nat) (T : Nat → Prop) : Prop := (∀ b' c : Nat, b' < b → (eG U b' c ↔ edC S S b' c)) ∧ ∀ c : Nat, eH U b c ↔ T c
theorem EdX.ge {S U : MS} {b : Nat} {T T' : Nat → Prop} (h : EdX S U b T) (k : ∀ c, T c ↔ T' c) : EdX S U b T' := ⟨h.1, fun c => (h.2 c).trans (k c)⟩
theorem EdI.into2 {S U : MS} {X : Int} {b t : Int32} {T : Nat → Prop} (h : EdI S U (b.toInt + 1) X) (y : EdX S U b.toInt.toNat T) (hb : 0 ≤ b.toInt ∧ b.toInt < 1200) (ht : 0 ≤ t.toInt ∧ t.toInt < (qI S 0 105).toInt) (hX : X ≤ 71997) : w_edgeInto U b t (fun u => EdI S u (b.toInt + 1) (X + 3) ∧ EdX S u b.toInt.toNat (fun c => T c ∨ (c : Int) = t.toInt)) := by
  obtain ⟨h1, h2, h3, h4⟩ := h
  have eb := h3 b.toInt.toNat (by omega)
  unfold w_edgeInto
  refine ⟨⟨hb.1, by omega⟩, fun a ea => ?_⟩
  have L : ∀ (c : Nat) (k : Int32), 0 ≤ k.toInt → (qI U 51 b.toInt.toNat).toInt ≤ k.toInt → (24000 - k.toInt).toNat < c → w_edgeInto_L7 (fun u => EdI S u (b.toInt + 1) (X + 3) ∧ EdX S u b.toInt.toNat (fun c => T c ∨ (c : Int) = t.toInt)) c U t k := by
    intro c
    induction c with
    | zero => intro k _ _ h9; exact absurd h9 (Nat.not_lt_zero _)
    | succ c ih =>
      intro k k0 kl hc
      unfold w_edgeInto_L7
      refine ⟨fun _ => ⟨⟨h2.1, by omega⟩, fun D eD E eE => ?_⟩, fun c1 => ⟨⟨k0, by omega⟩, fun c2 => ⟨⟨h1, ⟨h2.1, by omega⟩, h3, h4⟩, y.1, fun c' => ?_⟩, fun _ a2 e2 => ?_⟩⟩
      · have d110 : qI D 0 110 = qI U 0 110 := by rw [eD, rdH (by decide)]
        have e110 : (qI E 0 110).toInt = (qI U 0 110).toInt + 1 := by rw [eE, qI_wI, if_pos ⟨rfl, rfl⟩, d110, t_add (by rw [li_1]; omega), li_1]
        have e51 : qI E 51 = qI U 51 := by rw [eE, rdH (by decide), eD, rdH (by decide)]
        have e52 : ∀ j : Nat, qI E 52 j = if j = (qI U 0 110).toInt.toNat then t else qI U 52 j := fun j => by
          rw [eE, rdH (by decide), eD, qI_wI]
          by_cases q : j = (qI U 0 110).toInt.toNat
          · rw [if_pos ⟨rfl, q⟩, if_pos q]
          · rw [if_neg (fun z => q z.2), if_neg q]
        refine ⟨⟨h1.tr ((show frm [51, 52] [110] U D by rw [eD]; exact frm.pI (by decide)).tr (by rw [eE]; exact frm.pI0 (by decide))), ⟨by omega, by omega⟩, fun b' hb' => ?_, fun k' hk' => ?_⟩, fun b' c' hb' => ?_, fun c' => ?_⟩
        · rw [e51, e110]; have := h3 b' hb'; omega
        · rw [e52]
          by_cases q : k' = (qI U 0 110).toInt.toNat
          · rw [if_pos q]; exact ht
          · rw [if_neg q]; exact h4 k' (by omega)
        · rw [← y.1 b' c' hb']
          have bb := h3 (b' + 1) (by omega)
          unfold eG
          rw [e51]
          constructor
          · rintro ⟨k', q1, q2, q3⟩
            rw [e52, if_neg (by omega)] at q3
            exact ⟨k', q1, q2, q3⟩
          · rintro ⟨k', q1, q2, q3⟩
            refine ⟨k', q1, q2, ?_⟩
            rw [e52, if_neg (by omega)]
            exact q3
        · show eH E b.toInt.toNat c' ↔ (T c' ∨ (c' : Int) = t.toInt)
          rw [← y.2 c']
          unfold eH
          rw [e51, e110]
          constructor
          · rintro ⟨k', q1, q2, q3⟩
            rw [e52] at q3
            by_cases q : k' = (qI U 0 110).toInt.toNat
            · rw [if_pos q] at q3; exact Or.inr q3.symm
            · rw [if_neg q] at q3; exact Or.inl ⟨k', q1, by omega, q3⟩
          · rintro (⟨k', q1, q2, q3⟩ | q)
            · refine ⟨k', q1, by omega, ?_⟩
              rw [e52, if_neg (by omega)]
              exact q3
            · refine ⟨(qI U 0 110).toInt.toNat, by omega, by omega, ?_⟩
              rw [e52, if_pos rfl]
              exact q.symm
      · show eH U b.toInt.toNat c' ↔ (T c' ∨ (c' : Int) = t.toInt)
        rw [y.2 c']
        constructor
        · exact Or.inl
        · rintro (q | q)
          · exact q
          · exact (y.2 c').mp ⟨k.toInt.toNat, by omega, by omega, by rw [c2]; exact q.symm⟩
      · have ek : (k + Int32.ofInt 1).toInt = k.toInt + 1 := by rw [t_add (by rw [lo_1]; omega), lo_1]
        subst e2
        exact ih _ (by omega) (by omega) (by omega)
  exact ⟨_, L _ a (by rw [ea]; exact eb.1) (by rw [ea]; exact Int.le_refl _) (Nat.lt_succ_self _)⟩
def EdY (S U : MS) (b : Nat) : Prop := ∀ b' c : Nat, b' < b → ((∃ k : Nat, (qI U 51 b').toInt ≤ k ∧ (k : Int) < (if b' + 1 = b then (qI U 0 110).toInt else (qI U 51 (b' + 1)).toInt) ∧ (qI U 52 k).toInt = c) ↔ edC S S b' c)
theorem EdY.st {S U D : MS} {b : Nat} (h : EdY S U b) (eD : D = wI U 51 b (qI U 0 110)) : EdX S D b (fun _ => False) := by
  have d110 : qI D 0 110 = qI U 0 110 := by rw [eD, rdH (by decide)]
  have d52 : qI D 52 = qI U 52 := by rw [eD, rdH (by decide)]
  have d51 : ∀ j : Nat, qI D 51 j = if j = b then qI U 0 110 else qI U 51 j := fun j => by
    rw [eD, qI_wI]
    by_cases q : j = b
    · rw [if_pos ⟨rfl, q⟩, if_pos q]
    · rw [if_neg (fun z => q z.2), if_neg q]
  refine ⟨fun b' c hb => ?_, fun c => ?_⟩
  · rw [← h b' c hb]
    unfold eG
    rw [d51, d51, d52, if_neg (by omega)]
    by_cases q : b' + 1 = b
    · rw [if_pos q, if_pos q]
    · rw [if_neg q, if_neg q]
  · unfold eH
    rw [d51, d110, if_pos rfl]
    constructor
    · rintro ⟨k, q1, q2, _⟩; omega
    · intro q; exact q.elim
theorem EdX.nx {S U : MS} {b : Nat} (h : EdX S U b (edC S S b)) : EdY S U (b + 1) := fun b' c hb => by
  by_cases q : b' = b
  · subst q
    rw [if_pos rfl]
    exact h.2 c
  · rw [if_neg (by omega)]
    exact h.1 b' c (by omega)
theorem sp_edges2 {S : MS} (h : LkI S) (g : GbI S (qI S 0 52).toInt) : w_edges S (fun u => (frm [51, 52] [110] S u ∧ GeI u) ∧ ∀ b c : Nat, (b : Int) < (qI S 0 105).toInt → (eG u b c ↔ edC S S b c)) := by
  have cn := h.cnt
  obtain ⟨g1, g2, g3, g4, g5, g6⟩ := g
  have wt := h.wt
  have l0 : (0 : Int32).toInt = 0 := rfl
  have sl : ∀ U : MS, frm [51, 52] [110] S U → smL S U ∧ LkI U ∧ qI U 49 = qI S 49 ∧ qI U 50 = qI S 50 ∧ qI U 0 105 = qI S 0 105 ∧ qI U 0 52 = qI S 0 52 ∧ qI U 0 54 = qI S 0 54 := fun U fU => by
    have s := smL.fm fU (by decide) (by decide)
    exact ⟨s, h.mv s, (fU.2.2.2.2.1 49 (by decide) (by decide)).1, (fU.2.2.2.2.1 50 (by decide) (by decide)).1, (fU.2.2.2.2.2 105 (by decide)).1, (fU.2.2.2.2.2 52 (by decide)).1, (fU.2.2.2.2.2 54 (by decide)).1⟩
  have bs : ∀ b : Nat, (b : Int) < (qI S 0 105).toInt → (qI S 49 b).toInt < (qI S 49 (b + 1)).toInt ∧ (qI S 49 (b + 1)).toInt ≤ (qI S 0 52).toInt ∧ 0 ≤ (qI S 49 b).toInt := fun b hb => by
    have q := g2 b hb
    by_cases z : (b : Int) + 1 < (qI S 0 105).toInt
    · have := g2 (b + 1) (by omega)
      have := g3 b z
      omega
    · have e : b + 1 = (qI S 0 105).toInt.toNat := by omega
      rw [e, g4]
      omega
  have bound : ∀ b : Nat, (b : Int) ≤ (qI S 0 105).toInt → lwS S (qI S 49 b).toInt.toNat ≤ 3600 := fun b hb => by
    have r : (qI S 49 b).toInt ≤ (qI S 0 52).toInt ∧ 0 ≤ (qI S 49 b).toInt := by
      by_cases z : (b : Int) < (qI S 0 105).toInt
      · have := g2 b z; omega
      · have e : b = (qI S 0 105).toInt.toNat := by omega
        rw [e, g4]; omega
    have u := lwS_up h ((qI S 0 52).toInt.toNat - (qI S 49 b).toInt.toNat) (qI S 49 b).toInt.toNat (by omega)
    rw [show (qI S 49 b).toInt.toNat + ((qI S 0 52).toInt.toNat - (qI S 49 b).toInt.toNat) = (qI S 0 52).toInt.toNat by omega] at u
    have := wt.1
    omega
  obtain ⟨PQ, ePQ⟩ : ∃ PQ : MS → Prop, PQ = (fun u => (frm [51, 52] [110] S u ∧ GeI u) ∧ ∀ b c : Nat, (b : Int) < (qI S 0 105).toInt → (eG u b c ↔ edC S S b c)) := ⟨_, rfl⟩
  rw [← ePQ]
  have L100 : ∀ (k7 : MS → Int32 → Prop) (b x : Int32) (X : Int) (T : Nat → Prop), (0 ≤ b.toInt ∧ b.toInt < (qI S 0 105).toInt) → (0 ≤ x.toInt ∧ x.toInt < (qI S 0 52).toInt) → X + 48 ≤ 71997 → (∀ U : MS, EdI S U (b.toInt + 1) (X + 48) → EdX S U b.toInt.toNat (fun c => T c ∨ edT S S x c) → k7 U (b + Int32.ofInt 1)) → ∀ (c : Nat) (U : MS) (k : Int32), (0 ≤ k.toInt ∧ k.toInt ≤ (qI S 0 54).toInt) → EdI S U (b.toInt + 1) (X + 3 * k.toInt) → EdX S U b.toInt.toNat (fun c => T c ∨ ∃ t : Int32, 0 ≤ t.toInt ∧ t.toInt < k.toInt ∧ ¬ (f_isCaught S x t).toInt = 0 ∧ (c : Int) = (qI S 50 (f_catchWord S t 2).toInt.toNat).toInt) → (16 - k.toInt).toNat < c → w_edges_L100 PQ k7 c U b x k := by
    intro k7 b x X T hb hx hX hk c
    induction c with
    | zero => intro U k _ _ _ h9; exact absurd h9 (Nat.not_lt_zero _)
    | succ c ih =>
      intro U k k0 hU yU hc
      obtain ⟨sm, kU, u49, u50, u105, u52, u54⟩ := sl U hU.1
      unfold w_edges_L100 w_edges_J133
      rw [u54]
      refine ⟨fun c1 a ea => ?_, fun c1 => ?_⟩
      · subst ea
        refine hk U (hU.le (by omega)) (yU.ge (fun c' => ?_))
        unfold edT
        rw [show (qI S 0 54).toInt = k.toInt by omega]
      have kr : 0 ≤ k.toInt ∧ k.toInt < (qI U 0 54).toInt := by rw [u54]; exact ⟨k0.1, by omega⟩
      have ek : (k + Int32.ofInt 1).toInt = k.toInt + 1 := by rw [t_add (by rw [lo_1]; omega), lo_1]
      have cw := (kU.cw kr).2.2.1
      rw [u52] at cw
      have ic := sm.ic h x k
      have cwe := sm.cw h k 2
      have uk : ∀ t : Int32, t.toInt < k.toInt + 1 → 0 ≤ t.toInt → t.toInt < k.toInt ∨ t = k := fun t t1 _ => by
        by_cases q : t.toInt < k.toInt
        · exact Or.inl q
        · exact Or.inr (Int32.toInt_inj.mp (by omega))
      refine ⟨kU.dic kr, fun c2 a ea => ?_, fun c2 => ⟨kU.dcw kr (by decide), ⟨cw.1, by omega⟩, _, hU.into2 (t := qI U 50 (f_catchWord U k 2).toInt.toNat) yU ⟨hb.1, by omega⟩ ?_ (by omega), fun V hV a ea => ?_⟩⟩
      · subst ea
        refine ih U _ ⟨by omega, by omega⟩ (hU.le (by omega)) (yU.ge (fun c' => ?_)) (by omega)
        rw [ek]
        constructor
        · rintro (q | ⟨t, t0, t1, t2, t3⟩)
          · exact Or.inl q
          · exact Or.inr ⟨t, t0, by omega, t2, t3⟩
        · rintro (q | ⟨t, t0, t1, t2, t3⟩)
          · exact Or.inl q
          · rcases uk t t1 t0 with q | q
            · exact Or.inr ⟨t, t0, q, t2, t3⟩
            · rw [q, ← ic] at t2; exact absurd c2 t2
      · rw [u50]; exact (g5 _ (by omega)).1
      · subst ea
        refine ih V _ ⟨by omega, by omega⟩ (hV.1.le (by omega)) (hV.2.ge (fun c' => ?_)) (by omega)
        rw [ek, u50, cwe]
        rw [ic] at c2
        constructor
        · rintro ((q | ⟨t, t0, t1, t2, t3⟩) | q)
          · exact Or.inl q
          · exact Or.inr ⟨t, t0, by omega, t2, t3⟩
          · exact Or.inr ⟨k, k0.1, by omega, c2, q⟩
        · rintro (q | ⟨t, t0, t1, t2, t3⟩)
          · exact Or.inl (Or.inl q)
          · rcases uk t t1 t0 with q | q
            · exact Or.inl (Or.inr ⟨t, t0, q, t2, t3⟩)
            · rw [q] at t3; exact Or.inr t3
  have L67 : ∀ (k7 : MS → Int32 → Prop) (b x : Int32) (X : Int) (T : Nat → Prop), (0 ≤ b.toInt ∧ b.toInt < (qI S 0 105).toInt) → (0 ≤ x.toInt ∧ x.toInt < (qI S 0 52).toInt) → X + 3 * (f_ways S x).toInt + 48 ≤ 71997 → (∀ U : MS, EdI S U (b.toInt + 1) (X + 3 * (f_ways S x).toInt + 48) → EdX S U b.toInt.toNat (fun c => (T c ∨ edW S S x c) ∨ edT S S x c) → k7 U (b + Int32.ofInt 1)) → ∀ (c : Nat) (U : MS) (k : Int32), (0 ≤ k.toInt ∧ k.toInt ≤ (f_ways S x).toInt) → EdI S U (b.toInt + 1) (X + 3 * k.toInt) → EdX S U b.toInt.toNat (fun c => T c ∨ ∃ t : Int32, 0 ≤ t.toInt ∧ t.toInt < k.toInt ∧ (c : Int) = (qI S 50 (f_way S x t).toInt.toNat).toInt) → ((f_ways S x).toInt - k.toInt).toNat < c → w_edges_L67 PQ k7 c U b x k := by
    intro k7 b x X T hb hx hX hk c
    induction c with
    | zero => intro U k _ _ _ h9; exact absurd h9 (Nat.not_lt_zero _)
    | succ c ih =>
      intro U k k0 hU yU hc
      obtain ⟨sm, kU, u49, u50, u105, u52, u54⟩ := sl U hU.1
      have ws := kU.ways (x := x) (by rw [u52]; exact hx)
      have wy := sm.wy h x k
      rw [wy.1] at ws
      unfold w_edges_L67
      rw [wy.1]
      refine ⟨ws.1, fun c1 => ⟨_, L100 k7 b x (X + 3 * (f_ways S x).toInt) (fun c => T c ∨ edW S S x c) hb hx hX hk _ U 0 ⟨by decide, by rw [l0]; omega⟩ (hU.le (by rw [l0]; omega)) (yU.ge (fun c' => ?_)) (Nat.lt_succ_self _)⟩, fun c1 => ?_⟩
      · unfold edW
        rw [show (f_ways S x).toInt = k.toInt by omega]
        constructor
        · exact Or.inl
        · rintro (q | ⟨t, t0, t1, _⟩)
          · exact q
          · rw [l0] at t1; omega
      have wk := ws.2.2 k k0.1 (by omega)
      rw [u52] at wk
      have ek : (k + Int32.ofInt 1).toInt = k.toInt + 1 := by rw [t_add (by rw [lo_1]; omega), lo_1]
      refine ⟨wk.1, ⟨wk.2.1, by omega⟩, _, hU.into2 (t := qI U 50 (f_way U x k).toInt.toNat) yU ⟨hb.1, by omega⟩ ?_ (by omega), fun V hV a ea => ?_⟩
      · rw [u50]; exact (g5 _ (by omega)).1
      · subst ea
        refine ih V _ ⟨by omega, by omega⟩ (hV.1.le (by omega)) (hV.2.ge (fun c' => ?_)) (by omega)
        rw [ek, u50, wy.2]
        constructor
        · rintro ((q | ⟨t, t0, t1, t3⟩) | q)
          · exact Or.inl q
          · exact Or.inr ⟨t, t0, by omega, t3⟩
          · exact Or.inr ⟨k, k0.1, by omega, q⟩
        · rintro (q | ⟨t, t0, t1, t3⟩)
          · exact Or.inl (Or.inl q)
          · by_cases q : t.toInt < k.toInt
            · exact Or.inl (Or.inr ⟨t, t0, q, t3⟩)
            · have : t = k := Int32.toInt_inj.mp (by omega)
              rw [this] at t3; exact Or.inr t3
  have L7 : ∀ (c : Nat) (U : MS) (b : Int32), (0 ≤ b.toInt ∧ b.toInt ≤ (qI S 0 105).toInt) → EdI S U b.toInt (51 * b.toInt + lwS S (qI S 49 b.toInt.toNat).toInt.toNat) → EdY S U b.toInt.toNat → (1200 - b.toInt).toNat < c → w_edges_L7 PQ c U b := by
    intro c
    induction c with
    | zero => intro U b _ _ _ h9; exact absurd h9 (Nat.not_lt_zero _)
    | succ c ih =>
      intro U b hb hU yU hc
      obtain ⟨sm, kU, u49, u50, u105, u52, u54⟩ := sl U hU.1
      unfold w_edges_L7
      rw [u105]
      refine ⟨fun c1 => ⟨⟨by omega, by omega⟩, fun D eD => ?_⟩, fun c1 => ?_⟩
      · have eb : b.toInt = (qI S 0 105).toInt := by omega
        have fD : frm [51, 52] [110] S D := hU.1.tr (by rw [eD]; exact frm.pI (by decide))
        have d110 : qI D 0 110 = qI U 0 110 := by rw [eD, rdH (by decide)]
        have d105 : qI D 0 105 = qI S 0 105 := by rw [eD, rdH (by decide)]; exact u105
        have d52 : qI D 52 = qI U 52 := by rw [eD, rdH (by decide)]
        have bd := bound b.toInt.toNat (by omega)
        rw [eb] at yU
        have yD := (yU.st eD).1
        rw [ePQ]
        refine ⟨⟨fD, by rw [d105]; omega, by rw [d110]; have := hU.2.1; omega, fun b' hb' => ?_, fun k hk => ?_⟩, fun b' c' hb' => yD b' c' (by omega)⟩
        · rw [d110, eD, qI_wI]
          rw [d105] at hb'
          by_cases q : b' = (qI S 0 105).toInt.toNat
          · rw [if_pos ⟨rfl, q⟩]; exact ⟨hU.2.1.1, Int.le_refl _⟩
          · rw [if_neg (fun z => q z.2)]
            exact hU.2.2.1 b' (by omega)
        · rw [d52, d105]
          rw [d110] at hk
          exact hU.2.2.2 k hk
      · have br : 0 ≤ b.toInt ∧ b.toInt < (qI S 0 105).toInt := ⟨hb.1, by omega⟩
        have bb := bs b.toInt.toNat (by omega)
        have eb : (b + (1 : Int32)).toInt = b.toInt + 1 := by rw [t_add (by rw [li_1]; omega), li_1]
        refine ⟨⟨hb.1, by omega⟩, fun D eD => ?_⟩
        have fD : frm [51, 52] [110] S D := hU.1.tr (by rw [eD]; exact frm.pI (by decide))
        obtain ⟨smD, kD, d49, d50, d105, d52, d54⟩ := sl D fD
        have d110 : qI D 0 110 = qI U 0 110 := by rw [eD, rdH (by decide)]
        have dt : qI D 52 = qI U 52 := by rw [eD, rdH (by decide)]
        have yD := yU.st eD
        have hD : EdI S D (b.toInt + 1) (51 * b.toInt + lwS S (qI S 49 b.toInt.toNat).toInt.toNat) := by
          refine ⟨fD, by rw [d110]; exact hU.2.1, fun b' hb' => ?_, by rw [d110, dt]; exact hU.2.2.2⟩
          rw [d110, eD, qI_wI]
          by_cases q : b' = b.toInt.toNat
          · rw [if_pos ⟨rfl, q⟩]; exact ⟨hU.2.1.1, Int.le_refl _⟩
          · rw [if_neg (fun z => q z.2)]
            exact hU.2.2.1 b' (by omega)
        rw [eb, d49, show (b.toInt + 1).toNat = b.toInt.toNat + 1 by omega]
        refine ⟨⟨by omega, by omega⟩, fun x ex => ?_⟩
        have ext : x.toInt = (qI S 49 (b.toInt.toNat + 1)).toInt - 1 := by rw [ex, t_sub (by rw [li_1]; omega), li_1]
        have xr : 0 ≤ x.toInt ∧ x.toInt < (qI S 0 52).toInt := by omega
        have dop := kD.dop (x := x) (by rw [d52]; exact xr)
        have w := wt.2 x xr.1 xr.2
        have en : x.toInt.toNat + 1 = (qI S 49 (b.toInt.toNat + 1)).toInt.toNat := by omega
        rw [en] at w
        have up := lwS_up h (x.toInt.toNat - (qI S 49 b.toInt.toNat).toInt.toNat) (qI S 49 b.toInt.toNat).toInt.toNat (by omega)
        rw [show (qI S 49 b.toInt.toNat).toInt.toNat + (x.toInt.toNat - (qI S 49 b.toInt.toNat).toInt.toNat) = x.toInt.toNat by omega] at up
        have bd := bound (b.toInt.toNat + 1) (by omega)
        have cost : 51 * b.toInt + lwS S (qI S 49 b.toInt.toNat).toInt.toNat + 3 + 3 * (f_ways S x).toInt + 48 ≤ 51 * (b.toInt + 1) + lwS S (qI S 49 (b.toInt.toNat + 1)).toInt.toNat := by
          have w1 := w.1
          have w3 := w.2.2
          omega
        have ek : (b + Int32.ofInt 1).toInt = b.toInt + 1 := by rw [t_add (by rw [lo_1]; omega), lo_1]
        have wn := (h.ways (x := x) xr).2.1
        have j65 : ∀ V : MS, EdI S V (b.toInt + 1) (51 * b.toInt + lwS S (qI S 49 b.toInt.toNat).toInt.toNat + 3) → EdX S V b.toInt.toNat (edN S x b.toInt.toNat) → w_edges_J65 PQ (w_edges_L7 PQ c) V b x := fun V hV yV => by
          unfold w_edges_J65
          refine ⟨_, L67 _ b x (51 * b.toInt + lwS S (qI S 49 b.toInt.toNat).toInt.toNat + 3) (edN S x b.toInt.toNat) br xr (by omega) (fun W hW yW => ?_) _ V 0 ⟨by decide, by rw [l0]; exact wn.1⟩ (hV.le (by rw [l0]; omega)) (yV.ge (fun c' => ?_)) (Nat.lt_succ_self _)⟩
          · refine ih W _ ⟨by omega, by omega⟩ ?_ ?_ (by omega)
            · rw [ek, show (b.toInt + 1).toNat = b.toInt.toNat + 1 by omega]
              exact hW.le cost
            · rw [show (b + Int32.ofInt 1).toInt.toNat = b.toInt.toNat + 1 by omega]
              refine (yW.ge (fun c' => ?_)).nx
              constructor
              · intro q; exact ⟨x, ext, q⟩
              · rintro ⟨x', e', q⟩
                have : x' = x := Int32.toInt_inj.mp (by omega)
                rw [this] at q; exact q
          · constructor
            · exact Or.inl
            · rintro (q | ⟨t, t0, t1, _⟩)
              · exact q
              · rw [l0] at t1; omega
        have dg : d_goesOn D (f_op D x) := by
          unfold d_goesOn d_goesOn_J60
          simp only [ite_self]
        have ex1 : (x + (1 : Int32)).toInt = x.toInt + 1 := by rw [t_add (by rw [li_1]; omega), li_1]
        have eop := (smD.op h x).1
        have ego : f_goesOn D (f_op S x) = f_goesOn S (f_op S x) := rfl
        rw [d52, ex1]
        refine ⟨dop.1, dg, fun c2 => j65 D (hD.le (by omega)) (yD.ge (fun c' => ?_)), fun c2 => ⟨fun c3 => j65 D (hD.le (by omega)) (yD.ge (fun c' => ?_)), fun c3 => ⟨_, hD.into2 (t := b + (1 : Int32)) yD ⟨hb.1, by omega⟩ ?_ (by omega), fun V hV => j65 V hV.1 (hV.2.ge (fun c' => ?_))⟩⟩⟩
        · rw [eop, ego] at c2
          exact ⟨fun q => q.elim, fun q => absurd c2 q.1⟩
        · exact ⟨fun q => q.elim, fun q => by have := q.2.1; omega⟩
        · rw [eb]
          refine ⟨by omega, ?_⟩
          by_cases z : b.toInt + 1 < (qI S 0 105).toInt
          · exact z
          · have e : b.toInt.toNat + 1 = (qI S 0 105).toInt.toNat := by omega
            rw [e, g4] at ext
            omega
        · rw [eop, ego] at c2
          rw [eb]
          constructor
          · rintro (q | q)
            · exact q.elim
            · exact ⟨c2, by omega, by omega⟩
          · rintro ⟨_, _, q⟩
            exact Or.inr (by omega)
  unfold w_edges
  intro A eA
  have fA : frm [51, 52] [110] S A := by rw [eA]; exact frm.pI0 (by decide)
  have a110 : (qI A 0 110).toInt = 0 := by rw [eA, qI_wI, if_pos ⟨rfl, rfl⟩]; rfl
  have b0 := bs 0 (by omega)
  have nn : 0 ≤ lwS S (qI S 49 0).toInt.toNat := by
    have := lwS_up h (qI S 49 0).toInt.toNat 0 (by omega)
    rw [Nat.zero_add] at this
    exact this
  refine ⟨_, L7 _ A 0 ⟨by decide, by rw [l0]; omega⟩ ⟨fA, ⟨by omega, ?_⟩, fun b hb => by rw [l0] at hb; omega, fun k hk => by omega⟩ (fun b' c hb' => by rw [l0] at hb'; omega) (Nat.lt_succ_self _)⟩
  rw [a110, l0]
  show _ ≤ 51 * 0 + lwS S (qI S 49 0).toInt.toNat
  omega
