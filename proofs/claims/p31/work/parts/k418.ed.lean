/-! the graph drawn twice: the edges, said by the rows (behind sp_edges, eG) -/
def edW (A u : MS) (x : Int32) (c : Nat) : Prop := ∃ k : Int32, 0 ≤ k.toInt ∧ k.toInt < (f_ways A x).toInt ∧ (c : Int) = (qI u 50 (f_way A x k).toInt.toNat).toInt
def edT (A u : MS) (x : Int32) (c : Nat) : Prop := ∃ t : Int32, 0 ≤ t.toInt ∧ t.toInt < (qI A 0 54).toInt ∧ ¬ (f_isCaught A x t).toInt = 0 ∧ (c : Int) = (qI u 50 (f_catchWord A t 2).toInt.toNat).toInt
def edN (A : MS) (x : Int32) (b c : Nat) : Prop := ¬ (f_goesOn A (f_op A x)).toInt = 0 ∧ x.toInt + 1 < (qI A 0 52).toInt ∧ c = b + 1
def edC (A u : MS) (b c : Nat) : Prop := ∃ x : Int32, x.toInt = (qI u 49 (b + 1)).toInt - 1 ∧ ((edN A x b c ∨ edW A u x c) ∨ edT A u x c)
def eH (U : MS) (b c : Nat) : Prop := ∃ k : Nat, (qI U 51 b).toInt ≤ k ∧ (k : Int) < (qI U 0 110).toInt ∧ (qI U 52 k).toInt = c
def EdX (S U : MS) (b : Nat) (T : Nat → Prop) : Prop := (∀ b' c : Nat, b' < b → (eG U b' c ↔ edC S S b' c)) ∧ ∀ c : Nat, eH U b c ↔ T c
theorem EdX.ge {S U : MS} {b : Nat} {T T' : Nat → Prop} (h : EdX S U b T) (k : ∀ c, T c ↔ T' c) : EdX S U b T' := ⟨h.1, fun c => (h.2 c).trans (k c)⟩
theorem EdI.into2 {S U : MS} {X : Int} {b t : Int32} {T : Nat → Prop} (h : EdI S U (b.toInt + 1) X) (y : EdX S U b.toInt.toNat T) (hb : 0 ≤ b.toInt ∧ b.toInt < 1200) (ht : 0 ≤ t.toInt ∧ t.toInt < (qI S 0 105).toInt) (hX : X ≤ 71997) : w_edgeInto U b t (fun u => EdI S u (b.toInt + 1) (X + 3) ∧ EdX S u b.toInt.toNat (fun c => T c ∨ (c : Int) = t.toInt)) := by
  obtain ⟨h1, h2, h3, h4⟩ := h
  have eb := h3 b.toInt.toNat (by omega)
  unfold w_edgeInto
  refine ⟨⟨hb.1, by omega⟩, fun a ea => ?_⟩
  have L : ∀ (c : Nat) (k : Int32), 0 ≤ k.toInt → (qI U 51 b.toInt.toNat).toInt ≤ k.toInt → (24000 - k.toInt).toNat < c → w_edgeInto_L7 (fun u => EdI S u (b.toInt + 1) (X + 3) ∧ EdX S u b.toInt.toNat (fun c => T c ∨ (c : Int) = t.toInt)) c U t k := by
    intro c
    induction c with
    | zero => intro k _ _ h9; exact absurd h9 (Nat.not_lt_zero _)
    | succ c ih =>
      intro k k0 kl hc
      unfold w_edgeInto_L7
      refine ⟨fun _ => ⟨⟨h2.1, by omega⟩, fun D eD E eE => ?_⟩, fun c1 => ⟨⟨k0, by omega⟩, fun c2 => ⟨⟨h1, ⟨h2.1, by omega⟩, h3, h4⟩, y.1, fun c' => ?_⟩, fun _ a2 e2 => ?_⟩⟩
      · have d110 : qI D 0 110 = qI U 0 110 := by rw [eD, rdH (by decide)]
        have e110 : (qI E 0 110).toInt = (qI U 0 110).toInt + 1 := by rw [eE, qI_wI, if_pos ⟨rfl, rfl⟩, d110, t_add (by rw [li_1]; omega), li_1]
        have e51 : qI E 51 = qI U 51 := by rw [eE, rdH (by decide), eD, rdH (by decide)]
        have e52 : ∀ j : Nat, qI E 52 j = if j = (qI U 0 110).toInt.toNat then t else qI U 52 j := fun j => by
          rw [eE, rdH (by decide), eD, qI_wI]
          by_cases q : j = (qI U 0 110).toInt.toNat
          · rw [if_pos ⟨rfl, q⟩, if_pos q]
          · rw [if_neg (fun z => q z.2), if_neg q]
        refine ⟨⟨h1.tr ((show frm [51, 52] [110] U D by rw [eD]; exact frm.pI (by decide)).tr (by rw [eE]; exact frm.pI0 (by decide))), ⟨by omega, by omega⟩, fun b' hb' => ?_, fun k' hk' => ?_⟩, fun b' c' hb' => ?_, fun c' => ?_⟩
        · rw [e51, e110]; have := h3 b' hb'; omega
        · rw [e52]
          by_cases q : k' = (qI U 0 110).toInt.toNat
          · rw [if_pos q]; exact ht
          · rw [if_neg q]; exact h4 k' (by omega)
        · rw [← y.1 b' c' hb']
          have bb := h3 (b' + 1) (by omega)
          unfold eG
          rw [e51]
          constructor
          · rintro ⟨k', q1, q2, q3⟩
            rw [e52, if_neg (by omega)] at q3
            exact ⟨k', q1, q2, q3⟩
          · rintro ⟨k', q1, q2, q3⟩
            refine ⟨k', q1, q2, ?_⟩
            rw [e52, if_neg (by omega)]
            exact q3
        · show eH E b.toInt.toNat c' ↔ (T c' ∨ (c' : Int) = t.toInt)
          rw [← y.2 c']
          unfold eH
          rw [e51, e110]
          constructor
          · rintro ⟨k', q1, q2, q3⟩
            rw [e52] at q3
            by_cases q : k' = (qI U 0 110).toInt.toNat
            · rw [if_pos q] at q3; exact Or.inr q3.symm
            · rw [if_neg q] at q3; exact Or.inl ⟨k', q1, by omega, q3⟩
          · rintro (⟨k', q1, q2, q3⟩ | q)
            · refine ⟨k', q1, by omega, ?_⟩
              rw [e52, if_neg (by omega)]
              exact q3
            · refine ⟨(qI U 0 110).toInt.toNat, by omega, by omega, ?_⟩
              rw [e52, if_pos rfl]
              exact q.symm
      · show eH U b.toInt.toNat c' ↔ (T c' ∨ (c' : Int) = t.toInt)
        rw [y.2 c']
        constructor
        · exact Or.inl
        · rintro (q | q)
          · exact q
          · exact (y.2 c').mp ⟨k.toInt.toNat, by omega, by omega, by rw [c2]; exact q.symm⟩
      · have ek : (k + Int32.ofInt 1).toInt = k.toInt + 1 := by rw [t_add (by rw [lo_1]; omega), lo_1]
        subst e2
        exact ih _ (by omega) (by omega) (by omega)
  exact ⟨_, L _ a (by rw [ea]; exact eb.1) (by rw [ea]; exact Int.le_refl _) (Nat.lt_succ_self _)⟩
def EdY (S U : MS) (b : Nat) : Prop := ∀ b' c : Nat, b' < b → ((∃ k : Nat, (qI U 51 b').toInt ≤ k ∧ (k : Int) < (if b' + 1 = b then (qI U 0 110).toInt else (qI U 51 (b' + 1)).toInt) ∧ (qI U 52 k).toInt = c) ↔ edC S S b' c)
theorem EdY.st {S U D : MS} {b : Nat} (h : EdY S U b) (eD : D = wI U 51 b (qI U 0 110)) : EdX S D b (fun _ => False) := by
  have d110 : qI D 0 110 = qI U 0 110 := by rw [eD, rdH (by decide)]
  have d52 : qI D 52 = qI U 52 := by rw [eD, rdH (by decide)]
  have d51 : ∀ j : Nat, qI D 51 j = if j = b then qI U 0 110 else qI U 51 j := fun j => by
    rw [eD, qI_wI]
    by_cases q : j = b
    · rw [if_pos ⟨rfl, q⟩, if_pos q]
    · rw [if_neg (fun z => q z.2), if_neg q]
  refine ⟨fun b' c hb => ?_, fun c => ?_⟩
  · rw [← h b' c hb]
    unfold eG
    rw [d51, d51, d52, if_neg (by omega)]
    by_cases q : b' + 1 = b
    · rw [if_pos q, if_pos q]
    · rw [if_neg q, if_neg q]
  · unfold eH
    rw [d51, d110, if_pos rfl]
    constructor
    · rintro ⟨k, q1, q2, _⟩; omega
    · intro q; exact q.elim
theorem EdX.nx {S U : MS} {b : Nat} (h : EdX S U b (edC S S b)) : EdY S U (b + 1) := fun b' c hb => by
  by_cases q : b' = b
  · subst q
    rw [if_pos rfl]
    exact h.2 c
  · rw [if_neg (by omega)]
    exact h.1 b' c (by omega)
theorem sp_edges2 {S : MS} (h : LkI S) (g : GbI S (qI S 0 52).toInt) : w_edges S (fun u => (frm [51, 52] [110] S u ∧ GeI u) ∧ ∀ b c : Nat, (b : Int) < (qI S 0 105).toInt → (eG u b c ↔ edC S S b c)) := by
  have cn := h.cnt
  obtain ⟨g1, g2, g3, g4, g5, g6⟩ := g
  have wt := h.wt
  have l0 : (0 : Int32).toInt = 0 := rfl
  have sl : ∀ U : MS, frm [51, 52] [110] S U → smL S U ∧ LkI U ∧ qI U 49 = qI S 49 ∧ qI U 50 = qI S 50 ∧ qI U 0 105 = qI S 0 105 ∧ qI U 0 52 = qI S 0 52 ∧ qI U 0 54 = qI S 0 54 := fun U fU => by
    have s := smL.fm fU (by decide) (by decide)
    exact ⟨s, h.mv s, (fU.2.2.2.2.1 49 (by decide) (by decide)).1, (fU.2.2.2.2.1 50 (by decide) (by decide)).1, (fU.2.2.2.2.2 105 (by decide)).1, (fU.2.2.2.2.2 52 (by decide)).1, (fU.2.2.2.2.2 54 (by decide)).1⟩
  have bs : ∀ b : Nat, (b : Int) < (qI S 0 105).toInt → (qI S 49 b).toInt < (qI S 49 (b + 1)).toInt ∧ (qI S 49 (b + 1)).toInt ≤ (qI S 0 52).toInt ∧ 0 ≤ (qI S 49 b).toInt := fun b hb => by
    have q := g2 b hb
    by_cases z : (b : Int) + 1 < (qI S 0 105).toInt
    · have := g2 (b + 1) (by omega)
      have := g3 b z
      omega
    · have e : b + 1 = (qI S 0 105).toInt.toNat := by omega
      rw [e, g4]
      omega
  have bound : ∀ b : Nat, (b : Int) ≤ (qI S 0 105).toInt → lwS S (qI S 49 b).toInt.toNat ≤ 3600 := fun b hb => by
    have r : (qI S 49 b).toInt ≤ (qI S 0 52).toInt ∧ 0 ≤ (qI S 49 b).toInt := by
      by_cases z : (b : Int) < (qI S 0 105).toInt
      · have := g2 b z; omega
      · have e : b = (qI S 0 105).toInt.toNat := by omega
        rw [e, g4]; omega
    have u := lwS_up h ((qI S 0 52).toInt.toNat - (qI S 49 b).toInt.toNat) (qI S 49 b).toInt.toNat (by omega)
    rw [show (qI S 49 b).toInt.toNat + ((qI S 0 52).toInt.toNat - (qI S 49 b).toInt.toNat) = (qI S 0 52).toInt.toNat by omega] at u
    have := wt.1
    omega
  obtain ⟨PQ, ePQ⟩ : ∃ PQ : MS → Prop, PQ = (fun u => (frm [51, 52] [110] S u ∧ GeI u) ∧ ∀ b c : Nat, (b : Int) < (qI S 0 105).toInt → (eG u b c ↔ edC S S b c)) := ⟨_, rfl⟩
  rw [← ePQ]
  have L100 : ∀ (k7 : MS → Int32 → Prop) (b x : Int32) (X : Int) (T : Nat → Prop), (0 ≤ b.toInt ∧ b.toInt < (qI S 0 105).toInt) → (0 ≤ x.toInt ∧ x.toInt < (qI S 0 52).toInt) → X + 48 ≤ 71997 → (∀ U : MS, EdI S U (b.toInt + 1) (X + 48) → EdX S U b.toInt.toNat (fun c => T c ∨ edT S S x c) → k7 U (b + Int32.ofInt 1)) → ∀ (c : Nat) (U : MS) (k : Int32), (0 ≤ k.toInt ∧ k.toInt ≤ (qI S 0 54).toInt) → EdI S U (b.toInt + 1) (X + 3 * k.toInt) → EdX S U b.toInt.toNat (fun c => T c ∨ ∃ t : Int32, 0 ≤ t.toInt ∧ t.toInt < k.toInt ∧ ¬ (f_isCaught S x t).toInt = 0 ∧ (c : Int) = (qI S 50 (f_catchWord S t 2).toInt.toNat).toInt) → (16 - k.toInt).toNat < c → w_edges_L100 PQ k7 c U b x k := by
    intro k7 b x X T hb hx hX hk c
    induction c with
    | zero => intro U k _ _ _ h9; exact absurd h9 (Nat.not_lt_zero _)
    | succ c ih =>
      intro U k k0 hU yU hc
      obtain ⟨sm, kU, u49, u50, u105, u52, u54⟩ := sl U hU.1
      unfold w_edges_L100 w_edges_J133
      rw [u54]
      refine ⟨fun c1 a ea => ?_, fun c1 => ?_⟩
      · subst ea
        refine hk U (hU.le (by omega)) (yU.ge (fun c' => ?_))
        unfold edT
        rw [show (qI S 0 54).toInt = k.toInt by omega]
      have kr : 0 ≤ k.toInt ∧ k.toInt < (qI U 0 54).toInt := by rw [u54]; exact ⟨k0.1, by omega⟩
      have ek : (k + Int32.ofInt 1).toInt = k.toInt + 1 := by rw [t_add (by rw [lo_1]; omega), lo_1]
      have cw := (kU.cw kr).2.2.1
      rw [u52] at cw
      have ic := sm.ic h x k
      have cwe := sm.cw h k 2
      have uk : ∀ t : Int32, t.toInt < k.toInt + 1 → 0 ≤ t.toInt → t.toInt < k.toInt ∨ t = k := fun t t1 _ => by
        by_cases q : t.toInt < k.toInt
        · exact Or.inl q
        · exact Or.inr (Int32.toInt_inj.mp (by omega))
      refine ⟨kU.dic kr, fun c2 a ea => ?_, fun c2 => ⟨kU.dcw kr (by decide), ⟨cw.1, by omega⟩, _, hU.into2 (t := qI U 50 (f_catchWord U k 2).toInt.toNat) yU ⟨hb.1, by omega⟩ ?_ (by omega), fun V hV a ea => ?_⟩⟩
      · subst ea
        refine ih U _ ⟨by omega, by omega⟩ (hU.le (by omega)) (yU.ge (fun c' => ?_)) (by omega)
        rw [ek]
        constructor
        · rintro (q | ⟨t, t0, t1, t2, t3⟩)
          · exact Or.inl q
          · exact Or.inr ⟨t, t0, by omega, t2, t3⟩
        · rintro (q | ⟨t, t0, t1, t2, t3⟩)
          · exact Or.inl q
          · rcases uk t t1 t0 with q | q
            · exact Or.inr ⟨t, t0, q, t2, t3⟩
            · rw [q, ← ic] at t2; exact absurd c2 t2
      · rw [u50]; exact (g5 _ (by omega)).1
      · subst ea
        refine ih V _ ⟨by omega, by omega⟩ (hV.1.le (by omega)) (hV.2.ge (fun c' => ?_)) (by omega)
        rw [ek, u50, cwe]
        rw [ic] at c2
        constructor
        · rintro ((q | ⟨t, t0, t1, t2, t3⟩) | q)
          · exact Or.inl q
          · exact Or.inr ⟨t, t0, by omega, t2, t3⟩
          · exact Or.inr ⟨k, k0.1, by omega, c2, q⟩
        · rintro (q | ⟨t, t0, t1, t2, t3⟩)
          · exact Or.inl (Or.inl q)
          · rcases uk t t1 t0 with q | q
            · exact Or.inl (Or.inr ⟨t, t0, q, t2, t3⟩)
            · rw [q] at t3; exact Or.inr t3
  have L67 : ∀ (k7 : MS → Int32 → Prop) (b x : Int32) (X : Int) (T : Nat → Prop), (0 ≤ b.toInt ∧ b.toInt < (qI S 0 105).toInt) → (0 ≤ x.toInt ∧ x.toInt < (qI S 0 52).toInt) → X + 3 * (f_ways S x).toInt + 48 ≤ 71997 → (∀ U : MS, EdI S U (b.toInt + 1) (X + 3 * (f_ways S x).toInt + 48) → EdX S U b.toInt.toNat (fun c => (T c ∨ edW S S x c) ∨ edT S S x c) → k7 U (b + Int32.ofInt 1)) → ∀ (c : Nat) (U : MS) (k : Int32), (0 ≤ k.toInt ∧ k.toInt ≤ (f_ways S x).toInt) → EdI S U (b.toInt + 1) (X + 3 * k.toInt) → EdX S U b.toInt.toNat (fun c => T c ∨ ∃ t : Int32, 0 ≤ t.toInt ∧ t.toInt < k.toInt ∧ (c : Int) = (qI S 50 (f_way S x t).toInt.toNat).toInt) → ((f_ways S x).toInt - k.toInt).toNat < c → w_edges_L67 PQ k7 c U b x k := by
    intro k7 b x X T hb hx hX hk c
    induction c with
    | zero => intro U k _ _ _ h9; exact absurd h9 (Nat.not_lt_zero _)
    | succ c ih =>
      intro U k k0 hU yU hc
      obtain ⟨sm, kU, u49, u50, u105, u52, u54⟩ := sl U hU.1
      have ws := kU.ways (x := x) (by rw [u52]; exact hx)
      have wy := sm.wy h x k
      rw [wy.1] at ws
      unfold w_edges_L67
      rw [wy.1]
      refine ⟨ws.1, fun c1 => ⟨_, L100 k7 b x (X + 3 * (f_ways S x).toInt) (fun c => T c ∨ edW S S x c) hb hx hX hk _ U 0 ⟨by decide, by rw [l0]; omega⟩ (hU.le (by rw [l0]; omega)) (yU.ge (fun c' => ?_)) (Nat.lt_succ_self _)⟩, fun c1 => ?_⟩
      · unfold edW
        rw [show (f_ways S x).toInt = k.toInt by omega]
        constructor
        · exact Or.inl
        · rintro (q | ⟨t, t0, t1, _⟩)
          · exact q
          · rw [l0] at t1; omega
      have wk := ws.2.2 k k0.1 (by omega)
      rw [u52] at wk
      have ek : (k + Int32.ofInt 1).toInt = k.toInt + 1 := by rw [t_add (by rw [lo_1]; omega), lo_1]
      refine ⟨wk.1, ⟨wk.2.1, by omega⟩, _, hU.into2 (t := qI U 50 (f_way U x k).toInt.toNat) yU ⟨hb.1, by omega⟩ ?_ (by omega), fun V hV a ea => ?_⟩
      · rw [u50]; exact (g5 _ (by omega)).1
      · subst ea
        refine ih V _ ⟨by omega, by omega⟩ (hV.1.le (by omega)) (hV.2.ge (fun c' => ?_)) (by omega)
        rw [ek, u50, wy.2]
        constructor
        · rintro ((q | ⟨t, t0, t1, t3⟩) | q)
          · exact Or.inl q
          · exact Or.inr ⟨t, t0, by omega, t3⟩
          · exact Or.inr ⟨k, k0.1, by omega, q⟩
        · rintro (q | ⟨t, t0, t1, t3⟩)
          · exact Or.inl (Or.inl q)
          · by_cases q : t.toInt < k.toInt
            · exact Or.inl (Or.inr ⟨t, t0, q, t3⟩)
            · have : t = k := Int32.toInt_inj.mp (by omega)
              rw [this] at t3; exact Or.inr t3
  have L7 : ∀ (c : Nat) (U : MS) (b : Int32), (0 ≤ b.toInt ∧ b.toInt ≤ (qI S 0 105).toInt) → EdI S U b.toInt (51 * b.toInt + lwS S (qI S 49 b.toInt.toNat).toInt.toNat) → EdY S U b.toInt.toNat → (1200 - b.toInt).toNat < c → w_edges_L7 PQ c U b := by
    intro c
    induction c with
    | zero => intro U b _ _ _ h9; exact absurd h9 (Nat.not_lt_zero _)
    | succ c ih =>
      intro U b hb hU yU hc
      obtain ⟨sm, kU, u49, u50, u105, u52, u54⟩ := sl U hU.1
      unfold w_edges_L7
      rw [u105]
      refine ⟨fun c1 => ⟨⟨by omega, by omega⟩, fun D eD => ?_⟩, fun c1 => ?_⟩
      · have eb : b.toInt = (qI S 0 105).toInt := by omega
        have fD : frm [51, 52] [110] S D := hU.1.tr (by rw [eD]; exact frm.pI (by decide))
        have d110 : qI D 0 110 = qI U 0 110 := by rw [eD, rdH (by decide)]
        have d105 : qI D 0 105 = qI S 0 105 := by rw [eD, rdH (by decide)]; exact u105
        have d52 : qI D 52 = qI U 52 := by rw [eD, rdH (by decide)]
        have bd := bound b.toInt.toNat (by omega)
        rw [eb] at yU
        have yD := (yU.st eD).1
        rw [ePQ]
        refine ⟨⟨fD, by rw [d105]; omega, by rw [d110]; have := hU.2.1; omega, fun b' hb' => ?_, fun k hk => ?_⟩, fun b' c' hb' => yD b' c' (by omega)⟩
        · rw [d110, eD, qI_wI]
          rw [d105] at hb'
          by_cases q : b' = (qI S 0 105).toInt.toNat
          · rw [if_pos ⟨rfl, q⟩]; exact ⟨hU.2.1.1, Int.le_refl _⟩
          · rw [if_neg (fun z => q z.2)]
            exact hU.2.2.1 b' (by omega)
        · rw [d52, d105]
          rw [d110] at hk
          exact hU.2.2.2 k hk
      · have br : 0 ≤ b.toInt ∧ b.toInt < (qI S 0 105).toInt := ⟨hb.1, by omega⟩
        have bb := bs b.toInt.toNat (by omega)
        have eb : (b + (1 : Int32)).toInt = b.toInt + 1 := by rw [t_add (by rw [li_1]; omega), li_1]
        refine ⟨⟨hb.1, by omega⟩, fun D eD => ?_⟩
        have fD : frm [51, 52] [110] S D := hU.1.tr (by rw [eD]; exact frm.pI (by decide))
        obtain ⟨smD, kD, d49, d50, d105, d52, d54⟩ := sl D fD
        have d110 : qI D 0 110 = qI U 0 110 := by rw [eD, rdH (by decide)]
        have dt : qI D 52 = qI U 52 := by rw [eD, rdH (by decide)]
        have yD := yU.st eD
        have hD : EdI S D (b.toInt + 1) (51 * b.toInt + lwS S (qI S 49 b.toInt.toNat).toInt.toNat) := by
          refine ⟨fD, by rw [d110]; exact hU.2.1, fun b' hb' => ?_, by rw [d110, dt]; exact hU.2.2.2⟩
          rw [d110, eD, qI_wI]
          by_cases q : b' = b.toInt.toNat
          · rw [if_pos ⟨rfl, q⟩]; exact ⟨hU.2.1.1, Int.le_refl _⟩
          · rw [if_neg (fun z => q z.2)]
            exact hU.2.2.1 b' (by omega)
        rw [eb, d49, show (b.toInt + 1).toNat = b.toInt.toNat + 1 by omega]
        refine ⟨⟨by omega, by omega⟩, fun x ex => ?_⟩
        have ext : x.toInt = (qI S 49 (b.toInt.toNat + 1)).toInt - 1 := by rw [ex, t_sub (by rw [li_1]; omega), li_1]
        have xr : 0 ≤ x.toInt ∧ x.toInt < (qI S 0 52).toInt := by omega
        have dop := kD.dop (x := x) (by rw [d52]; exact xr)
        have w := wt.2 x xr.1 xr.2
        have en : x.toInt.toNat + 1 = (qI S 49 (b.toInt.toNat + 1)).toInt.toNat := by omega
        rw [en] at w
        have up := lwS_up h (x.toInt.toNat - (qI S 49 b.toInt.toNat).toInt.toNat) (qI S 49 b.toInt.toNat).toInt.toNat (by omega)
        rw [show (qI S 49 b.toInt.toNat).toInt.toNat + (x.toInt.toNat - (qI S 49 b.toInt.toNat).toInt.toNat) = x.toInt.toNat by omega] at up
        have bd := bound (b.toInt.toNat + 1) (by omega)
        have cost : 51 * b.toInt + lwS S (qI S 49 b.toInt.toNat).toInt.toNat + 3 + 3 * (f_ways S x).toInt + 48 ≤ 51 * (b.toInt + 1) + lwS S (qI S 49 (b.toInt.toNat + 1)).toInt.toNat := by
          have w1 := w.1
          have w3 := w.2.2
          omega
        have ek : (b + Int32.ofInt 1).toInt = b.toInt + 1 := by rw [t_add (by rw [lo_1]; omega), lo_1]
        have wn := (h.ways (x := x) xr).2.1
        have j65 : ∀ V : MS, EdI S V (b.toInt + 1) (51 * b.toInt + lwS S (qI S 49 b.toInt.toNat).toInt.toNat + 3) → EdX S V b.toInt.toNat (edN S x b.toInt.toNat) → w_edges_J65 PQ (w_edges_L7 PQ c) V b x := fun V hV yV => by
          unfold w_edges_J65
          refine ⟨_, L67 _ b x (51 * b.toInt + lwS S (qI S 49 b.toInt.toNat).toInt.toNat + 3) (edN S x b.toInt.toNat) br xr (by omega) (fun W hW yW => ?_) _ V 0 ⟨by decide, by rw [l0]; exact wn.1⟩ (hV.le (by rw [l0]; omega)) (yV.ge (fun c' => ?_)) (Nat.lt_succ_self _)⟩
          · refine ih W _ ⟨by omega, by omega⟩ ?_ ?_ (by omega)
            · rw [ek, show (b.toInt + 1).toNat = b.toInt.toNat + 1 by omega]
              exact hW.le cost
            · rw [show (b + Int32.ofInt 1).toInt.toNat = b.toInt.toNat + 1 by omega]
              refine (yW.ge (fun c' => ?_)).nx
              constructor
              · intro q; exact ⟨x, ext, q⟩
              · rintro ⟨x', e', q⟩
                have : x' = x := Int32.toInt_inj.mp (by omega)
                rw [this] at q; exact q
          · constructor
            · exact Or.inl
            · rintro (q | ⟨t, t0, t1, _⟩)
              · exact q
              · rw [l0] at t1; omega
        have dg : d_goesOn D (f_op D x) := by
          unfold d_goesOn d_goesOn_J60
          simp only [ite_self]
        have ex1 : (x + (1 : Int32)).toInt = x.toInt + 1 := by rw [t_add (by rw [li_1]; omega), li_1]
        have eop := (smD.op h x).1
        have ego : f_goesOn D (f_op S x) = f_goesOn S (f_op S x) := rfl
        rw [d52, ex1]
        refine ⟨dop.1, dg, fun c2 => j65 D (hD.le (by omega)) (yD.ge (fun c' => ?_)), fun c2 => ⟨fun c3 => j65 D (hD.le (by omega)) (yD.ge (fun c' => ?_)), fun c3 => ⟨_, hD.into2 (t := b + (1 : Int32)) yD ⟨hb.1, by omega⟩ ?_ (by omega), fun V hV => j65 V hV.1 (hV.2.ge (fun c' => ?_))⟩⟩⟩
        · rw [eop, ego] at c2
          exact ⟨fun q => q.elim, fun q => absurd c2 q.1⟩
        · exact ⟨fun q => q.elim, fun q => by have := q.2.1; omega⟩
        · rw [eb]
          refine ⟨by omega, ?_⟩
          by_cases z : b.toInt + 1 < (qI S 0 105).toInt
          · exact z
          · have e : b.toInt.toNat + 1 = (qI S 0 105).toInt.toNat := by omega
            rw [e, g4] at ext
            omega
        · rw [eop, ego] at c2
          rw [eb]
          constructor
          · rintro (q | q)
            · exact q.elim
            · exact ⟨c2, by omega, by omega⟩
          · rintro ⟨_, _, q⟩
            exact Or.inr (by omega)
  unfold w_edges
  intro A eA
  have fA : frm [51, 52] [110] S A := by rw [eA]; exact frm.pI0 (by decide)
  have a110 : (qI A 0 110).toInt = 0 := by rw [eA, qI_wI, if_pos ⟨rfl, rfl⟩]; rfl
  have b0 := bs 0 (by omega)
  have nn : 0 ≤ lwS S (qI S 49 0).toInt.toNat := by
    have := lwS_up h (qI S 49 0).toInt.toNat 0 (by omega)
    rw [Nat.zero_add] at this
    exact this
  refine ⟨_, L7 _ A 0 ⟨by decide, by rw [l0]; omega⟩ ⟨fA, ⟨by omega, ?_⟩, fun b hb => by rw [l0] at hb; omega, fun k hk => by omega⟩ (fun b' c hb' => by rw [l0] at hb'; omega) (Nat.lt_succ_self _)⟩
  rw [a110, l0]
  show _ ≤ 51 * 0 + lwS S (qI S 49 0).toInt.toNat
  omega
/-! the graph drawn twice: marks, numbers (behind sp_draw, sp_edges2, sp_reach2) -/
def stJ (A : MS) (x : Int32) : Prop := ¬ (f_isJump A (f_op A x)).toInt = 0 ∨ (f_goesOn A (f_op A x)).toInt = 0
def stX (A : MS) (X : Int) (j : Nat) : Prop := j = 0 ∨ ∃ x : Int32, (0 ≤ x.toInt ∧ x.toInt < X) ∧ (stJ A x ∧ (j : Int) = x.toInt + 1 ∨ ∃ k : Int32, (0 ≤ k.toInt ∧ k.toInt < (f_ways A x).toInt) ∧ (j : Int) = (f_way A x k).toInt)
def stC (A : MS) (C : Int) (j : Nat) : Prop := ∃ c k : Int32, (0 ≤ c.toInt ∧ c.toInt < C) ∧ (0 ≤ k.toInt ∧ k.toInt < 3) ∧ (j : Int) = (f_catchWord A c k).toInt
def stM (A : MS) (j : Nat) : Prop := stX A (qI A 0 52).toInt j ∨ stC A (qI A 0 54).toInt j
def MkI (A U : MS) (T : Nat → Prop) : Prop := frm [49, 50] [105] A U ∧ (qI U 50 0).toInt = 1 ∧ (∀ j : Nat, (j : Int) ≤ (qI A 0 52).toInt → (qI U 50 j).toInt = 1 → stM A j) ∧ ∀ j : Nat, T j → (j : Int) ≤ (qI A 0 52).toInt → (qI U 50 j).toInt = 1
theorem MkI.le {A U : MS} {T T' : Nat → Prop} (h : MkI A U T) (k : ∀ j, T' j → T j) : MkI A U T' := ⟨h.1, h.2.1, h.2.2.1, fun j hj => h.2.2.2 j (k j hj)⟩
theorem MkI.set {A U D : MS} {T : Nat → Prop} {i : Nat} (h : MkI A U T) (eD : D = wI U 50 i (1 : Int32)) (hs : stM A i) : MkI A D (fun j => T j ∨ j = i) := by
  have d50 : ∀ j : Nat, qI D 50 j = if j = i then 1 else qI U 50 j := fun j => by
    rw [eD, qI_wI]
    by_cases q : j = i
    · rw [if_pos ⟨rfl, q⟩, if_pos q]
    · rw [if_neg (fun z => q z.2), if_neg q]
  refine ⟨h.1.tr (by rw [eD]; exact frm.pI (by decide)), ?_, fun j hj e => ?_, fun j hj hn => ?_⟩
  · rw [d50]
    by_cases q : 0 = i
    · rw [if_pos q]; rfl
    · rw [if_neg q]; exact h.2.1
  · rw [d50] at e
    by_cases q : j = i
    · rw [q]; exact hs
    · rw [if_neg q] at e; exact h.2.2.1 j hj e
  · rw [d50]
    by_cases q : j = i
    · rw [if_pos q]; rfl
    · rw [if_neg q]
      rcases hj with y | y
      · exact h.2.2.2 j y hn
      · exact absurd y q
/-- how many marks lie below -/
def cnG (g : Nat → Int32) (n : Nat) : Nat := sumN (fun j => if (g j).toInt = 1 then 1 else 0) n
theorem cnG_st {g : Nat → Int32} {n : Nat} : cnG g (n + 1) = cnG g n + (if (g n).toInt = 1 then 1 else 0) := rfl
theorem cnG_eq {g g' : Nat → Int32} (n : Nat) (h : ∀ j : Nat, j < n → ((g j).toInt = 1 ↔ (g' j).toInt = 1)) : cnG g n = cnG g' n := by
  unfold cnG
  refine sumN_eq n (fun j hj => ?_)
  have z := h j hj
  by_cases q : (g j).toInt = 1
  · rw [if_pos q, if_pos (z.mp q)]
  · rw [if_neg q, if_neg (fun y => q (z.mpr y))]
theorem cnG_on {g : Nat → Int32} : ∀ (n b : Nat), b < cnG g n → ∃ j : Nat, j < n ∧ (g j).toInt = 1 ∧ cnG g j = b := by
  intro n
  induction n with
  | zero => intro b hb; exact absurd hb (Nat.not_lt_zero _)
  | succ n ih =>
    intro b hb
    rw [cnG_st] at hb
    by_cases q : b < cnG g n
    · obtain ⟨j, j1, j2, j3⟩ := ih b q
      exact ⟨j, by omega, j2, j3⟩
    · by_cases z : (g n).toInt = 1
      · rw [if_pos z] at hb
        exact ⟨n, by omega, z, by omega⟩
      · rw [if_neg z] at hb
        omega
/-- what is drawn, said by the marks g and the rows -/
def DwP (A : MS) (g : Nat → Int32) (u : MS) : Prop := (qI u 0 105).toInt = cnG g (qI A 0 52).toInt.toNat ∧ (∀ j : Nat, (j : Int) < (qI A 0 52).toInt → (qI u 50 j).toInt = (cnG g (j + 1) : Int) - 1) ∧ (∀ j : Nat, (j : Int) < (qI A 0 52).toInt → (g j).toInt = 1 → (qI u 49 (cnG g j)).toInt = j) ∧ (qI u 49 (cnG g (qI A 0 52).toInt.toNat)).toInt = (qI A 0 52).toInt ∧ (∀ b c : Nat, (b : Int) < (qI u 0 105).toInt → (eG u b c ↔ edC A u b c)) ∧ RhP u u
theorem RhP.sw {S S' u : MS} (h : RhP S u) (e1 : qI S' 51 = qI S 51) (e2 : qI S' 52 = qI S 52) (e3 : qI S' 0 105 = qI S 0 105) : RhP S' u := by
  unfold RhP lsG clG eG at h ⊢
  rw [e1, e2, e3]
  exact h
/-- the same rows are looked at: only what the drawing hangs on -/
def smQ (S u : MS) : Prop := (qO u 0 48 = qO S 0 48 ∧ qO u 0 49 = qO S 0 49 ∧ qO u 0 50 = qO S 0 50) ∧ (qI u (qO S 0 48) = qI S (qO S 0 48) ∧ qI u (qO S 0 49) = qI S (qO S 0 49) ∧ qI u (qO S 0 50) = qI S (qO S 0 50)) ∧ ∀ j : Nat, 51 ≤ j → j ≤ 54 → qI u 0 j = qI S 0 j
theorem smQ.op {S u : MS} (h : smQ S u) (x : Int32) : f_op u x = f_op S x ∧ f_first u x = f_first S x ∧ f_second u x = f_second S x := by
  unfold f_op f_first f_second
  rw [h.1.1, h.2.2 51 (by decide) (by decide), h.2.1.1]
  exact ⟨rfl, rfl, rfl⟩
theorem smQ.cw {S u : MS} (h : smQ S u) (c w : Int32) : f_catchWord u c w = f_catchWord S c w := by
  unfold f_catchWord
  rw [h.1.2.2, h.2.2 53 (by decide) (by decide), h.2.1.2.2]
theorem smQ.ic {S u : MS} (h : smQ S u) (x c : Int32) : f_isCaught u x c = f_isCaught S x c := by
  unfold f_isCaught f_isCaught_J24
  rw [h.cw, h.cw]
theorem smQ.wy {S u : MS} (h : smQ S u) (x c : Int32) : f_ways u x = f_ways S x ∧ f_way u x c = f_way S x c := by
  unfold f_ways f_way
  rw [(h.op x).1, (h.op x).2.1, (h.op x).2.2, h.1.2.1, h.2.1.2.1]
  exact ⟨rfl, rfl⟩
theorem smL.q {S u : MS} (h : smL S u) (k : LkI S) : smQ S u := ⟨⟨h.qo (by decide) (by decide), h.qo (by decide) (by decide), h.qo (by decide) (by decide)⟩, ⟨(h.1.1 _ k.1.1.2.1).1, (h.1.1 _ k.1.1.2.2.1).1, (h.1.1 _ k.1.1.2.2.2).1⟩, fun j a b => (h.2 j (by omega) b).1⟩
theorem edC.mv {A D u : MS} (s : smQ A D) (e1 : qI D 49 = qI u 49) (e2 : qI D 50 = qI u 50) (b c : Nat) : edC D D b c ↔ edC A u b c := by
  have e52 : qI D 0 52 = qI A 0 52 := s.2.2 52 (by decide) (by decide)
  have e54 : qI D 0 54 = qI A 0 54 := s.2.2 54 (by decide) (by decide)
  unfold edC edN edW edT
  rw [e1, e2, e52, e54]
  have eo : ∀ x : Int32, f_op D x = f_op A x := fun x => (s.op x).1
  have ew : ∀ x y : Int32, f_ways D x = f_ways A x ∧ f_way D x y = f_way A x y := fun x y => s.wy x y
  have eg : ∀ o : Int32, f_goesOn D o = f_goesOn A o := fun _ => rfl
  have ei : ∀ x t : Int32, f_isCaught D x t = f_isCaught A x t := fun x t => s.ic x t
  have ec : ∀ t w : Int32, f_catchWord D t w = f_catchWord A t w := fun t w => s.cw t w
  have e1' : ∀ x : Int32, f_ways D x = f_ways A x := fun x => (ew x 0).1
  have e2' : ∀ x y : Int32, f_way D x y = f_way A x y := fun x y => (ew x y).2
  simp only [eo, eg, ei, ec, e1', e2']
theorem sp_draw2_L167 {A : MS} {g : Nat → Int32} {Q : MS → Prop} (h : LkI A) (hQ : ∀ u : MS, frm [49, 50, 51, 52, 53] [105, 110] A u → GbI u (qI A 0 52).toInt → GeI u → DwP A g u → Q u) : ∀ (c : Nat) (U : MS) (i : Int32), frm [49, 50] [105] A U → (0 ≤ i.toInt ∧ i.toInt ≤ (qI A 0 52).toInt) → (0 ≤ (qI U 0 105).toInt ∧ (qI U 0 105).toInt ≤ i.toInt) → (i.toInt = 0 → (qI U 50 0).toInt = 1) → (1 ≤ i.toInt → 1 ≤ (qI U 0 105).toInt) → (∀ b : Nat, (b : Int) < (qI U 0 105).toInt → (b : Int) ≤ (qI U 49 b).toInt ∧ (qI U 49 b).toInt < i.toInt) → (∀ b : Nat, (b : Int) + 1 < (qI U 0 105).toInt → (qI U 49 b).toInt < (qI U 49 (b + 1)).toInt) → (∀ j : Nat, (j : Int) < i.toInt → (0 ≤ (qI U 50 j).toInt ∧ (qI U 50 j).toInt < (qI U 0 105).toInt) ∧ (qI U 49 (qI U 50 j).toInt.toNat).toInt ≤ j) → (∀ j : Nat, (j : Int) + 1 < i.toInt → (qI U 50 j).toInt ≤ (qI U 50 (j + 1)).toInt) → ((qI U 0 105).toInt = cnG g i.toInt.toNat ∧ (∀ j : Nat, (j : Int) < i.toInt → (qI U 50 j).toInt = (cnG g (j + 1) : Int) - 1) ∧ (∀ j : Nat, i.toInt ≤ j → qI U 50 j = g j) ∧ ∀ j : Nat, (j : Int) < i.toInt → (g j).toInt = 1 → (qI U 49 (cnG g j)).toInt = j) → (1200 - i.toInt).toNat < c → w_draw_L167 Q c U i := by
  have cn := h.cnt
  intro c
  induction c with
  | zero => intro U i _ _ _ _ _ _ _ _ _ _ h9; exact absurd h9 (Nat.not_lt_zero _)
  | succ c ih =>
    intro U i fU hi hc0 hz h1 s1 s2 o1 o2 nm hc
    obtain ⟨n1, n2, n3, n4⟩ := nm
    have u52 : qI U 0 52 = qI A 0 52 := (fU.2.2.2.2.2 52 (by decide)).1
    have sU := smL.fm fU (by decide) (by decide)
    have kU := h.mv sU
    unfold w_draw_L167
    rw [u52]
    refine ⟨fun c1 => ⟨⟨hc0.1, by omega⟩, fun D eD => ?_⟩, fun c1 => ?_⟩
    · have eN : i.toInt = (qI A 0 52).toInt := by omega
      have fD : frm [49, 50] [105] U D := by rw [eD]; exact frm.pI (by decide)
      have d105 : qI D 0 105 = qI U 0 105 := by rw [eD, rdH (by decide)]
      have d50 : qI D 50 = qI U 50 := by rw [eD, rdH (by decide)]
      have d49 : ∀ b : Nat, qI D 49 b = if b = (qI U 0 105).toInt.toNat then qI A 0 52 else qI U 49 b := fun b => by
        rw [eD, qI_wI]
        by_cases q : b = (qI U 0 105).toInt.toNat
        · rw [if_pos ⟨rfl, q⟩, if_pos q]
        · rw [if_neg (fun z => q z.2), if_neg q]
      have gD : GbI D (qI A 0 52).toInt := by
        refine ⟨by rw [d105]; have := h1 (by omega); omega, fun b hb => ?_, fun b hb => ?_, ?_, fun j hj => ?_, fun j hj => ?_⟩
        · rw [d105] at hb
          rw [d49, if_neg (by omega)]
          have := s1 b hb
          omega
        · rw [d105] at hb
          rw [d49, d49, if_neg (by omega), if_neg (by omega)]
          exact s2 b hb
        · rw [d105, d49, if_pos rfl]
        · have q := o1 j (by omega)
          rw [d50, d105, d49, if_neg (by omega)]
          exact q
        · rw [d50]
          exact o2 j (by omega)
      have sD := smL.fm fD (by decide) (by decide)
      have kD : LkI D := kU.mv sD
      have d52 : qI D 0 52 = qI A 0 52 := by rw [(fD.2.2.2.2.2 52 (by decide)).1, u52]
      have eg := sp_edges2 kD (by rw [d52]; exact gD)
      refine ⟨_, eg, fun E hE => ⟨_, sp_reach2 hE.1.2 (by rw [(hE.1.1.2.2.2.2.2 105 (by decide)).1, d105]; exact h1 (by omega)), fun F fF => ?_⟩⟩
      obtain ⟨fF, rF⟩ := fF
      have fEF := fF
      refine hQ F ((fU.mo (by decide) (by decide)).tr ((fD.mo (by decide) (by decide)).tr ((hE.1.1.mo (by decide) (by decide)).tr (fF.mo (by decide) (by decide))))) ?_ (hE.1.2.fm fF (by decide) (by decide) (by decide) (by decide)) ?_
      · exact (gD.fm hE.1.1 (by decide) (by decide) (by decide)).fm fF (by decide) (by decide) (by decide)
      have f49 : qI F 49 = qI D 49 := ((fF.2.2.2.2.1 49 (by decide) (by decide)).1).trans (hE.1.1.2.2.2.2.1 49 (by decide) (by decide)).1
      have f50 : qI F 50 = qI D 50 := ((fF.2.2.2.2.1 50 (by decide) (by decide)).1).trans (hE.1.1.2.2.2.2.1 50 (by decide) (by decide)).1
      have f105 : qI F 0 105 = qI D 0 105 := ((fF.2.2.2.2.2 105 (by decide)).1).trans (hE.1.1.2.2.2.2.2 105 (by decide)).1
      have f51 : qI F 51 = qI E 51 := (fF.2.2.2.2.1 51 (by decide) (by decide)).1
      have f52 : qI F 52 = qI E 52 := (fF.2.2.2.2.1 52 (by decide) (by decide)).1
      have fe105 : qI F 0 105 = qI E 0 105 := (fF.2.2.2.2.2 105 (by decide)).1
      have ei : i.toInt.toNat = (qI A 0 52).toInt.toNat := by omega
      refine ⟨by rw [f105, d105, n1, ei], fun j hj => by rw [f50, d50]; exact n2 j (by omega), fun j hj gj => ?_, ?_, fun b c' hb => ?_, rF.sw f51 f52 fe105⟩
      · rw [f49, d49, if_neg ?_]
        · exact n4 j (by omega) gj
        · intro q
          have a1 : cnG g (j + 1) = cnG g j + 1 := by rw [cnG_st, if_pos gj]
          have a2 := n2 j (by omega)
          have a3 := (o1 j (by omega)).1
          omega
      · rw [f49, d49, if_pos (by rw [n1, ei]; omega)]
      · rw [f105] at hb
        have z := hE.2 b c' hb
        rw [edC.mv ((sU.tr sD).q h) f49.symm f50.symm] at z
        rw [← z]
        unfold eG
        rw [f51, f52]
    · have ei : (i + Int32.ofInt 1).toInt = i.toInt + 1 := by rw [t_add (by rw [lo_1]; omega), lo_1]
      have j205 : ∀ V : MS, frm [49, 50] [105] A V → (1 ≤ (qI V 0 105).toInt ∧ (qI V 0 105).toInt ≤ i.toInt + 1) → (∀ b : Nat, (b : Int) < (qI V 0 105).toInt → (b : Int) ≤ (qI V 49 b).toInt ∧ (qI V 49 b).toInt < i.toInt + 1) → (∀ b : Nat, (b : Int) + 1 < (qI V 0 105).toInt → (qI V 49 b).toInt < (qI V 49 (b + 1)).toInt) → (∀ j : Nat, (j : Int) < i.toInt → (0 ≤ (qI V 50 j).toInt ∧ (qI V 50 j).toInt < (qI V 0 105).toInt) ∧ (qI V 49 (qI V 50 j).toInt.toNat).toInt ≤ j) → (∀ j : Nat, (j : Int) + 1 < i.toInt → (qI V 50 j).toInt ≤ (qI V 50 (j + 1)).toInt) → ((qI V 0 105).toInt = cnG g (i.toInt.toNat + 1) ∧ qI V 50 = qI U 50 ∧ ∀ j : Nat, (j : Int) < i.toInt + 1 → (g j).toInt = 1 → (qI V 49 (cnG g j)).toInt = j) → w_draw_J205 Q (w_draw_L167 Q c) V i := fun V fV v1 t1 t2 p1 p2 p3 => by
        obtain ⟨p4, p5, p6⟩ := p3
        unfold w_draw_J205
        refine ⟨⟨hi.1, by omega⟩, fun D eD a ea => ?_⟩
        subst ea
        have fD : frm [49, 50] [105] V D := by rw [eD]; exact frm.pI (by decide)
        have d105 : qI D 0 105 = qI V 0 105 := by rw [eD, rdH (by decide)]
        have d49 : qI D 49 = qI V 49 := by rw [eD, rdH (by decide)]
        have ev : (qI V 0 105 - (1 : Int32)).toInt = (qI V 0 105).toInt - 1 := by rw [t_sub (by rw [li_1]; omega), li_1]
        have d50' : ∀ j : Nat, qI D 50 j = if j = i.toInt.toNat then (qI V 0 105 - (1 : Int32)) else qI V 50 j := fun j => by
          rw [eD, qI_wI]
          by_cases q : j = i.toInt.toNat
          · rw [if_pos ⟨rfl, q⟩, if_pos q]
          · rw [if_neg (fun z => q z.2), if_neg q]
        have d50 : ∀ j : Nat, (qI D 50 j).toInt = if j = i.toInt.toNat then (qI V 0 105).toInt - 1 else (qI V 50 j).toInt := fun j => by
          rw [d50']
          by_cases q : j = i.toInt.toNat
          · rw [if_pos q, if_pos q, ev]
          · rw [if_neg q, if_neg q]
        have ein : (i + Int32.ofInt 1).toInt.toNat = i.toInt.toNat + 1 := by omega
        refine ih D _ (fV.tr fD) ⟨by omega, by omega⟩ (by rw [d105]; omega) (fun z => by omega) (fun _ => by rw [d105]; exact v1.1) ?_ ?_ ?_ ?_ ⟨by rw [d105, ein]; exact p4, fun j hj => ?_, fun j hj => ?_, fun j hj gj => by rw [d49]; exact p6 j (by omega) gj⟩ (by omega)
        · rw [d105, d49, ei]; exact t1
        · rw [d105, d49]; exact t2
        · intro j hj
          rw [ei] at hj
          rw [d50, d105, d49]
          by_cases q : j = i.toInt.toNat
          · rw [if_pos q]
            have := t1 ((qI V 0 105).toInt - 1).toNat (by omega)
            omega
          · rw [if_neg q]
            exact p1 j (by omega)
        · intro j hj
          rw [ei] at hj
          rw [d50, d50]
          by_cases q : j + 1 = i.toInt.toNat
          · rw [if_neg (by omega), if_pos q]
            have := (p1 j (by omega)).1
            omega
          · rw [if_neg (by omega), if_neg q]
            exact p2 j (by omega)
        · rw [d50]
          by_cases q : j = i.toInt.toNat
          · rw [if_pos q, p4, q]
          · rw [if_neg q, p5]
            exact n2 j (by omega)
        · rw [d50', if_neg (by omega), p5]
          exact n3 j (by omega)
      have gi : qI U 50 i.toInt.toNat = g i.toInt.toNat := n3 _ (by omega)
      refine ⟨⟨hi.1, by omega⟩, fun c2 => ⟨⟨hc0.1, by omega⟩, fun D eD E eE => ?_⟩, fun c2 => ?_⟩
      · have d105 : qI D 0 105 = qI U 0 105 := by rw [eD, rdH (by decide)]
        have e105 : (qI E 0 105).toInt = (qI U 0 105).toInt + 1 := by rw [eE, qI_wI, if_pos ⟨rfl, rfl⟩, d105, t_add (by rw [li_1]; omega), li_1]
        have e50 : qI E 50 = qI U 50 := by rw [eE, rdH (by decide), eD, rdH (by decide)]
        have e49 : ∀ b : Nat, qI E 49 b = if b = (qI U 0 105).toInt.toNat then i else qI U 49 b := fun b => by
          rw [eE, rdH (by decide), eD, qI_wI]
          by_cases q : b = (qI U 0 105).toInt.toNat
          · rw [if_pos ⟨rfl, q⟩, if_pos q]
          · rw [if_neg (fun z => q z.2), if_neg q]
        rw [gi] at c2
        refine j205 E (fU.tr ((show frm [49, 50] [105] U D by rw [eD]; exact frm.pI (by decide)).tr (by rw [eE]; exact frm.pI0 (by decide)))) (by omega) (fun b hb => ?_) (fun b hb => ?_) (fun j hj => ?_) (fun j hj => by rw [e50]; exact o2 j hj) ⟨by rw [e105, n1, cnG_st, if_pos c2]; omega, e50, fun j hj gj => ?_⟩
        · rw [e49]
          by_cases q : b = (qI U 0 105).toInt.toNat
          · rw [if_pos q]; omega
          · rw [if_neg q]; have := s1 b (by omega); omega
        · rw [e49, e49, if_neg (by omega)]
          by_cases q : b + 1 = (qI U 0 105).toInt.toNat
          · rw [if_pos q]; exact (s1 b (by omega)).2
          · rw [if_neg q]; exact s2 b (by omega)
        · have q := o1 j hj
          rw [e50, e49, if_neg (by omega)]
          omega
        · rw [e49]
          by_cases q : j = i.toInt.toNat
          · rw [if_pos (by rw [q, n1]; omega)]; omega
          · have a1 : cnG g (j + 1) = cnG g j + 1 := by rw [cnG_st, if_pos gj]
            have a2 := n2 j (by omega)
            have a3 := (o1 j (by omega)).1
            rw [if_neg (by omega)]
            exact n4 j (by omega) gj
      · have i1 : 1 ≤ i.toInt := by
          by_cases z : i.toInt = 0
          · exact absurd (by rw [z]; exact hz z) c2
          · omega
        rw [gi] at c2
        refine j205 U fU ⟨h1 i1, by omega⟩ (fun b hb => by have := s1 b hb; omega) s2 o1 o2 ⟨by rw [n1, cnG_st, if_neg c2]; omega, rfl, fun j hj gj => ?_⟩
        by_cases q : j = i.toInt.toNat
        · rw [q] at gj; exact absurd gj c2
        · exact n4 j (by omega) gj
/-! draw again, with what is drawn (behind sp_draw2_L167, MkI) -/
def mkA (A : MS) (g : Nat → Int32) : Prop := ∀ j : Nat, (j : Int) ≤ (qI A 0 52).toInt → ((g j).toInt = 1 ↔ stM A j)
theorem sp_draw2 {S : MS} {f : Nat} {m : Int32} (hf : FlI S f) (hm : 0 ≤ m.toInt ∧ m.toInt < (qI S f 4).toInt) : w_draw S f m (fun u => (GbI u (qI S (f + 11) m.toInt.toNat).toInt ∧ GeI u) ∧ ∃ (A : MS) (g : Nat → Int32), frm [] [47, 48, 49, 50, 51, 52, 53, 54] S A ∧ LkI A ∧ LoP S f m.toInt.toNat A ∧ mkA A g ∧ DwP A g u) := by
  unfold w_draw
  refine ⟨_, sp_look hf hm, ?_⟩
  rintro A ⟨⟨fA, h⟩, lo⟩
  have cn := h.cnt
  have l0 : (0 : Int32).toInt = 0 := rfl
  have l3 : (3 : Int32).toInt = 3 := by decide
  have N : qI A 0 52 = qI S (f + 11) m.toInt.toNat := lo.2.2.1
  rw [← N]
  obtain ⟨PQ, ePQ⟩ : ∃ PQ : MS → Prop, PQ = (fun u => (GbI u (qI A 0 52).toInt ∧ GeI u) ∧ ∃ (A : MS) (g : Nat → Int32), frm [] [47, 48, 49, 50, 51, 52, 53, 54] S A ∧ LkI A ∧ LoP S f m.toInt.toNat A ∧ mkA A g ∧ DwP A g u) := ⟨_, rfl⟩
  rw [← ePQ]
  have sl : ∀ U : MS, frm [49, 50] [105] A U → smL A U ∧ LkI U ∧ qI U 0 52 = qI A 0 52 ∧ qI U 0 54 = qI A 0 54 := fun U fU => by
    have s := smL.fm fU (by decide) (by decide)
    exact ⟨s, h.mv s, (fU.2.2.2.2.2 52 (by decide)).1, (fU.2.2.2.2.2 54 (by decide)).1⟩
  have inj : ∀ x y : Int32, x.toInt = y.toInt → x = y := fun x y e => Int32.toInt_inj.mp e
  have L129 : ∀ (k118 : MS → Int32 → Prop) (x : Int32), (0 ≤ x.toInt ∧ x.toInt < (qI A 0 54).toInt) → (∀ U : MS, MkI A U (fun j => stX A (qI A 0 52).toInt j ∨ stC A (x.toInt + 1) j) → k118 U (x + Int32.ofInt 1)) → ∀ (c : Nat) (U : MS) (k : Int32), MkI A U (fun j => (stX A (qI A 0 52).toInt j ∨ stC A x.toInt j) ∨ ∃ y : Int32, (0 ≤ y.toInt ∧ y.toInt < k.toInt) ∧ (j : Int) = (f_catchWord A x y).toInt) → (0 ≤ k.toInt ∧ k.toInt ≤ 3) → (3 - k.toInt).toNat < c → w_draw_L129 PQ k118 c U x k := by
    intro k118 x hx hk c
    induction c with
    | zero => intro U k _ _ h9; exact absurd h9 (Nat.not_lt_zero _)
    | succ c ih =>
      intro U k hU k0 hc
      obtain ⟨s, kU, u52, u54⟩ := sl U hU.1
      unfold w_draw_L129
      refine ⟨fun c1 a ea => ?_, fun c1 => ?_⟩
      · subst ea
        refine hk U (hU.le (fun j hj => ?_))
        rcases hj with q | ⟨c', k', q1, q2, q3⟩
        · exact Or.inl (Or.inl q)
        · by_cases z : c'.toInt < x.toInt
          · exact Or.inl (Or.inr ⟨c', k', ⟨q1.1, z⟩, q2, q3⟩)
          · have e := inj c' x (by omega)
            subst e
            exact Or.inr ⟨k', ⟨q2.1, by omega⟩, q3⟩
      have xr : 0 ≤ x.toInt ∧ x.toInt < (qI U 0 54).toInt := by rw [u54]; exact hx
      have cw := kU.cw xr
      rw [u52] at cw
      have rng : 0 ≤ (f_catchWord U x k).toInt ∧ (f_catchWord U x k).toInt < 1201 := by
        have kk : k.toInt = 0 ∨ k.toInt = 1 ∨ k.toInt = 2 := by omega
        rcases kk with q | q | q
        · have : k = 0 := Int32.toInt_inj.mp (by rw [q]; rfl)
          rw [this]; omega
        · have : k = 1 := Int32.toInt_inj.mp (by rw [q]; rfl)
          rw [this]; omega
        · have : k = 2 := Int32.toInt_inj.mp (by rw [q]; rfl)
          rw [this]; omega
      have ek : (k + Int32.ofInt 1).toInt = k.toInt + 1 := by rw [t_add (by rw [lo_1]; omega), lo_1]
      refine ⟨kU.dcw xr k0, rng, fun D eD a ea => ?_⟩
      subst ea
      have ecw := s.cw h x k
      have hD := hU.set eD (Or.inr ⟨x, k, hx, ⟨k0.1, by omega⟩, by rw [← ecw]; omega⟩)
      refine ih D _ (hD.le (fun j hj => ?_)) ⟨by omega, by omega⟩ (by omega)
      rcases hj with q | ⟨y, q1, q2⟩
      · exact Or.inl (Or.inl q)
      · by_cases z : y.toInt < k.toInt
        · exact Or.inl (Or.inr ⟨y, ⟨q1.1, z⟩, q2⟩)
        · have e := inj y k (by omega)
          subst e
          exact Or.inr (by rw [ecw]; omega)
  have L118 : ∀ (c : Nat) (U : MS) (x : Int32), MkI A U (fun j => stX A (qI A 0 52).toInt j ∨ stC A x.toInt j) → (0 ≤ x.toInt ∧ x.toInt ≤ (qI A 0 54).toInt) → (16 - x.toInt).toNat < c → w_draw_L118 PQ c U x := by
    intro c
    induction c with
    | zero => intro U x _ _ h9; exact absurd h9 (Nat.not_lt_zero _)
    | succ c ih =>
      intro U x hU x0 hc
      obtain ⟨s, kU, u52, u54⟩ := sl U hU.1
      unfold w_draw_L118
      rw [u54]
      refine ⟨fun c1 D eD => ?_, fun c1 => ?_⟩
      · have d105 : (qI D 0 105).toInt = 0 := by rw [eD, qI_wI, if_pos ⟨rfl, rfl⟩]; rfl
        have d50 : qI D 50 = qI U 50 := by rw [eD, rdH (by decide)]
        have ma : mkA A (qI U 50) := fun j hj => ⟨fun q => hU.2.2.1 j hj q, fun q => hU.2.2.2 j (by rw [show x.toInt = (qI A 0 54).toInt by omega]; exact q) hj⟩
        exact ⟨_, sp_draw2_L167 (g := qI U 50) h (fun u _ g e d => by rw [ePQ]; exact ⟨⟨g, e⟩, A, qI U 50, fA, h, lo, ma, d⟩) _ D 0 (hU.1.tr (by rw [eD]; exact frm.pI0 (by decide))) ⟨by decide, by rw [l0]; omega⟩ (by rw [d105, l0]; omega) (fun _ => by rw [d50]; exact hU.2.1) (fun q => by rw [l0] at q; omega) (fun b hb => by omega) (fun b hb => by omega) (fun j hj => by rw [l0] at hj; omega) (fun j hj => by rw [l0] at hj; omega) ⟨by rw [d105]; rfl, fun j hj => by rw [l0] at hj; omega, fun j _ => by rw [d50], fun j hj => by rw [l0] at hj; omega⟩ (Nat.lt_succ_self _)⟩
      · have ek : (x + Int32.ofInt 1).toInt = x.toInt + 1 := by rw [t_add (by rw [lo_1]; omega), lo_1]
        refine ⟨_, L129 _ x ⟨x0.1, by omega⟩ (fun V hV => ih V _ (by rw [ek]; exact hV) (by omega) (by omega)) _ U 0 (hU.le (fun j hj => ?_)) ⟨by decide, by decide⟩ (Nat.lt_succ_self _)⟩
        rcases hj with q | ⟨y, q1, q2⟩
        · exact q
        · rw [l0] at q1; omega
  have L81 : ∀ (k38 : MS → Int32 → Prop) (x : Int32), (0 ≤ x.toInt ∧ x.toInt < (qI A 0 52).toInt) → (∀ U : MS, MkI A U (stX A (x.toInt + 1)) → k38 U (x + Int32.ofInt 1)) → ∀ (c : Nat) (U : MS) (k : Int32), MkI A U (fun j => (stX A x.toInt j ∨ stJ A x ∧ (j : Int) = x.toInt + 1) ∨ ∃ y : Int32, (0 ≤ y.toInt ∧ y.toInt < k.toInt) ∧ (j : Int) = (f_way A x y).toInt) → 0 ≤ k.toInt → (202 - k.toInt).toNat < c → w_draw_L81 PQ k38 c U x k := by
    intro k38 x hx hk c
    induction c with
    | zero => intro U k _ _ h9; exact absurd h9 (Nat.not_lt_zero _)
    | succ c ih =>
      intro U k hU k0 hc
      obtain ⟨s, kU, u52, u54⟩ := sl U hU.1
      have ws := kU.ways (x := x) (by rw [u52]; exact hx)
      have wy := s.wy h x k
      unfold w_draw_L81
      refine ⟨ws.1, fun c1 a ea => ?_, fun c1 => ?_⟩
      · subst ea
        rw [wy.1] at c1
        refine hk U (hU.le (fun j hj => ?_))
        rcases hj with q | ⟨x', q1, q2⟩
        · exact Or.inl (Or.inl (Or.inl q))
        · by_cases z : x'.toInt < x.toInt
          · exact Or.inl (Or.inl (Or.inr ⟨x', ⟨q1.1, z⟩, q2⟩))
          · have e := inj x' x (by omega)
            subst e
            rcases q2 with ⟨y1, y2⟩ | ⟨k', y1, y2⟩
            · exact Or.inl (Or.inr ⟨y1, y2⟩)
            · exact Or.inr ⟨k', ⟨y1.1, by omega⟩, y2⟩
      have wk := ws.2.2 k k0 (by omega)
      rw [u52] at wk
      have ek : (k + Int32.ofInt 1).toInt = k.toInt + 1 := by have := ws.2.1; rw [t_add (by rw [lo_1]; omega), lo_1]
      refine ⟨wk.1, ⟨wk.2.1, by omega⟩, fun D eD a ea => ?_⟩
      subst ea
      rw [wy.1] at c1
      have hD := hU.set eD (Or.inl (Or.inr ⟨x, hx, Or.inr ⟨k, ⟨k0, by omega⟩, by rw [← wy.2]; omega⟩⟩))
      refine ih D _ (hD.le (fun j hj => ?_)) (by omega) (by have := ws.2.1; rw [wy.1] at this; omega)
      rcases hj with q | ⟨y, q1, q2⟩
      · exact Or.inl (Or.inl q)
      · by_cases z : y.toInt < k.toInt
        · exact Or.inl (Or.inr ⟨y, ⟨q1.1, z⟩, q2⟩)
        · have e := inj y k (by omega)
          subst e
          exact Or.inr (by rw [wy.2]; omega)
  have L38 : ∀ (c : Nat) (U : MS) (x : Int32), MkI A U (stX A x.toInt) → (0 ≤ x.toInt ∧ x.toInt ≤ (qI A 0 52).toInt) → (1200 - x.toInt).toNat < c → w_draw_L38 PQ c U x := by
    intro c
    induction c with
    | zero => intro U x _ _ h9; exact absurd h9 (Nat.not_lt_zero _)
    | succ c ih =>
      intro U x hU x0 hc
      obtain ⟨s, kU, u52, u54⟩ := sl U hU.1
      unfold w_draw_L38
      rw [u52]
      refine ⟨fun c1 => ⟨_, L118 _ U 0 (hU.le (fun j hj => ?_)) ⟨by decide, by rw [l0]; omega⟩ (Nat.lt_succ_self _)⟩, fun c1 => ?_⟩
      · rcases hj with q | ⟨c', k', q1, _⟩
        · rw [show x.toInt = (qI A 0 52).toInt by omega]; exact q
        · rw [l0] at q1; omega
      have xr : 0 ≤ x.toInt ∧ x.toInt < (qI A 0 52).toInt := ⟨x0.1, by omega⟩
      have ek : (x + Int32.ofInt 1).toInt = x.toInt + 1 := by rw [t_add (by rw [lo_1]; omega), lo_1]
      have e1 : (x + (1 : Int32)).toInt = x.toInt + 1 := by rw [t_add (by rw [li_1]; omega), li_1]
      have j78 : ∀ V : MS, MkI A V (fun j => stX A x.toInt j ∨ stJ A x ∧ (j : Int) = x.toInt + 1) → w_draw_J78 PQ (w_draw_L38 PQ c) V x := fun V hV => by
        unfold w_draw_J78
        refine ⟨_, L81 _ x xr (fun W hW => ih W _ (by rw [ek]; exact hW) (by omega) (by omega)) _ V 0 (hV.le (fun j hj => ?_)) (by decide) (Nat.lt_succ_self _)⟩
        rcases hj with q | ⟨y, q1, _⟩
        · exact q
        · rw [l0] at q1; omega
      have eop := (s.op h x).1
      have j69 : stJ A x → w_draw_J69 PQ (w_draw_L38 PQ c) U x := fun hs => by
        unfold w_draw_J69
        rw [e1]
        refine ⟨⟨by omega, by omega⟩, fun D eD => ?_⟩
        refine j78 D ((hU.set eD (Or.inl (Or.inr ⟨x, xr, Or.inl ⟨hs, by omega⟩⟩))).le (fun j hj => ?_))
        rcases hj with q | q
        · exact Or.inl q
        · exact Or.inr (by omega)
      have dj : ∀ o : Int32, d_isJump U o ∧ d_goesOn U o := fun o => by
        unfold d_isJump d_isJump_J14 d_isJump_J28 d_goesOn d_goesOn_J60
        simp only [ite_self]
        exact ⟨trivial, trivial⟩
      have ej : ∀ o : Int32, f_isJump U o = f_isJump A o ∧ f_goesOn U o = f_goesOn A o := fun _ => ⟨rfl, rfl⟩
      refine ⟨(kU.dop (x := x) (by rw [u52]; exact xr)).1, fun o eo => ?_⟩
      rw [eop] at eo
      subst eo
      rw [(ej _).1, (ej _).2]
      refine ⟨(dj _).1, fun c2 => ⟨(dj _).2, fun c3 => j69 (Or.inr c3), fun c3 => j78 U (hU.le (fun j hj => ?_))⟩, fun c2 => j69 (Or.inl c2)⟩
      rcases hj with q | q
      · exact q
      · rcases q.1 with y | y
        · exact absurd c2 y
        · exact absurd y c3
  have L8 : ∀ (c : Nat) (U : MS) (x : Int32), frm [49, 50] [105] A U → 0 ≤ x.toInt → (∀ j : Nat, (j : Int) < x.toInt → (qI U 50 j).toInt = 0) → (1201 - x.toInt).toNat < c → w_draw_L8 PQ c U x := by
    intro c
    induction c with
    | zero => intro U x _ _ _ h9; exact absurd h9 (Nat.not_lt_zero _)
    | succ c ih =>
      intro U x fU x0 hz hc
      obtain ⟨s, kU, u52, u54⟩ := sl U fU
      unfold w_draw_L8
      rw [u52]
      refine ⟨fun c1 D eD => ?_, fun c1 => ⟨⟨x0, by omega⟩, fun D eD a ea => ?_⟩⟩
      · have d50 : ∀ j : Nat, qI D 50 j = if j = 0 then 1 else qI U 50 j := fun j => by
          rw [eD, qI_wI]
          by_cases q : j = 0
          · rw [if_pos ⟨rfl, q⟩, if_pos q]
          · rw [if_neg (fun z => q z.2), if_neg q]
        refine ⟨_, L38 _ D 0 ⟨fU.tr (by rw [eD]; exact frm.pI (by decide)), by rw [d50, if_pos rfl]; rfl, fun j hj e => ?_, fun j hj hn => ?_⟩ ⟨by decide, by rw [l0]; omega⟩ (Nat.lt_succ_self _)⟩
        · rw [d50] at e
          by_cases q : j = 0
          · exact Or.inl (Or.inl q)
          · rw [if_neg q] at e
            have := hz j (by omega)
            omega
        · rcases hj with q | ⟨y, q1, _⟩
          · rw [d50, if_pos q]; rfl
          · rw [l0] at q1; omega
      · have ek : (x + Int32.ofInt 1).toInt = x.toInt + 1 := by rw [t_add (by rw [lo_1]; omega), lo_1]
        subst ea
        refine ih D _ (fU.tr (by rw [eD]; exact frm.pI (by decide))) (by omega) (fun j hj => ?_) (by omega)
        rw [eD, qI_wI]
        by_cases q : (50 : Nat) = 50 ∧ j = x.toInt.toNat
        · rw [if_pos q]; rfl
        · rw [if_neg q]
          exact hz j (by omega)
  exact ⟨_, L8 _ A 0 frm.rf (by decide) (fun j hj => by rw [l0] at hj; omega) (Nat.lt_succ_self _)⟩
theorem stM.mv {A D : MS} (s : smQ A D) (j : Nat) : stM D j ↔ stM A j := by
  have e52 : qI D 0 52 = qI A 0 52 := s.2.2 52 (by decide) (by decide)
  have e54 : qI D 0 54 = qI A 0 54 := s.2.2 54 (by decide) (by decide)
  have eo : ∀ x : Int32, f_op D x = f_op A x := fun x => (s.op x).1
  have ej : ∀ o : Int32, f_isJump D o = f_isJump A o := fun _ => rfl
  have eg : ∀ o : Int32, f_goesOn D o = f_goesOn A o := fun _ => rfl
  have ec : ∀ t w : Int32, f_catchWord D t w = f_catchWord A t w := fun t w => s.cw t w
  have e1' : ∀ x : Int32, f_ways D x = f_ways A x := fun x => (s.wy x 0).1
  have e2' : ∀ x y : Int32, f_way D x y = f_way A x y := fun x y => (s.wy x y).2
  unfold stM stX stC stJ
  rw [e52, e54]
  simp only [eo, eg, ej, ec, e1', e2']
theorem nzN_eq {g g' : Nat → Int32} (n : Nat) (h : ∀ j : Nat, j < n → ((g j).toInt = 0 ↔ (g' j).toInt = 0)) : nzN g n = nzN g' n := by
  unfold nzN
  refine sumN_eq n (fun j hj => ?_)
  have z := h j hj
  by_cases q : (g j).toInt = 0
  · rw [if_pos q, if_pos (z.mp q)]
  · rw [if_neg q, if_neg (fun y => q (z.mpr y))]
/-- the same rows are drawn the same way -/
theorem DwP.uq {A D u v : MS} {g g' : Nat → Int32} (k : LkI A) (s : smQ A D) (m : mkA A g) (m' : mkA D g') (d : DwP A g u) (d' : DwP D g' v) (gu : GbI u (qI A 0 52).toInt) : nzN (qI u 53) (qI u 0 105).toInt.toNat = nzN (qI v 53) (qI v 0 105).toInt.toNat := by
  have e52 : qI D 0 52 = qI A 0 52 := s.2.2 52 (by decide) (by decide)
  have cn := k.cnt
  obtain ⟨a1, a2, a3, a4, a5, a6⟩ := d
  obtain ⟨b1, b2, b3, b4, b5, b6⟩ := d'
  unfold mkA at m'
  rw [e52] at m' b1 b2 b3 b4
  have gg : ∀ j : Nat, (j : Int) ≤ (qI A 0 52).toInt → ((g j).toInt = 1 ↔ (g' j).toInt = 1) := fun j hj => ((m j hj).trans (stM.mv s j).symm).trans (m' j hj).symm
  have cc : ∀ n : Nat, (n : Int) ≤ (qI A 0 52).toInt → cnG g n = cnG g' n := fun n hn => cnG_eq n (fun j hj => gg j (by omega))
  have e105 : (qI v 0 105).toInt = (qI u 0 105).toInt := by rw [a1, b1, cc _ (by omega)]
  have e50 : ∀ j : Nat, (j : Int) < (qI A 0 52).toInt → (qI v 50 j).toInt = (qI u 50 j).toInt := fun j hj => by rw [a2 j hj, b2 j hj, cc _ (by omega)]
  have e49 : ∀ b : Nat, (b : Int) ≤ (qI u 0 105).toInt → (qI v 49 b).toInt = (qI u 49 b).toInt := fun b hb => by
    by_cases q : b < cnG g (qI A 0 52).toInt.toNat
    · obtain ⟨j, j1, j2, j3⟩ := cnG_on _ b q
      have x1 := a3 j (by omega) j2
      have x2 := b3 j (by omega) ((gg j (by omega)).mp j2)
      rw [← cc j (by omega), j3] at x2
      rw [j3] at x1
      rw [x1, x2]
    · have e : b = cnG g (qI A 0 52).toInt.toNat := by omega
      rw [e, a4, cc _ (by omega), b4]
  have ee : ∀ b c : Nat, (b : Int) < (qI u 0 105).toInt → (eG v b c ↔ eG u b c) := fun b c hb => by
    rw [a5 b c hb, b5 b c (by omega)]
    have gb := gu.2.1
    have xr : (qI u 49 (b + 1)).toInt ≤ (qI A 0 52).toInt ∧ 1 ≤ (qI u 49 (b + 1)).toInt := by
      by_cases z : (b : Int) + 1 < (qI u 0 105).toInt
      · have := gb (b + 1) (by omega); omega
      · have e : b + 1 = (qI u 0 105).toInt.toNat := by omega
        rw [e, gu.2.2.2.1]; omega
    have eo : ∀ x : Int32, f_op D x = f_op A x := fun x => (s.op x).1
    have eg : ∀ o : Int32, f_goesOn D o = f_goesOn A o := fun _ => rfl
    have ei : ∀ x t : Int32, f_isCaught D x t = f_isCaught A x t := fun x t => s.ic x t
    have ec : ∀ t w : Int32, f_catchWord D t w = f_catchWord A t w := fun t w => s.cw t w
    have e1' : ∀ x : Int32, f_ways D x = f_ways A x := fun x => (s.wy x 0).1
    have e2' : ∀ x y : Int32, f_way D x y = f_way A x y := fun x y => (s.wy x y).2
    have e54 : qI D 0 54 = qI A 0 54 := s.2.2 54 (by decide) (by decide)
    unfold edC edN edW edT
    rw [e52, e54, e49 (b + 1) (by omega)]
    simp only [eo, eg, ei, ec, e1', e2']
    have W : ∀ (x k' : Int32), x.toInt = (qI u 49 (b + 1)).toInt - 1 → 0 ≤ k'.toInt → k'.toInt < (f_ways A x).toInt → (qI v 50 (f_way A x k').toInt.toNat).toInt = (qI u 50 (f_way A x k').toInt.toNat).toInt := fun x k' ex k0 k1 => by
      have := (k.ways (x := x) (by omega)).2.2 k' k0 k1
      exact e50 _ (by omega)
    have T : ∀ t : Int32, 0 ≤ t.toInt → t.toInt < (qI A 0 54).toInt → (qI v 50 (f_catchWord A t 2).toInt.toNat).toInt = (qI u 50 (f_catchWord A t 2).toInt.toNat).toInt := fun t t0 t1 => by
      have := (k.cw (c := t) ⟨t0, t1⟩).2.2.1
      exact e50 _ (by omega)
    constructor
    · rintro ⟨x, ex, (q | ⟨k', y1, y2, y3⟩) | ⟨t, y1, y2, y3, y4⟩⟩
      · exact ⟨x, ex, Or.inl (Or.inl q)⟩
      · exact ⟨x, ex, Or.inl (Or.inr ⟨k', y1, y2, by rw [← W x k' ex y1 y2]; exact y3⟩)⟩
      · exact ⟨x, ex, Or.inr ⟨t, y1, y2, y3, by rw [← T t y1 y2]; exact y4⟩⟩
    · rintro ⟨x, ex, (q | ⟨k', y1, y2, y3⟩) | ⟨t, y1, y2, y3, y4⟩⟩
      · exact ⟨x, ex, Or.inl (Or.inl q)⟩
      · exact ⟨x, ex, Or.inl (Or.inr ⟨k', y1, y2, by rw [W x k' ex y1 y2]; exact y3⟩)⟩
      · exact ⟨x, ex, Or.inr ⟨t, y1, y2, y3, by rw [T t y1 y2]; exact y4⟩⟩
  rw [e105]
  refine nzN_eq _ (fun b hb => ?_)
  have f1 : ¬ (qI u 53 b).toInt = 0 → ¬ (qI v 53 b).toInt = 0 := a6.2.2 (fun b => ¬ (qI v 53 b).toInt = 0) b6.1 (fun b' c' hb' nb eg => b6.2.1 b' c' (by omega) nb ((ee b' c' hb').mpr eg)) b (by omega)
  have f2 : ¬ (qI v 53 b).toInt = 0 → ¬ (qI u 53 b).toInt = 0 := b6.2.2 (fun b => ¬ (qI u 53 b).toInt = 0) a6.1 (fun b' c' hb' nb eg => a6.2.1 b' c' (by omega) nb ((ee b' c' (by omega)).mp eg)) b (by omega)
  constructor
  · intro q
    by_cases z : (qI v 53 b).toInt = 0
    · exact z
    · exact absurd q (f2 z)
  · intro q
    by_cases z : (qI u 53 b).toInt = 0
    · exact z
    · exact absurd q (f1 z)
/-! graph again: how many blocks are reached hangs on the File alone (behind sp_draw2, DwP.uq) -/
def rwQ (S : MS) (f : Nat) (A : MS) : Prop := qI A (qO S f 18) = qI S (qO S f 18) ∧ qI A (qO S f 19) = qI S (qO S f 19) ∧ qI A (qO S f 20) = qI S (qO S f 20)
/-- n blocks of method m of File f are reached -/
def GnA (S : MS) (f m n : Nat) : Prop := ∃ (A u : MS) (g : Nat → Int32), LoP S f m A ∧ rwQ S f A ∧ LkI A ∧ mkA A g ∧ DwP A g u ∧ GbI u (qI A 0 52).toInt ∧ n = nzN (qI u 53) (qI u 0 105).toInt.toNat
theorem GnA.uq {S : MS} {f m n n' : Nat} (h : GnA S f m n) (k : GnA S f m n') : n = n' := by
  obtain ⟨A, u, g, a1, a2, a3, a4, a5, a6, a7⟩ := h
  obtain ⟨B, v, g', b1, b2, b3, b4, b5, b6, b7⟩ := k
  have s : smQ A B := by
    obtain ⟨⟨_, x2, x3, x4⟩, x5, x6, x7, x8⟩ := a1
    obtain ⟨⟨_, y2, y3, y4⟩, y5, y6, y7, y8⟩ := b1
    have o48 : qO A 0 48 = qO S f 18 := by unfold qO; rw [x2]
    have o49 : qO A 0 49 = qO S f 19 := by unfold qO; rw [x3]
    have o50 : qO A 0 50 = qO S f 20 := by unfold qO; rw [x4]
    have p48 : qO B 0 48 = qO S f 18 := by unfold qO; rw [y2]
    have p49 : qO B 0 49 = qO S f 19 := by unfold qO; rw [y3]
    have p50 : qO B 0 50 = qO S f 20 := by unfold qO; rw [y4]
    refine ⟨⟨by rw [o48, p48], by rw [o49, p49], by rw [o50, p50]⟩, ⟨by rw [o48, a2.1, b2.1], by rw [o49, a2.2.1, b2.2.1], by rw [o50, a2.2.2, b2.2.2]⟩, fun j j1 j2 => ?_⟩
    have : j = 51 ∨ j = 52 ∨ j = 53 ∨ j = 54 := by omega
    rcases this with e | e | e | e <;> subst e
    · rw [x5, y5]
    · rw [x6, y6]
    · rw [x7, y7]
    · rw [x8, y8]
  rw [a7, b7]
  exact DwP.uq a3 s a4 b4 a5 b5 a6
theorem GnA.mv {S V : MS} {f m n : Nat} (h : GnA S f m n) (r : qR V f 18 = qR S f 18 ∧ qR V f 19 = qR S f 19 ∧ qR V f 20 = qR S f 20) (e : qI V (qO S f 18) = qI S (qO S f 18) ∧ qI V (qO S f 19) = qI S (qO S f 19) ∧ qI V (qO S f 20) = qI S (qO S f 20)) (l : qI V (f + 10) m = qI S (f + 10) m ∧ qI V (f + 11) m = qI S (f + 11) m ∧ qI V (f + 12) m = qI S (f + 12) m ∧ qI V (f + 13) m = qI S (f + 13) m) : GnA V f m n := by
  obtain ⟨A, u, g, a1, a2, a3⟩ := h
  refine ⟨A, u, g, ?_, ?_, a3⟩
  · unfold LoP
    rw [r.1, r.2.1, r.2.2, l.1, l.2.1, l.2.2.1, l.2.2.2]
    exact a1
  · have o1 : qO V f 18 = qO S f 18 := by unfold qO; rw [r.1]
    have o2 : qO V f 19 = qO S f 19 := by unfold qO; rw [r.2.1]
    have o3 : qO V f 20 = qO S f 20 := by unfold qO; rw [r.2.2]
    unfold rwQ
    rw [o1, o2, o3, e.1, e.2.1, e.2.2]
    exact a2
def GrJ (S : MS) : Prop := (qI S 0 106).toInt < 0 ∨ ∃ f : Nat, (0 ≤ (qI S 0 106).toInt ∧ (qI S 0 106).toInt < (qI S 0 1).toInt) ∧ qR S 1 (qI S 0 106).toInt.toNat = some f ∧ 92 < f ∧ GbI S (qI S (f + 11) (qI S 0 107).toInt.toNat).toInt ∧ GeI S ∧ GnA S f (qI S 0 107).toInt.toNat (nzN (qI S 53) (qI S 0 105).toInt.toNat)
theorem sp_graph2 {S : MS} {x m : Int32} {f : Nat} (g : GrJ S) (hc : (qI S 0 1).toInt ≤ 12) (hx : 0 ≤ x.toInt ∧ x.toInt < (qI S 0 1).toInt) (hr : qR S 1 x.toInt.toNat = some f) (hf : FlI S f) (hm : 0 ≤ m.toInt ∧ m.toInt < (qI S f 4).toInt) : w_graph S x m (fun u => GrJ u ∧ GbI u (qI S (f + 11) m.toInt.toNat).toInt ∧ GeI u ∧ GnA S f m.toInt.toNat (nzN (qI u 53) (qI u 0 105).toInt.toNat)) := by
  have f92 := hf.1.1.1
  have hh : 92 < qO S f 18 ∧ 92 < qO S f 19 ∧ 92 < qO S f 20 := by
    obtain ⟨h1, h2, h3, h4, h5, R, T, C, nc, ts, cn, r1, r2, r3, r4, r5, r6⟩ := hf
    have e1 : qO S f 18 = R := by unfold qO; rw [r2.1]; rfl
    have e2 : qO S f 19 = T := by unfold qO; rw [r2.2.1]; rfl
    have e3 : qO S f 20 = C := by unfold qO; rw [r2.2.2]; rfl
    omega
  have j17 : w_graph_J17 (fun u => GrJ u ∧ GbI u (qI S (f + 11) m.toInt.toNat).toInt ∧ GeI u ∧ GnA S f m.toInt.toNat (nzN (qI u 53) (qI u 0 105).toInt.toNat)) S x m := by
    have o : qO S 1 x.toInt.toNat = f := by unfold qO; rw [hr]; rfl
    unfold w_graph_J17
    rw [o]
    refine ⟨⟨hx.1, by omega⟩, hr, _, fr_draw (sp_draw2 hf hm), ?_⟩
    rintro A ⟨⟨⟨gA, eA⟩, A0, g0, k1, k2, k3, k4, k5⟩, fA⟩
    refine ⟨_, sp_dominate eA, fun B fB => ⟨_, sp_loops (eA.fm fB (by decide) (by decide) (by decide) (by decide)), fun C fC D eD E eE => ?_⟩⟩
    have fE : frm [] [106, 107] C E := (show frm [] [106, 107] C D by rw [eD]; exact frm.pI0 (by decide)).tr (by rw [eE]; exact frm.pI0 (by decide))
    have e106 : qI E 0 106 = x := by rw [eE, qI_wI, if_neg (by decide), eD, qI_wI, if_pos ⟨rfl, rfl⟩]
    have e107 : qI E 0 107 = m := by rw [eE, qI_wI, if_pos ⟨rfl, rfl⟩]
    have gE : GbI E (qI S (f + 11) m.toInt.toNat).toInt := ((gA.fm fB (by decide) (by decide) (by decide)).fm fC (by decide) (by decide) (by decide)).fm fE (by decide) (by decide) (by decide)
    have dE : GeI E := ((eA.fm fB (by decide) (by decide) (by decide) (by decide)).fm fC (by decide) (by decide) (by decide) (by decide)).fm fE (by decide) (by decide) (by decide) (by decide)
    have fSE : frm [49, 50, 51, 52, 53, 54, 55, 56, 57, 58, 59] [47, 48, 49, 50, 51, 52, 53, 54, 105, 106, 107, 110] S E := (fA.mo (by decide) (by decide)).tr ((fB.mo (by decide) (by decide)).tr ((fC.mo (by decide) (by decide)).tr (fE.mo (by decide) (by decide))))
    have fAE : frm [54, 55, 56, 57, 58, 59] [106, 107] A E := (fB.mo (by decide) (by decide)).tr ((fC.mo (by decide) (by decide)).tr (fE.mo (by decide) (by decide)))
    have e53 : qI E 53 = qI A 53 := (fAE.2.2.2.2.1 53 (by decide) (by decide)).1
    have e105 : qI E 0 105 = qI A 0 105 := (fAE.2.2.2.2.2 105 (by decide)).1
    have gn : GnA S f m.toInt.toNat (nzN (qI E 53) (qI E 0 105).toInt.toNat) := by
      have n52 : qI A0 0 52 = qI S (f + 11) m.toInt.toNat := k3.2.2.1
      refine ⟨A0, A, g0, k3, ?_, k2, k4, k5, by rw [n52]; exact gA, by rw [e53, e105]⟩
      exact ⟨(k1.2.2.2.2.1 _ (by omega) List.not_mem_nil).1, (k1.2.2.2.2.1 _ (by omega) List.not_mem_nil).1, (k1.2.2.2.2.1 _ (by omega) List.not_mem_nil).1⟩
    have b := fun (a : Nat) (ha : 92 < a) => big_frm fSE (by decide) a ha
    refine ⟨Or.inr ⟨f, ?_, ?_, f92, ?_, dE, ?_⟩, gE, dE, gn⟩
    · rw [e106, (fSE.2.2.2.2.2 1 (by decide)).1]; exact hx
    · rw [e106, (fSE.2.2.2.2.1 1 (by decide) (by decide)).2.2]; exact hr
    · rw [e107, (b (f + 11) (by omega)).1]; exact gE
    · rw [e107]
      have r := (fSE.2.2.2.2.1 f (by omega) (fun q => by simp only [List.mem_cons, List.not_mem_nil, or_false] at q; omega)).2.2
      exact gn.mv ⟨by rw [r], by rw [r], by rw [r]⟩ ⟨(b _ hh.1).1, (b _ hh.2.1).1, (b _ hh.2.2).1⟩ ⟨by rw [(b _ (by omega)).1], by rw [(b _ (by omega)).1], by rw [(b _ (by omega)).1], by rw [(b _ (by omega)).1]⟩
  unfold w_graph
  refine ⟨fun c1 => ⟨fun c2 => ?_, fun _ => j17⟩, fun _ => j17⟩
  have e6 : qI S 0 106 = x := Int32.toInt_inj.mp c1
  have e7 : qI S 0 107 = m := Int32.toInt_inj.mp c2
  have g' := g
  rcases g with q | ⟨f', q1, q2, q3, q4, q5, q6⟩
  · omega
  · rw [e6] at q2
    rw [hr] at q2
    have ef : f = f' := by injection q2
    subst ef
    rw [e7] at q4 q6
    exact ⟨g', q4, q5, q6⟩
theorem sp_blocks2 {S : MS} {x m : Int32} (h : FsI VfI S) (g : GrJ S) : w_blocks S x m (fun _ u => GrJ u) := by
  unfold w_blocks
  refine ⟨_, sp_isMethod h, ?_⟩
  rintro r u ⟨eu, hr⟩
  subst eu
  refine ⟨fun _ => g, fun c => ?_⟩
  obtain ⟨f, q1, q2, q3, q4, q5, q6⟩ := hr c
  exact ⟨_, sp_graph2 g h.1.2 q1 q2 q3 ⟨q5, q6⟩, fun v hv => hv.1⟩
theorem sp_block2 {S : MS} {x m b w : Int32} (h : FsI VfI S) (g : GrJ S) : w_block S x m b w (fun _ u => GrJ u) := by
  unfold w_block
  refine ⟨_, sp_isMethod h, ?_⟩
  rintro r u ⟨eu, hr⟩
  subst eu
  refine ⟨fun _ => g, fun c => ?_⟩
  obtain ⟨f, q1, q2, q3, q4, q5, q6⟩ := hr c
  refine ⟨_, sp_graph2 g h.1.2 q1 q2 q3 ⟨q5, q6⟩, fun v hv => ?_⟩
  obtain ⟨v1, v2, v3, -⟩ := hv
  have bc := v3.1
  refine ⟨fun _ => v1, fun c0 => ⟨fun c1 => ?_, fun _ => v1⟩⟩
  have eb : (b + (1 : Int32)).toInt = b.toInt + 1 := by rw [t_add (by rw [li_1]; omega), li_1]
  rw [eb]
  have r1 : 0 ≤ b.toInt ∧ b.toInt < 1200 := by omega
  have r2 : 0 ≤ b.toInt ∧ b.toInt < 1201 := by omega
  have r3 : 0 ≤ b.toInt ∧ b.toInt < 1202 := by omega
  exact ⟨fun _ => ⟨r2, v1⟩, fun _ => ⟨fun _ => ⟨r1, fun _ => v1, fun _ => v1⟩, fun _ => ⟨fun _ => ⟨r1, v1⟩, fun _ => ⟨fun _ => ⟨r1, fun _ => v1, fun _ => v1⟩, fun _ => ⟨fun _ => ⟨r1, v1⟩, fun _ => ⟨fun _ => ⟨⟨by omega, by omega⟩, r3, v1⟩, fun _ => v1⟩⟩⟩⟩⟩⟩
theorem sp_edge2 {S : MS} {x m a b : Int32} (h : FsI VfI S) (g : GrJ S) : w_edge S x m a b (fun _ u => GrJ u) := by
  unfold w_edge
  refine ⟨_, sp_isMethod h, ?_⟩
  rintro r u ⟨eu, hr⟩
  subst eu
  refine ⟨fun _ => g, fun c => ?_⟩
  obtain ⟨f, q1, q2, q3, q4, q5, q6⟩ := hr c
  refine ⟨_, sp_graph2 g h.1.2 q1 q2 q3 ⟨q5, q6⟩, fun v hv => ?_⟩
  obtain ⟨v1, v2, v3, -⟩ := hv
  have bc := v3.1
  have ec := v3.2.1
  refine ⟨fun _ => v1, fun c0 => ⟨fun c1 => ⟨⟨by omega, by omega⟩, fun k ek => ?_⟩, fun _ => v1⟩⟩
  have ea : (a + (1 : Int32)).toInt = a.toInt + 1 := by rw [t_add (by rw [li_1]; omega), li_1]
  have e1 := v3.2.2.1 a.toInt.toNat (by omega)
  have e2 := v3.2.2.1 (a.toInt + 1).toNat (by omega)
  have L : ∀ (c : Nat) (k : Int32), 0 ≤ k.toInt → (24000 - k.toInt).toNat < c → w_edge_L39 (fun _ u => GrJ u) c v a b k := by
    intro c
    induction c with
    | zero => intro k _ h9; exact absurd h9 (Nat.not_lt_zero _)
    | succ c ih =>
      intro k k0 hc
      unfold w_edge_L39
      rw [ea]
      refine ⟨⟨by omega, by omega⟩, fun _ => v1, fun c2 => ⟨⟨k0, by omega⟩, fun _ => v1, fun _ a2 e2' => ?_⟩⟩
      have ek : (k + Int32.ofInt 1).toInt = k.toInt + 1 := by rw [t_add (by rw [lo_1]; omega), lo_1]
      subst e2'
      exact ih _ (by omega) (by omega)
  exact ⟨_, L _ k (by rw [ek]; exact e1.1) (Nat.lt_succ_self _)⟩
/-! the name of a counter (behind sp_ini, sp_toS, TxI) -/
theorem neg_t {x : Int32} (h : 0 ≤ x.toInt ∧ x.toInt ≤ 1000) : (-x).toInt = -x.toInt := by
  rw [Int32.toInt_neg, Int.bmod_def]
  split <;> omega
theorem sp_sSize {S : MS} {x : Int32} (h : 0 ≤ x.toInt ∧ x.toInt < 24) : w_J6_stringSize_0f7a4 S x (fun r u => u = S ∧ (r.toInt = 1 ∧ x.toInt ≤ 9 ∨ r.toInt = 2 ∧ 10 ≤ x.toInt)) := by
  have en := neg_t (x := x) (by omega)
  have m10 : (-10 : Int32).toInt = -10 := by decide
  have l1 : (1 : Int32).toInt = 1 := by decide
  unfold w_J6_stringSize_0f7a4
  refine ⟨fun q => absurd q (by omega), fun _ a ea => ?_⟩
  subst ea
  unfold w_J6_stringSize_0f7a4_J11
  refine ⟨2, ?_⟩
  unfold w_J6_stringSize_0f7a4_L16
  rw [en, m10, l1]
  refine ⟨fun q => absurd q (by decide), fun _ => ⟨fun c1 a5 e5 a6 e6 => ?_, fun c1 => ⟨rfl, Or.inl ⟨by decide, by omega⟩⟩⟩⟩
  subst e5
  subst e6
  unfold w_J6_stringSize_0f7a4_L16
  have t5 : ((10 : Int32) * (-10 : Int32)).toInt = -100 := by decide
  have t6 : ((1 : Int32) + Int32.ofInt 1).toInt = 2 := by decide
  rw [en, t5, t6]
  exact ⟨fun q => absurd q (by decide), fun _ => ⟨fun c2 => absurd c2 (by omega), fun _ => ⟨rfl, Or.inr ⟨by decide, by omega⟩⟩⟩⟩
/-- no growth: the place is there -/
theorem sp_ens {S : MS} {b v cap : Nat} {x : Int32} {Q : MS → Prop} (h1 : qR S b 0 = some v) (h2 : qI S b 1 = 0) (h3 : qN S v = cap) (hc : cap ≤ 1000) (hx : 0 ≤ x.toInt ∧ x.toInt ≤ cap) (hQ : Q S) : w_J5_ensureCapacityInternal_d00df S b x Q := by
  have qo : qO S b 0 = v := by unfold qO; rw [h1]; rfl
  unfold w_J5_ensureCapacityInternal_d00df
  rw [qo, h3, h2, z_shr]
  refine ⟨h1, fun a4 e4 => ?_⟩
  have e5 : (x - a4).toInt = x.toInt - cap := by rw [t_sub (by rw [e4, oN (by omega)]; omega), e4, oN (by omega)]
  rw [e5]
  exact ⟨fun _ => hQ, fun q => absurd q (by omega)⟩
theorem sp_cname {U : MS} {x : Int32} {K : Nat → MS → Prop} (tx : TxI U) (hk : knI U) (hx : 0 ≤ x.toInt ∧ x.toInt < 24) (hr : qn U + 4 ≤ KC ∧ qu U + 32 ≤ KS) (D : MS) (eD : D = wN U 13 0 4) (sub : MS → Int32) (hs : ∀ V : MS, (∀ a : Nat, a < qn U → sm5 U V a) → sub V = x) (hK : ∀ (r : Nat) (u : MS), r = qn U + 2 → (∃ (n : Nat) (g : Nat → Int32), (2 ≤ n ∧ n ≤ 3) ∧ StI u r n g) → exS U u 4 32 → K r u) : ∃ Q52, w_J4_init_da8c8 D (qn U) Q52 ∧ ∀ S53, Q52 S53 → (∃ Q57, w_J4_append_15ec4 S53 (qn U) 10000036 Q57 ∧ ∀ b62 S59, Q57 b62 S59 → (∃ Q64, w_J4_append_bf812 S59 b62 (sub S59) Q64 ∧ ∀ b69 S66, Q64 b69 S66 → (∃ Q70, w_J4_toString_0e30d S66 b69 Q70 ∧ ∀ b75 S72, Q70 b75 S72 → K b75 S72))) := by
  obtain ⟨n1, n2, n3, n4, n5, n6⟩ := wN_new (S := U) (t := 13) (n := 0) (k := 4)
  rw [← eD] at n1 n2 n3 n4 n5 n6
  have sD : ∀ a : Nat, a ≠ qn U → sm5 U D a := fun a ha => by rw [eD]; exact sm5.wN ha
  have k93 := hk.1
  have kKC : KC = 300000 := rfl
  have t16 : (16 : Int32).toInt = 16 := by decide
  have ini := sp_ini (S := D) (b := qn U) (n := 16) (by omega) ⟨by rw [n1], by rw [n1]⟩ (by omega) ⟨by omega, by omega⟩
  unfold w_J4_init_d00df at ini
  refine ⟨_, by unfold w_J4_init_da8c8; exact ini, ?_⟩
  rintro B ⟨⟨b1, b2, ⟨b3, b4⟩, b5, b6, b7, b8⟩, qB, uB, fB⟩
  rw [n5] at b1 b2 b5 b7 b8 qB fB
  rw [show (16 : Int32).toInt.toNat = 16 by decide] at b5 b6 uB
  have sB : ∀ a : Nat, a ≠ qn U → a ≠ qn U + 1 → sm5 U B a := fun a h1 h2 => (sD a h1).tr (fB a h1 h2)
  have eTX : (10000036 : Nat) = TXB + 2 * 18 := rfl
  have tB : TXB = 10000000 := rfl
  obtain ⟨x1, x2, x3⟩ := tx 18 (by decide)
  have s37 : sm5 U B (10000036 + 1) := sB _ (by omega) (by omega)
  have N37 : qN B (10000036 + 1) = 1 := by rw [s37.2.2.2.2]; exact x2
  have b3n : (qI B (qn U) 3).toInt = 0 := by rw [b4]; decide
  have e01 : (qI B (qn U) 3 + Int32.ofNat 1).toInt = 1 := by rw [b4]; decide
  have qoB : qO B (qn U) 0 = qn U + 1 := by unfold qO; rw [b1]; rfl
  -- the letter c
  refine ⟨fun r C => r = qn U ∧ (qR C (qn U) 0 = some (qn U + 1) ∧ qI C (qn U) 1 = 0 ∧ (qI C (qn U) 3).toInt = 1 ∧ qN C (qn U + 1) = 16 ∧ byt C (qn U + 1)) ∧ (qn C = qn U + 2 ∧ qu C = qu U + 20) ∧ ∀ a : Nat, a ≠ qn U → a ≠ qn U + 1 → sm5 U C a, ?_, ?_⟩
  · unfold w_J4_append_15ec4 w_J5_append_cf1ce
    refine ⟨fun _ C => (qR C (qn U) 0 = some (qn U + 1) ∧ qI C (qn U) 1 = 0 ∧ (qI C (qn U) 3).toInt = 1 ∧ qN C (qn U + 1) = 16 ∧ byt C (qn U + 1)) ∧ (qn C = qn U + 2 ∧ qu C = qu U + 20) ∧ ∀ a : Nat, a ≠ qn U → a ≠ qn U + 1 → sm5 U C a, fun a2 e2 => ?_, fun b6 C hC => ⟨rfl, hC⟩⟩
    rw [N37] at e2
    subst e2
    refine ⟨fun V => V = B, sp_ens b1 b3 b5 (by omega) (by omega) rfl, ?_⟩
    rintro V rfl
    unfold w_J5_putStringAt_47b60 w_J5_inflateIfNeededFor_a7421
    refine ⟨fun V' => qR V' (qn U) = qR V (qn U) ∧ qI V' (qn U) = qI V (qn U) ∧ qN V' = qN V ∧ byt V' (qn U + 1) ∧ (qn V' = qn V ∧ qu V' = qu V) ∧ ∀ a : Nat, a ≠ qn U + 1 → sm5 V V' a, ⟨fun W => W = V, ⟨fun _ => rfl, fun q => absurd (by rw [b3]; rfl) q⟩, ?_⟩, ?_⟩
    · rintro W rfl
      rw [qoB]
      refine ⟨b1, fun V' => qR V' (qn U) = qR W (qn U) ∧ qI V' (qn U) = qI W (qn U) ∧ qN V' = qN W ∧ byt V' (qn U + 1) ∧ (qn V' = qn W ∧ qu V' = qu W) ∧ ∀ a : Nat, a ≠ qn U + 1 → sm5 W V' a, ?_, fun S7 h7 => h7⟩
      unfold w_J0_getBytes_840e7
      rw [b3, z_shl, N37, b5]
      have c1 : (Int32.ofNat 1).toNatClampNeg = 1 := by decide
      have c0 : (qI W (qn U) 3).toNatClampNeg = 0 := by show (qI W (qn U) 3).toInt.toNat = 0; rw [b3n]; rfl
      rw [c1, c0]
      have fx : byt W (10000036 + 1) := fun i => by
        rw [s37.1]
        have := x3 i
        rw [show TXB + 2 * 18 + 1 = 10000036 + 1 from rfl] at this
        rw [this]
        have es : sBr.getD 18 [] = [99] := by decide
        rw [es]
        cases i with
        | zero => decide
        | succ i => exact fit0
      refine ⟨fun _ => ⟨⟨18, by decide, rfl⟩, ⟨18, by decide, rfl⟩, ⟨by decide, fun q => ?_, by decide, by decide, by decide, fx⟩, fun X eX => ?_⟩, fun q => absurd rfl q⟩
      · have := Int32.lt_iff_toInt_lt.mp q
        rw [b3n] at this
        exact absurd this (by decide)
      · have XI : qI X (qn U + 1) = va_cpy (qI W (10000036 + 1)) (qI W (qn U + 1)) (0 : Int32).toNatClampNeg 0 1 := by rw [eX]; exact if_pos rfl
        have sX : ∀ a : Nat, a ≠ qn U + 1 → sm5 W X a := fun a ha => by rw [eX]; exact sm5.wC ha
        refine ⟨(sX _ (by omega)).2.2.1, (sX _ (by omega)).1, by rw [eX]; rfl, fun i => ?_, ⟨by rw [eX]; rfl, by rw [eX]; rfl⟩, sX⟩
        rw [XI]
        show fits .byte (.int (if 0 ≤ i ∧ i < 0 + 1 then qI W (10000036 + 1) (0 + (i - 0)) else qI W (qn U + 1) i)) = true
        by_cases q : 0 ≤ i ∧ i < 0 + 1
        · rw [if_pos q]; exact fx _
        · rw [if_neg q]; exact b8 i
    · rintro W ⟨w1, w2, w3, w4, w5, w6⟩ X eX
      have sX : ∀ a : Nat, a ≠ qn U → sm5 W X a := fun a ha => by rw [eX]; exact sm5.wI ha
      refine ⟨⟨by rw [eX]; show qR W (qn U) 0 = _; rw [w1]; exact b1, by rw [eX, qI_wI, if_neg (fun q => absurd q.2 (by decide)), w2]; exact b3, by rw [eX, qI_wI, if_pos ⟨rfl, rfl⟩, w2]; exact e01, by rw [eX]; show qN W _ = _; rw [w3]; exact b5, fun i => by rw [(sX (qn U + 1) (by omega)).1]; exact w4 i⟩, ⟨by rw [eX]; show qn W = _; rw [w5.1, qB], by rw [eX]; show qu W = _; rw [w5.2, uB, n6]⟩, fun a a1 a2 => ((sB a a1 a2).tr (w6 a a2)).tr (sX a a1)⟩
  rintro _ C ⟨rfl, ⟨c1, c2, c3, c4, c5⟩, ⟨c6, c7⟩, c8⟩
  rw [hs C (fun a ha => c8 a (by omega) (by omega))]
  have qoC : qO C (qn U) 0 = qn U + 1 := by unfold qO; rw [c1]; rfl
  -- the number
  refine ⟨fun r E => r = qn U ∧ (∃ n : Nat, (2 ≤ n ∧ n ≤ 3) ∧ BdI E (qn U) (qn U + 1) n 16 (qI E (qn U + 1))) ∧ (qn E = qn U + 2 ∧ qu E = qu U + 20) ∧ ∀ a : Nat, a ≠ qn U → a ≠ qn U + 1 → sm5 U E a, ?_, ?_⟩
  · unfold w_J4_append_bf812 w_J5_append_c97b9
    refine ⟨fun _ E => (∃ n : Nat, (2 ≤ n ∧ n ≤ 3) ∧ BdI E (qn U) (qn U + 1) n 16 (qI E (qn U + 1))) ∧ (qn E = qn U + 2 ∧ qu E = qu U + 20) ∧ ∀ a : Nat, a ≠ qn U → a ≠ qn U + 1 → sm5 U E a, fun a1 e1 => ⟨_, sp_sSize hx, ?_⟩, fun b6 E hE => ⟨rfl, hE⟩⟩
    rintro r3 V ⟨rfl, hr3⟩ a7 e7
    have a1t : a1.toInt = 1 := by rw [e1]; exact c3
    have a7t : a7.toInt = 1 + r3.toInt := by rw [e7, t_add (by omega), a1t]
    refine ⟨fun W => W = V, sp_ens c1 c2 c4 (by omega) (by omega) rfl, ?_⟩
    rintro W rfl
    have z0 : (qI W (qn U) 1).toInt = 0 := by rw [c2]; rfl
    unfold d_J5_isLatin1_aae02 f_J5_isLatin1_aae02
    rw [if_pos z0, if_pos z0, qoC]
    refine ⟨trivial, fun q => absurd q (by decide), fun _ => ⟨c1, fun _ E => byt E (qn U + 1) ∧ qN E = qN W ∧ (qn E = qn W ∧ qu E = qu W) ∧ ∀ a : Nat, a ≠ qn U + 1 → sm5 W E a, ?_, ?_⟩⟩
    · have en := neg_t (x := x) (by omega)
      have ex : -(-x) = x := by rw [Int32.neg_neg]
      have wr : ∀ (V X : MS) (i : Nat) (v : Int32), (byt V (qn U + 1) ∧ qN V = qN W ∧ (qn V = qn W ∧ qu V = qu W) ∧ ∀ a : Nat, a ≠ qn U + 1 → sm5 W V a) → X = wI V (qn U + 1) i (vp_nar .byte v) → (byt X (qn U + 1) ∧ qN X = qN W ∧ (qn X = qn W ∧ qu X = qu W) ∧ ∀ a : Nat, a ≠ qn U + 1 → sm5 W X a) := fun V X i v hV eX => by
        refine ⟨fun j => ?_, by rw [eX]; exact hV.2.1, by rw [eX]; exact hV.2.2.1, fun a ha => (hV.2.2.2 a ha).tr (by rw [eX]; exact sm5.wI ha)⟩
        rw [eX, qI_wI]
        by_cases q : qn U + 1 = qn U + 1 ∧ j = i
        · rw [if_pos q]; exact fitB _
        · rw [if_neg q]; exact hV.1 j
      have h0 : byt W (qn U + 1) ∧ qN W = qN W ∧ (qn W = qn W ∧ qu W = qu W) ∧ ∀ a : Nat, a ≠ qn U + 1 → sm5 W W a := ⟨c5, rfl, ⟨rfl, rfl⟩, fun _ _ => sm5.rf⟩
      unfold w_J6_getChars_ba4f3 w_J6_getChars_ba4f3_J12
      refine ⟨fun _ => ⟨fun _ a36 e36 => ⟨1, ?_⟩, fun q => absurd rfl q⟩, fun q => absurd hx.1 q⟩
      subst e36
      have lm : (Int32.ofInt (-1)).toInt = -1 := by decide
      unfold w_J6_getChars_ba4f3_L22
      rw [ex, en]
      refine ⟨fun _ a2 e2 => ?_, fun q => absurd q (by omega)⟩
      have a2t : a2.toInt = r3.toInt := by rw [e2, t_add (by rw [lm]; omega), lm, a7t]; omega
      refine ⟨by omega, ⟨by omega, by rw [c4]; omega⟩, fun X eX => ?_⟩
      have hX := wr W X _ _ h0 eX
      unfold w_J6_getChars_ba4f3_J104
      refine ⟨fun _ => ⟨fun _ => hX, fun q => absurd rfl q⟩, fun c9 a13 e13 => ?_⟩
      have a13t : a13.toInt = a2.toInt - 1 := by rw [e13, t_add (by rw [lm]; omega), lm]; omega
      exact ⟨by omega, ⟨by omega, by rw [hX.2.1, c4]; omega⟩, fun Y eY => ⟨fun _ => wr X Y _ _ hX eY, fun q => absurd rfl q⟩⟩
    · rintro r19 E ⟨y1, y2, y3, y4⟩ X eX
      have sX : ∀ a : Nat, a ≠ qn U → sm5 E X a := fun a ha => by rw [eX]; exact sm5.wI ha
      have s0 := y4 (qn U) (by omega)
      refine ⟨⟨a7.toInt.toNat, by omega, by rw [eX]; show qR E (qn U) 0 = _; rw [s0.2.2.1]; exact c1, by omega, ⟨by rw [eX, qI_wI, if_neg (fun q => absurd q.2 (by decide)), s0.1]; exact c2, ?_⟩, by rw [eX]; show qN E _ = _; rw [y2]; exact c4, by omega, fun i _ => rfl, fun i => by rw [(sX (qn U + 1) (by omega)).1]; exact y1 i⟩, ⟨by rw [eX]; show qn E = _; rw [y3.1, c6], by rw [eX]; show qu E = _; rw [y3.2, c7]⟩, fun a a1' a2' => ((c8 a a1' a2').tr (y4 a a2')).tr (sX a a1')⟩
      rw [eX, qI_wI, if_pos ⟨rfl, rfl⟩]
      exact Int32.toInt_inj.mp (by rw [oN (by omega)]; omega)
  rintro _ E ⟨rfl, ⟨n, hn, bd⟩, ⟨e1, e2⟩, e3⟩
  refine ⟨_, sp_toS bd ⟨by omega, by omega⟩ ⟨by omega, by omega⟩, ?_⟩
  rintro r u ⟨rfl, u1, u2, u3, u4⟩
  refine hK _ u (by omega) ⟨n, _, hn, u1⟩ ⟨fun a ha => ?_, by omega, by omega⟩
  exact (e3 a (by omega) (by omega)).tr (u4 a (by omega))
/-! count: one method, and the loop over the methods (behind sp_graph2, sp_takeMethod, sp_putMethod, gb_rc, DmI) -/
/-- a method of the draft, with counters; X fields -/
def DmJ (S : MS) (f : Nat) (X : Int) (U : MS) (m : Nat) : Prop := MtD (qI U 74) (qI U 75) (qI U 76) (qI U 0 122).toInt 40000 (qI U 0 123).toInt (qI S (f + 9) m).toInt X (qI S f 4).toInt (qI U 70 m) (qI U 71 m) (qI U 72 m) (qI U 73 m) ∧ ∀ p : Nat, (p : Int) < (qI U 71 m).toInt → (qI U 74 (3 * ((qI U 70 m).toInt.toNat + p))).toInt = 170 ∨ (qI U 74 (3 * ((qI U 70 m).toInt.toNat + p))).toInt = 171 → ∃ j : Nat, (j : Int) < mL S f m ∧ rwS (mR S f) (mF S f m) j ∧ (qI U 74 (3 * ((qI U 70 m).toInt.toNat + p) + 1)).toInt = (rwA (mR S f) (mF S f m) j).toInt ∧ (qI U 74 (3 * ((qI U 70 m).toInt.toNat + p) + 2)).toInt = (rwB (mR S f) (mF S f m) j).toInt
theorem DmJ.mv {S U u : MS} {f m n : Nat} {B : Nat} {X : Int} (h : DmJ S f X U m) (tb : TbF S f) (mn : m < n) (hn : (n : Int) < (qI S f 4).toInt) (eB : (qI U 0 122).toInt = B) (e1 : (B : Int) ≤ (qI u 0 122).toInt) (e2 : 0 ≤ (qI U 0 123).toInt ∧ (qI U 0 123).toInt ≤ (qI u 0 123).toInt) (k1 : ∀ j : Nat, j < 3 * B → qI u 74 j = qI U 74 j) (k2 : ∀ j : Nat, j < 4 * (qI U 0 123).toInt.toNat → qI u 76 j = qI U 76 j) (k3 : ∀ q : Nat, ouT S f n q → qI u 75 q = qI U 75 q) (s1 : sameBut U u 70 n) (s2 : sameBut U u 71 n) (s3 : sameBut U u 72 n) (s4 : sameBut U u 73 n) : DmJ S f X u m := by
  have ne : m ≠ n := by omega
  obtain ⟨⟨d1, d2, d3, d4, d5, d6, d7, d8, d9⟩, d10⟩ := h
  rw [eB] at d3
  have rr : ∀ p : Nat, (p : Int) < (qI U 71 m).toInt → qI u 74 (3 * ((qI U 70 m).toInt.toNat + p)) = qI U 74 (3 * ((qI U 70 m).toInt.toNat + p)) ∧ qI u 74 (3 * ((qI U 70 m).toInt.toNat + p) + 1) = qI U 74 (3 * ((qI U 70 m).toInt.toNat + p) + 1) ∧ qI u 74 (3 * ((qI U 70 m).toInt.toNat + p) + 2) = qI U 74 (3 * ((qI U 70 m).toInt.toNat + p) + 2) := fun p hp => ⟨k1 _ (by omega), k1 _ (by omega), k1 _ (by omega)⟩
  unfold DmJ
  rw [s1 m ne, s2 m ne, s3 m ne, s4 m ne]
  refine ⟨⟨d1, d2, by omega, fun i hi => ?_, ?_, d6, d7, by omega, fun c hc => ?_⟩, fun p hp hw => ?_⟩
  · have r := d4 i hi
    obtain ⟨q1, q2, q3⟩ := rr i hi
    unfold rOK at r ⊢
    rw [q1, q2, q3]
    refine ⟨r.1, r.2.1, fun w => ?_, r.2.2.2⟩
    obtain ⟨y1, y2, y3, y4, y5, y6⟩ := r.2.2.1 w
    refine ⟨y1, y2, y3, y4, fun k hk => ?_, y6⟩
    obtain ⟨j, j1, j2, j3, j4⟩ := d10 i hi w
    rw [k3 _ (fun i2 hi2 w2 y => ?_)]
    · exact y5 k hk
    · have := tb m n j i2 hn j1 hi2 (Or.inl mn) j2 w2
      omega
  · rw [wtS_eq2 (R := qI U 74) _ (fun i hi => ⟨(rr i (by omega)).1, (rr i (by omega)).2.2⟩)]
    exact d5
  · exact (d9 c hc).mv (fun j hj => k2 j (by omega))
  · obtain ⟨q1, q2, q3⟩ := rr p hp
    rw [q1] at hw
    rw [q2, q3]
    exact d10 p hp hw
theorem DmI.j {S U : MS} {f m : Nat} (h : DmI S f U m) : DmJ S f (qI S f 3).toInt U m := ⟨h.1.d, h.2⟩
theorem FsI.f9 {S u : MS} {W J : List Nat} (h : FsI VfI S) (hk : knI S) (k : frm W J S u) (hW : ∀ w ∈ W, w ≠ 1 ∧ w ≤ 92) (hJ : 1 ∉ J) : FsI VfI u := by
  have kb := big_frm k (fun w q => (hW w q).2)
  exact h.mv VfI.st hk (fun a a0 _ => kb a a0) (fun a ha => kb a (by rw [show TXB = 10000000 from rfl] at ha; omega)) (by rw [k.2.2.1]; exact Nat.le_refl _) (k.2.2.2.2.2 1 hJ).1 (k.2.2.2.2.1 1 (by decide) (fun q => (hW 1 q).1 rfl)).2.2
theorem knI.f9 {S u : MS} {W J : List Nat} (h : knI S) (k : frm W J S u) : knI u := by
  unfold knI
  rw [k.1, k.2.2.1]
  exact h
theorem GrJ.mv {S V : MS} (h : GrJ S) (F : FsI VfI S) (k : ∀ a : Nat, 92 < a → a < qn S → sm6 S V a) (e0 : qI V 0 1 = qI S 0 1 ∧ qI V 0 105 = qI S 0 105 ∧ qI V 0 106 = qI S 0 106 ∧ qI V 0 107 = qI S 0 107 ∧ qI V 0 110 = qI S 0 110) (e1 : qR V 1 = qR S 1) (e2 : qI V 49 = qI S 49 ∧ qI V 50 = qI S 50 ∧ qI V 51 = qI S 51 ∧ qI V 52 = qI S 52 ∧ qI V 53 = qI S 53) : GrJ V := by
  unfold GrJ
  rw [e0.1, e0.2.1, e0.2.2.1, e0.2.2.2.1, e1, e2.2.2.2.2]
  rcases h with q | ⟨f, q1, q2, q3, q4, q5, q6⟩
  · exact Or.inl q
  obtain ⟨f', y1, y2, _⟩ := F.2 (qI S 0 106).toInt.toNat (by omega)
  have ef : f' = f := by rw [y1] at q2; injection q2
  subst ef
  have y2' := y2
  obtain ⟨h1, h2, h3, h4, h5, R, T, C, nc, ts, cn, r1, r2, r3, r4, r5, r6⟩ := y2
  have eR : qO S f' 18 = R := by unfold qO; rw [r2.1]; rfl
  have eT : qO S f' 19 = T := by unfold qO; rw [r2.2.1]; rfl
  have eC : qO S f' 20 = C := by unfold qO; rw [r2.2.2]; rfl
  have kR := (k R (by omega) (by omega)).1 (by rw [r3.1]; decide)
  have kT := (k T (by omega) (by omega)).1 (by rw [r3.2.1]; decide)
  have kC := (k C (by omega) (by omega)).1 (by rw [r3.2.2]; decide)
  have kf := (k f' (by omega) (by omega)).2 h1.2.1.1
  have kr : ∀ i : Nat, i < 13 → sm5 S V (f' + 1 + i) := fun i hi => (k _ (by omega) (by omega)).1 (by rw [(h1.2.2 i hi).2.2]; split <;> decide)
  refine Or.inr ⟨f', q1, q2, q3, ?_, ?_, ?_⟩
  · rw [(kr 10 (by decide)).1]
    unfold GbI at q4 ⊢
    rw [e2.1, e2.2.1, e0.2.1]
    exact q4
  · unfold GeI at q5 ⊢
    rw [e2.2.2.1, e2.2.2.2.1, e0.2.1, e0.2.2.2.2]
    exact q5
  · refine q6.mv ⟨kf.2.1 18 (by decide), kf.2.1 19 (by decide), kf.2.1 20 (by decide)⟩ ?_ ⟨by rw [(kr 9 (by decide)).1], by rw [(kr 10 (by decide)).1], by rw [(kr 11 (by decide)).1], by rw [(kr 12 (by decide)).1]⟩
    rw [eR, eT, eC]
    exact ⟨kR.1, kT.1, kC.1⟩
theorem GrJ.f9 {S u : MS} {W J : List Nat} (h : GrJ S) (F : FsI VfI S) (k : frm W J S u) (hW : ∀ w ∈ W, 60 ≤ w ∧ w ≤ 92) (hJ : ∀ j ∈ J, j ≠ 1 ∧ j ≠ 105 ∧ j ≠ 106 ∧ j ≠ 107 ∧ j ≠ 110) : GrJ u := by
  have kb := big_frm k (fun w q => (hW w q).2)
  have lw := fun (a : Nat) (h0 : a ≠ 0) (h1 : a < 60) => k.2.2.2.2.1 a h0 (fun q => by have := hW a q; omega)
  have lj := fun (j : Nat) (q : j = 1 ∨ j = 105 ∨ j = 106 ∨ j = 107 ∨ j = 110) => (k.2.2.2.2.2 j (fun z => by have := hJ j z; omega)).1
  exact h.mv F (fun a a0 _ => (kb a a0).s6) ⟨lj 1 (by omega), lj 105 (by omega), lj 106 (by omega), lj 107 (by omega), lj 110 (by omega)⟩ (lw 1 (by decide) (by decide)).2.2 ⟨(lw 49 (by decide) (by decide)).1, (lw 50 (by decide) (by decide)).1, (lw 51 (by decide) (by decide)).1, (lw 52 (by decide) (by decide)).1, (lw 53 (by decide) (by decide)).1⟩
theorem GnA.f9 {S u : MS} {W J : List Nat} {f m n : Nat} (h : GnA S f m n) (hf : FlI S f) (k : frm W J S u) (hW : ∀ w ∈ W, w ≤ 92) : GnA u f m n := by
  have kb := big_frm k hW
  have f92 := hf.1.1.1
  obtain ⟨h1, h2, h3, h4, h5, R, T, C, nc, ts, cn, r1, r2, r3, r4, r5, r6⟩ := hf
  have eR : qO S f 18 = R := by unfold qO; rw [r2.1]; rfl
  have eT : qO S f 19 = T := by unfold qO; rw [r2.2.1]; rfl
  have eC : qO S f 20 = C := by unfold qO; rw [r2.2.2]; rfl
  refine h.mv ?_ ?_ ?_
  · rw [(kb f f92).2.2.1]; exact ⟨rfl, rfl, rfl⟩
  · rw [eR, eT, eC]; exact ⟨(kb R (by omega)).1, (kb T (by omega)).1, (kb C (by omega)).1⟩
  · exact ⟨by rw [(kb _ (by omega)).1], by rw [(kb _ (by omega)).1], by rw [(kb _ (by omega)).1], by rw [(kb _ (by omega)).1]⟩
/-- what one method of count leaves -/
def CoP (U : MS) (R : Nat → Int32) (fst : Nat) (len L F M : Int) (B m K : Nat) (u : MS) : Prop := frm [49, 50, 51, 52, 53, 54, 55, 56, 57, 58, 59, 70, 71, 72, 73, 74, 75, 76, 78, 79, 80, 81, 82, 83, 84, 85, 86, 91, 92] [47, 48, 49, 50, 51, 52, 53, 54, 105, 106, 107, 110, 122, 123, 129, 135] U u ∧ GrJ u ∧ ∃ e n : Nat, (1 ≤ e ∧ (e : Int) ≤ len + 4 * K ∧ n ≤ 16) ∧ ((qI u 0 122).toInt = (B : Int) + e ∧ (qI u 0 123).toInt = (qI U 0 123).toInt + n) ∧ ((∀ j : Nat, j < 3 * B → qI u 74 j = qI U 74 j) ∧ (∀ j : Nat, j < 4 * (qI U 0 123).toInt.toNat → qI u 76 j = qI U 76 j) ∧ ∀ q : Nat, (∀ j : Nat, (j : Int) < len → rwS R fst j → ¬ ((rwA R fst j).toInt ≤ q ∧ (q : Int) ≤ (rwA R fst j).toInt + 2 * (rwB R fst j).toInt)) → qI u 75 q = qI U 75 q) ∧ (sameBut U u 70 m ∧ sameBut U u 71 m ∧ sameBut U u 72 m ∧ sameBut U u 73 m) ∧ ((qI u 70 m).toInt = B ∧ (qI u 71 m).toInt = e ∧ (qI u 72 m).toInt = (qI U 0 123).toInt ∧ (qI u 73 m).toInt = n) ∧ (∀ p : Nat, p < e → rOK (qI u 74) (qI u 75) 40000 e L F M (B + p)) ∧ wtS (qI u 74) B e ≤ 3600 + 12 * K ∧ (∀ p : Nat, p < e → (qI u 74 (3 * (B + p))).toInt = 170 ∨ (qI u 74 (3 * (B + p))).toInt = 171 → ∃ j : Nat, (j : Int) < len ∧ rwS R fst j ∧ (qI u 74 (3 * (B + p) + 1)).toInt = (rwA R fst j).toInt ∧ (qI u 74 (3 * (B + p) + 2)).toInt = (rwB R fst j).toInt) ∧ ∀ c : Nat, c < n → cOK (qI u 76) e ((qI U 0 123).toInt.toNat + c)
theorem sp_cntOne {U : MS} {f : Nat} {y x nx : Int32} {L F F' M : Int} {B n : Nat} {Kt : Int32 → MS → Prop} (fs : FsI VfI U) (hk : knI U) (g : GrJ U) (hy : 0 ≤ y.toInt ∧ y.toInt < (qI U 0 1).toInt) (hr : qR U 1 y.toInt.toNat = some f) (h : FlI U f) (hx : 0 ≤ x.toInt ∧ x.toInt < (qI U f 4).toInt) (hb : (0 ≤ L ∧ L ≤ 24) ∧ F ≤ 24 ∧ M ≤ 24) (hT : ∀ i : Nat, (i : Int) < (qI U (f + 11) x.toInt.toNat).toInt → rOK (qI U (qO U f 18)) (qI U 75) 40000 (qI U (f + 11) x.toInt.toNat).toInt L F M ((qI U (f + 10) x.toInt.toNat).toInt.toNat + i)) (hS : TbM (qI U (qO U f 18)) (qI U (f + 10) x.toInt.toNat).toInt.toNat (qI U (f + 11) x.toInt.toNat).toInt) (hg : GnA U f x.toInt.toNat n) (eB : (qI U 0 122).toInt = B) (hB : (B : Int) + (qI U (f + 11) x.toInt.toNat).toInt + 4 * n ≤ 29000) (hC : 0 ≤ (qI U 0 123).toInt ∧ (qI U 0 123).toInt + 16 ≤ 384) (hd : qR U 60 14 = some 70 ∧ qR U 60 15 = some 71 ∧ qR U 60 16 = some 72 ∧ qR U 60 17 = some 73) (hn : qN U 70 = 24 ∧ qN U 71 = 24 ∧ qN U 72 = 24 ∧ qN U 73 = 24) (hm : x.toInt < 24) (hF : F ≤ F' ∧ F' ≤ 24) (hnx : nx.toInt + n ≤ F') (hK : ∀ (r : Int32) (u : MS), r.toInt = n → CoP U (qI U (qO U f 18)) (qI U (f + 10) x.toInt.toNat).toInt.toNat (qI U (f + 11) x.toInt.toNat).toInt L F' M B x.toInt.toNat n u → Kt r u) : ∃ Q29, w_graph U y x Q29 ∧ ∀ S30, Q29 S30 → (∃ Q32, w_takeMethod S30 f x Q32 ∧ ∀ S33, Q32 S33 → (∃ Q35, w_putMethod S33 x nx Q35 ∧ ∀ S36, Q35 S36 → (∃ Q38, w_reachedBlocks S36 Q38 ∧ ∀ r39 S40, Q38 r39 S40 → Kt r39 S40))) := by
  have f92 := h.1.1.1
  have R92 : 92 < qO U f 18 := by
    obtain ⟨h1, h2, h3, h4, h5, R, T, C, nc, ts, cn, r1, r2, r3, r4, r5, r6⟩ := h
    have : qO U f 18 = R := by unfold qO; rw [r2.1]; rfl
    omega
  refine ⟨_, fr_graph (sp_graph2 g fs.1.2 hy hr h hx), ?_⟩
  rintro u0 ⟨⟨g0, gb, ge, gn⟩, f0⟩
  have en := gn.uq hg
  have k0 := big_frm f0 (by decide)
  have fs0 := fs.f9 hk f0 (by decide) (by decide)
  have kn0 := hk.f9 f0
  have h0 : FlI u0 f := h.fm f92 f0 (by decide)
  have e18 : qO u0 f 18 = qO U f 18 := by unfold qO; rw [(k0 f f92).2.2.1]
  have eR : qI u0 (qO u0 f 18) = qI U (qO U f 18) := by rw [e18, (k0 _ R92).1]
  have e10 : qI u0 (f + 10) = qI U (f + 10) := (k0 _ (by omega)).1
  have e11 : qI u0 (f + 11) = qI U (f + 11) := (k0 _ (by omega)).1
  have e75 : qI u0 75 = qI U 75 := (f0.2.2.2.2.1 75 (by decide) (by decide)).1
  have e4 : qI u0 f 4 = qI U f 4 := by rw [(k0 f f92).1]
  refine ⟨_, fr_takeMethod (sp_takeMethod (L := L) (F := F) (M := M) h0 (by rw [e4]; exact hx) hb (by rw [eR, e10, e11, e75]; exact hT)), ?_⟩
  rintro u1 ⟨⟨o1, g1, t1⟩, f1⟩
  rw [eR, e10, e11] at t1
  rw [e11] at g1
  obtain ⟨r1, _, w1, _⟩ := o1
  have al : ∀ i : Nat, (i : Int) < gN u1 → (qI u1 81 i).toInt = 0 := fun i hi => (t1 i (by rw [← g1]; exact hi)).2
  have a1 := r1.al al
  have gb1 : GbI u1 (qI U (f + 11) x.toInt.toNat).toInt := gb.fm f1 (by decide) (by decide) (by decide)
  have F1 : frm [49, 50, 51, 52, 53, 54, 55, 56, 57, 58, 59, 78, 79, 80, 81, 82, 83, 84, 85, 86] [47, 48, 49, 50, 51, 52, 53, 54, 105, 106, 107, 110, 129, 135] U u1 := (f0.mo (by decide) (by decide)).tr (f1.mo (by decide) (by decide))
  have z := fun (a : Nat) (h1 : a ≠ 0) (h2 : a ∉ [49, 50, 51, 52, 53, 54, 55, 56, 57, 58, 59, 78, 79, 80, 81, 82, 83, 84, 85, 86]) => F1.2.2.2.2.1 a h1 h2
  have z60 := (z 60 (by decide) (by decide)).2.2
  have z122 : qI u1 0 122 = qI U 0 122 := (F1.2.2.2.2.2 122 (by decide)).1
  have z123 : qI u1 0 123 = qI U 0 123 := (F1.2.2.2.2.2 123 (by decide)).1
  have y53 : qI u1 53 = qI u0 53 := (f1.2.2.2.2.1 53 (by decide) (by decide)).1
  have y105 : qI u1 0 105 = qI u0 0 105 := (f1.2.2.2.2.2 105 (by decide)).1
  have sw : ∀ j : Nat, (j : Int) < gN u1 → isW u1 j → rwS (qI U (qO U f 18)) (qI U (f + 10) x.toInt.toNat).toInt.toNat j ∧ (qI u1 79 j).toInt = (rwA (qI U (qO U f 18)) (qI U (f + 10) x.toInt.toNat).toInt.toNat j).toInt ∧ (qI u1 80 j).toInt = (rwB (qI U (qO U f 18)) (qI U (f + 10) x.toInt.toNat).toInt.toNat j).toInt := fun j hj wj => by
    obtain ⟨⟨q1, q2, q3⟩, _⟩ := t1 j (by rw [← g1]; exact hj)
    unfold isW at wj
    rw [q1] at wj
    exact ⟨wj, by rw [q2], by rw [q3]⟩
  have a0 : ∀ j : Nat, (j : Int) < gN u1 → isW u1 j → 0 ≤ (qI u1 79 j).toInt ∧ 0 ≤ (qI u1 80 j).toInt := fun j hj wj => by
    have := (r1.2.2.1 j hj).2.2.1 wj
    exact ⟨this.1, this.2.1⟩
  have tb : TbD u1 := fun i j ij hj gi gj wi wj => by
    obtain ⟨i1, i2, i3⟩ := sw i (by omega) wi
    obtain ⟨j1, j2, j3⟩ := sw j hj wj
    have := hS i j ij (by rw [← g1]; exact hj) i1 j1
    have p1 := a0 i (by omega) wi
    have p2 := a0 j hj wj
    unfold tA tB
    omega
  have b1 := r1.1
  have pc : ∀ c : Nat, (c : Int) < (qI u1 0 135).toInt → (qI u1 86 c).toInt = 0 → (qI u1 82 c).toInt ≤ ((gN u1 - 1).toNat : Nat) ∧ (qI u1 84 c).toInt ≤ ((gN u1 - 1).toNat : Nat) := fun c hc _ => by
    have := r1.2.2.2.2 c hc
    omega
  have rc := gb_rc gb1
  have nk : nzN (qI u1 53) (qI u1 0 105).toInt.toNat = n := by rw [y53, y105, en]
  rw [nk] at rc
  refine ⟨_, sp_putMethod (L := L) (F := F) (F' := F') (M := M) (B := B) (K := n) (rc := rbN u1) r1 a1 tb w1 pc (by rw [z122]; exact eB) (by rw [g1]; exact hB) (by rw [z123]; exact hC) (by rw [z60]; exact hd) (by rw [F1.2.1]; exact hn) ⟨hx.1, hm⟩ hF.1 rc.1 (fun i _ => rc.2.1 i) (fun _ => ⟨hnx, hF.2, fun i hi => ⟨(rc.2.2 i (by rw [← g1]; exact hi)).1, fun _ => (rc.2.2 i (by rw [← g1]; exact hi)).2⟩⟩), ?_⟩
  rintro u ⟨fu, e, n', p1, p2, ⟨p3, p4, p5⟩, ⟨p6, p7, p8, p9⟩, p10, p11, p12, p14, p13⟩
  rw [z123] at p2 p4 p10 p13
  have ge2 : GeI u := (ge.fm f1 (by decide) (by decide) (by decide) (by decide)).fm fu (by decide) (by decide) (by decide) (by decide)
  refine ⟨_, sp_reachedBlocks ge2, ?_⟩
  rintro r u' ⟨rfl, er⟩
  have v53 : qI u' 53 = qI u1 53 := (fu.2.2.2.2.1 53 (by decide) (by decide)).1
  have v105 : qI u' 0 105 = qI u1 0 105 := (fu.2.2.2.2.2 105 (by decide)).1
  rw [v53, v105, nk] at er
  have F2 : frm [70, 71, 72, 73, 74, 75, 76, 78, 79, 80, 81, 82, 83, 84, 85, 86, 91, 92] [47, 48, 49, 50, 51, 52, 53, 54, 122, 123, 129, 135] u0 u' := (f1.mo (by decide) (by decide)).tr (fu.mo (by decide) (by decide))
  have zz := fun (a : Nat) (h1 : a ≠ 0) (h2 : a ∉ [49, 50, 51, 52, 53, 54, 55, 56, 57, 58, 59, 78, 79, 80, 81, 82, 83, 84, 85, 86]) => (z a h1 h2).1
  rw [g1] at p1
  refine hK r u' er ⟨(f0.mo (by decide) (by decide)).tr (F2.mo (by decide) (by decide)), g0.f9 fs0 F2 (by decide) (by decide), e, n', p1, p2, ⟨fun j hj => by rw [p3 j hj, zz 74 (by decide) (by decide)], fun j hj => by rw [p4 j hj, zz 76 (by decide) (by decide)], fun q hq => ?_⟩, ⟨fun j hj => by rw [p6 j hj, zz 70 (by decide) (by decide)], fun j hj => by rw [p7 j hj, zz 71 (by decide) (by decide)], fun j hj => by rw [p8 j hj, zz 72 (by decide) (by decide)], fun j hj => by rw [p9 j hj, zz 73 (by decide) (by decide)]⟩, p10, p11, p12, fun p hp hw => (by
    obtain ⟨j, j1, _, j3, j4, j5⟩ := p14 p hp hw
    obtain ⟨y1, y2, y3⟩ := sw j j1 j3
    exact ⟨j, by rw [← g1]; exact j1, y1, by rw [j4, y2], by rw [j5, y3]⟩), p13⟩
  rw [p5 q (fun j hj gj wj y => ?_), zz 75 (by decide) (by decide)]
  obtain ⟨j1, j2, j3⟩ := sw j hj wj
  have q2 := a0 j hj wj
  refine hq j (by rw [← g1]; exact hj) j1 ?_
  unfold tA tB at y
  omega
/-! count: the loop over the methods (behind sp_cntOne, DmJ) -/
theorem sumN_mo {g : Nat → Nat} : ∀ (d m : Nat), sumN g m ≤ sumN g (m + d) := by
  intro d
  induction d with
  | zero => intro m; exact Nat.le_refl _
  | succ d ih => intro m; exact Nat.le_trans (ih m) (Nat.le_add_right _ _)
def CuI (S : MS) (f : Nat) (X : Int) (nf : Nat → Nat) (m : Nat) (U : MS) : Prop := frm [49, 50, 51, 52, 53, 54, 55, 56, 57, 58, 59, 70, 71, 72, 73, 74, 75, 76, 78, 79, 80, 81, 82, 83, 84, 85, 86, 91, 92] [47, 48, 49, 50, 51, 52, 53, 54, 105, 106, 107, 110, 122, 123, 129, 135] S U ∧ GrJ U ∧ ((0 ≤ (qI U 0 122).toInt ∧ (qI U 0 122).toInt ≤ 1200 * m + 4 * sumN nf m) ∧ 0 ≤ (qI U 0 123).toInt ∧ (qI U 0 123).toInt ≤ 16 * m) ∧ (∀ n : Nat, n < m → DmJ S f X U n) ∧ ∀ n i q : Nat, m ≤ n → (n : Int) < (qI S f 4).toInt → (i : Int) < mL S f n → rwS (mR S f) (mF S f n) i → (rwA (mR S f) (mF S f n) i).toInt ≤ q → (q : Int) ≤ (rwA (mR S f) (mF S f n) i).toInt + 2 * (rwB (mR S f) (mF S f n) i).toInt → qI U 75 q = qI S 75 q
theorem sp_count_L196 {S : MS} {f : Nat} {y : Int32} {X : Int} {nf : Nat → Nat} {Q : Int32 → MS → Prop} (fs : FsI VfI S) (hk : knI S) (g : GrJ S) (hy : 0 ≤ y.toInt ∧ y.toInt < (qI S 0 1).toInt) (hr : qR S 1 y.toInt.toNat = some f) (h : FlI S f) (tb : TbF S f) (w75 : ∀ j : Nat, j < qN S (qO S f 19) → qI S 75 j = qI S (qO S f 19) j) (hd : DrO S) (z0 : qI S 0 122 = 0 ∧ qI S 0 123 = 0) (hX : (qI S f 3).toInt + sumN nf (qI S f 4).toInt.toNat ≤ X ∧ X ≤ 24) (hg : ∀ m : Nat, (m : Int) < (qI S f 4).toInt → GnA S f m (nf m)) (done : ∀ U : MS, CuI S f X nf (qI S f 4).toInt.toNat U → ∃ Q20, w_keptDraft U Q20 ∧ ∀ r21 S22, Q20 r21 S22 → Q r21 S22) : ∃ n, w_count_L196 Q n S y f (qI S f 3) 0 := by
  have h' := h
  obtain ⟨h1, h2, h3, h4, h5, R, T, C, nc, ts, cn, r1, r2, r3, r4, r5, r6⟩ := h
  have f92 := h1.1.1
  have eR : qO S f 18 = R := by unfold qO; rw [r2.1]; rfl
  have eT : qO S f 19 = T := by unfold qO; rw [r2.2.1]; rfl
  rw [eT, r4.2.1] at w75
  have L196 : ∀ (c : Nat) (U : MS) (nx x : Int32), 0 ≤ x.toInt → x.toInt ≤ (qI S f 4).toInt → CuI S f X nf x.toInt.toNat U → nx.toInt = (qI S f 3).toInt + sumN nf x.toInt.toNat → (24 - x.toInt).toNat < c → w_count_L196 Q c U y f nx x := by
    intro c
    induction c with
    | zero => intro U nx x _ _ _ _ h9; exact absurd h9 (Nat.not_lt_zero _)
    | succ c ih =>
      intro U nx x x0 xM hU hnx hc
      have hU' := hU
      obtain ⟨fU, gU, ⟨b1, b2⟩, dm, wd⟩ := hU
      have kb := big_frm fU (by decide)
      have big : ∀ a : Nat, 92 < a → qI U a = qI S a ∧ qR U a = qR S a := fun a ha => ⟨(kb a ha).1, (kb a ha).2.2.1⟩
      have uf4 : qI U f 4 = qI S f 4 := by rw [(big f f92).1]
      unfold w_count_L196
      rw [uf4]
      refine ⟨fun c1 => done U (by rw [show (qI S f 4).toInt.toNat = x.toInt.toNat by omega]; exact hU'), fun c1 => ?_⟩
      have ek : (x + Int32.ofInt 1).toInt = x.toInt + 1 := by rw [t_add (by rw [lo_1]; omega), lo_1]
      have ekN : (x + Int32.ofInt 1).toInt.toNat = x.toInt.toNat + 1 := by omega
      have xlt : (x.toInt.toNat : Int) < (qI S f 4).toInt := by omega
      have eO : qI U (qO U f 18) = mR S f := by
        have : qO U f 18 = R := by unfold qO; rw [(big f f92).2, r2.1]; rfl
        rw [this, (big R (by omega)).1]
        unfold mR
        rw [eR]
      have e10 : qI U (f + 10) = qI S (f + 10) := (big _ (by omega)).1
      have e11 : qI U (f + 11) = qI S (f + 11) := (big _ (by omega)).1
      have flU : FlI U f := h'.fm f92 fU (by decide)
      have fsU := fs.f9 hk fU (by decide) (by decide)
      have knU := hk.f9 fU
      have gnU := (hg x.toInt.toNat xlt).f9 h' fU (by decide)
      obtain ⟨_, _, lc, mt⟩ := r6 x.toInt.toNat xlt
      obtain ⟨t1, t2, t3, t4, t5, t6, t7, t8, t9⟩ := mt
      have u60 : qR U 60 = qR S 60 := (fU.2.2.2.2.1 60 (by decide) (by decide)).2.2
      have u1 : qR U 1 = qR S 1 := (fU.2.2.2.2.1 1 (by decide) (by decide)).2.2
      have u01 : qI U 0 1 = qI S 0 1 := (fU.2.2.2.2.2 1 (by decide)).1
      obtain ⟨B, eB⟩ : ∃ B : Nat, (qI U 0 122).toInt = B := ⟨(qI U 0 122).toInt.toNat, by omega⟩
      have eF : (qI S (f + 10) x.toInt.toNat).toInt.toNat = mF S f x.toInt.toNat := rfl
      have eL : (qI S (f + 11) x.toInt.toNat).toInt = mL S f x.toInt.toNat := rfl
      have hT : ∀ i : Nat, (i : Int) < mL S f x.toInt.toNat → rOK (mR S f) (qI U 75) 40000 (mL S f x.toInt.toNat) (qI S (f + 9) x.toInt.toNat).toInt (qI S f 3).toInt (qI S f 4).toInt (mF S f x.toInt.toNat + i) := fun i hi => by
        have r := t4 i hi
        have em : qI S R = mR S f := by unfold mR; rw [eR]
        rw [em, eF] at r
        refine ⟨r.1, r.2.1, fun w => ?_, r.2.2.2⟩
        obtain ⟨y1, y2, y3, y4, y5, y6⟩ := r.2.2.1 w
        refine ⟨y1, y2, y3, by omega, fun k hk => ?_, y6⟩
        have q := wd x.toInt.toNat i ((mR S f (3 * (mF S f x.toInt.toNat + i) + 1)).toInt.toNat + 2 * k) (Nat.le_refl _) xlt hi w (by unfold rwA; omega) (by unfold rwA rwB; omega)
        rw [q, w75 _ (by omega)]
        exact y5 k hk
      have hS : TbM (mR S f) (mF S f x.toInt.toNat) (mL S f x.toInt.toNat) := fun i j ij hj wi wj => tb x.toInt.toNat x.toInt.toNat i j xlt (by omega) hj (Or.inr ⟨rfl, ij⟩) wi wj
      have sm : sumN nf (x.toInt.toNat + 1) = sumN nf x.toInt.toNat + nf x.toInt.toNat := rfl
      have sM := sumN_mo (g := nf) ((qI S f 4).toInt.toNat - (x.toInt.toNat + 1)) (x.toInt.toNat + 1)
      rw [show x.toInt.toNat + 1 + ((qI S f 4).toInt.toNat - (x.toInt.toNat + 1)) = (qI S f 4).toInt.toNat by omega, sm] at sM
      have one := sp_cntOne (U := U) (f := f) (y := y) (x := x) (nx := nx) (L := (qI S (f + 9) x.toInt.toNat).toInt) (F := (qI S f 3).toInt) (F' := X) (M := (qI S f 4).toInt) (B := B) (n := nf x.toInt.toNat) (Kt := fun r39 S40 => ∀ a43 : Int32, a43 = (nx + r39) → ∀ a44 : Int32, a44 = (x + Int32.ofInt 1) → w_count_L196 Q c S40 y f a43 a44) fsU knU gU (by rw [u01]; exact hy) (by rw [u1]; exact hr) flU ⟨x0, by rw [uf4]; omega⟩ ⟨lc, h4.1.2, h4.2.2⟩ (by rw [eO, e10, e11]; exact hT) (by rw [eO, e10, e11]; exact hS) gnU eB (by rw [e11]; omega) ⟨b2.1, by omega⟩ (by rw [u60]; exact ⟨(hd 9 (by decide)).1, (hd 10 (by decide)).1, (hd 11 (by decide)).1, (hd 12 (by decide)).1⟩) (by rw [fU.2.1]; exact ⟨(hd 9 (by decide)).2, (hd 10 (by decide)).2, (hd 11 (by decide)).2, (hd 12 (by decide)).2⟩) (by omega) ⟨by omega, hX.2⟩ (by omega) (fun r u er hu a43 e43 a44 e44 => ?_)
      · exact one
      rw [eO, e10, e11, eF, eL] at hu
      obtain ⟨fu, gu, e, n, ⟨p1, p2, p3⟩, ⟨p4, p5⟩, ⟨p6, p7, p8⟩, ⟨p9, p10, p11, p12⟩, ⟨q1, q2, q3, q4⟩, p13, p14, p15, p16⟩ := hu
      subst e44
      have len1200 : mL S f x.toInt.toNat ≤ 1200 := t2.2
      have n24 : nf x.toInt.toNat ≤ 24 := by omega
      refine ih u _ _ (by omega) (by omega) ⟨fU.tr fu, gu, by rw [ekN, sm]; omega, fun m' hm' => ?_, fun m' i q hm' hM hi wi y1 y2 => ?_⟩ ?_ (by omega)
      · rw [ekN] at hm'
        by_cases w : m' = x.toInt.toNat
        · subst w
          unfold DmJ
          have qb : (qI u 70 x.toInt.toNat).toInt.toNat = B := by omega
          have qc : (qI u 72 x.toInt.toNat).toInt.toNat = (qI U 0 123).toInt.toNat := by rw [q3]
          refine ⟨⟨by omega, by omega, by omega, fun i hi => ?_, ?_, by omega, by omega, by omega, fun c' hc' => ?_⟩, fun p hp hw => ?_⟩
          · rw [qb, q2]; exact p13 i (by omega)
          · rw [qb, q2]
            exact Int.le_trans p14 (by omega)
          · rw [qc, q2]; exact p16 c' (by omega)
          · rw [qb] at hw ⊢
            exact p15 p (by omega) hw
        · exact (dm m' (by omega)).mv tb (by omega) xlt eB (by omega) ⟨b2.1, by omega⟩ p6 p7 p8 p9 p10 p11 p12
      · rw [ekN] at hm'
        rw [p8 q (fun j hj wj y => ?_)]
        · exact wd m' i q (by omega) hM hi wi y1 y2
        · have := tb x.toInt.toNat m' j i hM hj hi (Or.inl (by omega)) wj wi
          omega
      · rw [e43, t_add (by omega), ekN, sm]
        omega
  have zz : (0 : Int32).toInt = 0 := rfl
  refine ⟨_, L196 _ S _ 0 (by decide) (by omega) ⟨frm.rf, g, by rw [z0.1, z0.2]; exact ⟨⟨by decide, by show (0 : Int) ≤ _; omega⟩, by decide, by show (0 : Int) ≤ _; omega⟩, fun n hn => by omega, fun n i q _ _ _ _ _ _ => rfl⟩ (by show _ = _ + ((sumN nf 0 : Nat) : Int); show _ = (qI S f 3).toInt + ((0 : Nat) : Int); omega) (Nat.lt_succ_self _)⟩
/-! the draft's head (behind sp_copyHead, lOD, sp_cname) -/
def plT (s : Nat) (S : MS) : Prop := 92 < s ∧ s + 1 < qn S ∨ TXB ≤ s
def txW (S : MS) (s : Nat) : Prop := (qT S (s + 1) ≠ 0 ∧ qT S (s + 1) ≠ 11) ∧ plT s S ∧ 1 ≤ qN S (s + 1) ∧ qN S (s + 1) ≤ 100
def ltW (S : MS) (s : Nat) (p : Int) : Prop := plT s S ∧ lOD S s p
/-- what is there stays -/
def kpW (S u : MS) : Prop := (∀ a : Nat, 92 < a → a < qn S ∨ TXB ≤ a → sm5 S u a) ∧ qn S ≤ qn u
theorem kpW.rf {S : MS} : kpW S S := ⟨fun _ _ _ => sm5.rf, Nat.le_refl _⟩
theorem kpW.tr {S u v : MS} (h : kpW S u) (k : kpW u v) : kpW S v := ⟨fun a a0 a1 => (h.1 a a0 a1).tr (k.1 a a0 (by have := h.2; omega)), Nat.le_trans h.2 k.2⟩
theorem kpW.f9 {S u : MS} {W J : List Nat} (k : frm W J S u) (hW : ∀ w ∈ W, w ≤ 92) : kpW S u := ⟨fun a a0 _ => big_frm k hW a a0, by rw [k.2.2.1]; exact Nat.le_refl _⟩
theorem plT.mv {S u : MS} {s : Nat} (h : plT s S) (k : kpW S u) : plT s u := by
  have := k.2
  unfold plT at h ⊢
  omega
theorem plT.k1 {S u : MS} {s : Nat} (h : plT s S) (k : kpW S u) : sm5 S u (s + 1) := k.1 _ (by unfold plT at h; rw [show TXB = 10000000 from rfl] at h; omega) (by unfold plT at h; omega)
theorem txW.mv {S u : MS} {s : Nat} (h : txW S s) (k : kpW S u) : txW u s := by
  have z := h.2.1.k1 k
  unfold txW
  rw [z.2.2.2.1, z.2.2.2.2]
  exact ⟨h.1, h.2.1.mv k, h.2.2⟩
theorem ltW.mv {S u : MS} {s : Nat} {p : Int} (h : ltW S s p) (k : kpW S u) : ltW u s p := by
  have z := h.1.k1 k
  refine ⟨h.1.mv k, ?_⟩
  have l := h.2
  unfold lOD plS okD at l ⊢
  rw [z.1, z.2.2.2.1, z.2.2.2.2]
  exact l
theorem StN.tw {S : MS} {s : Nat} (h : StN S s) (h0 : 92 < s) (h1 : s + 1 < qn S) : txW S s := by
  obtain ⟨n, g, a, b, c⟩ := h
  exact ⟨a.1.2, Or.inl ⟨h0, h1⟩, by rw [a.2.2.1]; exact b⟩
theorem StL.tw {S : MS} {s : Nat} {p p' : Int} (h : StL S s p) (h0 : 92 < s) (h1 : s + 1 < qn S) (hp : p ≤ p') : ltW S s p' := by
  obtain ⟨n, g, a, b, c, d⟩ := h
  refine ⟨Or.inl ⟨h0, h1⟩, ⟨⟨⟨Or.inl (by omega), a.1.2⟩, by rw [a.2.2.1]; exact d⟩, fun i hi => ?_, ?_⟩⟩
  · rw [a.2.2.1] at hi
    rw [a.2.2.2 i hi]
    exact c i hi
  · unfold plS
    rw [a.2.2.1, plc_eq n (fun i hi => a.2.2.2 i hi), b]
    exact hp
/-- the draft's head -/
def DhI (U : MS) : Prop := DrO U ∧ (qR U 60 18 = some 74 ∧ qR U 60 19 = some 75 ∧ qR U 60 20 = some 76) ∧ ((0 ≤ (qI U 60 3).toInt ∧ (qI U 60 3).toInt ≤ 24) ∧ 0 ≤ (qI U 60 4).toInt ∧ (qI U 60 4).toInt ≤ 24) ∧ (∃ s1 s2 : Nat, qR U 60 0 = some s1 ∧ qR U 60 1 = some s2 ∧ txW U s1 ∧ txW U s2) ∧ (∀ i : Nat, (i : Int) < (qI U 60 3).toInt → ∃ s1 s2 s3 : Nat, qR U 61 i = some s1 ∧ qR U 62 i = some s2 ∧ qR U 63 i = some s3 ∧ txW U s1 ∧ txW U s2 ∧ ltW U s3 2) ∧ ∀ m : Nat, (m : Int) < (qI U 60 4).toInt → ∃ s1 s2 s3 s4 : Nat, qR U 64 m = some s1 ∧ qR U 65 m = some s2 ∧ qR U 66 m = some s3 ∧ qR U 67 m = some s4 ∧ txW U s1 ∧ txW U s2 ∧ ltW U s3 8 ∧ ltW U s4 2
theorem DhI.mv {S u : MS} (h : DhI S) (k : kpW S u) (e : ∀ a : Nat, 60 ≤ a → a ≤ 67 → qI u a = qI S a ∧ qR u a = qR S a) (n : ∀ a : Nat, 60 ≤ a → a ≤ 76 → qN u a = qN S a) : DhI u := by
  obtain ⟨h1, h2, h3, ⟨s1, s2, o1, o2, o3, o4⟩, h5, h6⟩ := h
  unfold DhI
  rw [(e 60 (by decide) (by decide)).1, (e 60 (by decide) (by decide)).2, (e 61 (by decide) (by decide)).2, (e 62 (by decide) (by decide)).2, (e 63 (by decide) (by decide)).2, (e 64 (by decide) (by decide)).2, (e 65 (by decide) (by decide)).2, (e 66 (by decide) (by decide)).2, (e 67 (by decide) (by decide)).2]
  refine ⟨fun i hi => ⟨by rw [(e 60 (by decide) (by decide)).2]; exact (h1 i hi).1, by rw [n _ (by omega) (by omega)]; exact (h1 i hi).2⟩, h2, h3, ⟨s1, s2, o1, o2, o3.mv k, o4.mv k⟩, fun i hi => ?_, fun m hm => ?_⟩
  · obtain ⟨a1, a2, a3, b1, b2, b3, b4, b5, b6⟩ := h5 i hi
    exact ⟨a1, a2, a3, b1, b2, b3, b4.mv k, b5.mv k, b6.mv k⟩
  · obtain ⟨a1, a2, a3, a4, b1, b2, b3, b4, b5, b6, b7, b8⟩ := h6 m hm
    exact ⟨a1, a2, a3, a4, b1, b2, b3, b4, b5.mv k, b6.mv k, b7.mv k, b8.mv k⟩
theorem CpP.dh {S u : MS} {p : Nat} (c : CpP S p u) (h : FlI S p) (hd : DrO S) : DhI u := by
  obtain ⟨fu, ⟨c1, c2, c3, c4⟩, c5, c6, c7, c8, c9, c10⟩ := c
  obtain ⟨h1, h2, ⟨o1, o2, ob1, ob2, ow1, ow2, on1, on2⟩, h4, h5, R, T, C, nc, ts, cn, r1, r2, r3, r4, r5, r6⟩ := h
  have p92 := h1.1.1
  have k : kpW S u := kpW.f9 fu (by decide)
  refine ⟨fun i hi => ⟨c10 i hi, by rw [fu.2.1]; exact (hd i hi).2⟩, c8, by rw [c3, c4]; exact h4, ⟨o1, o2, by rw [c1]; exact ow1, by rw [c2]; exact ow2, (on1.tw (by omega) (by omega)).mv k, (on2.tw (by omega) (by omega)).mv k⟩, fun i hi => ?_, fun m hm => ?_⟩
  · rw [c3] at hi
    obtain ⟨s1, s2, s3, b1, b2, b3, y1, y2, y3, n1, n2, q, hq, n3⟩ := h5 i hi
    obtain ⟨d1, d2, d3⟩ := c5 i hi
    exact ⟨s1, s2, s3, by rw [d1]; exact y1, by rw [d2]; exact y2, by rw [d3]; exact y3, (n1.tw (by omega) (by omega)).mv k, (n2.tw (by omega) (by omega)).mv k, (n3.l.tw (by omega) (by omega) hq).mv k⟩
  · rw [c4] at hm
    obtain ⟨⟨pl, ⟨s1, s2, s3, s4, b1, b2, b3, b4, y1, y2, y3, y4, n1, n2, ⟨np, n3⟩, q, hq, n4⟩, _⟩, _⟩ := r6 m hm
    obtain ⟨d1, d2, d3, d4⟩ := c6 m hm
    exact ⟨s1, s2, s3, s4, by rw [d1]; exact y1, by rw [d2]; exact y2, by rw [d3]; exact y3, by rw [d4]; exact y4, (n1.tw (by omega) (by omega)).mv k, (n2.tw (by omega) (by omega)).mv k, (n3.tw (by omega) (by omega) np).mv k, (n4.tw (by omega) (by omega) hq).mv k⟩
/-- the draft is ready to be written -/
def DfI (U : MS) : Prop := DhI U ∧ ((0 ≤ (qI U 0 122).toInt ∧ (qI U 0 122).toInt ≤ 29000) ∧ 0 ≤ (qI U 0 123).toInt ∧ (qI U 0 123).toInt ≤ 384) ∧ ∀ m : Nat, (m : Int) < (qI U 60 4).toInt → ∃ L : Int, (0 ≤ L ∧ L ≤ 24) ∧ MtD (qI U 74) (qI U 75) (qI U 76) (qI U 0 122).toInt 40000 (qI U 0 123).toInt L (qI U 60 3).toInt (qI U 60 4).toInt (qI U 70 m) (qI U 71 m) (qI U 72 m) (qI U 73 m)
/-- letters of the interned J -/
theorem tx_J {S : MS} (h : TxI S) : txW S 10000022 ∧ ltW S 10000022 2 := by
  obtain ⟨a, b, c⟩ := h 11 (by decide)
  have e : TXB + 2 * 11 + 1 = 10000022 + 1 := rfl
  rw [e] at a b c
  have b' : qN S (10000022 + 1) = 1 := b
  have c0 : qI S (10000022 + 1) 0 = 74 := c 0
  have pl : plT 10000022 S := Or.inr (by decide)
  refine ⟨⟨by rw [a]; decide, pl, by rw [b']; decide⟩, pl, ⟨⟨⟨Or.inl (by decide), by rw [a]; decide⟩, by rw [b']; decide⟩, fun i hi => ?_, ?_⟩⟩
  · rw [b'] at hi
    have : i = 0 := by omega
    subst this
    rw [c0]
    exact Or.inr (Or.inl (by decide))
  · unfold plS
    rw [b']
    have e1 : plc (qI S (10000022 + 1)) 1 = plc (fun _ => (74 : Int32)) 1 := plc_eq 1 (fun i hi => by
      have : i = 0 := by omega
      subst this
      exact c0)
    rw [e1]
    decide
theorem TxI.kp {S u : MS} (h : TxI S) (k : kpW S u) : TxI u := fun i hi => by
  have z := k.1 (TXB + 2 * i + 1) (by rw [show TXB = 10000000 from rfl]; omega) (Or.inr (by omega))
  rw [z.2.2.2.1, z.2.2.2.2, z.1]
  exact h i hi
