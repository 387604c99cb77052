/-! the graph drawn twice: marks, numbers (behind sp_draw, sp_edges2, sp_reach2) -/
def stJ (A : MS) (x : Int32) : Prop := ¬ (f_isJump A (f_op A x)).toInt = 0 ∨ (f_goesOn A (f_op A x)).toInt = 0
def stX (A : MS) (X : Int) (j : Nat) : Prop := j = 0 ∨ ∃ x : Int32, (0 ≤ x.toInt ∧ x.toInt < X) ∧ (stJ A x ∧ (j : Int) = x.toInt + 1 ∨ ∃ k : Int32, (0 ≤ k.toInt ∧ k.toInt < (f_ways A x).toInt) ∧ (j : Int) = (f_way A x k).toInt)
def stC (A : MS) (C : Int) (j : Nat) : Prop := ∃ c k : Int32, (0 ≤ c.toInt ∧ c.toInt < C) ∧ (0 ≤ k.toInt ∧ k.toInt < 3) ∧ (j : Int) = (f_catchWord A c k).toInt
def stM (A : MS) (j : Nat) : Prop := stX A (qI A 0 52).toInt j ∨ stC A (qI A 0 54).toInt j
def MkI (A U : MS) (T : Nat → Prop) : Prop := frm [49, 50] [105] A U ∧ (qI U 50 0).toInt = 1 ∧ (∀ j : Nat, (j : Int) ≤ (qI A 0 52).toInt → (qI U 50 j).toInt = 1 → stM A j) ∧ ∀ j : Nat, T j → (j : Int) ≤ (qI A 0 52).toInt → (qI U 50 j).toInt = 1
theorem MkI.le {A U : MS} {T T' : Nat → Prop} (h : MkI A U T) (k : ∀ j, T' j → T j) : MkI A U T' := ⟨h.1, h.2.1, h.2.2.1, fun j hj => h.2.2.2 j (k j hj)⟩
theorem MkI.set {A U D : MS} {T : Nat → Prop} {i : Nat} (h : MkI A U T) (eD : D = wI U 50 i (1 : Int32)) (hs : stM A i) : MkI A D (fun j => T j ∨ j = i) := by
  have d50 : ∀ j : Nat, qI D 50 j = if j = i then 1 else qI U 50 j := fun j => by
    rw [eD, qI_wI]
    by_cases q : j = i
    · rw [if_pos ⟨rfl, q⟩, if_pos q]
    · rw [if_neg (fun z => q z.2), if_neg q]
  refine ⟨h.1.tr (by rw [eD]; exact frm.pI (by decide)), ?_, fun j hj e => ?_, fun j hj hn => ?_⟩
  · rw [d50]
    by_cases q : 0 = i
    · rw [if_pos q]; rfl
    · rw [if_neg q]; exact h.2.1
  · rw [d50] at e
    by_cases q : j = i
    · rw [q]; exact hs
    · rw [if_neg q] at e; exact h.2.2.1 j hj e
  · rw [d50]
    by_cases q : j = i
    · rw [if_pos q]; rfl
    · rw [if_neg q]
      rcases hj with y | y
      · exact h.2.2.2 j y hn
      · exact absurd y q
/-- how many marks lie below -/
def cnG (g : Nat → Int32) (n : Nat) : Nat := sumN (fun j => if (g j).toInt = 1 then 1 else 0) n
theorem cnG_st {g : Nat → Int32} {n : Nat} : cnG g (n + 1) = cnG g n + (if (g n).toInt = 1 then 1 else 0) := rfl
theorem cnG_eq {g g' : Nat → Int32} (n : Nat) (h : ∀ j : Nat, j < n → ((g j).toInt = 1 ↔ (g' j).toInt = 1)) : cnG g n = cnG g' n := by
  unfold cnG
  refine sumN_eq n (fun j hj => ?_)
  have z := h j hj
  by_cases q : (g j).toInt = 1
  · rw [if_pos q, if_pos (z.mp q)]
  · rw [if_neg q, if_neg (fun y => q (z.mpr y))]
theorem cnG_on {g : Nat → Int32} : ∀ (n b : Nat), b < cnG g n → ∃ j : Nat, j < n ∧ (g j).toInt = 1 ∧ cnG g j = b := by
  intro n
  induction n with
  | zero => intro b hb; exact absurd hb (Nat.not_lt_zero _)
  | succ n ih =>
    intro b hb
    rw [cnG_st] at hb
    by_cases q : b < cnG g n
    · obtain ⟨j, j1, j2, j3⟩ := ih b q
      exact ⟨j, by omega, j2, j3⟩
    · by_cases z : (g n).toInt = 1
      · rw [if_pos z] at hb
        exact ⟨n, by omega, z, by omega⟩
      · rw [if_neg z] at hb
        omega
/-- what is drawn, said by the marks g and the rows -/
def DwP (A : MS) (g : Nat → Int32) (u : MS) : Prop := (qI u 0 105).toInt = cnG g (qI A 0 52).toInt.toNat ∧ (∀ j : Nat, (j : Int) < (qI A 0 52).toInt → (qI u 50 j).toInt = (cnG g (j + 1) : Int) - 1) ∧ (∀ j : Nat, (j : Int) < (qI A 0 52).toInt → (g j).toInt = 1 → (qI u 49 (cnG g j)).toInt = j) ∧ (qI u 49 (cnG g (qI A 0 52).toInt.toNat)).toInt = (qI A 0 52).toInt ∧ (∀ b c : Nat, (b : Int) < (qI u 0 105).toInt → (eG u b c ↔ edC A u b c)) ∧ RhP u u
theorem RhP.sw {S S' u : MS} (h : RhP S u) (e1 : qI S' 51 = qI S 51) (e2 : qI S' 52 = qI S 52) (e3 : qI S' 0 105 = qI S 0 105) : RhP S' u := by
  unfold RhP lsG clG eG at h ⊢
  rw [e1, e2, e3]
  exact h
/-- the same rows are looked at: only what the drawing hangs on -/
def smQ (S u : MS) : Prop := (qO u 0 48 = qO S 0 48 ∧ qO u 0 49 = qO S 0 49 ∧ qO u 0 50 = qO S 0 50) ∧ (qI u (qO S 0 48) = qI S (qO S 0 48) ∧ qI u (qO S 0 49) = qI S (qO S 0 49) ∧ qI u (qO S 0 50) = qI S (qO S 0 50)) ∧ ∀ j : Nat, 51 ≤ j → j ≤ 54 → qI u 0 j = qI S 0 j
theorem smQ.op {S u : MS} (h : smQ S u) (x : Int32) : f_op u x = f_op S x ∧ f_first u x = f_first S x ∧ f_second u x = f_second S x := by
  unfold f_op f_first f_second
  rw [h.1.1, h.2.2 51 (by decide) (by decide), h.2.1.1]
  exact ⟨rfl, rfl, rfl⟩
theorem smQ.cw {S u : MS} (h : smQ S u) (c w : Int32) : f_catchWord u c w = f_catchWord S c w := by
  unfold f_catchWord
  rw [h.1.2.2, h.2.2 53 (by decide) (by decide), h.2.1.2.2]
theorem smQ.ic {S u : MS} (h : smQ S u) (x c : Int32) : f_isCaught u x c = f_isCaught S x c := by
  unfold f_isCaught f_isCaught_J24
  rw [h.cw, h.cw]
theorem smQ.wy {S u : MS} (h : smQ S u) (x c : Int32) : f_ways u x = f_ways S x ∧ f_way u x c = f_way S x c := by
  unfold f_ways f_way
  rw [(h.op x).1, (h.op x).2.1, (h.op x).2.2, h.1.2.1, h.2.1.2.1]
  exact ⟨rfl, rfl⟩
theorem smL.q {S u : MS} (h : smL S u) (k : LkI S) : smQ S u := ⟨⟨h.qo (by decide) (by decide), h.qo (by decide) (by decide), h.qo (by decide) (by decide)⟩, ⟨(h.1.1 _ k.1.1.2.1).1, (h.1.1 _ k.1.1.2.2.1).1, (h.1.1 _ k.1.1.2.2.2).1⟩, fun j a b => (h.2 j (by omega) b).1⟩
theorem edC.mv {A D u : MS} (s : smQ A D) (e1 : qI D 49 = qI u 49) (e2 : qI D 50 = qI u 50) (b c : Nat) : edC D D b c ↔ edC A u b c := by
  have e52 : qI D 0 52 = qI A 0 52 := s.2.2 52 (by decide) (by decide)
  have e54 : qI D 0 54 = qI A 0 54 := s.2.2 54 (by decide) (by decide)
  unfold edC edN edW edT
  rw [e1, e2, e52, e54]
  have eo : ∀ x : Int32, f_op D x = f_op A x := fun x => (s.op x).1
  have ew : ∀ x y : Int32, f_ways D x = f_ways A x ∧ f_way D x y = f_way A x y := fun x y => s.wy x y
  have eg : ∀ o : Int32, f_goesOn D o = f_goesOn A o := fun _ => rfl
  have ei : ∀ x t : Int32, f_isCaught D x t = f_isCaught A x t := fun x t => s.ic x t
  have ec : ∀ t w : Int32, f_catchWord D t w = f_catchWord A t w := fun t w => s.cw t w
  have e1' : ∀ x : Int32, f_ways D x = f_ways A x := fun x => (ew x 0).1
  have e2' : ∀ x y : Int32, f_way D x y = f_way A x y := fun x y => (ew x y).2
  simp only [eo, eg, ei, ec, e1', e2']
theorem sp_draw2_L167 {A : MS} {g : Nat → Int32} {Q : MS → Prop} (h : LkI A) (hQ : ∀ u : MS, frm [49, 50, 51, 52, 53] [105, 110] A u → GbI u (qI A 0 52).toInt → GeI u → DwP A g u → Q u) : ∀ (c : Nat) (U : MS) (i : Int32), frm [49, 50] [105] A U → (0 ≤ i.toInt ∧ i.toInt ≤ (qI A 0 52).toInt) → (0 ≤ (qI U 0 105).toInt ∧ (qI U 0 105).toInt ≤ i.toInt) → (i.toInt = 0 → (qI U 50 0).toInt = 1) → (1 ≤ i.toInt → 1 ≤ (qI U 0 105).toInt) → (∀ b : Nat, (b : Int) < (qI U 0 105).toInt → (b : Int) ≤ (qI U 49 b).toInt ∧ (qI U 49 b).toInt < i.toInt) → (∀ b : Nat, (b : Int) + 1 < (qI U 0 105).toInt → (qI U 49 b).toInt < (qI U 49 (b + 1)).toInt) → (∀ j : Nat, (j : Int) < i.toInt → (0 ≤ (qI U 50 j).toInt ∧ (qI U 50 j).toInt < (qI U 0 105).toInt) ∧ (qI U 49 (qI U 50 j).toInt.toNat).toInt ≤ j) → (∀ j : Nat, (j : Int) + 1 < i.toInt → (qI U 50 j).toInt ≤ (qI U 50 (j + 1)).toInt) → ((qI U 0 105).toInt = cnG g i.toInt.toNat ∧ (∀ j : Nat, (j : Int) < i.toInt → (qI U 50 j).toInt = (cnG g (j + 1) : Int) - 1) ∧ (∀ j : Nat, i.toInt ≤ j → qI U 50 j = g j) ∧ ∀ j : Nat, (j : Int) < i.toInt → (g j).toInt = 1 → (qI U 49 (cnG g j)).toInt = j) → (1200 - i.toInt).toNat < c → w_draw_L167 Q c U i := by
  have cn := h.cnt
  intro c
  induction c with
  | zero => intro U i _ _ _ _ _ _ _ _ _ _ h9; exact absurd h9 (Nat.not_lt_zero _)
  | succ c ih =>
    intro U i fU hi hc0 hz h1 s1 s2 o1 o2 nm hc
    obtain ⟨n1, n2, n3, n4⟩ := nm
    have u52 : qI U 0 52 = qI A 0 52 := (fU.2.2.2.2.2 52 (by decide)).1
    have sU := smL.fm fU (by decide) (by decide)
    have kU := h.mv sU
    unfold w_draw_L167
    rw [u52]
    refine ⟨fun c1 => ⟨⟨hc0.1, by omega⟩, fun D eD => ?_⟩, fun c1 => ?_⟩
    · have eN : i.toInt = (qI A 0 52).toInt := by omega
      have fD : frm [49, 50] [105] U D := by rw [eD]; exact frm.pI (by decide)
      have d105 : qI D 0 105 = qI U 0 105 := by rw [eD, rdH (by decide)]
      have d50 : qI D 50 = qI U 50 := by rw [eD, rdH (by decide)]
      have d49 : ∀ b : Nat, qI D 49 b = if b = (qI U 0 105).toInt.toNat then qI A 0 52 else qI U 49 b := fun b => by
        rw [eD, qI_wI]
        by_cases q : b = (qI U 0 105).toInt.toNat
        · rw [if_pos ⟨rfl, q⟩, if_pos q]
        · rw [if_neg (fun z => q z.2), if_neg q]
      have gD : GbI D (qI A 0 52).toInt := by
        refine ⟨by rw [d105]; have := h1 (by omega); omega, fun b hb => ?_, fun b hb => ?_, ?_, fun j hj => ?_, fun j hj => ?_⟩
        · rw [d105] at hb
          rw [d49, if_neg (by omega)]
          have := s1 b hb
          omega
        · rw [d105] at hb
          rw [d49, d49, if_neg (by omega), if_neg (by omega)]
          exact s2 b hb
        · rw [d105, d49, if_pos rfl]
        · have q := o1 j (by omega)
          rw [d50, d105, d49, if_neg (by omega)]
          exact q
        · rw [d50]
          exact o2 j (by omega)
      have sD := smL.fm fD (by decide) (by decide)
      have kD : LkI D := kU.mv sD
      have d52 : qI D 0 52 = qI A 0 52 := by rw [(fD.2.2.2.2.2 52 (by decide)).1, u52]
      have eg := sp_edges2 kD (by rw [d52]; exact gD)
      refine ⟨_, eg, fun E hE => ⟨_, sp_reach2 hE.1.2 (by rw [(hE.1.1.2.2.2.2.2 105 (by decide)).1, d105]; exact h1 (by omega)), fun F fF => ?_⟩⟩
      obtain ⟨fF, rF⟩ := fF
      have fEF := fF
      refine hQ F ((fU.mo (by decide) (by decide)).tr ((fD.mo (by decide) (by decide)).tr ((hE.1.1.mo (by decide) (by decide)).tr (fF.mo (by decide) (by decide))))) ?_ (hE.1.2.fm fF (by decide) (by decide) (by decide) (by decide)) ?_
      · exact (gD.fm hE.1.1 (by decide) (by decide) (by decide)).fm fF (by decide) (by decide) (by decide)
      have f49 : qI F 49 = qI D 49 := ((fF.2.2.2.2.1 49 (by decide) (by decide)).1).trans (hE.1.1.2.2.2.2.1 49 (by decide) (by decide)).1
      have f50 : qI F 50 = qI D 50 := ((fF.2.2.2.2.1 50 (by decide) (by decide)).1).trans (hE.1.1.2.2.2.2.1 50 (by decide) (by decide)).1
      have f105 : qI F 0 105 = qI D 0 105 := ((fF.2.2.2.2.2 105 (by decide)).1).trans (hE.1.1.2.2.2.2.2 105 (by decide)).1
      have f51 : qI F 51 = qI E 51 := (fF.2.2.2.2.1 51 (by decide) (by decide)).1
      have f52 : qI F 52 = qI E 52 := (fF.2.2.2.2.1 52 (by decide) (by decide)).1
      have fe105 : qI F 0 105 = qI E 0 105 := (fF.2.2.2.2.2 105 (by decide)).1
      have ei : i.toInt.toNat = (qI A 0 52).toInt.toNat := by omega
      refine ⟨by rw [f105, d105, n1, ei], fun j hj => by rw [f50, d50]; exact n2 j (by omega), fun j hj gj => ?_, ?_, fun b c' hb => ?_, rF.sw f51 f52 fe105⟩
      · rw [f49, d49, if_neg ?_]
        · exact n4 j (by omega) gj
        · intro q
          have a1 : cnG g (j + 1) = cnG g j + 1 := by rw [cnG_st, if_pos gj]
          have a2 := n2 j (by omega)
          have a3 := (o1 j (by omega)).1
          omega
      · rw [f49, d49, if_pos (by rw [n1, ei]; omega)]
      · rw [f105] at hb
        have z := hE.2 b c' hb
        rw [edC.mv ((sU.tr sD).q h) f49.symm f50.symm] at z
        rw [← z]
        unfold eG
        rw [f51, f52]
    · have ei : (i + Int32.ofInt 1).toInt = i.toInt + 1 := by rw [t_add (by rw [lo_1]; omega), lo_1]
      have j205 : ∀ V : MS, frm [49, 50] [105] A V → (1 ≤ (qI V 0 105).toInt ∧ (qI V 0 105).toInt ≤ i.toInt + 1) → (∀ b : Nat, (b : Int) < (qI V 0 105).toInt → (b : Int) ≤ (qI V 49 b).toInt ∧ (qI V 49 b).toInt < i.toInt + 1) → (∀ b : Nat, (b : Int) + 1 < (qI V 0 105).toInt → (qI V 49 b).toInt < (qI V 49 (b + 1)).toInt) → (∀ j : Nat, (j : Int) < i.toInt → (0 ≤ (qI V 50 j).toInt ∧ (qI V 50 j).toInt < (qI V 0 105).toInt) ∧ (qI V 49 (qI V 50 j).toInt.toNat).toInt ≤ j) → (∀ j : Nat, (j : Int) + 1 < i.toInt → (qI V 50 j).toInt ≤ (qI V 50 (j + 1)).toInt) → ((qI V 0 105).toInt = cnG g (i.toInt.toNat + 1) ∧ qI V 50 = qI U 50 ∧ ∀ j : Nat, (j : Int) < i.toInt + 1 → (g j).toInt = 1 → (qI V 49 (cnG g j)).toInt = j) → w_draw_J205 Q (w_draw_L167 Q c) V i := fun V fV v1 t1 t2 p1 p2 p3 => by
        obtain ⟨p4, p5, p6⟩ := p3
        unfold w_draw_J205
        refine ⟨⟨hi.1, by omega⟩, fun D eD a ea => ?_⟩
        subst ea
        have fD : frm [49, 50] [105] V D := by rw [eD]; exact frm.pI (by decide)
        have d105 : qI D 0 105 = qI V 0 105 := by rw [eD, rdH (by decide)]
        have d49 : qI D 49 = qI V 49 := by rw [eD, rdH (by decide)]
        have ev : (qI V 0 105 - (1 : Int32)).toInt = (qI V 0 105).toInt - 1 := by rw [t_sub (by rw [li_1]; omega), li_1]
        have d50' : ∀ j : Nat, qI D 50 j = if j = i.toInt.toNat then (qI V 0 105 - (1 : Int32)) else qI V 50 j := fun j => by
          rw [eD, qI_wI]
          by_cases q : j = i.toInt.toNat
          · rw [if_pos ⟨rfl, q⟩, if_pos q]
          · rw [if_neg (fun z => q z.2), if_neg q]
        have d50 : ∀ j : Nat, (qI D 50 j).toInt = if j = i.toInt.toNat then (qI V 0 105).toInt - 1 else (qI V 50 j).toInt := fun j => by
          rw [d50']
          by_cases q : j = i.toInt.toNat
          · rw [if_pos q, if_pos q, ev]
          · rw [if_neg q, if_neg q]
        have ein : (i + Int32.ofInt 1).toInt.toNat = i.toInt.toNat + 1 := by omega
        refine ih D _ (fV.tr fD) ⟨by omega, by omega⟩ (by rw [d105]; omega) (fun z => by omega) (fun _ => by rw [d105]; exact v1.1) ?_ ?_ ?_ ?_ ⟨by rw [d105, ein]; exact p4, fun j hj => ?_, fun j hj => ?_, fun j hj gj => by rw [d49]; exact p6 j (by omega) gj⟩ (by omega)
        · rw [d105, d49, ei]; exact t1
        · rw [d105, d49]; exact t2
        · intro j hj
          rw [ei] at hj
          rw [d50, d105, d49]
          by_cases q : j = i.toInt.toNat
          · rw [if_pos q]
            have := t1 ((qI V 0 105).toInt - 1).toNat (by omega)
            omega
          · rw [if_neg q]
            exact p1 j (by omega)
        · intro j hj
          rw [ei] at hj
          rw [d50, d50]
          by_cases q : j + 1 = i.toInt.toNat
          · rw [if_neg (by omega), if_pos q]
            have := (p1 j (by omega)).1
            omega
          · rw [if_neg (by omega), if_neg q]
            exact p2 j (by omega)
        · rw [d50]
          by_cases q : j = i.toInt.toNat
          · rw [if_pos q, p4, q]
          · rw [if_neg q, p5]
            exact n2 j (by omega)
        · rw [d50', if_neg (by omega), p5]
          exact n3 j (by omega)
      have gi : qI U 50 i.toInt.toNat = g i.toInt.toNat := n3 _ (by omega)
      refine ⟨⟨hi.1, by omega⟩, fun c2 => ⟨⟨hc0.1, by omega⟩, fun D eD E eE => ?_⟩, fun c2 => ?_⟩
      · have d105 : qI D 0 105 = qI U 0 105 := by rw [eD, rdH (by decide)]
        have e105 : (qI E 0 105).toInt = (qI U 0 105).toInt + 1 := by rw [eE, qI_wI, if_pos ⟨rfl, rfl⟩, d105, t_add (by rw [li_1]; omega), li_1]
        have e50 : qI E 50 = qI U 50 := by rw [eE, rdH (by decide), eD, rdH (by decide)]
        have e49 : ∀ b : Nat, qI E 49 b = if b = (qI U 0 105).toInt.toNat then i else qI U 49 b := fun b => by
          rw [eE, rdH (by decide), eD, qI_wI]
          by_cases q : b = (qI U 0 105).toInt.toNat
          · rw [if_pos ⟨rfl, q⟩, if_pos q]
          · rw [if_neg (fun z => q z.2), if_neg q]
        rw [gi] at c2
        refine j205 E (fU.tr ((show frm [49, 50] [105] U D by rw [eD]; exact frm.pI (by decide)).tr (by rw [eE]; exact frm.pI0 (by decide)))) (by omega) (fun b hb => ?_) (fun b hb => ?_) (fun j hj => ?_) (fun j hj => by rw [e50]; exact o2 j hj) ⟨by rw [e105, n1, cnG_st, if_pos c2]; omega, e50, fun j hj gj => ?_⟩
        · rw [e49]
          by_cases q : b = (qI U 0 105).toInt.toNat
          · rw [if_pos q]; omega
          · rw [if_neg q]; have := s1 b (by omega); omega
        · rw [e49, e49, if_neg (by omega)]
          by_cases q : b + 1 = (qI U 0 105).toInt.toNat
          · rw [if_pos q]; exact (s1 b (by omega)).2
          · rw [if_neg q]; exact s2 b (by omega)
        · have q := o1 j hj
          rw [e50, e49, if_neg (by omega)]
          omega
        · rw [e49]
          by_cases q : j = i.toInt.toNat
          · rw [if_pos (by rw [q, n1]; omega)]; omega
          · have a1 : cnG g (j + 1) = cnG g j + 1 := by rw [cnG_st, if_pos gj]
            have a2 := n2 j (by omega)
            have a3 := (o1 j (by omega)).1
            rw [if_neg (by omega)]
            exact n4 j (by omega) gj
      · have i1 : 1 ≤ i.toInt := by
          by_cases z : i.toInt = 0
          · exact absurd (by rw [z]; exact hz z) c2
          · omega
        rw [gi] at c2
        refine j205 U fU ⟨h1 i1, by omega⟩ (fun b hb => by have := s1 b hb; omega) s2 o1 o2 ⟨by rw [n1, cnG_st, if_neg c2]; omega, rfl, fun j hj gj => ?_⟩
        by_cases q : j = i.toInt.toNat
        · rw [q] at gj; exact absurd gj c2
        · exact n4 j (by omega) gj
/-! draw again, with what is drawn (behind sp_draw2_L167, MkI) -/
def mkA (A : MS) (g : Nat → Int32) : Prop := ∀ j : Nat, (j : Int) ≤ (qI A 0 52).toInt → ((g j).toInt = 1 ↔ stM A j)
theorem sp_draw2 {S : MS} {f : Nat} {m : Int32} (hf : FlI S f) (hm : 0 ≤ m.toInt ∧ m.toInt < (qI S f 4).toInt) : w_draw S f m (fun u => (GbI u (qI S (f + 11) m.toInt.toNat).toInt ∧ GeI u) ∧ ∃ (A : MS) (g : Nat → Int32), frm [] [47, 48, 49, 50, 51, 52, 53, 54] S A ∧ LkI A ∧ LoP S f m.toInt.toNat A ∧ mkA A g ∧ DwP A g u) := by
  unfold w_draw
  refine ⟨_, sp_look hf hm, ?_⟩
  rintro A ⟨⟨fA, h⟩, lo⟩
  have cn := h.cnt
  have l0 : (0 : Int32).toInt = 0 := rfl
  have l3 : (3 : Int32).toInt = 3 := by decide
  have N : qI A 0 52 = qI S (f + 11) m.toInt.toNat := lo.2.2.1
  rw [← N]
  obtain ⟨PQ, ePQ⟩ : ∃ PQ : MS → Prop, PQ = (fun u => (GbI u (qI A 0 52).toInt ∧ GeI u) ∧ ∃ (A : MS) (g : Nat → Int32), frm [] [47, 48, 49, 50, 51, 52, 53, 54] S A ∧ LkI A ∧ LoP S f m.toInt.toNat A ∧ mkA A g ∧ DwP A g u) := ⟨_, rfl⟩
  rw [← ePQ]
  have sl : ∀ U : MS, frm [49, 50] [105] A U → smL A U ∧ LkI U ∧ qI U 0 52 = qI A 0 52 ∧ qI U 0 54 = qI A 0 54 := fun U fU => by
    have s := smL.fm fU (by decide) (by decide)
    exact ⟨s, h.mv s, (fU.2.2.2.2.2 52 (by decide)).1, (fU.2.2.2.2.2 54 (by decide)).1⟩
  have inj : ∀ x y : Int32, x.toInt = y.toInt → x = y := fun x y e => Int32.toInt_inj.mp e
  have L129 : ∀ (k118 : MS → Int32 → Prop) (x : Int32), (0 ≤ x.toInt ∧ x.toInt < (qI A 0 54).toInt) → (∀ U : MS, MkI A U (fun j => stX A (qI A 0 52).toInt j ∨ stC A (x.toInt + 1) j) → k118 U (x + Int32.ofInt 1)) → ∀ (c : Nat) (U : MS) (k : Int32), MkI A U (fun j => (stX A (qI A 0 52).toInt j ∨ stC A x.toInt j) ∨ ∃ y : Int32, (0 ≤ y.toInt ∧ y.toInt < k.toInt) ∧ (j : Int) = (f_catchWord A x y).toInt) → (0 ≤ k.toInt ∧ k.toInt ≤ 3) → (3 - k.toInt).toNat < c → w_draw_L129 PQ k118 c U x k := by
    intro k118 x hx hk c
    induction c with
    | zero => intro U k _ _ h9; exact absurd h9 (Nat.not_lt_zero _)
    | succ c ih =>
      intro U k hU k0 hc
      obtain ⟨s, kU, u52, u54⟩ := sl U hU.1
      unfold w_draw_L129
      refine ⟨fun c1 a ea => ?_, fun c1 => ?_⟩
      · subst ea
        refine hk U (hU.le (fun j hj => ?_))
        rcases hj with q | ⟨c', k', q1, q2, q3⟩
        · exact Or.inl (Or.inl q)
        · by_cases z : c'.toInt < x.toInt
          · exact Or.inl (Or.inr ⟨c', k', ⟨q1.1, z⟩, q2, q3⟩)
          · have e := inj c' x (by omega)
            subst e
            exact Or.inr ⟨k', ⟨q2.1, by omega⟩, q3⟩
      have xr : 0 ≤ x.toInt ∧ x.toInt < (qI U 0 54).toInt := by rw [u54]; exact hx
      have cw := kU.cw xr
      rw [u52] at cw
      have rng : 0 ≤ (f_catchWord U x k).toInt ∧ (f_catchWord U x k).toInt < 1201 := by
        have kk : k.toInt = 0 ∨ k.toInt = 1 ∨ k.toInt = 2 := by omega
        rcases kk with q | q | q
        · have : k = 0 := Int32.toInt_inj.mp (by rw [q]; rfl)
          rw [this]; omega
        · have : k = 1 := Int32.toInt_inj.mp (by rw [q]; rfl)
          rw [this]; omega
        · have : k = 2 := Int32.toInt_inj.mp (by rw [q]; rfl)
          rw [this]; omega
      have ek : (k + Int32.ofInt 1).toInt = k.toInt + 1 := by rw [t_add (by rw [lo_1]; omega), lo_1]
      refine ⟨kU.dcw xr k0, rng, fun D eD a ea => ?_⟩
      subst ea
      have ecw := s.cw h x k
      have hD := hU.set eD (Or.inr ⟨x, k, hx, ⟨k0.1, by omega⟩, by rw [← ecw]; omega⟩)
      refine ih D _ (hD.le (fun j hj => ?_)) ⟨by omega, by omega⟩ (by omega)
      rcases hj with q | ⟨y, q1, q2⟩
      · exact Or.inl (Or.inl q)
      · by_cases z : y.toInt < k.toInt
        · exact Or.inl (Or.inr ⟨y, ⟨q1.1, z⟩, q2⟩)
        · have e := inj y k (by omega)
          subst e
          exact Or.inr (by rw [ecw]; omega)
  have L118 : ∀ (c : Nat) (U : MS) (x : Int32), MkI A U (fun j => stX A (qI A 0 52).toInt j ∨ stC A x.toInt j) → (0 ≤ x.toInt ∧ x.toInt ≤ (qI A 0 54).toInt) → (16 - x.toInt).toNat < c → w_draw_L118 PQ c U x := by
    intro c
    induction c with
    | zero => intro U x _ _ h9; exact absurd h9 (Nat.not_lt_zero _)
    | succ c ih =>
      intro U x hU x0 hc
      obtain ⟨s, kU, u52, u54⟩ := sl U hU.1
      unfold w_draw_L118
      rw [u54]
      refine ⟨fun c1 D eD => ?_, fun c1 => ?_⟩
      · have d105 : (qI D 0 105).toInt = 0 := by rw [eD, qI_wI, if_pos ⟨rfl, rfl⟩]; rfl
        have d50 : qI D 50 = qI U 50 := by rw [eD, rdH (by decide)]
        have ma : mkA A (qI U 50) := fun j hj => ⟨fun q => hU.2.2.1 j hj q, fun q => hU.2.2.2 j (by rw [show x.toInt = (qI A 0 54).toInt by omega]; exact q) hj⟩
        exact ⟨_, sp_draw2_L167 (g := qI U 50) h (fun u _ g e d => by rw [ePQ]; exact ⟨⟨g, e⟩, A, qI U 50, fA, h, lo, ma, d⟩) _ D 0 (hU.1.tr (by rw [eD]; exact frm.pI0 (by decide))) ⟨by decide, by rw [l0]; omega⟩ (by rw [d105, l0]; omega) (fun _ => by rw [d50]; exact hU.2.1) (fun q => by rw [l0] at q; omega) (fun b hb => by omega) (fun b hb => by omega) (fun j hj => by rw [l0] at hj; omega) (fun j hj => by rw [l0] at hj; omega) ⟨by rw [d105]; rfl, fun j hj => by rw [l0] at hj; omega, fun j _ => by rw [d50], fun j hj => by rw [l0] at hj; omega⟩ (Nat.lt_succ_self _)⟩
      · have ek : (x + Int32.ofInt 1).toInt = x.toInt + 1 := by rw [t_add (by rw [lo_1]; omega), lo_1]
        refine ⟨_, L129 _ x ⟨x0.1, by omega⟩ (fun V hV => ih V _ (by rw [ek]; exact hV) (by omega) (by omega)) _ U 0 (hU.le (fun j hj => ?_)) ⟨by decide, by decide⟩ (Nat.lt_succ_self _)⟩
        rcases hj with q | ⟨y, q1, q2⟩
        · exact q
        · rw [l0] at q1; omega
  have L81 : ∀ (k38 : MS → Int32 → Prop) (x : Int32), (0 ≤ x.toInt ∧ x.toInt < (qI A 0 52).toInt) → (∀ U : MS, MkI A U (stX A (x.toInt + 1)) → k38 U (x + Int32.ofInt 1)) → ∀ (c : Nat) (U : MS) (k : Int32), MkI A U (fun j => (stX A x.toInt j ∨ stJ A x ∧ (j : Int) = x.toInt + 1) ∨ ∃ y : Int32, (0 ≤ y.toInt ∧ y.toInt < k.toInt) ∧ (j : Int) = (f_way A x y).toInt) → 0 ≤ k.toInt → (202 - k.toInt).toNat < c → w_draw_L81 PQ k38 c U x k := by
    intro k38 x hx hk c
    induction c with
    | zero => intro U k _ _ h9; exact absurd h9 (Nat.not_lt_zero _)
    | succ c ih =>
      intro U k hU k0 hc
      obtain ⟨s, kU, u52, u54⟩ := sl U hU.1
      have ws := kU.ways (x := x) (by rw [u52]; exact hx)
      have wy := s.wy h x k
      unfold w_draw_L81
      refine ⟨ws.1, fun c1 a ea => ?_, fun c1 => ?_⟩
      · subst ea
        rw [wy.1] at c1
        refine hk U (hU.le (fun j hj => ?_))
        rcases hj with q | ⟨x', q1, q2⟩
        · exact Or.inl (Or.inl (Or.inl q))
        · by_cases z : x'.toInt < x.toInt
          · exact Or.inl (Or.inl (Or.inr ⟨x', ⟨q1.1, z⟩, q2⟩))
          · have e := inj x' x (by omega)
            subst e
            rcases q2 with ⟨y1, y2⟩ | ⟨k', y1, y2⟩
            · exact Or.inl (Or.inr ⟨y1, y2⟩)
            · exact Or.inr ⟨k', ⟨y1.1, by omega⟩, y2⟩
      have wk := ws.2.2 k k0 (by omega)
      rw [u52] at wk
      have ek : (k + Int32.ofInt 1).toInt = k.toInt + 1 := by have := ws.2.1; rw [t_add (by rw [lo_1]; omega), lo_1]
      refine ⟨wk.1, ⟨wk.2.1, by omega⟩, fun D eD a ea => ?_⟩
      subst ea
      rw [wy.1] at c1
      have hD := hU.set eD (Or.inl (Or.inr ⟨x, hx, Or.inr ⟨k, ⟨k0, by omega⟩, by rw [← wy.2]; omega⟩⟩))
      refine ih D _ (hD.le (fun j hj => ?_)) (by omega) (by have := ws.2.1; rw [wy.1] at this; omega)
      rcases hj with q | ⟨y, q1, q2⟩
      · exact Or.inl (Or.inl q)
      · by_cases z : y.toInt < k.toInt
        · exact Or.inl (Or.inr ⟨y, ⟨q1.1, z⟩, q2⟩)
        · have e := inj y k (by omega)
          subst e
          exact Or.inr (by rw [wy.2]; omega)
  have L38 : ∀ (c : Nat) (U : MS) (x : Int32), MkI A U (stX A x.toInt) → (0 ≤ x.toInt ∧ x.toInt ≤ (qI A 0 52).toInt) → (1200 - x.toInt).toNat < c → w_draw_L38 PQ c U x := by
    intro c
    induction c with
    | zero => intro U x _ _ h9; exact absurd h9 (Nat.not_lt_zero _)
    | succ c ih =>
      intro U x hU x0 hc
      obtain ⟨s, kU, u52, u54⟩ := sl U hU.1
      unfold w_draw_L38
      rw [u52]
      refine ⟨fun c1 => ⟨_, L118 _ U 0 (hU.le (fun j hj => ?_)) ⟨by decide, by rw [l0]; omega⟩ (Nat.lt_succ_self _)⟩, fun c1 => ?_⟩
      · rcases hj with q | ⟨c', k', q1, _⟩
        · rw [show x.toInt = (qI A 0 52).toInt by omega]; exact q
        · rw [l0] at q1; omega
      have xr : 0 ≤ x.toInt ∧ x.toInt < (qI A 0 52).toInt := ⟨x0.1, by omega⟩
      have ek : (x + Int32.ofInt 1).toInt = x.toInt + 1 := by rw [t_add (by rw [lo_1]; omega), lo_1]
      have e1 : (x + (1 : Int32)).toInt = x.toInt + 1 := by rw [t_add (by rw [li_1]; omega), li_1]
      have j78 : ∀ V : MS, MkI A V (fun j => stX A x.toInt j ∨ stJ A x ∧ (j : Int) = x.toInt + 1) → w_draw_J78 PQ (w_draw_L38 PQ c) V x := fun V hV => by
        unfold w_draw_J78
        refine ⟨_, L81 _ x xr (fun W hW => ih W _ (by rw [ek]; exact hW) (by omega) (by omega)) _ V 0 (hV.le (fun j hj => ?_)) (by decide) (Nat.lt_succ_self _)⟩
        rcases hj with q | ⟨y, q1, _⟩
        · exact q
        · rw [l0] at q1; omega
      have eop := (s.op h x).1
      have j69 : stJ A x → w_draw_J69 PQ (w_draw_L38 PQ c) U x := fun hs => by
        unfold w_draw_J69
        rw [e1]
        refine ⟨⟨by omega, by omega⟩, fun D eD => ?_⟩
        refine j78 D ((hU.set eD (Or.inl (Or.inr ⟨x, xr, Or.inl ⟨hs, by omega⟩⟩))).le (fun j hj => ?_))
        rcases hj with q | q
        · exact Or.inl q
        · exact Or.inr (by omega)
      have dj : ∀ o : Int32, d_isJump U o ∧ d_goesOn U o := fun o => by
        unfold d_isJump d_isJump_J14 d_isJump_J28 d_goesOn d_goesOn_J60
        simp only [ite_self]
        exact ⟨trivial, trivial⟩
      have ej : ∀ o : Int32, f_isJump U o = f_isJump A o ∧ f_goesOn U o = f_goesOn A o := fun _ => ⟨rfl, rfl⟩
      refine ⟨(kU.dop (x := x) (by rw [u52]; exact xr)).1, fun o eo => ?_⟩
      rw [eop] at eo
      subst eo
      rw [(ej _).1, (ej _).2]
      refine ⟨(dj _).1, fun c2 => ⟨(dj _).2, fun c3 => j69 (Or.inr c3), fun c3 => j78 U (hU.le (fun j hj => ?_))⟩, fun c2 => j69 (Or.inl c2)⟩
      rcases hj with q | q
      · exact q
      · rcases q.1 with y | y
        · exact absurd c2 y
        · exact absurd y c3
  have L8 : ∀ (c : Nat) (U : MS) (x : Int32), frm [49, 50] [105] A U → 0 ≤ x.toInt → (∀ j : Nat, (j : Int) < x.toInt → (qI U 50 j).toInt = 0) → (1201 - x.toInt).toNat < c → w_draw_L8 PQ c U x := by
    intro c
    induction c with
    | zero => intro U x _ _ _ h9; exact absurd h9 (Nat.not_lt_zero _)
    | succ c ih =>
      intro U x fU x0 hz hc
      obtain ⟨s, kU, u52, u54⟩ := sl U fU
      unfold w_draw_L8
      rw [u52]
      refine ⟨fun c1 D eD => ?_, fun c1 => ⟨⟨x0, by omega⟩, fun D eD a ea => ?_⟩⟩
      · have d50 : ∀ j : Nat, qI D 50 j = if j = 0 then 1 else qI U 50 j := fun j => by
          rw [eD, qI_wI]
          by_cases q : j = 0
          · rw [if_pos ⟨rfl, q⟩, if_pos q]
          · rw [if_neg (fun z => q z.2), if_neg q]
        refine ⟨_, L38 _ D 0 ⟨fU.tr (by rw [eD]; exact frm.pI (by decide)), by rw [d50, if_pos rfl]; rfl, fun j hj e => ?_, fun j hj hn => ?_⟩ ⟨by decide, by rw [l0]; omega⟩ (Nat.lt_succ_self _)⟩
        · rw [d50] at e
          by_cases q : j = 0
          · exact Or.inl (Or.inl q)
          · rw [if_neg q] at e
            have := hz j (by omega)
            omega
        · rcases hj with q | ⟨y, q1, _⟩
          · rw [d50, if_pos q]; rfl
          · rw [l0] at q1; omega
      · have ek : (x + Int32.ofInt 1).toInt = x.toInt + 1 := by rw [t_add (by rw [lo_1]; omega), lo_1]
        subst ea
        refine ih D _ (fU.tr (by rw [eD]; exact frm.pI (by decide))) (by omega) (fun j hj => ?_) (by omega)
        rw [eD, qI_wI]
        by_cases q : (50 : Nat) = 50 ∧ j = x.toInt.toNat
        · rw [if_pos q]; rfl
        · rw [if_neg q]
          exact hz j (by omega)
  exact ⟨_, L8 _ A 0 frm.rf (by decide) (fun j hj => by rw [l0] at hj; omega) (Nat.lt_succ_self _)⟩
theorem stM.mv {A D : MS} (s : smQ A D) (j : Nat) : stM D j ↔ stM A j := by
  have e52 : qI D 0 52 = qI A 0 52 := s.2.2 52 (by decide) (by decide)
  have e54 : qI D 0 54 = qI A 0 54 := s.2.2 54 (by decide) (by decide)
  have eo : ∀ x : Int32, f_op D x = f_op A x := fun x => (s.op x).1
  have ej : ∀ o : Int32, f_isJump D o = f_isJump A o := fun _ => rfl
  have eg : ∀ o : Int32, f_goesOn D o = f_goesOn A o := fun _ => rfl
  have ec : ∀ t w : Int32, f_catchWord D t w = f_catchWord A t w := fun t w => s.cw t w
  have e1' : ∀ x : Int32, f_ways D x = f_ways A x := fun x => (s.wy x 0).1
  have e2' : ∀ x y : Int32, f_way D x y = f_way A x y := fun x y => (s.wy x y).2
  unfold stM stX stC stJ
  rw [e52, e54]
  simp only [eo, eg, ej, ec, e1', e2']
theorem nzN_eq {g g' : Nat → Int32} (n : Nat) (h : ∀ j : Nat, j < n → ((g j).toInt = 0 ↔ (g' j).toInt = 0)) : nzN g n = nzN g' n := by
  unfold nzN
  refine sumN_eq n (fun j hj => ?_)
  have z := h j hj
  by_cases q : (g j).toInt = 0
  · rw [if_pos q, if_pos (z.mp q)]
  · rw [if_neg q, if_neg (fun y => q (z.mpr y))]
/-- the same rows are drawn the same way -/
theorem DwP.uq {A D u v : MS} {g g' : Nat → Int32} (k : LkI A) (s : smQ A D) (m : mkA A g) (m' : mkA D g') (d : DwP A g u) (d' : DwP D g' v) (gu : GbI u (qI A 0 52).toInt) : nzN (qI u 53) (qI u 0 105).toInt.toNat = nzN (qI v 53) (qI v 0 105).toInt.toNat := by
  have e52 : qI D 0 52 = qI A 0 52 := s.2.2 52 (by decide) (by decide)
  have cn := k.cnt
  obtain ⟨a1, a2, a3, a4, a5, a6⟩ := d
  obtain ⟨b1, b2, b3, b4, b5, b6⟩ := d'
  unfold mkA at m'
  rw [e52] at m' b1 b2 b3 b4
  have gg : ∀ j : Nat, (j : Int) ≤ (qI A 0 52).toInt → ((g j).toInt = 1 ↔ (g' j).toInt = 1) := fun j hj => ((m j hj).trans (stM.mv s j).symm).trans (m' j hj).symm
  have cc : ∀ n : Nat, (n : Int) ≤ (qI A 0 52).toInt → cnG g n = cnG g' n := fun n hn => cnG_eq n (fun j hj => gg j (by omega))
  have e105 : (qI v 0 105).toInt = (qI u 0 105).toInt := by rw [a1, b1, cc _ (by omega)]
  have e50 : ∀ j : Nat, (j : Int) < (qI A 0 52).toInt → (qI v 50 j).toInt = (qI u 50 j).toInt := fun j hj => by rw [a2 j hj, b2 j hj, cc _ (by omega)]
  have e49 : ∀ b : Nat, (b : Int) ≤ (qI u 0 105).toInt → (qI v 49 b).toInt = (qI u 49 b).toInt := fun b hb => by
    by_cases q : b < cnG g (qI A 0 52).toInt.toNat
    · obtain ⟨j, j1, j2, j3⟩ := cnG_on _ b q
      have x1 := a3 j (by omega) j2
      have x2 := b3 j (by omega) ((gg j (by omega)).mp j2)
      rw [← cc j (by omega), j3] at x2
      rw [j3] at x1
      rw [x1, x2]
    · have e : b = cnG g (qI A 0 52).toInt.toNat := by omega
      rw [e, a4, cc _ (by omega), b4]
  have ee : ∀ b c : Nat, (b : Int) < (qI u 0 105).toInt → (eG v b c ↔ eG u b c) := fun b c hb => by
    rw [a5 b c hb, b5 b c (by omega)]
    have gb := gu.2.1
    have xr : (qI u 49 (b + 1)).toInt ≤ (qI A 0 52).toInt ∧ 1 ≤ (qI u 49 (b + 1)).toInt := by
      by_cases z : (b : Int) + 1 < (qI u 0 105).toInt
      · have := gb (b + 1) (by omega); omega
      · have e : b + 1 = (qI u 0 105).toInt.toNat := by omega
        rw [e, gu.2.2.2.1]; omega
    have eo : ∀ x : Int32, f_op D x = f_op A x := fun x => (s.op x).1
    have eg : ∀ o : Int32, f_goesOn D o = f_goesOn A o := fun _ => rfl
    have ei : ∀ x t : Int32, f_isCaught D x t = f_isCaught A x t := fun x t => s.ic x t
    have ec : ∀ t w : Int32, f_catchWord D t w = f_catchWord A t w := fun t w => s.cw t w
    have e1' : ∀ x : Int32, f_ways D x = f_ways A x := fun x => (s.wy x 0).1
    have e2' : ∀ x y : Int32, f_way D x y = f_way A x y := fun x y => (s.wy x y).2
    have e54 : qI D 0 54 = qI A 0 54 := s.2.2 54 (by decide) (by decide)
    unfold edC edN edW edT
    rw [e52, e54, e49 (b + 1) (by omega)]
    simp only [eo, eg, ei, ec, e1', e2']
    have W : ∀ (x k' : Int32), x.toInt = (qI u 49 (b + 1)).toInt - 1 → 0 ≤ k'.toInt → k'.toInt < (f_ways A x).toInt → (qI v 50 (f_way A x k').toInt.toNat).toInt = (qI u 50 (f_way A x k').toInt.toNat).toInt := fun x k' ex k0 k1 => by
      have := (k.ways (x := x) (by omega)).2.2 k' k0 k1
      exact e50 _ (by omega)
    have T : ∀ t : Int32, 0 ≤ t.toInt → t.toInt < (qI A 0 54).toInt → (qI v 50 (f_catchWord A t 2).toInt.toNat).toInt = (qI u 50 (f_catchWord A t 2).toInt.toNat).toInt := fun t t0 t1 => by
      have := (k.cw (c := t) ⟨t0, t1⟩).2.2.1
      exact e50 _ (by omega)
    constructor
    · rintro ⟨x, ex, (q | ⟨k', y1, y2, y3⟩) | ⟨t, y1, y2, y3, y4⟩⟩
      · exact ⟨x, ex, Or.inl (Or.inl q)⟩
      · exact ⟨x, ex, Or.inl (Or.inr ⟨k', y1, y2, by rw [← W x k' ex y1 y2]; exact y3⟩)⟩
      · exact ⟨x, ex, Or.inr ⟨t, y1, y2, y3, by rw [← T t y1 y2]; exact y4⟩⟩
    · rintro ⟨x, ex, (q | ⟨k', y1, y2, y3⟩) | ⟨t, y1, y2, y3, y4⟩⟩
      · exact ⟨x, ex, Or.inl (Or.inl q)⟩
      · exact ⟨x, ex, Or.inl (Or.inr ⟨k', y1, y2, by rw [W x k' ex y1 y2]; exact y3⟩)⟩
      · exact ⟨x, ex, Or.inr ⟨t, y1, y2, y3, by rw [T t y1 y2]; exact y4⟩⟩
  rw [e105]
  refine nzN_eq _ (fun b hb => ?_)
  have f1 : ¬ (qI u 53 b).toInt = 0 → ¬ (qI v 53 b).toInt = 0 := a6.2.2 (fun b => ¬ (qI v 53 b).toInt = 0) b6.1 (fun b' c' hb' nb eg => b6.2.1 b' c' (by omega) nb ((ee b' c' hb').mpr eg)) b (by omega)
  have f2 : ¬ (qI v 53 b).toInt = 0 → ¬ (qI u 53 b).toInt = 0 := b6.2.2 (fun b => ¬ (qI u 53 b).toInt = 0) a6.1 (fun b' c' hb' nb eg => a6.2.1 b' c' (by omega) nb ((ee b' c' (by omega)).mp eg)) b (by omega)
  constructor
  · intro q
    by_cases z : (qI v 53 b).toInt = 0
    · exact z
    · exact absurd q (f2 z)
  · intro q
    by_cases z : (qI u 53 b).toInt = 0
    · exact z
    · exact absurd q (f1 z)
/-! graph again: how many blocks are reached hangs on the File alone (behind sp_draw2, DwP.uq) -/
def rwQ (S : MS) (f : Nat) (A : MS) : Prop := qI A (qO S f 18) = qI S (qO S f 18) ∧ qI A (qO S f 19) = qI S (qO S f 19) ∧ qI A (qO S f 20) = qI S (qO S f 20)
/-- n blocks of method m of File f are reached -/
def GnA (S : MS) (f m n : Nat) : Prop := ∃ (A u : MS) (g : Nat → Int32), LoP S f m A ∧ rwQ S f A ∧ LkI A ∧ mkA A g ∧ DwP A g u ∧ GbI u (qI A 0 52).toInt ∧ n = nzN (qI u 53) (qI u 0 105).toInt.toNat
theorem GnA.uq {S : MS} {f m n n' : Nat} (h : GnA S f m n) (k : GnA S f m n') : n = n' := by
  obtain ⟨A, u, g, a1, a2, a3, a4, a5, a6, a7⟩ := h
  obtain ⟨B, v, g', b1, b2, b3, b4, b5, b6, b7⟩ := k
  have s : smQ A B := by
    obtain ⟨⟨_, x2, x3, x4⟩, x5, x6, x7, x8⟩ := a1
    obtain ⟨⟨_, y2, y3, y4⟩, y5, y6, y7, y8⟩ := b1
    have o48 : qO A 0 48 = qO S f 18 := by unfold qO; rw [x2]
    have o49 : qO A 0 49 = qO S f 19 := by unfold qO; rw [x3]
    have o50 : qO A 0 50 = qO S f 20 := by unfold qO; rw [x4]
    have p48 : qO B 0 48 = qO S f 18 := by unfold qO; rw [y2]
    have p49 : qO B 0 49 = qO S f 19 := by unfold qO; rw [y3]
    have p50 : qO B 0 50 = qO S f 20 := by unfold qO; rw [y4]
    refine ⟨⟨by rw [o48, p48], by rw [o49, p49], by rw [o50, p50]⟩, ⟨by rw [o48, a2.1, b2.1], by rw [o49, a2.2.1, b2.2.1], by rw [o50, a2.2.2, b2.2.2]⟩, fun j j1 j2 => ?_⟩
    have : j = 51 ∨ j = 52 ∨ j = 53 ∨ j = 54 := by omega
    rcases this with e | e | e | e <;> subst e
    · rw [x5, y5]
    · rw [x6, y6]
    · rw [x7, y7]
    · rw [x8, y8]
  rw [a7, b7]
  exact DwP.uq a3 s a4 b4 a5 b5 a6
theorem GnA.mv {S V : MS} {f m n : Nat} (h : GnA S f m n) (r : qR V f 18 = qR S f 18 ∧ qR V f 19 = qR S f 19 ∧ qR V f 20 = qR S f 20) (e : qI V (qO S f 18) = qI S (qO S f 18) ∧ qI V (qO S f 19) = qI S (qO S f 19) ∧ qI V (qO S f 20) = qI S (qO S f 20)) (l : qI V (f + 10) m = qI S (f + 10) m ∧ qI V (f + 11) m = qI S (f + 11) m ∧ qI V (f + 12) m = qI S (f + 12) m ∧ qI V (f + 13) m = qI S (f + 13) m) : GnA V f m n := by
  obtain ⟨A, u, g, a1, a2, a3⟩ := h
  refine ⟨A, u, g, ?_, ?_, a3⟩
  · unfold LoP
    rw [r.1, r.2.1, r.2.2, l.1, l.2.1, l.2.2.1, l.2.2.2]
    exact a1
  · have o1 : qO V f 18 = qO S f 18 := by unfold qO; rw [r.1]
    have o2 : qO V f 19 = qO S f 19 := by unfold qO; rw [r.2.1]
    have o3 : qO V f 20 = qO S f 20 := by unfold qO; rw [r.2.2]
    unfold rwQ
    rw [o1, o2, o3, e.1, e.2.1, e.2.2]
    exact a2
def GrJ (S : MS) : Prop := (qI S 0 106).toInt < 0 ∨ ∃ f : Nat, (0 ≤ (qI S 0 106).toInt ∧ (qI S 0 106).toInt < (qI S 0 1).toInt) ∧ qR S 1 (qI S 0 106).toInt.toNat = some f ∧ 92 < f ∧ GbI S (qI S (f + 11) (qI S 0 107).toInt.toNat).toInt ∧ GeI S ∧ GnA S f (qI S 0 107).toInt.toNat (nzN (qI S 53) (qI S 0 105).toInt.toNat)
theorem sp_graph2 {S : MS} {x m : Int32} {f : Nat} (g : GrJ S) (hc : (qI S 0 1).toInt ≤ 12) (hx : 0 ≤ x.toInt ∧ x.toInt < (qI S 0 1).toInt) (hr : qR S 1 x.toInt.toNat = some f) (hf : FlI S f) (hm : 0 ≤ m.toInt ∧ m.toInt < (qI S f 4).toInt) : w_graph S x m (fun u => GrJ u ∧ GbI u (qI S (f + 11) m.toInt.toNat).toInt ∧ GeI u ∧ GnA S f m.toInt.toNat (nzN (qI u 53) (qI u 0 105).toInt.toNat)) := by
  have f92 := hf.1.1.1
  have hh : 92 < qO S f 18 ∧ 92 < qO S f 19 ∧ 92 < qO S f 20 := by
    obtain ⟨h1, h2, h3, h4, h5, R, T, C, nc, ts, cn, r1, r2, r3, r4, r5, r6⟩ := hf
    have e1 : qO S f 18 = R := by unfold qO; rw [r2.1]; rfl
    have e2 : qO S f 19 = T := by unfold qO; rw [r2.2.1]; rfl
    have e3 : qO S f 20 = C := by unfold qO; rw [r2.2.2]; rfl
    omega
  have j17 : w_graph_J17 (fun u => GrJ u ∧ GbI u (qI S (f + 11) m.toInt.toNat).toInt ∧ GeI u ∧ GnA S f m.toInt.toNat (nzN (qI u 53) (qI u 0 105).toInt.toNat)) S x m := by
    have o : qO S 1 x.toInt.toNat = f := by unfold qO; rw [hr]; rfl
    unfold w_graph_J17
    rw [o]
    refine ⟨⟨hx.1, by omega⟩, hr, _, fr_draw (sp_draw2 hf hm), ?_⟩
    rintro A ⟨⟨⟨gA, eA⟩, A0, g0, k1, k2, k3, k4, k5⟩, fA⟩
    refine ⟨_, sp_dominate eA, fun B fB => ⟨_, sp_loops (eA.fm fB (by decide) (by decide) (by decide) (by decide)), fun C fC D eD E eE => ?_⟩⟩
    have fE : frm [] [106, 107] C E := (show frm [] [106, 107] C D by rw [eD]; exact frm.pI0 (by decide)).tr (by rw [eE]; exact frm.pI0 (by decide))
    have e106 : qI E 0 106 = x := by rw [eE, qI_wI, if_neg (by decide), eD, qI_wI, if_pos ⟨rfl, rfl⟩]
    have e107 : qI E 0 107 = m := by rw [eE, qI_wI, if_pos ⟨rfl, rfl⟩]
    have gE : GbI E (qI S (f + 11) m.toInt.toNat).toInt := ((gA.fm fB (by decide) (by decide) (by decide)).fm fC (by decide) (by decide) (by decide)).fm fE (by decide) (by decide) (by decide)
    have dE : GeI E := ((eA.fm fB (by decide) (by decide) (by decide) (by decide)).fm fC (by decide) (by decide) (by decide) (by decide)).fm fE (by decide) (by decide) (by decide) (by decide)
    have fSE : frm [49, 50, 51, 52, 53, 54, 55, 56, 57, 58, 59] [47, 48, 49, 50, 51, 52, 53, 54, 105, 106, 107, 110] S E := (fA.mo (by decide) (by decide)).tr ((fB.mo (by decide) (by decide)).tr ((fC.mo (by decide) (by decide)).tr (fE.mo (by decide) (by decide))))
    have fAE : frm [54, 55, 56, 57, 58, 59] [106, 107] A E := (fB.mo (by decide) (by decide)).tr ((fC.mo (by decide) (by decide)).tr (fE.mo (by decide) (by decide)))
    have e53 : qI E 53 = qI A 53 := (fAE.2.2.2.2.1 53 (by decide) (by decide)).1
    have e105 : qI E 0 105 = qI A 0 105 := (fAE.2.2.2.2.2 105 (by decide)).1
    have gn : GnA S f m.toInt.toNat (nzN (qI E 53) (qI E 0 105).toInt.toNat) := by
      have n52 : qI A0 0 52 = qI S (f + 11) m.toInt.toNat := k3.2.2.1
      refine ⟨A0, A, g0, k3, ?_, k2, k4, k5, by rw [n52]; exact gA, by rw [e53, e105]⟩
      exact ⟨(k1.2.2.2.2.1 _ (by omega) List.not_mem_nil).1, (k1.2.2.2.2.1 _ (by omega) List.not_mem_nil).1, (k1.2.2.2.2.1 _ (by omega) List.not_mem_nil).1⟩
    have b := fun (a : Nat) (ha : 92 < a) => big_frm fSE (by decide) a ha
    refine ⟨Or.inr ⟨f, ?_, ?_, f92, ?_, dE, ?_⟩, gE, dE, gn⟩
    · rw [e106, (fSE.2.2.2.2.2 1 (by decide)).1]; exact hx
    · rw [e106, (fSE.2.2.2.2.1 1 (by decide) (by decide)).2.2]; exact hr
    · rw [e107, (b (f + 11) (by omega)).1]; exact gE
    · rw [e107]
      have r := (fSE.2.2.2.2.1 f (by omega) (fun q => by simp only [List.mem_cons, List.not_mem_nil, or_false] at q; omega)).2.2
      exact gn.mv ⟨by rw [r], by rw [r], by rw [r]⟩ ⟨(b _ hh.1).1, (b _ hh.2.1).1, (b _ hh.2.2).1⟩ ⟨by rw [(b _ (by omega)).1], by rw [(b _ (by omega)).1], by rw [(b _ (by omega)).1], by rw [(b _ (by omega)).1]⟩
  unfold w_graph
  refine ⟨fun c1 => ⟨fun c2 => ?_, fun _ => j17⟩, fun _ => j17⟩
  have e6 : qI S 0 106 = x := Int32.toInt_inj.mp c1
  have e7 : qI S 0 107 = m := Int32.toInt_inj.mp c2
  have g' := g
  rcases g with q | ⟨f', q1, q2, q3, q4, q5, q6⟩
  · omega
  · rw [e6] at q2
    rw [hr] at q2
    have ef : f = f' := by injection q2
    subst ef
    rw [e7] at q4 q6
    exact ⟨g', q4, q5, q6⟩
theorem sp_blocks2 {S : MS} {x m : Int32} (h : FsI VfI S) (g : GrJ S) : w_blocks S x m (fun _ u => GrJ u) := by
  unfold w_blocks
  refine ⟨_, sp_isMethod h, ?_⟩
  rintro r u ⟨eu, hr⟩
  subst eu
  refine ⟨fun _ => g, fun c => ?_⟩
  obtain ⟨f, q1, q2, q3, q4, q5, q6⟩ := hr c
  exact ⟨_, sp_graph2 g h.1.2 q1 q2 q3 ⟨q5, q6⟩, fun v hv => hv.1⟩
theorem sp_block2 {S : MS} {x m b w : Int32} (h : FsI VfI S) (g : GrJ S) : w_block S x m b w (fun _ u => GrJ u) := by
  unfold w_block
  refine ⟨_, sp_isMethod h, ?_⟩
  rintro r u ⟨eu, hr⟩
  subst eu
  refine ⟨fun _ => g, fun c => ?_⟩
  obtain ⟨f, q1, q2, q3, q4, q5, q6⟩ := hr c
  refine ⟨_, sp_graph2 g h.1.2 q1 q2 q3 ⟨q5, q6⟩, fun v hv => ?_⟩
  obtain ⟨v1, v2, v3, -⟩ := hv
  have bc := v3.1
  refine ⟨fun _ => v1, fun c0 => ⟨fun c1 => ?_, fun _ => v1⟩⟩
  have eb : (b + (1 : Int32)).toInt = b.toInt + 1 := by rw [t_add (by rw [li_1]; omega), li_1]
  rw [eb]
  have r1 : 0 ≤ b.toInt ∧ b.toInt < 1200 := by omega
  have r2 : 0 ≤ b.toInt ∧ b.toInt < 1201 := by omega
  have r3 : 0 ≤ b.toInt ∧ b.toInt < 1202 := by omega
  exact ⟨fun _ => ⟨r2, v1⟩, fun _ => ⟨fun _ => ⟨r1, fun _ => v1, fun _ => v1⟩, fun _ => ⟨fun _ => ⟨r1, v1⟩, fun _ => ⟨fun _ => ⟨r1, fun _ => v1, fun _ => v1⟩, fun _ => ⟨fun _ => ⟨r1, v1⟩, fun _ => ⟨fun _ => ⟨⟨by omega, by omega⟩, r3, v1⟩, fun _ => v1⟩⟩⟩⟩⟩⟩
theorem sp_edge2 {S : MS} {x m a b : Int32} (h : FsI VfI S) (g : GrJ S) : w_edge S x m a b (fun _ u => GrJ u) := by
  unfold w_edge
  refine ⟨_, sp_isMethod h, ?_⟩
  rintro r u ⟨eu, hr⟩
  subst eu
  refine ⟨fun _ => g, fun c => ?_⟩
  obtain ⟨f, q1, q2, q3, q4, q5, q6⟩ := hr c
  refine ⟨_, sp_graph2 g h.1.2 q1 q2 q3 ⟨q5, q6⟩, fun v hv => ?_⟩
  obtain ⟨v1, v2, v3, -⟩ := hv
  have bc := v3.1
  have ec := v3.2.1
  refine ⟨fun _ => v1, fun c0 => ⟨fun c1 => ⟨⟨by omega, by omega⟩, fun k ek => ?_⟩, fun _ => v1⟩⟩
  have ea : (a + (1 : Int32)).toInt = a.toInt + 1 := by rw [t_add (by rw [li_1]; omega), li_1]
  have e1 := v3.2.2.1 a.toInt.toNat (by omega)
  have e2 := v3.2.2.1 (a.toInt + 1).toNat (by omega)
  have L : ∀ (c : Nat) (k : Int32), 0 ≤ k.toInt → (24000 - k.toInt).toNat < c → w_edge_L39 (fun _ u => GrJ u) c v a b k := by
    intro c
    induction c with
    | zero => intro k _ h9; exact absurd h9 (Nat.not_lt_zero _)
    | succ c ih =>
      intro k k0 hc
      unfold w_edge_L39
      rw [ea]
      refine ⟨⟨by omega, by omega⟩, fun _ => v1, fun c2 => ⟨⟨k0, by omega⟩, fun _ => v1, fun _ a2 e2' => ?_⟩⟩
      have ek : (k + Int32.ofInt 1).toInt = k.toInt + 1 := by rw [t_add (by rw [lo_1]; omega), lo_1]
      subst e2'
      exact ih _ (by omega) (by omega)
  exact ⟨_, L _ k (by rw [ek]; exact e1.1) (Nat.lt_succ_self _)⟩
