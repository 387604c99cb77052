/-! blocks and edges (behind sp_reach, LkI.ways, wtS) -/
theorem wtV_nn {op b : Int} (h : 0 ≤ b ∨ ¬ (op = 170 ∨ op = 171)) : 0 ≤ wtV op b := by
  unfold wtV
  split
  · decide
  · split
    · rcases h with q | q
      · omega
      · contradiction
    · decide
/-- the weight of the rows of the method that is looked at -/
def lwS (S : MS) (n : Nat) : Int := wtS (qI S (qO S 0 48)) (qI S 0 51).toInt.toNat n
theorem LkI.wt {S : MS} (h : LkI S) : lwS S (qI S 0 52).toInt.toNat ≤ 3600 ∧ ∀ x : Int32, 0 ≤ x.toInt → x.toInt < (qI S 0 52).toInt → lwS S (x.toInt.toNat + 1) = lwS S x.toInt.toNat + wtV (f_op S x).toInt (f_second S x).toInt ∧ 0 ≤ wtV (f_op S x).toInt (f_second S x).toInt ∧ 3 * (f_ways S x).toInt ≤ wtV (f_op S x).toInt (f_second S x).toInt := by
  have h' := h
  obtain ⟨-, L, F, M, nc, ts, cn, -, -, -, mt, -, -, -, -⟩ := h'
  refine ⟨mt.2.2.2.2.1, fun x x0 x1 => ?_⟩
  have ix := lk_ix h ⟨x0, x1⟩
  have f0 := mt.1
  obtain ⟨L', F', M', ts', la, lb, rv, -, -⟩ := h.rv ⟨x0, x1⟩
  have e1 : (3 * ((qI S 0 51).toInt + x.toInt)).toNat = 3 * ((qI S 0 51).toInt.toNat + x.toInt.toNat) := by omega
  have e2 : (3 * ((qI S 0 51).toInt + x.toInt) + 2).toNat = 3 * ((qI S 0 51).toInt.toNat + x.toInt.toNat) + 2 := by omega
  have eo : f_op S x = qI S (qO S 0 48) (3 * ((qI S 0 51).toInt.toNat + x.toInt.toNat)) := by unfold f_op; rw [ix.1, e1]
  have es : f_second S x = qI S (qO S 0 48) (3 * ((qI S 0 51).toInt.toNat + x.toInt.toNat) + 2) := by unfold f_second; rw [ix.2.2, e2]
  have nn : 0 ≤ (f_second S x).toInt ∨ ¬ ((f_op S x).toInt = 170 ∨ (f_op S x).toInt = 171) := by
    by_cases q : (f_op S x).toInt = 170 ∨ (f_op S x).toInt = 171
    · exact Or.inl (rv.2.2.1 q).2.1
    · exact Or.inr q
  refine ⟨?_, wtV_nn nn, ?_⟩
  · unfold lwS
    show wtS _ _ x.toInt.toNat + wtR _ _ = _
    unfold wtR
    rw [← eo, ← es]
  · unfold f_ways
    by_cases q1 : (f_isJump S (f_op S x)).toInt = 0
    · rw [if_pos q1]
      by_cases q2 : (f_isSwitch S (f_op S x)).toInt = 0
      · rw [if_pos q2]
        have := wtV_nn nn
        rw [li_0]; omega
      · rw [if_neg q2]
        have sw : (f_op S x).toInt = 170 ∨ (f_op S x).toInt = 171 := by
          unfold f_isSwitch f_isSwitch_J14 at q2
          by_cases c1 : (f_op S x).toInt = 170
          · exact Or.inl c1
          · rw [if_neg c1] at q2
            by_cases c2 : (f_op S x).toInt = 171
            · exact Or.inr c2
            · rw [if_neg c2] at q2; exact absurd rfl q2
        have b := rv.2.2.1 sw
        have e : (f_second S x + (1 : Int32)).toInt = (f_second S x).toInt + 1 := by rw [t_add (by rw [li_1]; omega), li_1]
        rw [e]
        unfold wtV
        rw [if_neg (by omega), if_pos sw]
        omega
    · rw [if_neg q1, li_1]
      have o := jp_op q1
      unfold wtV
      rw [if_neg (by omega), if_neg (by omega)]
      decide
theorem lwS_up {S : MS} (h : LkI S) : ∀ (d a : Nat), (a + d : Int) ≤ (qI S 0 52).toInt → lwS S a ≤ lwS S (a + d) := by
  intro d
  induction d with
  | zero => intro a _; exact Int.le_refl _
  | succ d ih =>
    intro a hd
    have cn := h.cnt
    have q := ih a (by omega)
    have e : (Int32.ofNat (a + d)).toInt = a + d := by rw [oN (by omega)]; omega
    have w := h.wt.2 (Int32.ofNat (a + d)) (by omega) (by omega)
    have en : (Int32.ofNat (a + d)).toInt.toNat = a + d := by omega
    rw [en] at w
    have w1 := w.1
    have w2 := w.2.1
    have e3 : a + (d + 1) = a + d + 1 := by omega
    rw [e3]
    omega
/-- the blocks of a method of N instructions -/
def GbI (S : MS) (N : Int) : Prop := (1 ≤ (qI S 0 105).toInt ∧ (qI S 0 105).toInt ≤ N ∧ N ≤ 1200) ∧ (∀ b : Nat, (b : Int) < (qI S 0 105).toInt → (b : Int) ≤ (qI S 49 b).toInt ∧ (qI S 49 b).toInt < N) ∧ (∀ b : Nat, (b : Int) + 1 < (qI S 0 105).toInt → (qI S 49 b).toInt < (qI S 49 (b + 1)).toInt) ∧ (qI S 49 (qI S 0 105).toInt.toNat).toInt = N ∧ (∀ j : Nat, (j : Int) < N → (0 ≤ (qI S 50 j).toInt ∧ (qI S 50 j).toInt < (qI S 0 105).toInt) ∧ (qI S 49 (qI S 50 j).toInt.toNat).toInt ≤ j) ∧ ∀ j : Nat, (j : Int) + 1 < N → (qI S 50 j).toInt ≤ (qI S 50 (j + 1)).toInt
theorem GbI.fm {S u : MS} {N : Int} {W J : List Nat} (h : GbI S N) (k : frm W J S u) (h1 : 49 ∉ W) (h2 : 50 ∉ W) (h3 : 105 ∉ J) : GbI u N := by
  unfold GbI
  rw [(k.2.2.2.2.1 49 (by decide) h1).1, (k.2.2.2.2.1 50 (by decide) h2).1, (k.2.2.2.2.2 105 h3).1]
  exact h
def EdI (S U : MS) (B X : Int) : Prop := frm [51, 52] [110] S U ∧ (0 ≤ (qI U 0 110).toInt ∧ 3 * (qI U 0 110).toInt ≤ X) ∧ (∀ b : Nat, (b : Int) < B → 0 ≤ (qI U 51 b).toInt ∧ (qI U 51 b).toInt ≤ (qI U 0 110).toInt) ∧ ∀ k : Nat, (k : Int) < (qI U 0 110).toInt → 0 ≤ (qI U 52 k).toInt ∧ (qI U 52 k).toInt < (qI S 0 105).toInt
theorem EdI.le {S U : MS} {B X Y : Int} (h : EdI S U B X) (hy : X ≤ Y) : EdI S U B Y := ⟨h.1, ⟨h.2.1.1, by have := h.2.1.2; omega⟩, h.2.2⟩
theorem EdI.into {S U : MS} {B X : Int} {b t : Int32} (h : EdI S U B X) (hb : 0 ≤ b.toInt ∧ b.toInt < B ∧ b.toInt < 1200) (ht : 0 ≤ t.toInt ∧ t.toInt < (qI S 0 105).toInt) (hX : X ≤ 71997) : w_edgeInto U b t (fun u => EdI S u B (X + 3)) := by
  obtain ⟨h1, h2, h3, h4⟩ := h
  have eb := h3 b.toInt.toNat (by omega)
  unfold w_edgeInto
  refine ⟨⟨hb.1, by omega⟩, fun a ea => ?_⟩
  have L : ∀ (c : Nat) (k : Int32), 0 ≤ k.toInt → (24000 - k.toInt).toNat < c → w_edgeInto_L7 (fun u => EdI S u B (X + 3)) c U t k := by
    intro c
    induction c with
    | zero => intro k _ h9; exact absurd h9 (Nat.not_lt_zero _)
    | succ c ih =>
      intro k k0 hc
      unfold w_edgeInto_L7
      refine ⟨fun _ => ⟨⟨h2.1, by omega⟩, fun D eD E eE => ?_⟩, fun c1 => ⟨⟨k0, by omega⟩, fun _ => ⟨h1, ⟨h2.1, by omega⟩, h3, h4⟩, fun _ a2 e2 => ?_⟩⟩
      · have d110 : qI D 0 110 = qI U 0 110 := by rw [eD, rdH (by decide)]
        have e110 : (qI E 0 110).toInt = (qI U 0 110).toInt + 1 := by rw [eE, qI_wI, if_pos ⟨rfl, rfl⟩, d110, t_add (by rw [li_1]; omega), li_1]
        have e51 : qI E 51 = qI U 51 := by rw [eE, rdH (by decide), eD, rdH (by decide)]
        have e52 : ∀ j : Nat, qI E 52 j = if j = (qI U 0 110).toInt.toNat then t else qI U 52 j := fun j => by
          rw [eE, rdH (by decide), eD, qI_wI]
          by_cases q : j = (qI U 0 110).toInt.toNat
          · rw [if_pos ⟨rfl, q⟩, if_pos q]
          · rw [if_neg (fun z => q z.2), if_neg q]
        refine ⟨h1.tr ((show frm [51, 52] [110] U D by rw [eD]; exact frm.pI (by decide)).tr (by rw [eE]; exact frm.pI0 (by decide))), ⟨by omega, by omega⟩, fun b' hb' => ?_, fun k' hk' => ?_⟩
        · rw [e51, e110]; have := h3 b' hb'; omega
        · rw [e52]
          by_cases q : k' = (qI U 0 110).toInt.toNat
          · rw [if_pos q]; exact ht
          · rw [if_neg q]; exact h4 k' (by omega)
      · have ek : (k + Int32.ofInt 1).toInt = k.toInt + 1 := by rw [t_add (by rw [lo_1]; omega), lo_1]
        subst e2
        exact ih _ (by omega) (by omega)
  exact ⟨_, L _ a (by rw [ea]; exact eb.1) (Nat.lt_succ_self _)⟩
/-! draw (behind sp_edges, sp_look) -/
/-! graph, blocks, block, edge (behind sp_draw, sp_loops, sp_isMethod) -/
/-- how many blocks are reached: a count of the marks -/
def nzN (g : Nat → Int32) (n : Nat) : Nat := sumN (fun j => if (g j).toInt = 0 then 0 else 1) n
theorem sp_reachedBlocks {S : MS} (h : GeI S) : w_reachedBlocks S (fun r u => u = S ∧ r.toInt = nzN (qI S 53) (qI S 0 105).toInt.toNat) := by
  have bc := h.1
  have nz : ∀ n : Nat, nzN (qI S 53) n ≤ n := by
    intro n
    induction n with
    | zero => exact Nat.le_refl _
    | succ n ih =>
      show nzN (qI S 53) n + (if (qI S 53 n).toInt = 0 then 0 else 1) ≤ n + 1
      split <;> omega
  have L : ∀ (c : Nat) (r k : Int32), (0 ≤ k.toInt ∧ k.toInt ≤ (qI S 0 105).toInt) → r.toInt = nzN (qI S 53) k.toInt.toNat → (1200 - k.toInt).toNat < c → w_reachedBlocks_L4 (fun r u => u = S ∧ r.toInt = nzN (qI S 53) (qI S 0 105).toInt.toNat) c S r k := by
    intro c
    induction c with
    | zero => intro r k _ _ h9; exact absurd h9 (Nat.not_lt_zero _)
    | succ c ih =>
      intro r k k0 er hc
      unfold w_reachedBlocks_L4 w_reachedBlocks_J24
      have le := nz k.toInt.toNat
      refine ⟨fun c1 => ⟨rfl, by rw [er, show k.toInt.toNat = (qI S 0 105).toInt.toNat by omega]⟩, fun c1 => ⟨⟨k0.1, by omega⟩, fun c2 a ea => ?_, fun c2 a6 e6 a ea => ?_⟩⟩
      · have ek : (k + Int32.ofInt 1).toInt = k.toInt + 1 := by rw [t_add (by rw [lo_1]; omega), lo_1]
        subst ea
        refine ih r _ ⟨by omega, by omega⟩ ?_ (by omega)
        rw [ek, show (k.toInt + 1).toNat = k.toInt.toNat + 1 by omega]
        show r.toInt = ((nzN (qI S 53) k.toInt.toNat + (if (qI S 53 k.toInt.toNat).toInt = 0 then 0 else 1) : Nat) : Int)
        rw [if_pos c2, er]
        omega
      · have ek : (k + Int32.ofInt 1).toInt = k.toInt + 1 := by rw [t_add (by rw [lo_1]; omega), lo_1]
        have er1 : (r + Int32.ofInt 1).toInt = r.toInt + 1 := by rw [t_add (by rw [lo_1]; omega), lo_1]
        subst ea
        subst e6
        refine ih _ _ ⟨by omega, by omega⟩ ?_ (by omega)
        rw [ek, show (k.toInt + 1).toNat = k.toInt.toNat + 1 by omega]
        show _ = ((nzN (qI S 53) k.toInt.toNat + (if (qI S 53 k.toInt.toNat).toInt = 0 then 0 else 1) : Nat) : Int)
        rw [if_neg c2, er1, er]
        omega
  unfold w_reachedBlocks
  exact ⟨_, L _ 0 0 ⟨by decide, by rw [li_0]; exact bc.1⟩ rfl (Nat.lt_succ_self _)⟩
