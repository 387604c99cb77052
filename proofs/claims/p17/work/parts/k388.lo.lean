/-! loops (behind sp_dominate, zc_set, d_dom) -/
def mkN (S : MS) : Nat := zc (qI S 58) (qI S 0 105).toInt.toNat
def LpR (S0 U : MS) (m : Int32) : Prop := frm [58] [] S0 U ∧ mkN U ≤ mkN S0 ∧ (¬ m.toInt = 0 → mkN U < mkN S0)
theorem mk_set {U D : MS} {i : Nat} (hi : (i : Int) < (qI U 0 105).toInt) (eD : D = wI U 58 i (vp_nar .boolean (1 : Int32))) : mkN D ≤ mkN U ∧ ((qI U 58 i).toInt = 0 → mkN D < mkN U) ∧ (frm [58] [] U D ∧ ¬ (qI D 58 i).toInt = 0) := by
  have z := zc_set (S := U) (h := 58) (i := i) (n := (qI U 0 105).toInt.toNat) (v := vp_nar .boolean (1 : Int32)) (by omega) vb1
  rw [← eD] at z
  have d105 : qI D 0 105 = qI U 0 105 := by rw [eD, rdH (by decide)]
  refine ⟨by unfold mkN; rw [d105]; exact z.1, fun q => by unfold mkN; rw [d105]; exact z.2 q, by rw [eD]; exact frm.pI (by decide), ?_⟩
  rw [eD, qI_wI, if_pos ⟨rfl, rfl⟩]
  exact vb1
theorem sp_loop {S : MS} {x : Int32} (h : GeI S) (hx : 0 ≤ x.toInt ∧ x.toInt < (qI S 0 105).toInt) : w_loop S x (fun u => frm [56, 57, 58] [] S u) := by
  have bc := h.1
  have ec := h.2.1
  have ge : ∀ U : MS, frm [56, 57, 58] [] S U → GeI U ∧ qI U 0 105 = qI S 0 105 ∧ qI U 0 110 = qI S 0 110 := fun U fU => ⟨h.fm fU (by decide) (by decide) (by decide) (by decide), (fU.2.2.2.2.2 105 (by decide)).1, (fU.2.2.2.2.2 110 (by decide)).1⟩
  have L264 : ∀ (c : Nat) (U : MS) (b : Int32), frm [56, 57, 58] [] S U → 0 ≤ b.toInt → (1200 - b.toInt).toNat < c → w_loop_L264 (fun u => frm [56, 57, 58] [] S u) c U b := by
    intro c
    induction c with
    | zero => intro U b _ _ h9; exact absurd h9 (Nat.not_lt_zero _)
    | succ c ih =>
      intro U b fU b0 hc
      obtain ⟨gU, u105, u110⟩ := ge U fU
      unfold w_loop_L264
      rw [u105]
      refine ⟨fun _ => fU, fun c1 => ?_⟩
      have ek : (b + Int32.ofInt 1).toInt = b.toInt + 1 := by rw [t_add (by rw [lo_1]; omega), lo_1]
      have go : ∀ V : MS, frm [56, 57, 58] [] S V → w_loop_J294 (fun u => frm [56, 57, 58] [] S u) (w_loop_L264 (fun u => frm [56, 57, 58] [] S u) c) V b := fun V fV => by
        unfold w_loop_J294
        intro a ea
        subst ea
        exact ih V _ fV (by omega) (by omega)
      exact ⟨⟨b0, by omega⟩, fun _ => go U fU, fun _ => ⟨⟨b0, by omega⟩, ⟨b0, by omega⟩, fun D eD => go D (fU.tr (by rw [eD]; exact frm.pI (by decide)))⟩⟩
  -- one block in a round
  have L178 : ∀ (S0 Ub : MS) (k137 : MS → Int32 → Int32 → Int32 → Prop) (m b : Int32), frm [56, 57, 58] [] S S0 → LpR S0 Ub m → (qI Ub 58 b.toInt.toNat).toInt = 0 → (0 ≤ b.toInt ∧ b.toInt < (qI S 0 105).toInt) → (∀ (U : MS) (m' : Int32), LpR S0 U m' → k137 U x m' (b + Int32.ofInt 1)) → ∀ (c : Nat) (U : MS) (k : Int32), frm [58] [] Ub U → mkN U ≤ mkN Ub → (¬ (qI U 58 b.toInt.toNat).toInt = 0 → mkN U < mkN Ub) → 0 ≤ k.toInt → (24000 - k.toInt).toNat < c → w_loop_L178 (fun u => frm [56, 57, 58] [] S u) k137 c U x m b k := by
    intro S0 Ub k137 m b f0 hUb zb hb hk c
    induction c with
    | zero => intro U k _ _ _ _ h9; exact absurd h9 (Nat.not_lt_zero _)
    | succ c ih =>
      intro U k fbU hle hst k0 hc
      have fU : frm [56, 57, 58] [] S U := f0.tr ((hUb.1.mo (by decide) (by decide)).tr (fbU.mo (by decide) (by decide)))
      obtain ⟨gU, u105, u110⟩ := ge U fU
      have eb : (b + (1 : Int32)).toInt = b.toInt + 1 := by rw [t_add (by rw [li_1]; omega), li_1]
      have done : ∀ m' : Int32, (¬ m'.toInt = 0 → ¬ m.toInt = 0 ∨ ¬ (qI U 58 b.toInt.toNat).toInt = 0) → w_loop_J252 (fun u => frm [56, 57, 58] [] S u) k137 U x m' b := fun m' hm => by
        unfold w_loop_J252
        intro a ea
        subst ea
        refine hk U m' ⟨hUb.1.tr fbU, by have := hUb.2.1; omega, fun q => ?_⟩
        rcases hm q with w | w
        · have := hUb.2.2 w; omega
        · have := hst w; have := hUb.2.1; omega
      unfold w_loop_L178 w_loop_J246 w_loop_J251
      rw [eb]
      refine ⟨⟨by omega, by omega⟩, fun c1 => ⟨fun c2 => ⟨⟨hb.1, by omega⟩, fun _ => done 0 (fun q => absurd rfl q), fun c3 => done 1 (fun _ => Or.inr c3)⟩, fun c2 => done 1 (fun _ => Or.inl c2)⟩, fun c1 => ?_⟩
      have e1 := gU.2.2.1 (b.toInt + 1).toNat (by rw [u105]; omega)
      rw [u110] at e1
      have e2 := gU.2.2.2 k.toInt.toNat (by rw [u110]; omega)
      rw [u105] at e2
      have ek : (k + Int32.ofInt 1).toInt = k.toInt + 1 := by rw [t_add (by rw [lo_1]; omega), lo_1]
      have go : ∀ V : MS, frm [58] [] Ub V → mkN V ≤ mkN Ub → (¬ (qI V 58 b.toInt.toNat).toInt = 0 → mkN V < mkN Ub) → w_loop_J226 (fun u => frm [56, 57, 58] [] S u) (w_loop_L178 (fun u => frm [56, 57, 58] [] S u) k137 c) V x m b k := fun V a1 a2 a3 => by
        unfold w_loop_J226
        intro a ea
        subst ea
        exact ih V _ a1 a2 a3 (by omega) (by omega)
      refine ⟨⟨k0, by omega⟩, ⟨e2.1, by omega⟩, fun _ => go U fbU hle hst, fun _ => ⟨⟨k0, by omega⟩, fun _ => go U fbU hle hst, fun _ => ⟨⟨hb.1, by omega⟩, fun D eD => ?_⟩⟩⟩
      obtain ⟨z1, z2, z3, z4⟩ := mk_set (i := b.toInt.toNat) (by rw [u105]; omega) eD
      refine go D (fbU.tr z3) (by omega) (fun _ => ?_)
      by_cases y : (qI U 58 b.toInt.toNat).toInt = 0
      · have := z2 y; omega
      · have := hst y; omega
  have L137 : ∀ (S0 : MS) (k128 : MS → Int32 → Int32 → Prop), frm [56, 57, 58] [] S S0 → (∀ (U : MS) (m : Int32), LpR S0 U m → k128 U x m) → ∀ (c : Nat) (U : MS) (m b : Int32), LpR S0 U m → 0 ≤ b.toInt → (1200 - b.toInt).toNat < c → w_loop_L137 (fun u => frm [56, 57, 58] [] S u) k128 c U x m b := by
    intro S0 k128 f0 hk c
    induction c with
    | zero => intro U m b _ _ h9; exact absurd h9 (Nat.not_lt_zero _)
    | succ c ih =>
      intro U m b hU b0 hc
      have fU : frm [56, 57, 58] [] S U := f0.tr (hU.1.mo (by decide) (by decide))
      obtain ⟨gU, u105, u110⟩ := ge U fU
      unfold w_loop_L137
      rw [u105]
      refine ⟨fun _ => hk U m hU, fun c1 => ?_⟩
      have e1 := gU.2.2.1 b.toInt.toNat (by rw [u105]; omega)
      have ek : (b + Int32.ofInt 1).toInt = b.toInt + 1 := by rw [t_add (by rw [lo_1]; omega), lo_1]
      have go : w_loop_J252 (fun u => frm [56, 57, 58] [] S u) (w_loop_L137 (fun u => frm [56, 57, 58] [] S u) k128 c) U x m b := by
        unfold w_loop_J252
        intro a ea
        subst ea
        exact ih U m _ hU (by omega) (by omega)
      refine ⟨⟨b0, by omega⟩, fun c2 => ⟨⟨b0, by omega⟩, fun _ => go, fun _ => ⟨⟨b0, by omega⟩, fun a ea => ?_⟩⟩, fun _ => go⟩
      exact ⟨_, L178 S0 U _ m b f0 hU c2 ⟨b0, by omega⟩ (fun U' m' h' => ih U' m' _ h' (by omega) (by omega)) _ U a frm.rf (Nat.le_refl _) (fun q => absurd c2 q) (by rw [ea]; exact e1.1) (Nat.lt_succ_self _)⟩
  have L128 : ∀ (c : Nat) (U : MS) (m : Int32), frm [56, 57, 58] [] S U → (m.toInt = 0 ∧ 1 ≤ c ∨ mkN U + 2 ≤ c) → w_loop_L128 (fun u => frm [56, 57, 58] [] S u) c U x m := by
    intro c
    induction c with
    | zero => intro U m _ h9; exact absurd h9 (by omega)
    | succ c ih =>
      intro U m fU hc
      unfold w_loop_L128
      refine ⟨fun _ => ⟨_, L264 _ U 0 fU (by decide) (Nat.lt_succ_self _)⟩, fun c1 => ?_⟩
      have hc2 : mkN U + 2 ≤ c + 1 := by omega
      refine ⟨_, L137 U _ fU (fun V m' hV => ih V m' (fU.tr (hV.1.mo (by decide) (by decide))) ?_) _ U 0 0 ⟨frm.rf, Nat.le_refl _, fun q => absurd rfl q⟩ (by decide) (Nat.lt_succ_self _)⟩
      by_cases z : m'.toInt = 0
      · exact Or.inl ⟨z, by omega⟩
      · have := hV.2.2 z
        exact Or.inr (by omega)
  have L27 : ∀ (k4 : MS → Int32 → Int32 → Int32 → Prop) (m b : Int32), (0 ≤ b.toInt ∧ b.toInt < (qI S 0 105).toInt) → (∀ (U : MS) (m' : Int32), frm [56, 57, 58] [] S U → k4 U x m' (b + Int32.ofInt 1)) → ∀ (c : Nat) (U : MS) (k : Int32), frm [56, 57, 58] [] S U → 0 ≤ k.toInt → (24000 - k.toInt).toNat < c → w_loop_L27 (fun u => frm [56, 57, 58] [] S u) k4 c U x m b k := by
    intro k4 m b hb hk c
    induction c with
    | zero => intro U k _ _ h9; exact absurd h9 (Nat.not_lt_zero _)
    | succ c ih =>
      intro U k fU k0 hc
      obtain ⟨gU, u105, u110⟩ := ge U fU
      have eb : (b + (1 : Int32)).toInt = b.toInt + 1 := by rw [t_add (by rw [li_1]; omega), li_1]
      have done : ∀ m' : Int32, w_loop_J100 (fun u => frm [56, 57, 58] [] S u) k4 U m' x b := fun m' => by
        unfold w_loop_J100
        intro a ea
        subst ea
        exact hk U m' fU
      have j82 : w_loop_J82 (fun u => frm [56, 57, 58] [] S u) k4 U x m b := by
        unfold w_loop_J82 w_loop_J95
        exact ⟨fun _ => ⟨⟨hb.1, by omega⟩, fun _ => done 0, fun _ => done 1⟩, fun _ => done 1⟩
      unfold w_loop_L27
      rw [eb]
      refine ⟨⟨hb.1, by omega⟩, fun _ => j82, fun _ => ⟨⟨by omega, by omega⟩, fun _ => j82, fun c1 => ?_⟩⟩
      have e1 := gU.2.2.1 (b.toInt + 1).toNat (by rw [u105]; omega)
      rw [u110] at e1
      have ek : (k + Int32.ofInt 1).toInt = k.toInt + 1 := by rw [t_add (by rw [lo_1]; omega), lo_1]
      have go : ∀ V : MS, frm [56, 57, 58] [] S V → w_loop_J76 (fun u => frm [56, 57, 58] [] S u) (w_loop_L27 (fun u => frm [56, 57, 58] [] S u) k4 c) V x m b k := fun V fV => by
        unfold w_loop_J76
        intro a ea
        subst ea
        exact ih V _ fV (by omega) (by omega)
      exact ⟨⟨k0, by omega⟩, fun _ => ⟨d_dom ⟨hx.1, by omega⟩ ⟨hb.1, by omega⟩, fun _ => go U fU, fun _ => ⟨⟨hb.1, by omega⟩, fun D eD => go D (fU.tr (by rw [eD]; exact frm.pI (by decide)))⟩⟩, fun _ => go U fU⟩
  have L4 : ∀ (c : Nat) (U : MS) (m b : Int32), frm [56, 57, 58] [] S U → 0 ≤ b.toInt → (1200 - b.toInt).toNat < c → w_loop_L4 (fun u => frm [56, 57, 58] [] S u) c U x m b := by
    intro c
    induction c with
    | zero => intro U m b _ _ h9; exact absurd h9 (Nat.not_lt_zero _)
    | succ c ih =>
      intro U m b fU b0 hc
      obtain ⟨gU, u105, u110⟩ := ge U fU
      unfold w_loop_L4
      rw [u105]
      refine ⟨fun _ => ⟨fun _ => fU, fun _ => ⟨⟨hx.1, by omega⟩, fun D eD => ⟨⟨hx.1, by omega⟩, fun E eE => ?_⟩⟩⟩, fun c1 => ⟨⟨b0, by omega⟩, fun D eD => ⟨⟨b0, by omega⟩, fun a ea => ?_⟩⟩⟩
      · exact ⟨_, L128 _ E 1 (fU.tr ((show frm [56, 57, 58] [] U D by rw [eD]; exact frm.pI (by decide)).tr (by rw [eE]; exact frm.pI (by decide)))) (Or.inr (Nat.le_refl _))⟩
      · have fD : frm [56, 57, 58] [] S D := fU.tr (by rw [eD]; exact frm.pI (by decide))
        obtain ⟨gD, d105, d110⟩ := ge D fD
        have e1 := gD.2.2.1 b.toInt.toNat (by rw [d105]; omega)
        have ek : (b + Int32.ofInt 1).toInt = b.toInt + 1 := by rw [t_add (by rw [lo_1]; omega), lo_1]
        exact ⟨_, L27 _ m b ⟨b0, by omega⟩ (fun U' m' f' => ih U' m' _ f' (by omega) (by omega)) _ D a fD (by rw [ea]; exact e1.1) (Nat.lt_succ_self _)⟩
  unfold w_loop
  exact ⟨_, L4 _ S 0 0 frm.rf (by decide) (Nat.lt_succ_self _)⟩
theorem sp_loops {S : MS} (h : GeI S) : w_loops S (fun u => frm [56, 57, 58] [] S u) := by
  have bc := h.1
  have ge : ∀ U : MS, frm [56, 57, 58] [] S U → GeI U ∧ qI U 0 105 = qI S 0 105 := fun U fU => ⟨h.fm fU (by decide) (by decide) (by decide) (by decide), (fU.2.2.2.2.2 105 (by decide)).1⟩
  have L32 : ∀ (c : Nat) (U : MS) (b : Int32), frm [56, 57, 58] [] S U → 0 ≤ b.toInt → (1200 - b.toInt).toNat < c → w_loops_L32 (fun u => frm [56, 57, 58] [] S u) c U b := by
    intro c
    induction c with
    | zero => intro U b _ _ h9; exact absurd h9 (Nat.not_lt_zero _)
    | succ c ih =>
      intro U b fU b0 hc
      obtain ⟨gU, u105⟩ := ge U fU
      unfold w_loops_L32
      rw [u105]
      refine ⟨fun _ => fU, fun c1 => ?_⟩
      have ek : (b + Int32.ofInt 1).toInt = b.toInt + 1 := by rw [t_add (by rw [lo_1]; omega), lo_1]
      have go : ∀ V : MS, frm [56, 57, 58] [] S V → w_loops_J54 (fun u => frm [56, 57, 58] [] S u) (w_loops_L32 (fun u => frm [56, 57, 58] [] S u) c) V b := fun V fV => by
        unfold w_loops_J54
        intro a ea
        subst ea
        exact ih V _ fV (by omega) (by omega)
      exact ⟨⟨b0, by omega⟩, fun _ => go U fU, fun _ => ⟨_, sp_loop gU ⟨b0, by rw [u105]; omega⟩, fun V fV => go V (fU.tr fV)⟩⟩
  have L2 : ∀ (c : Nat) (U : MS) (b : Int32), frm [56, 57, 58] [] S U → 0 ≤ b.toInt → (1200 - b.toInt).toNat < c → w_loops_L2 (fun u => frm [56, 57, 58] [] S u) c U b := by
    intro c
    induction c with
    | zero => intro U b _ _ h9; exact absurd h9 (Nat.not_lt_zero _)
    | succ c ih =>
      intro U b fU b0 hc
      obtain ⟨gU, u105⟩ := ge U fU
      unfold w_loops_L2
      rw [u105]
      refine ⟨fun _ => ⟨_, L32 _ U 0 fU (by decide) (Nat.lt_succ_self _)⟩, fun c1 => ⟨⟨b0, by omega⟩, fun D eD => ⟨⟨b0, by omega⟩, fun E eE a ea => ?_⟩⟩⟩
      have ek : (b + Int32.ofInt 1).toInt = b.toInt + 1 := by rw [t_add (by rw [lo_1]; omega), lo_1]
      subst ea
      exact ih E _ (fU.tr ((show frm [56, 57, 58] [] U D by rw [eD]; exact frm.pI (by decide)).tr (by rw [eE]; exact frm.pI (by decide)))) (by omega) (by omega)
  unfold w_loops
  exact ⟨_, L2 _ S 0 frm.rf (by decide) (Nat.lt_succ_self _)⟩
/-! blocks and edges (behind sp_reach, LkI.ways, wtS) -/
theorem wtV_nn {op b : Int} (h : 0 ≤ b ∨ ¬ (op = 170 ∨ op = 171)) : 0 ≤ wtV op b := by
  unfold wtV
  split
  · decide
  · split
    · rcases h with q | q
      · omega
      · contradiction
    · decide
/-- the weight of the rows of the method that is looked at -/
def lwS (S : MS) (n : Nat) : Int := wtS (qI S (qO S 0 48)) (qI S 0 51).toInt.toNat n
theorem LkI.wt {S : MS} (h : LkI S) : lwS S (qI S 0 52).toInt.toNat ≤ 3600 ∧ ∀ x : Int32, 0 ≤ x.toInt → x.toInt < (qI S 0 52).toInt → lwS S (x.toInt.toNat + 1) = lwS S x.toInt.toNat + wtV (f_op S x).toInt (f_second S x).toInt ∧ 0 ≤ wtV (f_op S x).toInt (f_second S x).toInt ∧ 3 * (f_ways S x).toInt ≤ wtV (f_op S x).toInt (f_second S x).toInt := by
  have h' := h
  obtain ⟨-, L, F, M, nc, ts, cn, -, -, -, mt, -, -, -, -⟩ := h'
  refine ⟨mt.2.2.2.2.1, fun x x0 x1 => ?_⟩
  have ix := lk_ix h ⟨x0, x1⟩
  have f0 := mt.1
  obtain ⟨L', F', M', ts', la, lb, rv, -, -⟩ := h.rv ⟨x0, x1⟩
  have e1 : (3 * ((qI S 0 51).toInt + x.toInt)).toNat = 3 * ((qI S 0 51).toInt.toNat + x.toInt.toNat) := by omega
  have e2 : (3 * ((qI S 0 51).toInt + x.toInt) + 2).toNat = 3 * ((qI S 0 51).toInt.toNat + x.toInt.toNat) + 2 := by omega
  have eo : f_op S x = qI S (qO S 0 48) (3 * ((qI S 0 51).toInt.toNat + x.toInt.toNat)) := by unfold f_op; rw [ix.1, e1]
  have es : f_second S x = qI S (qO S 0 48) (3 * ((qI S 0 51).toInt.toNat + x.toInt.toNat) + 2) := by unfold f_second; rw [ix.2.2, e2]
  have nn : 0 ≤ (f_second S x).toInt ∨ ¬ ((f_op S x).toInt = 170 ∨ (f_op S x).toInt = 171) := by
    by_cases q : (f_op S x).toInt = 170 ∨ (f_op S x).toInt = 171
    · exact Or.inl (rv.2.2.1 q).2.1
    · exact Or.inr q
  refine ⟨?_, wtV_nn nn, ?_⟩
  · unfold lwS
    show wtS _ _ x.toInt.toNat + wtR _ _ = _
    unfold wtR
    rw [← eo, ← es]
  · unfold f_ways
    by_cases q1 : (f_isJump S (f_op S x)).toInt = 0
    · rw [if_pos q1]
      by_cases q2 : (f_isSwitch S (f_op S x)).toInt = 0
      · rw [if_pos q2]
        have := wtV_nn nn
        rw [li_0]; omega
      · rw [if_neg q2]
        have sw : (f_op S x).toInt = 170 ∨ (f_op S x).toInt = 171 := by
          unfold f_isSwitch f_isSwitch_J14 at q2
          by_cases c1 : (f_op S x).toInt = 170
          · exact Or.inl c1
          · rw [if_neg c1] at q2
            by_cases c2 : (f_op S x).toInt = 171
            · exact Or.inr c2
            · rw [if_neg c2] at q2; exact absurd rfl q2
        have b := rv.2.2.1 sw
        have e : (f_second S x + (1 : Int32)).toInt = (f_second S x).toInt + 1 := by rw [t_add (by rw [li_1]; omega), li_1]
        rw [e]
        unfold wtV
        rw [if_neg (by omega), if_pos sw]
        omega
    · rw [if_neg q1, li_1]
      have o := jp_op q1
      unfold wtV
      rw [if_neg (by omega), if_neg (by omega)]
      decide
theorem lwS_up {S : MS} (h : LkI S) : ∀ (d a : Nat), (a + d : Int) ≤ (qI S 0 52).toInt → lwS S a ≤ lwS S (a + d) := by
  intro d
  induction d with
  | zero => intro a _; exact Int.le_refl _
  | succ d ih =>
    intro a hd
    have cn := h.cnt
    have q := ih a (by omega)
    have e : (Int32.ofNat (a + d)).toInt = a + d := by rw [oN (by omega)]; omega
    have w := h.wt.2 (Int32.ofNat (a + d)) (by omega) (by omega)
    have en : (Int32.ofNat (a + d)).toInt.toNat = a + d := by omega
    rw [en] at w
    have w1 := w.1
    have w2 := w.2.1
    have e3 : a + (d + 1) = a + d + 1 := by omega
    rw [e3]
    omega
/-- the blocks of a method of N instructions -/
def GbI (S : MS) (N : Int) : Prop := (1 ≤ (qI S 0 105).toInt ∧ (qI S 0 105).toInt ≤ N ∧ N ≤ 1200) ∧ (∀ b : Nat, (b : Int) < (qI S 0 105).toInt → (b : Int) ≤ (qI S 49 b).toInt ∧ (qI S 49 b).toInt < N) ∧ (∀ b : Nat, (b : Int) + 1 < (qI S 0 105).toInt → (qI S 49 b).toInt < (qI S 49 (b + 1)).toInt) ∧ (qI S 49 (qI S 0 105).toInt.toNat).toInt = N ∧ (∀ j : Nat, (j : Int) < N → (0 ≤ (qI S 50 j).toInt ∧ (qI S 50 j).toInt < (qI S 0 105).toInt) ∧ (qI S 49 (qI S 50 j).toInt.toNat).toInt ≤ j) ∧ ∀ j : Nat, (j : Int) + 1 < N → (qI S 50 j).toInt ≤ (qI S 50 (j + 1)).toInt
theorem GbI.fm {S u : MS} {N : Int} {W J : List Nat} (h : GbI S N) (k : frm W J S u) (h1 : 49 ∉ W) (h2 : 50 ∉ W) (h3 : 105 ∉ J) : GbI u N := by
  unfold GbI
  rw [(k.2.2.2.2.1 49 (by decide) h1).1, (k.2.2.2.2.1 50 (by decide) h2).1, (k.2.2.2.2.2 105 h3).1]
  exact h
def EdI (S U : MS) (B X : Int) : Prop := frm [51, 52] [110] S U ∧ (0 ≤ (qI U 0 110).toInt ∧ 3 * (qI U 0 110).toInt ≤ X) ∧ (∀ b : Nat, (b : Int) < B → 0 ≤ (qI U 51 b).toInt ∧ (qI U 51 b).toInt ≤ (qI U 0 110).toInt) ∧ ∀ k : Nat, (k : Int) < (qI U 0 110).toInt → 0 ≤ (qI U 52 k).toInt ∧ (qI U 52 k).toInt < (qI S 0 105).toInt
theorem EdI.le {S U : MS} {B X Y : Int} (h : EdI S U B X) (hy : X ≤ Y) : EdI S U B Y := ⟨h.1, ⟨h.2.1.1, by have := h.2.1.2; omega⟩, h.2.2⟩
theorem EdI.into {S U : MS} {B X : Int} {b t : Int32} (h : EdI S U B X) (hb : 0 ≤ b.toInt ∧ b.toInt < B ∧ b.toInt < 1200) (ht : 0 ≤ t.toInt ∧ t.toInt < (qI S 0 105).toInt) (hX : X ≤ 71997) : w_edgeInto U b t (fun u => EdI S u B (X + 3)) := by
  obtain ⟨h1, h2, h3, h4⟩ := h
  have eb := h3 b.toInt.toNat (by omega)
  unfold w_edgeInto
  refine ⟨⟨hb.1, by omega⟩, fun a ea => ?_⟩
  have L : ∀ (c : Nat) (k : Int32), 0 ≤ k.toInt → (24000 - k.toInt).toNat < c → w_edgeInto_L7 (fun u => EdI S u B (X + 3)) c U t k := by
    intro c
    induction c with
    | zero => intro k _ h9; exact absurd h9 (Nat.not_lt_zero _)
    | succ c ih =>
      intro k k0 hc
      unfold w_edgeInto_L7
      refine ⟨fun _ => ⟨⟨h2.1, by omega⟩, fun D eD E eE => ?_⟩, fun c1 => ⟨⟨k0, by omega⟩, fun _ => ⟨h1, ⟨h2.1, by omega⟩, h3, h4⟩, fun _ a2 e2 => ?_⟩⟩
      · have d110 : qI D 0 110 = qI U 0 110 := by rw [eD, rdH (by decide)]
        have e110 : (qI E 0 110).toInt = (qI U 0 110).toInt + 1 := by rw [eE, qI_wI, if_pos ⟨rfl, rfl⟩, d110, t_add (by rw [li_1]; omega), li_1]
        have e51 : qI E 51 = qI U 51 := by rw [eE, rdH (by decide), eD, rdH (by decide)]
        have e52 : ∀ j : Nat, qI E 52 j = if j = (qI U 0 110).toInt.toNat then t else qI U 52 j := fun j => by
          rw [eE, rdH (by decide), eD, qI_wI]
          by_cases q : j = (qI U 0 110).toInt.toNat
          · rw [if_pos ⟨rfl, q⟩, if_pos q]
          · rw [if_neg (fun z => q z.2), if_neg q]
        refine ⟨h1.tr ((show frm [51, 52] [110] U D by rw [eD]; exact frm.pI (by decide)).tr (by rw [eE]; exact frm.pI0 (by decide))), ⟨by omega, by omega⟩, fun b' hb' => ?_, fun k' hk' => ?_⟩
        · rw [e51, e110]; have := h3 b' hb'; omega
        · rw [e52]
          by_cases q : k' = (qI U 0 110).toInt.toNat
          · rw [if_pos q]; exact ht
          · rw [if_neg q]; exact h4 k' (by omega)
      · have ek : (k + Int32.ofInt 1).toInt = k.toInt + 1 := by rw [t_add (by rw [lo_1]; omega), lo_1]
        subst e2
        exact ih _ (by omega) (by omega)
  exact ⟨_, L _ a (by rw [ea]; exact eb.1) (Nat.lt_succ_self _)⟩
/-! draw (behind sp_edges, sp_look) -/
/-! graph, blocks, block, edge (behind sp_draw, sp_loops, sp_isMethod) -/
/-- how many blocks are reached: a count of the marks -/
def nzN (g : Nat → Int32) (n : Nat) : Nat := sumN (fun j => if (g j).toInt = 0 then 0 else 1) n
theorem sp_reachedBlocks {S : MS} (h : GeI S) : w_reachedBlocks S (fun r u => u = S ∧ r.toInt = nzN (qI S 53) (qI S 0 105).toInt.toNat) := by
  have bc := h.1
  have nz : ∀ n : Nat, nzN (qI S 53) n ≤ n := by
    intro n
    induction n with
    | zero => exact Nat.le_refl _
    | succ n ih =>
      show nzN (qI S 53) n + (if (qI S 53 n).toInt = 0 then 0 else 1) ≤ n + 1
      split <;> omega
  have L : ∀ (c : Nat) (r k : Int32), (0 ≤ k.toInt ∧ k.toInt ≤ (qI S 0 105).toInt) → r.toInt = nzN (qI S 53) k.toInt.toNat → (1200 - k.toInt).toNat < c → w_reachedBlocks_L4 (fun r u => u = S ∧ r.toInt = nzN (qI S 53) (qI S 0 105).toInt.toNat) c S r k := by
    intro c
    induction c with
    | zero => intro r k _ _ h9; exact absurd h9 (Nat.not_lt_zero _)
    | succ c ih =>
      intro r k k0 er hc
      unfold w_reachedBlocks_L4 w_reachedBlocks_J24
      have le := nz k.toInt.toNat
      refine ⟨fun c1 => ⟨rfl, by rw [er, show k.toInt.toNat = (qI S 0 105).toInt.toNat by omega]⟩, fun c1 => ⟨⟨k0.1, by omega⟩, fun c2 a ea => ?_, fun c2 a6 e6 a ea => ?_⟩⟩
      · have ek : (k + Int32.ofInt 1).toInt = k.toInt + 1 := by rw [t_add (by rw [lo_1]; omega), lo_1]
        subst ea
        refine ih r _ ⟨by omega, by omega⟩ ?_ (by omega)
        rw [ek, show (k.toInt + 1).toNat = k.toInt.toNat + 1 by omega]
        show r.toInt = ((nzN (qI S 53) k.toInt.toNat + (if (qI S 53 k.toInt.toNat).toInt = 0 then 0 else 1) : Nat) : Int)
        rw [if_pos c2, er]
        omega
      · have ek : (k + Int32.ofInt 1).toInt = k.toInt + 1 := by rw [t_add (by rw [lo_1]; omega), lo_1]
        have er1 : (r + Int32.ofInt 1).toInt = r.toInt + 1 := by rw [t_add (by rw [lo_1]; omega), lo_1]
        subst ea
        subst e6
        refine ih _ _ ⟨by omega, by omega⟩ ?_ (by omega)
        rw [ek, show (k.toInt + 1).toNat = k.toInt.toNat + 1 by omega]
        show _ = ((nzN (qI S 53) k.toInt.toNat + (if (qI S 53 k.toInt.toNat).toInt = 0 then 0 else 1) : Nat) : Int)
        rw [if_neg c2, er1, er]
        omega
  unfold w_reachedBlocks
  exact ⟨_, L _ 0 0 ⟨by decide, by rw [li_0]; exact bc.1⟩ rfl (Nat.lt_succ_self _)⟩
