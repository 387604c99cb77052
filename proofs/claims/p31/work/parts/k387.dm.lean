/-! dominators and loops (behind GeI, zc_set) -/
theorem dv32 {x : Int32} (h : 0 ≤ x.toInt ∧ x.toInt < 1200) : (x / (32 : Int32)).toInt = x.toInt / 32 := by
  have l : (32 : Int32).toInt = 32 := by decide
  rw [Int32.toInt_div, l, Int.tdiv_eq_ediv_of_nonneg h.1, Int.bmod_def]
  omega
theorem d_dom {S : MS} {x y : Int32} (hx : 0 ≤ x.toInt ∧ x.toInt < 1200) (hy : 0 ≤ y.toInt ∧ y.toInt < 1200) : d_dominates S x y := by
  have l : (38 : Int32).toInt = 38 := by decide
  have e1 : ((38 : Int32) * y).toInt = 38 * y.toInt := by rw [t_mul (by rw [l]; omega), l]
  have e2 := dv32 hx
  have e3 : ((38 : Int32) * y + x / (32 : Int32)).toInt = 38 * y.toInt + x.toInt / 32 := by rw [t_add (by rw [e1, e2]; omega), e1, e2]
  unfold d_dominates
  rw [e3]
  exact ⟨⟨by omega, by omega⟩, trivial⟩
def MbN (S : MS) : Nat := sumN (fun j => (qI S 54 j).toBitVec.toNat) 45600
theorem and_le {a b : Int32} : (a &&& b).toBitVec.toNat ≤ a.toBitVec.toNat := by
  rw [Int32.toBitVec_and, BitVec.toNat_and]
  exact Nat.and_le_left
theorem Mb_set {S : MS} {i : Nat} {b : Int32} (hi : i < 45600) : MbN (wI S 54 i (qI S 54 i &&& b)) ≤ MbN S ∧ (¬ (qI S 54 i &&& b).toInt = (qI S 54 i).toInt → MbN (wI S 54 i (qI S 54 i &&& b)) < MbN S) := by
  have u : MbN (wI S 54 i (qI S 54 i &&& b)) + (qI S 54 i).toBitVec.toNat = MbN S + (qI (wI S 54 i (qI S 54 i &&& b)) 54 i).toBitVec.toNat := sumN_upd (g := fun j => (qI S 54 j).toBitVec.toNat) (g' := fun j => (qI (wI S 54 i (qI S 54 i &&& b)) 54 j).toBitVec.toNat) (i := i) (fun j hj => by
    have e1 : qI (wI S 54 i (qI S 54 i &&& b)) 54 j = qI S 54 j := by rw [qI_wI, if_neg (fun q => hj q.2)]
    show (qI (wI S 54 i (qI S 54 i &&& b)) 54 j).toBitVec.toNat = _
    rw [e1]) 45600 hi
  have e2 : qI (wI S 54 i (qI S 54 i &&& b)) 54 i = qI S 54 i &&& b := by rw [qI_wI, if_pos ⟨rfl, rfl⟩]
  rw [e2] at u
  have l := and_le (a := qI S 54 i) (b := b)
  refine ⟨by omega, fun q => ?_⟩
  have ne : (qI S 54 i &&& b).toBitVec.toNat ≠ (qI S 54 i).toBitVec.toNat := fun z => q (by
    have : qI S 54 i &&& b = qI S 54 i := Int32.toBitVec_inj.mp (BitVec.eq_of_toNat_eq z)
    rw [this])
  omega
def NwR (S U : MS) (m : Int32) : Prop := frm [54] [] S U ∧ MbN U ≤ MbN S ∧ (¬ m.toInt = 0 → MbN U < MbN S)
theorem sp_narrowed {S : MS} {x y : Int32} (hx : 0 ≤ x.toInt ∧ x.toInt < 1200) (hy : 0 ≤ y.toInt ∧ y.toInt < 1200) : w_narrowed S x y (fun r u => NwR S u r) := by
  have l : (38 : Int32).toInt = 38 := by decide
  have e1 : ((38 : Int32) * x).toInt = 38 * x.toInt := by rw [t_mul (by rw [l]; omega), l]
  have e2 : ((38 : Int32) * y).toInt = 38 * y.toInt := by rw [t_mul (by rw [l]; omega), l]
  have L : ∀ (c : Nat) (U : MS) (m k : Int32), NwR S U m → 0 ≤ k.toInt → (38 - k.toInt).toNat < c → w_narrowed_L5 (fun r u => NwR S u r) c U x y m k := by
    intro c
    induction c with
    | zero => intro U m k _ _ h9; exact absurd h9 (Nat.not_lt_zero _)
    | succ c ih =>
      intro U m k hU k0 hc
      unfold w_narrowed_L5
      refine ⟨fun _ => hU, fun c1 => ?_⟩
      have i1 : ((38 : Int32) * x + k).toInt = 38 * x.toInt + k.toInt := by rw [t_add (by rw [e1]; omega), e1]
      have i2 : ((38 : Int32) * y + k).toInt = 38 * y.toInt + k.toInt := by rw [t_add (by rw [e2]; omega), e2]
      have ek : (k + Int32.ofInt 1).toInt = k.toInt + 1 := by rw [t_add (by rw [lo_1]; omega), lo_1]
      have j31 : ∀ t : Int32, w_narrowed_J31 (fun r u => NwR S u r) (w_narrowed_L5 (fun r u => NwR S u r) c) U t x y m k := fun t => by
        unfold w_narrowed_J31
        rw [i1, i2]
        refine ⟨⟨by omega, by omega⟩, ⟨by omega, by omega⟩, fun a ea => ?_⟩
        have z := Mb_set (S := U) (i := (38 * y.toInt + k.toInt).toNat) (b := qI U 54 (38 * x.toInt + k.toInt).toNat ||| t) (by omega)
        rw [← ea] at z
        have j89 : ∀ m' : Int32, (¬ m'.toInt = 0 → ¬ m.toInt = 0 ∨ ¬ a.toInt = (qI U 54 (38 * y.toInt + k.toInt).toNat).toInt) → w_narrowed_J89 (fun r u => NwR S u r) (w_narrowed_L5 (fun r u => NwR S u r) c) U m' x y k a := fun m' hm => by
          unfold w_narrowed_J89
          rw [i2]
          refine ⟨⟨by omega, by omega⟩, fun D eD a2 ea2 => ?_⟩
          subst ea2
          rw [← eD] at z
          refine ih D m' _ ⟨hU.1.tr (by rw [eD]; exact frm.pI (by decide)), by have := hU.2.1; omega, fun q => ?_⟩ (by omega) (by omega)
          rcases hm q with w | w
          · have := hU.2.2 w; omega
          · have := z.2 w; have := hU.2.1; omega
        unfold w_narrowed_J84
        exact ⟨fun _ => ⟨⟨by omega, by omega⟩, fun _ => j89 0 (fun q => absurd rfl q), fun c3 => j89 1 (fun _ => Or.inr c3)⟩, fun c2 => j89 1 (fun _ => Or.inl c2)⟩
      exact ⟨fun _ => j31 _, fun _ => j31 _⟩
  unfold w_narrowed
  exact ⟨_, L _ S 0 0 ⟨frm.rf, Nat.le_refl _, fun q => absurd rfl q⟩ (by decide) (Nat.lt_succ_self _)⟩
theorem sp_nearestOf {S : MS} {x : Int32} (h : GeI S) (hx : 0 ≤ x.toInt ∧ x.toInt < 1200) : w_nearestOf S x (fun _ u => u = S) := by
  have bc := h.1
  have L : ∀ (c : Nat) (r m k : Int32), 0 ≤ k.toInt → (1200 - k.toInt).toNat < c → w_nearestOf_L7 (fun _ u => u = S) c S x r m k := by
    intro c
    induction c with
    | zero => intro r m k _ h9; exact absurd h9 (Nat.not_lt_zero _)
    | succ c ih =>
      intro r m k k0 hc
      unfold w_nearestOf_L7 w_nearestOf_J49 w_nearestOf_J61
      refine ⟨fun _ => rfl, fun c1 => ?_⟩
      have ek : (k + Int32.ofInt 1).toInt = k.toInt + 1 := by rw [t_add (by rw [lo_1]; omega), lo_1]
      have go : ∀ r m : Int32, ∀ a2 : Int32, a2 = (k + Int32.ofInt 1) → w_nearestOf_L7 (fun _ u => u = S) c S x r m a2 := fun r m a2 e2 => by
        subst e2
        exact ih r m _ (by omega) (by omega)
      exact ⟨fun _ => go _ _, fun _ => ⟨d_dom ⟨k0, by omega⟩ hx, fun _ => go _ _, fun _ => ⟨⟨k0, by omega⟩, fun _ => ⟨⟨k0, by omega⟩, fun a13 _ => go _ _⟩, fun _ => ⟨⟨k0, by omega⟩, fun a13 _ => go _ _⟩⟩⟩⟩
  unfold w_nearestOf
  exact ⟨_, L _ _ _ 0 (by decide) (Nat.lt_succ_self _)⟩
theorem sp_dominate {S : MS} (h : GeI S) : w_dominate S (fun u => frm [54, 55, 59] [] S u) := by
  have bc := h.1
  have ec := h.2.1
  have ge : ∀ U : MS, frm [54, 55, 59] [] S U → GeI U ∧ qI U 0 105 = qI S 0 105 ∧ qI U 0 110 = qI S 0 110 := fun U fU => ⟨h.fm fU (by decide) (by decide) (by decide) (by decide), (fU.2.2.2.2.2 105 (by decide)).1, (fU.2.2.2.2.2 110 (by decide)).1⟩
  have L200 : ∀ (c : Nat) (U : MS) (b : Int32), frm [54, 55, 59] [] S U → 0 ≤ b.toInt → (1200 - b.toInt).toNat < c → w_dominate_L200 (fun u => frm [54, 55, 59] [] S u) c U b := by
    intro c
    induction c with
    | zero => intro U b _ _ h9; exact absurd h9 (Nat.not_lt_zero _)
    | succ c ih =>
      intro U b fU b0 hc
      obtain ⟨gU, u105, u110⟩ := ge U fU
      unfold w_dominate_L200
      rw [u105]
      refine ⟨fun _ => fU, fun c1 => ?_⟩
      have ek : (b + Int32.ofInt 1).toInt = b.toInt + 1 := by rw [t_add (by rw [lo_1]; omega), lo_1]
      have j235 : ∀ (V : MS) (v : Int32), frm [54, 55, 59] [] S V → w_dominate_J235 (fun u => frm [54, 55, 59] [] S u) (w_dominate_L200 (fun u => frm [54, 55, 59] [] S u) c) V v b b := fun V v fV => by
        unfold w_dominate_J235
        refine ⟨⟨b0, by omega⟩, fun D eD a ea => ?_⟩
        subst ea
        exact ih D _ (fV.tr (by rw [eD]; exact frm.pI (by decide))) (by omega) (by omega)
      unfold w_dominate_J234
      refine ⟨⟨b0, by omega⟩, fun _ => j235 U _ fU, fun _ => ⟨fun _ => j235 U _ fU, fun _ => ⟨_, sp_nearestOf gU ⟨b0, by omega⟩, fun r V eV => ?_⟩⟩⟩
      rw [eV]
      exact j235 U _ fU
  have L159 : ∀ (k142 : MS → Int32 → Prop) (b : Int32), (0 ≤ b.toInt ∧ b.toInt < (qI S 0 105).toInt) → (∀ U : MS, frm [54, 55, 59] [] S U → k142 U (b + Int32.ofInt 1)) → ∀ (c : Nat) (U : MS) (k : Int32), frm [54, 55, 59] [] S U → 0 ≤ k.toInt → (1200 - k.toInt).toNat < c → w_dominate_L159 (fun u => frm [54, 55, 59] [] S u) k142 c U b k := by
    intro k142 b hb hk c
    induction c with
    | zero => intro U k _ _ h9; exact absurd h9 (Nat.not_lt_zero _)
    | succ c ih =>
      intro U k fU k0 hc
      obtain ⟨gU, u105, u110⟩ := ge U fU
      unfold w_dominate_L159
      rw [u105]
      refine ⟨fun _ a ea => by subst ea; exact hk U fU, fun c1 => ?_⟩
      have ek : (k + Int32.ofInt 1).toInt = k.toInt + 1 := by rw [t_add (by rw [lo_1]; omega), lo_1]
      have j186 : ∀ V : MS, frm [54, 55, 59] [] S V → w_dominate_J186 (fun u => frm [54, 55, 59] [] S u) (w_dominate_L159 (fun u => frm [54, 55, 59] [] S u) k142 c) V b k := fun V fV => by
        unfold w_dominate_J186
        intro a ea
        subst ea
        exact ih V _ fV (by omega) (by omega)
      exact ⟨d_dom ⟨k0, by omega⟩ ⟨hb.1, by omega⟩, fun _ => j186 U fU, fun _ => ⟨⟨hb.1, by omega⟩, ⟨hb.1, by omega⟩, fun D eD => j186 D (fU.tr (by rw [eD]; exact frm.pI (by decide)))⟩⟩
  have L142 : ∀ (c : Nat) (U : MS) (b : Int32), frm [54, 55, 59] [] S U → 0 ≤ b.toInt → (1200 - b.toInt).toNat < c → w_dominate_L142 (fun u => frm [54, 55, 59] [] S u) c U b := by
    intro c
    induction c with
    | zero => intro U b _ _ h9; exact absurd h9 (Nat.not_lt_zero _)
    | succ c ih =>
      intro U b fU b0 hc
      obtain ⟨gU, u105, u110⟩ := ge U fU
      unfold w_dominate_L142
      rw [u105]
      have ek : b.toInt < 1200 → (b + Int32.ofInt 1).toInt = b.toInt + 1 := fun q => by rw [t_add (by rw [lo_1]; omega), lo_1]
      refine ⟨fun _ => ⟨_, L200 _ U 0 fU (by decide) (Nat.lt_succ_self _)⟩, fun c1 => ⟨⟨b0, by omega⟩, fun D eD => ?_⟩⟩
      exact ⟨_, L159 _ b ⟨b0, by omega⟩ (fun V fV => ih V _ fV (by rw [ek (by omega)]; omega) (by rw [ek (by omega)]; omega)) _ D 0 (fU.tr (by rw [eD]; exact frm.pI (by decide))) (by decide) (Nat.lt_succ_self _)⟩
  -- a round that narrows
  have L80 : ∀ (S0 : MS) (k65 : MS → Int32 → Int32 → Prop) (b : Int32), frm [54, 55, 59] [] S S0 → (0 ≤ b.toInt ∧ b.toInt < (qI S 0 105).toInt) → (∀ (U : MS) (m : Int32), NwR S0 U m → k65 U m (b + Int32.ofInt 1)) → ∀ (c : Nat) (U : MS) (m k : Int32), NwR S0 U m → 0 ≤ k.toInt → (24000 - k.toInt).toNat < c → w_dominate_L80 (fun u => frm [54, 55, 59] [] S u) k65 c U m b k := by
    intro S0 k65 b f0 hb hk c
    induction c with
    | zero => intro U m k _ _ h9; exact absurd h9 (Nat.not_lt_zero _)
    | succ c ih =>
      intro U m k hU k0 hc
      have fU : frm [54, 55, 59] [] S U := f0.tr (hU.1.mo (by decide) (by decide))
      obtain ⟨gU, u105, u110⟩ := ge U fU
      have eb : (b + (1 : Int32)).toInt = b.toInt + 1 := by rw [t_add (by rw [li_1]; omega), li_1]
      have nxt : w_dominate_J131 (fun u => frm [54, 55, 59] [] S u) k65 U m b := by
        unfold w_dominate_J131
        intro a ea
        subst ea
        exact hk U m hU
      unfold w_dominate_L80
      rw [eb]
      refine ⟨⟨hb.1, by omega⟩, fun _ => nxt, fun c0 => ⟨⟨by omega, by omega⟩, fun _ => nxt, fun c1 => ?_⟩⟩
      have e1 := gU.2.2.1 (b.toInt + 1).toNat (by rw [u105]; omega)
      rw [u110] at e1
      have e2 := gU.2.2.2 k.toInt.toNat (by rw [u110]; omega)
      rw [u105] at e2
      have ek : (k + Int32.ofInt 1).toInt = k.toInt + 1 := by rw [t_add (by rw [lo_1]; omega), lo_1]
      refine ⟨⟨k0, by omega⟩, _, sp_narrowed ⟨hb.1, by omega⟩ ⟨e2.1, by omega⟩, fun r V hV => ?_⟩
      have j124 : ∀ m' : Int32, (¬ m'.toInt = 0 → ¬ m.toInt = 0 ∨ ¬ r.toInt = 0) → w_dominate_J124 (fun u => frm [54, 55, 59] [] S u) (w_dominate_L80 (fun u => frm [54, 55, 59] [] S u) k65 c) V m' b k := fun m' hm => by
        unfold w_dominate_J124
        intro a ea
        subst ea
        refine ih V m' _ ⟨hU.1.tr hV.1, by have := hU.2.1; have := hV.2.1; omega, fun q => ?_⟩ (by omega) (by omega)
        rcases hm q with w | w
        · have := hU.2.2 w; have := hV.2.1; omega
        · have := hV.2.2 w; have := hU.2.1; omega
      unfold w_dominate_J119
      exact ⟨fun _ => ⟨fun _ => j124 0 (fun q => absurd rfl q), fun c3 => j124 1 (fun _ => Or.inl c3)⟩, fun c3 => j124 1 (fun _ => Or.inr c3)⟩
  have L65 : ∀ (S0 : MS) (k57 : MS → Int32 → Prop), frm [54, 55, 59] [] S S0 → (∀ (U : MS) (m : Int32), NwR S0 U m → k57 U m) → ∀ (c : Nat) (U : MS) (m b : Int32), NwR S0 U m → 0 ≤ b.toInt → (1200 - b.toInt).toNat < c → w_dominate_L65 (fun u => frm [54, 55, 59] [] S u) k57 c U m b := by
    intro S0 k57 f0 hk c
    induction c with
    | zero => intro U m b _ _ h9; exact absurd h9 (Nat.not_lt_zero _)
    | succ c ih =>
      intro U m b hU b0 hc
      have fU : frm [54, 55, 59] [] S U := f0.tr (hU.1.mo (by decide) (by decide))
      obtain ⟨gU, u105, u110⟩ := ge U fU
      unfold w_dominate_L65
      rw [u105]
      refine ⟨fun _ => hk U m hU, fun c1 => ⟨⟨b0, by omega⟩, fun a ea => ?_⟩⟩
      have e1 := gU.2.2.1 b.toInt.toNat (by rw [u105]; omega)
      have ek : (b + Int32.ofInt 1).toInt = b.toInt + 1 := by rw [t_add (by rw [lo_1]; omega), lo_1]
      exact ⟨_, L80 S0 _ b f0 ⟨b0, by omega⟩ (fun U' m' h' => ih U' m' _ h' (by omega) (by omega)) _ U m a hU (by rw [ea]; exact e1.1) (Nat.lt_succ_self _)⟩
  have L57 : ∀ (c : Nat) (U : MS) (m : Int32), frm [54, 55, 59] [] S U → (m.toInt = 0 ∧ 1 ≤ c ∨ MbN U + 2 ≤ c) → w_dominate_L57 (fun u => frm [54, 55, 59] [] S u) c U m := by
    intro c
    induction c with
    | zero => intro U m _ h9; exact absurd h9 (by omega)
    | succ c ih =>
      intro U m fU hc
      unfold w_dominate_L57
      refine ⟨fun _ => ⟨_, L142 _ U 0 fU (by decide) (Nat.lt_succ_self _)⟩, fun c1 => ?_⟩
      have hc2 : MbN U + 2 ≤ c + 1 := by omega
      refine ⟨_, L65 U _ fU (fun V m' hV => ih V m' (fU.tr (hV.1.mo (by decide) (by decide))) ?_) _ U 0 0 ⟨frm.rf, Nat.le_refl _, fun q => absurd rfl q⟩ (by decide) (Nat.lt_succ_self _)⟩
      by_cases z : m'.toInt = 0
      · exact Or.inl ⟨z, by omega⟩
      · have := hV.2.2 z
        exact Or.inr (by omega)
  have L28 : ∀ (c : Nat) (U : MS) (k : Int32), frm [54, 55, 59] [] S U → 0 ≤ k.toInt → (38 - k.toInt).toNat < c → w_dominate_L28 (fun u => frm [54, 55, 59] [] S u) c U k := by
    intro c
    induction c with
    | zero => intro U k _ _ h9; exact absurd h9 (Nat.not_lt_zero _)
    | succ c ih =>
      intro U k fU k0 hc
      unfold w_dominate_L28
      refine ⟨fun _ => ⟨_, L57 _ U 1 fU (Or.inr (Nat.le_refl _))⟩, fun c1 => ?_⟩
      have ek : (k + Int32.ofInt 1).toInt = k.toInt + 1 := by rw [t_add (by rw [lo_1]; omega), lo_1]
      have j48 : ∀ v : Int32, w_dominate_J48 (fun u => frm [54, 55, 59] [] S u) (w_dominate_L28 (fun u => frm [54, 55, 59] [] S u) c) U v k k := fun v => by
        unfold w_dominate_J48
        refine ⟨⟨k0, by omega⟩, fun D eD a ea => ?_⟩
        subst ea
        exact ih D _ (fU.tr (by rw [eD]; exact frm.pI (by decide))) (by omega) (by omega)
      exact ⟨fun _ => j48 1, fun _ => j48 0⟩
  have l : (38 : Int32).toInt = 38 := by decide
  have L2 : ∀ (c : Nat) (U : MS) (k : Int32), frm [54, 55, 59] [] S U → 0 ≤ k.toInt → (45600 - k.toInt).toNat < c → w_dominate_L2 (fun u => frm [54, 55, 59] [] S u) c U k := by
    intro c
    induction c with
    | zero => intro U k _ _ h9; exact absurd h9 (Nat.not_lt_zero _)
    | succ c ih =>
      intro U k fU k0 hc
      obtain ⟨gU, u105, u110⟩ := ge U fU
      have em : (qI S 0 105 * (38 : Int32)).toInt = (qI S 0 105).toInt * 38 := by rw [t_mul (by rw [l]; omega), l]
      unfold w_dominate_L2
      rw [u105, em]
      refine ⟨fun _ => ⟨_, L28 _ U 0 fU (by decide) (Nat.lt_succ_self _)⟩, fun c1 => ⟨⟨k0, by omega⟩, fun D eD a ea => ?_⟩⟩
      have ek : (k + Int32.ofInt 1).toInt = k.toInt + 1 := by rw [t_add (by rw [lo_1]; omega), lo_1]
      subst ea
      exact ih D _ (fU.tr (by rw [eD]; exact frm.pI (by decide))) (by omega) (by omega)
  unfold w_dominate
  exact ⟨_, L2 _ S 0 frm.rf (by decide) (Nat.lt_succ_self _)⟩
/-! loops (behind sp_dominate, zc_set, d_dom) -/
def mkN (S : MS) : Nat := zc (qI S 58) (qI S 0 105).toInt.toNat
def LpR (S0 U : MS) (m : Int32) : Prop := frm [58] [] S0 U ∧ mkN U ≤ mkN S0 ∧ (¬ m.toInt = 0 → mkN U < mkN S0)
theorem mk_set {U D : MS} {i : Nat} (hi : (i : Int) < (qI U 0 105).toInt) (eD : D = wI U 58 i (vp_nar .boolean (1 : Int32))) : mkN D ≤ mkN U ∧ ((qI U 58 i).toInt = 0 → mkN D < mkN U) ∧ (frm [58] [] U D ∧ ¬ (qI D 58 i).toInt = 0) := by
  have z := zc_set (S := U) (h := 58) (i := i) (n := (qI U 0 105).toInt.toNat) (v := vp_nar .boolean (1 : Int32)) (by omega) vb1
  rw [← eD] at z
  have d105 : qI D 0 105 = qI U 0 105 := by rw [eD, rdH (by decide)]
  refine ⟨by unfold mkN; rw [d105]; exact z.1, fun q => by unfold mkN; rw [d105]; exact z.2 q, by rw [eD]; exact frm.pI (by decide), ?_⟩
  rw [eD, qI_wI, if_pos ⟨rfl, rfl⟩]
  exact vb1
theorem sp_loop {S : MS} {x : Int32} (h : GeI S) (hx : 0 ≤ x.toInt ∧ x.toInt < (qI S 0 105).toInt) : w_loop S x (fun u => frm [56, 57, 58] [] S u) := by
  have bc := h.1
  have ec := h.2.1
  have ge : ∀ U : MS, frm [56, 57, 58] [] S U → GeI U ∧ qI U 0 105 = qI S 0 105 ∧ qI U 0 110 = qI S 0 110 := fun U fU => ⟨h.fm fU (by decide) (by decide) (by decide) (by decide), (fU.2.2.2.2.2 105 (by decide)).1, (fU.2.2.2.2.2 110 (by decide)).1⟩
  have L264 : ∀ (c : Nat) (U : MS) (b : Int32), frm [56, 57, 58] [] S U → 0 ≤ b.toInt → (1200 - b.toInt).toNat < c → w_loop_L264 (fun u => frm [56, 57, 58] [] S u) c U b := by
    intro c
    induction c with
    | zero => intro U b _ _ h9; exact absurd h9 (Nat.not_lt_zero _)
    | succ c ih =>
      intro U b fU b0 hc
      obtain ⟨gU, u105, u110⟩ := ge U fU
      unfold w_loop_L264
      rw [u105]
      refine ⟨fun _ => fU, fun c1 => ?_⟩
      have ek : (b + Int32.ofInt 1).toInt = b.toInt + 1 := by rw [t_add (by rw [lo_1]; omega), lo_1]
      have go : ∀ V : MS, frm [56, 57, 58] [] S V → w_loop_J294 (fun u => frm [56, 57, 58] [] S u) (w_loop_L264 (fun u => frm [56, 57, 58] [] S u) c) V b := fun V fV => by
        unfold w_loop_J294
        intro a ea
        subst ea
        exact ih V _ fV (by omega) (by omega)
      exact ⟨⟨b0, by omega⟩, fun _ => go U fU, fun _ => ⟨⟨b0, by omega⟩, ⟨b0, by omega⟩, fun D eD => go D (fU.tr (by rw [eD]; exact frm.pI (by decide)))⟩⟩
  -- one block in a round
  have L178 : ∀ (S0 Ub : MS) (k137 : MS → Int32 → Int32 → Int32 → Prop) (m b : Int32), frm [56, 57, 58] [] S S0 → LpR S0 Ub m → (qI Ub 58 b.toInt.toNat).toInt = 0 → (0 ≤ b.toInt ∧ b.toInt < (qI S 0 105).toInt) → (∀ (U : MS) (m' : Int32), LpR S0 U m' → k137 U x m' (b + Int32.ofInt 1)) → ∀ (c : Nat) (U : MS) (k : Int32), frm [58] [] Ub U → mkN U ≤ mkN Ub → (¬ (qI U 58 b.toInt.toNat).toInt = 0 → mkN U < mkN Ub) → 0 ≤ k.toInt → (24000 - k.toInt).toNat < c → w_loop_L178 (fun u => frm [56, 57, 58] [] S u) k137 c U x m b k := by
    intro S0 Ub k137 m b f0 hUb zb hb hk c
    induction c with
    | zero => intro U k _ _ _ _ h9; exact absurd h9 (Nat.not_lt_zero _)
    | succ c ih =>
      intro U k fbU hle hst k0 hc
      have fU : frm [56, 57, 58] [] S U := f0.tr ((hUb.1.mo (by decide) (by decide)).tr (fbU.mo (by decide) (by decide)))
      obtain ⟨gU, u105, u110⟩ := ge U fU
      have eb : (b + (1 : Int32)).toInt = b.toInt + 1 := by rw [t_add (by rw [li_1]; omega), li_1]
      have done : ∀ m' : Int32, (¬ m'.toInt = 0 → ¬ m.toInt = 0 ∨ ¬ (qI U 58 b.toInt.toNat).toInt = 0) → w_loop_J252 (fun u => frm [56, 57, 58] [] S u) k137 U x m' b := fun m' hm => by
        unfold w_loop_J252
        intro a ea
        subst ea
        refine hk U m' ⟨hUb.1.tr fbU, by have := hUb.2.1; omega, fun q => ?_⟩
        rcases hm q with w | w
        · have := hUb.2.2 w; omega
        · have := hst w; have := hUb.2.1; omega
      unfold w_loop_L178 w_loop_J246 w_loop_J251
      rw [eb]
      refine ⟨⟨by omega, by omega⟩, fun c1 => ⟨fun c2 => ⟨⟨hb.1, by omega⟩, fun _ => done 0 (fun q => absurd rfl q), fun c3 => done 1 (fun _ => Or.inr c3)⟩, fun c2 => done 1 (fun _ => Or.inl c2)⟩, fun c1 => ?_⟩
      have e1 := gU.2.2.1 (b.toInt + 1).toNat (by rw [u105]; omega)
      rw [u110] at e1
      have e2 := gU.2.2.2 k.toInt.toNat (by rw [u110]; omega)
      rw [u105] at e2
      have ek : (k + Int32.ofInt 1).toInt = k.toInt + 1 := by rw [t_add (by rw [lo_1]; omega), lo_1]
      have go : ∀ V : MS, frm [58] [] Ub V → mkN V ≤ mkN Ub → (¬ (qI V 58 b.toInt.toNat).toInt = 0 → mkN V < mkN Ub) → w_loop_J226 (fun u => frm [56, 57, 58] [] S u) (w_loop_L178 (fun u => frm [56, 57, 58] [] S u) k137 c) V x m b k := fun V a1 a2 a3 => by
        unfold w_loop_J226
        intro a ea
        subst ea
        exact ih V _ a1 a2 a3 (by omega) (by omega)
      refine ⟨⟨k0, by omega⟩, ⟨e2.1, by omega⟩, fun _ => go U fbU hle hst, fun _ => ⟨⟨k0, by omega⟩, fun _ => go U fbU hle hst, fun _ => ⟨⟨hb.1, by omega⟩, fun D eD => ?_⟩⟩⟩
      obtain ⟨z1, z2, z3, z4⟩ := mk_set (i := b.toInt.toNat) (by rw [u105]; omega) eD
      refine go D (fbU.tr z3) (by omega) (fun _ => ?_)
      by_cases y : (qI U 58 b.toInt.toNat).toInt = 0
      · have := z2 y; omega
      · have := hst y; omega
  have L137 : ∀ (S0 : MS) (k128 : MS → Int32 → Int32 → Prop), frm [56, 57, 58] [] S S0 → (∀ (U : MS) (m : Int32), LpR S0 U m → k128 U x m) → ∀ (c : Nat) (U : MS) (m b : Int32), LpR S0 U m → 0 ≤ b.toInt → (1200 - b.toInt).toNat < c → w_loop_L137 (fun u => frm [56, 57, 58] [] S u) k128 c U x m b := by
    intro S0 k128 f0 hk c
    induction c with
    | zero => intro U m b _ _ h9; exact absurd h9 (Nat.not_lt_zero _)
    | succ c ih =>
      intro U m b hU b0 hc
      have fU : frm [56, 57, 58] [] S U := f0.tr (hU.1.mo (by decide) (by decide))
      obtain ⟨gU, u105, u110⟩ := ge U fU
      unfold w_loop_L137
      rw [u105]
      refine ⟨fun _ => hk U m hU, fun c1 => ?_⟩
      have e1 := gU.2.2.1 b.toInt.toNat (by rw [u105]; omega)
      have ek : (b + Int32.ofInt 1).toInt = b.toInt + 1 := by rw [t_add (by rw [lo_1]; omega), lo_1]
      have go : w_loop_J252 (fun u => frm [56, 57, 58] [] S u) (w_loop_L137 (fun u => frm [56, 57, 58] [] S u) k128 c) U x m b := by
        unfold w_loop_J252
        intro a ea
        subst ea
        exact ih U m _ hU (by omega) (by omega)
      refine ⟨⟨b0, by omega⟩, fun c2 => ⟨⟨b0, by omega⟩, fun _ => go, fun _ => ⟨⟨b0, by omega⟩, fun a ea => ?_⟩⟩, fun _ => go⟩
      exact ⟨_, L178 S0 U _ m b f0 hU c2 ⟨b0, by omega⟩ (fun U' m' h' => ih U' m' _ h' (by omega) (by omega)) _ U a frm.rf (Nat.le_refl _) (fun q => absurd c2 q) (by rw [ea]; exact e1.1) (Nat.lt_succ_self _)⟩
  have L128 : ∀ (c : Nat) (U : MS) (m : Int32), frm [56, 57, 58] [] S U → (m.toInt = 0 ∧ 1 ≤ c ∨ mkN U + 2 ≤ c) → w_loop_L128 (fun u => frm [56, 57, 58] [] S u) c U x m := by
    intro c
    induction c with
    | zero => intro U m _ h9; exact absurd h9 (by omega)
    | succ c ih =>
      intro U m fU hc
      unfold w_loop_L128
      refine ⟨fun _ => ⟨_, L264 _ U 0 fU (by decide) (Nat.lt_succ_self _)⟩, fun c1 => ?_⟩
      have hc2 : mkN U + 2 ≤ c + 1 := by omega
      refine ⟨_, L137 U _ fU (fun V m' hV => ih V m' (fU.tr (hV.1.mo (by decide) (by decide))) ?_) _ U 0 0 ⟨frm.rf, Nat.le_refl _, fun q => absurd rfl q⟩ (by decide) (Nat.lt_succ_self _)⟩
      by_cases z : m'.toInt = 0
      · exact Or.inl ⟨z, by omega⟩
      · have := hV.2.2 z
        exact Or.inr (by omega)
  have L27 : ∀ (k4 : MS → Int32 → Int32 → Int32 → Prop) (m b : Int32), (0 ≤ b.toInt ∧ b.toInt < (qI S 0 105).toInt) → (∀ (U : MS) (m' : Int32), frm [56, 57, 58] [] S U → k4 U x m' (b + Int32.ofInt 1)) → ∀ (c : Nat) (U : MS) (k : Int32), frm [56, 57, 58] [] S U → 0 ≤ k.toInt → (24000 - k.toInt).toNat < c → w_loop_L27 (fun u => frm [56, 57, 58] [] S u) k4 c U x m b k := by
    intro k4 m b hb hk c
    induction c with
    | zero => intro U k _ _ h9; exact absurd h9 (Nat.not_lt_zero _)
    | succ c ih =>
      intro U k fU k0 hc
      obtain ⟨gU, u105, u110⟩ := ge U fU
      have eb : (b + (1 : Int32)).toInt = b.toInt + 1 := by rw [t_add (by rw [li_1]; omega), li_1]
      have done : ∀ m' : Int32, w_loop_J100 (fun u => frm [56, 57, 58] [] S u) k4 U m' x b := fun m' => by
        unfold w_loop_J100
        intro a ea
        subst ea
        exact hk U m' fU
      have j82 : w_loop_J82 (fun u => frm [56, 57, 58] [] S u) k4 U x m b := by
        unfold w_loop_J82 w_loop_J95
        exact ⟨fun _ => ⟨⟨hb.1, by omega⟩, fun _ => done 0, fun _ => done 1⟩, fun _ => done 1⟩
      unfold w_loop_L27
      rw [eb]
      refine ⟨⟨hb.1, by omega⟩, fun _ => j82, fun _ => ⟨⟨by omega, by omega⟩, fun _ => j82, fun c1 => ?_⟩⟩
      have e1 := gU.2.2.1 (b.toInt + 1).toNat (by rw [u105]; omega)
      rw [u110] at e1
      have ek : (k + Int32.ofInt 1).toInt = k.toInt + 1 := by rw [t_add (by rw [lo_1]; omega), lo_1]
      have go : ∀ V : MS, frm [56, 57, 58] [] S V → w_loop_J76 (fun u => frm [56, 57, 58] [] S u) (w_loop_L27 (fun u => frm [56, 57, 58] [] S u) k4 c) V x m b k := fun V fV => by
        unfold w_loop_J76
        intro a ea
        subst ea
        exact ih V _ fV (by omega) (by omega)
      exact ⟨⟨k0, by omega⟩, fun _ => ⟨d_dom ⟨hx.1, by omega⟩ ⟨hb.1, by omega⟩, fun _ => go U fU, fun _ => ⟨⟨hb.1, by omega⟩, fun D eD => go D (fU.tr (by rw [eD]; exact frm.pI (by decide)))⟩⟩, fun _ => go U fU⟩
  have L4 : ∀ (c : Nat) (U : MS) (m b : Int32), frm [56, 57, 58] [] S U → 0 ≤ b.toInt → (1200 - b.toInt).toNat < c → w_loop_L4 (fun u => frm [56, 57, 58] [] S u) c U x m b := by
    intro c
    induction c with
    | zero => intro U m b _ _ h9; exact absurd h9 (Nat.not_lt_zero _)
    | succ c ih =>
      intro U m b fU b0 hc
      obtain ⟨gU, u105, u110⟩ := ge U fU
      unfold w_loop_L4
      rw [u105]
      refine ⟨fun _ => ⟨fun _ => fU, fun _ => ⟨⟨hx.1, by omega⟩, fun D eD => ⟨⟨hx.1, by omega⟩, fun E eE => ?_⟩⟩⟩, fun c1 => ⟨⟨b0, by omega⟩, fun D eD => ⟨⟨b0, by omega⟩, fun a ea => ?_⟩⟩⟩
      · exact ⟨_, L128 _ E 1 (fU.tr ((show frm [56, 57, 58] [] U D by rw [eD]; exact frm.pI (by decide)).tr (by rw [eE]; exact frm.pI (by decide)))) (Or.inr (Nat.le_refl _))⟩
      · have fD : frm [56, 57, 58] [] S D := fU.tr (by rw [eD]; exact frm.pI (by decide))
        obtain ⟨gD, d105, d110⟩ := ge D fD
        have e1 := gD.2.2.1 b.toInt.toNat (by rw [d105]; omega)
        have ek : (b + Int32.ofInt 1).toInt = b.toInt + 1 := by rw [t_add (by rw [lo_1]; omega), lo_1]
        exact ⟨_, L27 _ m b ⟨b0, by omega⟩ (fun U' m' f' => ih U' m' _ f' (by omega) (by omega)) _ D a fD (by rw [ea]; exact e1.1) (Nat.lt_succ_self _)⟩
  unfold w_loop
  exact ⟨_, L4 _ S 0 0 frm.rf (by decide) (Nat.lt_succ_self _)⟩
theorem sp_loops {S : MS} (h : GeI S) : w_loops S (fun u => frm [56, 57, 58] [] S u) := by
  have bc := h.1
  have ge : ∀ U : MS, frm [56, 57, 58] [] S U → GeI U ∧ qI U 0 105 = qI S 0 105 := fun U fU => ⟨h.fm fU (by decide) (by decide) (by decide) (by decide), (fU.2.2.2.2.2 105 (by decide)).1⟩
  have L32 : ∀ (c : Nat) (U : MS) (b : Int32), frm [56, 57, 58] [] S U → 0 ≤ b.toInt → (1200 - b.toInt).toNat < c → w_loops_L32 (fun u => frm [56, 57, 58] [] S u) c U b := by
    intro c
    induction c with
    | zero => intro U b _ _ h9; exact absurd h9 (Nat.not_lt_zero _)
    | succ c ih =>
      intro U b fU b0 hc
      obtain ⟨gU, u105⟩ := ge U fU
      unfold w_loops_L32
      rw [u105]
      refine ⟨fun _ => fU, fun c1 => ?_⟩
      have ek : (b + Int32.ofInt 1).toInt = b.toInt + 1 := by rw [t_add (by rw [lo_1]; omega), lo_1]
      have go : ∀ V : MS, frm [56, 57, 58] [] S V → w_loops_J54 (fun u => frm [56, 57, 58] [] S u) (w_loops_L32 (fun u => frm [56, 57, 58] [] S u) c) V b := fun V fV => by
        unfold w_loops_J54
        intro a ea
        subst ea
        exact ih V _ fV (by omega) (by omega)
      exact ⟨⟨b0, by omega⟩, fun _ => go U fU, fun _ => ⟨_, sp_loop gU ⟨b0, by rw [u105]; omega⟩, fun V fV => go V (fU.tr fV)⟩⟩
  have L2 : ∀ (c : Nat) (U : MS) (b : Int32), frm [56, 57, 58] [] S U → 0 ≤ b.toInt → (1200 - b.toInt).toNat < c → w_loops_L2 (fun u => frm [56, 57, 58] [] S u) c U b := by
    intro c
    induction c with
    | zero => intro U b _ _ h9; exact absurd h9 (Nat.not_lt_zero _)
    | succ c ih =>
      intro U b fU b0 hc
      obtain ⟨gU, u105⟩ := ge U fU
      unfold w_loops_L2
      rw [u105]
      refine ⟨fun _ => ⟨_, L32 _ U 0 fU (by decide) (Nat.lt_succ_self _)⟩, fun c1 => ⟨⟨b0, by omega⟩, fun D eD => ⟨⟨b0, by omega⟩, fun E eE a ea => ?_⟩⟩⟩
      have ek : (b + Int32.ofInt 1).toInt = b.toInt + 1 := by rw [t_add (by rw [lo_1]; omega), lo_1]
      subst ea
      exact ih E _ (fU.tr ((show frm [56, 57, 58] [] U D by rw [eD]; exact frm.pI (by decide)).tr (by rw [eE]; exact frm.pI (by decide)))) (by omega) (by omega)
  unfold w_loops
  exact ⟨_, L2 _ S 0 frm.rf (by decide) (Nat.lt_succ_self _)⟩
