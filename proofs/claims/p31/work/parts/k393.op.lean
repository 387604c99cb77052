/-! the maker of better methods: its state (behind rV, jp_op, frm) -/
def gN (S : MS) : Int := (qI S 0 129).toInt
/-- the first that is there, from i on -/
def HrP (S : MS) (i r : Nat) : Prop := i ≤ r ∧ (r : Int) ≤ gN S ∧ ((r : Int) < gN S → (qI S 81 r).toInt = 0) ∧ ∀ j : Nat, i ≤ j → j < r → ¬ (qI S 81 j).toInt = 0
theorem HrP.le {S : MS} {i r j : Nat} (h : HrP S i r) (h1 : i ≤ j) (h2 : (qI S 81 j).toInt = 0) : r ≤ j := by
  by_cases c : r ≤ j
  · exact c
  · exact absurd h2 (h.2.2.2 j h1 (by omega))
theorem HrP.uq {S : MS} {i r q : Nat} (h : HrP S i r) (k : HrP S i q) : r = q := by
  by_cases c : r < q
  · have := k.2.2.2 r h.1 c
    exact absurd (h.2.2.1 (by have := k.2.1; omega)) this
  · by_cases d : q < r
    · have := h.2.2.2 q k.1 d
      exact absurd (k.2.2.1 (by have := h.2.1; omega)) this
    · omega
theorem fn_here {S : MS} {x : Int32} (hN : 0 ≤ gN S ∧ gN S ≤ 1200) (hx : 0 ≤ x.toInt ∧ x.toInt ≤ gN S) : w_here S x (fun r u => u = S ∧ 0 ≤ r.toInt ∧ HrP S x.toInt.toNat r.toInt.toNat) := by
  have L : ∀ (c : Nat) (k : Int32), (x.toInt ≤ k.toInt ∧ k.toInt ≤ gN S) → (∀ j : Nat, x.toInt.toNat ≤ j → (j : Int) < k.toInt → ¬ (qI S 81 j).toInt = 0) → (1200 - k.toInt).toNat < c → w_here_L2 (fun r u => u = S ∧ 0 ≤ r.toInt ∧ HrP S x.toInt.toNat r.toInt.toNat) c S k := by
    intro c
    induction c with
    | zero => intro k _ _ h9; exact absurd h9 (Nat.not_lt_zero _)
    | succ c ih =>
      intro k hk hj hc
      unfold w_here_L2
      refine ⟨fun c1 => ⟨rfl, by omega, by omega, by omega, fun q => ?_, fun j a b => hj j a (by omega)⟩, fun c1 => ⟨⟨by omega, by unfold gN at hN hk; omega⟩, fun c2 => ⟨rfl, by omega, by omega, by omega, fun _ => c2, fun j a b => hj j a (by omega)⟩, fun c2 a ea => ?_⟩⟩
      · unfold gN at q; omega
      · have ek : (k + Int32.ofInt 1).toInt = k.toInt + 1 := by rw [t_add (by rw [lo_1]; omega), lo_1]
        have c3 : k.toInt < gN S := by unfold gN; omega
        subst ea
        refine ih _ ⟨by omega, by omega⟩ (fun j a b => ?_) (by omega)
        by_cases e : j = k.toInt.toNat
        · rw [e]; exact c2
        · exact hj j a (by omega)
  unfold w_here
  exact ⟨_, L _ x ⟨Int.le_refl _, hx.2⟩ (fun j a b => by omega) (Nat.lt_succ_self _)⟩
theorem fn_behind {S : MS} {x : Int32} (hN : 0 ≤ gN S ∧ gN S ≤ 1200) (hx : 0 ≤ x.toInt ∧ x.toInt < gN S) : w_behind S x (fun r u => u = S ∧ 0 ≤ r.toInt ∧ HrP S (x.toInt.toNat + 1) r.toInt.toNat) := by
  have e : (x + (1 : Int32)).toInt = x.toInt + 1 := by rw [t_add (by rw [li_1]; omega), li_1]
  unfold w_behind
  refine ⟨_, fn_here hN ⟨by omega, by omega⟩, ?_⟩
  rintro r u ⟨h1, h2, h3⟩
  rw [e, show (x.toInt + 1).toNat = x.toInt.toNat + 1 by omega] at h3
  exact ⟨h1, h2, h3⟩
/-- the last that is there -/
def LsP (S : MS) (l : Nat) : Prop := (l : Int) < gN S ∧ (qI S 81 l).toInt = 0 ∧ ∀ j : Nat, l < j → (j : Int) < gN S → ¬ (qI S 81 j).toInt = 0
theorem fn_lastOne {S : MS} {l : Nat} (hN : 0 ≤ gN S ∧ gN S ≤ 1200) (h : LsP S l) : w_lastOne S (fun r u => u = S ∧ r.toInt = l) := by
  have L : ∀ (c : Nat) (k : Int32), ((l : Int) ≤ k.toInt ∧ k.toInt < gN S) → k.toInt.toNat < c → w_lastOne_L7 (fun r u => u = S ∧ r.toInt = l) c S k := by
    intro c
    induction c with
    | zero => intro k _ h9; exact absurd h9 (Nat.not_lt_zero _)
    | succ c ih =>
      intro k hk hc
      unfold w_lastOne_L7
      refine ⟨⟨by omega, by omega⟩, fun c1 => ⟨rfl, ?_⟩, fun c1 a ea => ?_⟩
      · by_cases q : (l : Int) = k.toInt
        · omega
        · exact absurd c1 (h.2.2 k.toInt.toNat (by omega) (by omega))
      · have lm : (Int32.ofInt (-1)).toInt = -1 := by decide
        have ek : (k + Int32.ofInt (-1)).toInt = k.toInt - 1 := by rw [t_add (by rw [lm]; omega), lm]; omega
        have ne : ¬ (l : Int) = k.toInt := fun q => c1 (by rw [show k.toInt.toNat = l by omega]; exact h.2.1)
        subst ea
        exact ih _ ⟨by omega, by omega⟩ (by omega)
  have e : (qI S 0 129 - (1 : Int32)).toInt = gN S - 1 := by unfold gN at hN ⊢; rw [t_sub (by rw [li_1]; omega), li_1]
  have h1 := h.1
  unfold w_lastOne
  intro a ea
  exact ⟨_, L _ a ⟨by rw [ea, e]; omega, by rw [ea, e]; omega⟩ (Nat.lt_succ_self _)⟩
/-- ways and their aims -/
def wyN (S : MS) (i : Nat) : Int := if (f_isJump S (qI S 78 i)).toInt = 0 then (if (f_isSwitch S (qI S 78 i)).toInt = 0 then 0 else (qI S 80 i).toInt + 1) else 1
def tgV (S : MS) (i k : Nat) : Int32 := if (f_isJump S (qI S 78 i)).toInt = 0 then qI S 75 ((qI S 79 i).toInt.toNat + 2 * k) else qI S 79 i
def OpR (S : MS) (L F M : Int) : Prop := (1 ≤ gN S ∧ gN S ≤ 1200) ∧ ((0 ≤ L ∧ L ≤ 24) ∧ F ≤ 24 ∧ M ≤ 24) ∧ (∀ i : Nat, (i : Int) < gN S → rV (qI S 75) 40000 (gN S) L F M (qI S 78 i) (qI S 79 i) (qI S 80 i)) ∧ (0 ≤ (qI S 0 135).toInt ∧ (qI S 0 135).toInt ≤ 16) ∧ ∀ c : Nat, (c : Int) < (qI S 0 135).toInt → (0 ≤ (qI S 82 c).toInt ∧ (qI S 82 c).toInt < gN S) ∧ (0 ≤ (qI S 83 c).toInt ∧ (qI S 83 c).toInt ≤ gN S) ∧ (0 ≤ (qI S 84 c).toInt ∧ (qI S 84 c).toInt < gN S) ∧ -1 ≤ (qI S 85 c).toInt ∧ (qI S 85 c).toInt ≤ 3
/-- what is there aims at what is there -/
def OpA (S : MS) (l : Nat) : Prop := LsP S l ∧ (∀ i k : Nat, (i : Int) < gN S → (qI S 81 i).toInt = 0 → (k : Int) < wyN S i → (tgV S i k).toInt ≤ l) ∧ ∀ c i : Nat, (c : Int) < (qI S 0 135).toInt → (qI S 86 c).toInt = 0 → (i : Int) < gN S → (qI S 81 i).toInt = 0 → (qI S 82 c).toInt ≤ i → (i : Int) < (qI S 83 c).toInt → (qI S 84 c).toInt ≤ l
theorem OpR.wy {S : MS} {L F M : Int} (h : OpR S L F M) {x : Int32} (hx : 0 ≤ x.toInt ∧ x.toInt < gN S) : d_waysOf S x ∧ (f_waysOf S x).toInt = wyN S x.toInt.toNat ∧ (0 ≤ wyN S x.toInt.toNat ∧ wyN S x.toInt.toNat ≤ 202) ∧ ∀ k : Nat, (k : Int) < wyN S x.toInt.toNat → 0 ≤ (tgV S x.toInt.toNat k).toInt ∧ (tgV S x.toInt.toNat k).toInt < gN S ∧ ((f_isJump S (qI S 78 x.toInt.toNat)).toInt = 0 → 0 ≤ (qI S 79 x.toInt.toNat).toInt ∧ (qI S 79 x.toInt.toNat).toInt + 2 * k < 40000) := by
  have rv := h.2.2.1 x.toInt.toNat (by omega)
  have b := h.1
  have rg : 0 ≤ x.toInt ∧ x.toInt < 1200 := by omega
  have dj : ∀ o : Int32, d_isJump S o ∧ d_isSwitch S o := fun o => by
    unfold d_isJump d_isJump_J14 d_isJump_J28 d_isSwitch d_isSwitch_J14
    simp only [ite_self]
    exact ⟨trivial, trivial⟩
  unfold d_waysOf f_waysOf wyN tgV
  by_cases q1 : (f_isJump S (qI S 78 x.toInt.toNat)).toInt = 0
  · rw [if_pos q1, if_pos q1, if_pos q1]
    by_cases q2 : (f_isSwitch S (qI S 78 x.toInt.toNat)).toInt = 0
    · rw [if_pos q2, if_pos q2, if_pos q2]
      refine ⟨⟨rg, (dj _).1, rg, (dj _).2, trivial⟩, rfl, by decide, fun k hk => by omega⟩
    · rw [if_neg q2, if_neg q2, if_neg q2]
      have sw : (qI S 78 x.toInt.toNat).toInt = 170 ∨ (qI S 78 x.toInt.toNat).toInt = 171 := by
        unfold f_isSwitch f_isSwitch_J14 at q2
        by_cases c1 : (qI S 78 x.toInt.toNat).toInt = 170
        · exact Or.inl c1
        · rw [if_neg c1] at q2
          by_cases c2 : (qI S 78 x.toInt.toNat).toInt = 171
          · exact Or.inr c2
          · rw [if_neg c2] at q2; exact absurd rfl q2
      have w := rv.2.2.1 sw
      refine ⟨⟨rg, (dj _).1, rg, (dj _).2, rg, trivial⟩, by rw [t_add (by rw [li_1]; omega), li_1], by omega, fun k hk => ?_⟩
      rw [if_pos q1]
      have z := w.2.2.2.2.1 k (by omega)
      exact ⟨z.1, z.2, fun _ => ⟨w.1, by omega⟩⟩
  · rw [if_neg q1, if_neg q1, if_neg q1]
    have w := rv.2.1 (jp_op q1)
    refine ⟨⟨rg, (dj _).1, trivial⟩, rfl, by decide, fun k hk => ?_⟩
    rw [if_neg q1]
    exact ⟨w.1, w.2, fun q => absurd q q1⟩
theorem fn_wayOf {S : MS} {L F M : Int} {x k : Int32} (h : OpR S L F M) (hx : 0 ≤ x.toInt ∧ x.toInt < gN S) (hk : 0 ≤ k.toInt ∧ k.toInt < wyN S x.toInt.toNat) : w_wayOf S x k (fun r u => u = S ∧ 0 ≤ r.toInt ∧ HrP S (tgV S x.toInt.toNat k.toInt.toNat).toInt.toNat r.toInt.toNat) := by
  obtain ⟨w1, w2, w3, w4⟩ := h.wy hx
  have b := h.1
  have hN : 0 ≤ gN S ∧ gN S ≤ 1200 := by omega
  have rg : 0 ≤ x.toInt ∧ x.toInt < 1200 := by omega
  have t := w4 k.toInt.toNat (by omega)
  have dj : d_isJump S (qI S 78 x.toInt.toNat) := by
    unfold d_isJump d_isJump_J14 d_isJump_J28
    simp only [ite_self]
  have l2 : (2 : Int32).toInt = 2 := by decide
  unfold w_wayOf
  refine ⟨rg, dj, fun q => ⟨rg, ?_⟩, fun q => ⟨rg, ?_⟩⟩
  · have t3 := t.2.2 q
    have e2 : ((2 : Int32) * k).toInt = 2 * k.toInt := by rw [t_mul (by rw [l2]; omega), l2]
    have e : (qI S 79 x.toInt.toNat + (2 : Int32) * k).toInt = (qI S 79 x.toInt.toNat).toInt + 2 * k.toInt := by rw [t_add (by rw [e2]; omega), e2]
    have et : tgV S x.toInt.toNat k.toInt.toNat = qI S 75 ((qI S 79 x.toInt.toNat).toInt + 2 * k.toInt).toNat := by
      unfold tgV
      rw [if_pos q, show (qI S 79 x.toInt.toNat).toInt.toNat + 2 * k.toInt.toNat = ((qI S 79 x.toInt.toNat).toInt + 2 * k.toInt).toNat by omega]
    rw [e]
    rw [et] at t ⊢
    exact ⟨⟨by omega, by omega⟩, _, fn_here hN ⟨t.1, by omega⟩, fun r u hu => hu⟩
  · have et : tgV S x.toInt.toNat k.toInt.toNat = qI S 79 x.toInt.toNat := by unfold tgV; rw [if_neg q]
    rw [et] at t ⊢
    exact ⟨_, fn_here hN ⟨t.1, by omega⟩, fun r u hu => hu⟩
/-- the same rows -/
def smO (S u : MS) : Prop := qI u 0 129 = qI S 0 129 ∧ qI u 0 135 = qI S 0 135 ∧ qI u 75 = qI S 75 ∧ qI u 78 = qI S 78 ∧ qI u 79 = qI S 79 ∧ qI u 80 = qI S 80 ∧ qI u 81 = qI S 81 ∧ qI u 82 = qI S 82 ∧ qI u 83 = qI S 83 ∧ qI u 84 = qI S 84 ∧ qI u 85 = qI S 85
theorem smO.fm {S u : MS} {W J : List Nat} (k : frm W J S u) (hW : W.all (fun w => ! [75, 78, 79, 80, 81, 82, 83, 84, 85].contains w) = true) (h1 : 129 ∉ J) (h2 : 135 ∉ J) : smO S u := by
  have z : ∀ a : Nat, a ∈ [75, 78, 79, 80, 81, 82, 83, 84, 85] → a ∉ W := fun a ha q => by
    have y := List.all_eq_true.mp hW a q
    have c : [75, 78, 79, 80, 81, 82, 83, 84, 85].contains a = true := List.contains_iff_mem.mpr ha
    rw [c] at y
    exact absurd y (by decide)
  have g : ∀ a : Nat, a ∈ [75, 78, 79, 80, 81, 82, 83, 84, 85] → qI u a = qI S a := fun a ha => (k.2.2.2.2.1 a (fun q => by subst q; revert ha; decide) (z a ha)).1
  exact ⟨(k.2.2.2.2.2 129 h1).1, (k.2.2.2.2.2 135 h2).1, g 75 (by decide), g 78 (by decide), g 79 (by decide), g 80 (by decide), g 81 (by decide), g 82 (by decide), g 83 (by decide), g 84 (by decide), g 85 (by decide)⟩
theorem smO.gn {S u : MS} (h : smO S u) : gN u = gN S := by unfold gN; rw [h.1]
theorem smO.hr {S u : MS} (h : smO S u) {i r : Nat} : HrP u i r ↔ HrP S i r := by
  unfold HrP
  rw [h.gn, h.2.2.2.2.2.2.1]
theorem smO.r {S u : MS} {L F M : Int} (h : smO S u) (k : OpR S L F M) : OpR u L F M := by
  obtain ⟨a1, a2, a3, a4, a5, a6, a7, a8, a9, a10, a11⟩ := h
  unfold OpR gN
  rw [a1, a2, a3, a4, a5, a6, a8, a9, a10, a11]
  exact k
theorem smO.tw {S u : MS} (h : smO S u) (i k : Nat) : wyN u i = wyN S i ∧ tgV u i k = tgV S i k := by
  obtain ⟨a1, a2, a3, a4, a5, a6, a7, a8, a9, a10, a11⟩ := h
  unfold wyN tgV
  rw [a3, a4, a5, a6]
  exact ⟨rfl, rfl⟩
theorem smO.ls {S u : MS} (h : smO S u) {l : Nat} (k : LsP S l) : LsP u l := by
  unfold LsP
  rw [h.gn, h.2.2.2.2.2.2.1]
  exact k
theorem smO.a {S u : MS} {l : Nat} (h : smO S u) (k : OpA S l) (e : ∀ c : Nat, (qI u 86 c).toInt = 0 → (qI S 86 c).toInt = 0) : OpA u l := by
  refine ⟨h.ls k.1, fun i k2 a b c => ?_, fun c i a b d e1 f g => ?_⟩
  · rw [(h.tw i k2).2]
    rw [(h.tw i k2).1] at c
    rw [h.gn] at a
    rw [h.2.2.2.2.2.2.1] at b
    exact k.2.1 i k2 a b c
  · obtain ⟨a1, a2, a3, a4, a5, a6, a7, a8, a9, a10, a11⟩ := id h
    rw [h.gn] at d
    rw [a2] at a
    rw [a7] at e1
    rw [a8] at f
    rw [a9] at g
    rw [a10]
    exact k.2.2 c i a (e c b) d e1 f g
theorem sp_mark {S : MS} {L F M : Int} (h : OpR S L F M) : w_mark S (fun u => frm [86, 87] [] S u ∧ ∀ c : Nat, (qI u 86 c).toInt = 0 → (qI S 86 c).toInt = 0) := by
  have b := h.1
  have hN : 0 ≤ gN S ∧ gN S ≤ 1200 := by omega
  have cc := h.2.2.2.1
  have co := h.2.2.2.2
  have up : ∀ U : MS, frm [86, 87] [] S U → smO S U := fun U fU => smO.fm fU (by decide) (by decide) (by decide)
  have w87 : ∀ (U D : MS) (j : Nat) (v : Int32), (frm [86, 87] [] S U ∧ ∀ c : Nat, (qI U 86 c).toInt = 0 → (qI S 86 c).toInt = 0) → D = wI U 87 j v → (frm [86, 87] [] S D ∧ ∀ c : Nat, (qI D 86 c).toInt = 0 → (qI S 86 c).toInt = 0) := fun U D j v hU eD => ⟨hU.1.tr (by rw [eD]; exact frm.pI (by decide)), by rw [eD, rdH (by decide)]; exact hU.2⟩
  have L128 : ∀ (c : Nat) (U : MS) (x : Int32), (frm [86, 87] [] S U ∧ ∀ c : Nat, (qI U 86 c).toInt = 0 → (qI S 86 c).toInt = 0) → 0 ≤ x.toInt → (16 - x.toInt).toNat < c → w_mark_L128 (fun u => frm [86, 87] [] S u ∧ ∀ c : Nat, (qI u 86 c).toInt = 0 → (qI S 86 c).toInt = 0) c U x := by
    intro c
    induction c with
    | zero => intro U x _ _ h9; exact absurd h9 (Nat.not_lt_zero _)
    | succ c ih =>
      intro U x hU x0 hc
      have s := up U hU.1
      unfold w_mark_L128 w_mark_J196
      rw [s.2.1]
      refine ⟨fun _ => hU, fun c1 => ?_⟩
      have ek : (x + Int32.ofInt 1).toInt = x.toInt + 1 := by rw [t_add (by rw [lo_1]; omega), lo_1]
      have rg : 0 ≤ x.toInt ∧ x.toInt < 16 := by omega
      have cx := co x.toInt.toNat (by omega)
      have hr : ∀ (V : MS) (t : Int32), (frm [86, 87] [] S V) → (0 ≤ t.toInt ∧ t.toInt ≤ gN S) → w_here V t (fun r u => u = V ∧ 0 ≤ r.toInt ∧ HrP V t.toInt.toNat r.toInt.toNat) := fun V t fV ht => by
        have sv := up V fV
        exact fn_here (by rw [sv.gn]; exact hN) (by rw [sv.gn]; exact ht)
      refine ⟨rg, fun _ => ⟨rg, _, hr U _ hU.1 (by rw [s.2.2.2.2.2.2.2.1]; omega), ?_⟩, fun _ a ea => by subst ea; exact ih U _ hU (by omega) (by omega)⟩
      rintro r u ⟨eu, r0, r1⟩
      subst eu
      have q1 := r1.2.1
      rw [s.gn] at q1
      refine ⟨⟨r0, by omega⟩, fun D eD => ?_⟩
      have hD := w87 _ D _ _ hU eD
      have sD := up D hD.1
      refine ⟨rg, _, hr D _ hD.1 (by rw [sD.2.2.2.2.2.2.2.2.1]; omega), ?_⟩
      rintro r2 u2 ⟨eu2, r20, r21⟩
      subst eu2
      have q2 := r21.2.1
      rw [sD.gn] at q2
      refine ⟨⟨r20, by omega⟩, fun E eE => ?_⟩
      have hE := w87 _ E _ _ hD eE
      have sE := up E hE.1
      refine ⟨rg, _, hr E _ hE.1 (by rw [sE.2.2.2.2.2.2.2.2.2.1]; omega), ?_⟩
      rintro r3 u3 ⟨eu3, r30, r31⟩
      subst eu3
      have q3 := r31.2.1
      rw [sE.gn] at q3
      refine ⟨⟨r30, by omega⟩, fun G eG a ea => ?_⟩
      subst ea
      exact ih G _ (w87 _ G _ _ hE eG) (by omega) (by omega)
  have L93 : ∀ (k71 : MS → Int32 → Prop) (x : Int32), (0 ≤ x.toInt ∧ x.toInt < gN S) → (∀ U : MS, (frm [86, 87] [] S U ∧ ∀ c : Nat, (qI U 86 c).toInt = 0 → (qI S 86 c).toInt = 0) → k71 U (x + Int32.ofInt 1)) → ∀ (c : Nat) (U : MS) (k : Int32), (frm [86, 87] [] S U ∧ ∀ c : Nat, (qI U 86 c).toInt = 0 → (qI S 86 c).toInt = 0) → 0 ≤ k.toInt → (202 - k.toInt).toNat < c → w_mark_L93 (fun u => frm [86, 87] [] S u ∧ ∀ c : Nat, (qI u 86 c).toInt = 0 → (qI S 86 c).toInt = 0) k71 c U x k := by
    intro k71 x hx hk c
    induction c with
    | zero => intro U k _ _ h9; exact absurd h9 (Nat.not_lt_zero _)
    | succ c ih =>
      intro U k hU k0 hc
      have s := up U hU.1
      have rU := s.r h
      obtain ⟨w1, w2, w3, w4⟩ := rU.wy (x := x) (by rw [s.gn]; exact hx)
      unfold w_mark_L93 w_mark_J120
      rw [w2]
      refine ⟨w1, fun _ a ea => by subst ea; exact hk U hU, fun c1 => ⟨_, fn_wayOf rU (by rw [s.gn]; exact hx) ⟨k0, by omega⟩, ?_⟩⟩
      rintro r u ⟨eu, r0, r1⟩
      subst eu
      have q1 := r1.2.1
      rw [s.gn] at q1
      have ek : (k + Int32.ofInt 1).toInt = k.toInt + 1 := by rw [t_add (by rw [lo_1]; omega), lo_1]
      refine ⟨⟨r0, by omega⟩, fun D eD a ea => ?_⟩
      subst ea
      exact ih D _ (w87 _ D _ _ hU eD) (by omega) (by omega)
  have L71 : ∀ (c : Nat) (U : MS) (x : Int32), (frm [86, 87] [] S U ∧ ∀ c : Nat, (qI U 86 c).toInt = 0 → (qI S 86 c).toInt = 0) → 0 ≤ x.toInt → (1200 - x.toInt).toNat < c → w_mark_L71 (fun u => frm [86, 87] [] S u ∧ ∀ c : Nat, (qI u 86 c).toInt = 0 → (qI S 86 c).toInt = 0) c U x := by
    intro c
    induction c with
    | zero => intro U x _ _ h9; exact absurd h9 (Nat.not_lt_zero _)
    | succ c ih =>
      intro U x hU x0 hc
      have s := up U hU.1
      have eg : (qI U 0 129).toInt = gN S := s.gn
      unfold w_mark_L71 w_mark_J120
      rw [eg]
      refine ⟨fun _ => ⟨_, L128 _ U 0 hU (by decide) (Nat.lt_succ_self _)⟩, fun c1 => ?_⟩
      have ek : (x + Int32.ofInt 1).toInt = x.toInt + 1 := by rw [t_add (by rw [lo_1]; omega), lo_1]
      refine ⟨⟨x0, by omega⟩, fun _ => ⟨_, L93 _ x ⟨x0, by omega⟩ (fun V hV => ih V _ hV (by omega) (by omega)) _ U 0 hU (by decide) (Nat.lt_succ_self _)⟩, fun _ a ea => by subst ea; exact ih U _ hU (by omega) (by omega)⟩
  have L48 : ∀ (c : Nat) (U : MS) (x : Int32), (frm [86, 87] [] S U ∧ ∀ c : Nat, (qI U 86 c).toInt = 0 → (qI S 86 c).toInt = 0) → 0 ≤ x.toInt → (1201 - x.toInt).toNat < c → w_mark_L48 (fun u => frm [86, 87] [] S u ∧ ∀ c : Nat, (qI u 86 c).toInt = 0 → (qI S 86 c).toInt = 0) c U x := by
    intro c
    induction c with
    | zero => intro U x _ _ h9; exact absurd h9 (Nat.not_lt_zero _)
    | succ c ih =>
      intro U x hU x0 hc
      have s := up U hU.1
      have eg : (qI U 0 129).toInt = gN S := s.gn
      unfold w_mark_L48
      rw [eg]
      refine ⟨fun _ => ⟨_, L71 _ U 0 hU (by decide) (Nat.lt_succ_self _)⟩, fun c1 => ⟨⟨x0, by omega⟩, fun D eD a ea => ?_⟩⟩
      have ek : (x + Int32.ofInt 1).toInt = x.toInt + 1 := by rw [t_add (by rw [lo_1]; omega), lo_1]
      subst ea
      exact ih D _ (w87 _ D _ _ hU eD) (by omega) (by omega)
  have L2 : ∀ (c : Nat) (U : MS) (x : Int32), (frm [86, 87] [] S U ∧ ∀ c : Nat, (qI U 86 c).toInt = 0 → (qI S 86 c).toInt = 0) → 0 ≤ x.toInt → (16 - x.toInt).toNat < c → w_mark_L2 (fun u => frm [86, 87] [] S u ∧ ∀ c : Nat, (qI u 86 c).toInt = 0 → (qI S 86 c).toInt = 0) c U x := by
    intro c
    induction c with
    | zero => intro U x _ _ h9; exact absurd h9 (Nat.not_lt_zero _)
    | succ c ih =>
      intro U x hU x0 hc
      have s := up U hU.1
      unfold w_mark_L2 w_mark_J40
      rw [s.2.1]
      refine ⟨fun _ => ⟨_, L48 _ U 0 hU (by decide) (Nat.lt_succ_self _)⟩, fun c1 => ?_⟩
      have ek : (x + Int32.ofInt 1).toInt = x.toInt + 1 := by rw [t_add (by rw [lo_1]; omega), lo_1]
      have rg : 0 ≤ x.toInt ∧ x.toInt < 16 := by omega
      have cx := co x.toInt.toNat (by omega)
      refine ⟨rg, _, fn_here (by rw [s.gn]; exact hN) (by rw [s.gn, s.2.2.2.2.2.2.2.1]; omega), ?_⟩
      rintro r u ⟨eu, r0, r1⟩
      subst eu
      refine ⟨rg, _, fn_here (by rw [s.gn]; exact hN) (by rw [s.gn, s.2.2.2.2.2.2.2.2.1]; omega), ?_⟩
      rintro r2 u2 ⟨eu2, r20, r21⟩
      subst eu2
      refine ⟨fun _ a ea => by subst ea; exact ih _ _ hU (by omega) (by omega), fun _ => ⟨rg, fun D eD a ea => ?_⟩⟩
      subst ea
      refine ih D _ ⟨hU.1.tr (by rw [eD]; exact frm.pI (by decide)), fun c' hc' => ?_⟩ (by omega) (by omega)
      rw [eD, qI_wI] at hc'
      by_cases q : (86 : Nat) = 86 ∧ c' = x.toInt.toNat
      · rw [if_pos q] at hc'; exact absurd hc' vb1
      · rw [if_neg q] at hc'; exact hU.2 c' hc'
  unfold w_mark
  exact ⟨_, L2 _ S 0 ⟨frm.rf, fun _ q => q⟩ (by decide) (Nat.lt_succ_self _)⟩
/-! sweep (behind sp_mark, fn_wayOf, zc_set) -/
theorem hr_ex {S : MS} : ∀ (d i : Nat), (i : Int) + d = gN S → ∃ r : Nat, HrP S i r := by
  intro d
  induction d with
  | zero => intro i h; exact ⟨i, Nat.le_refl _, by omega, fun q => by omega, fun j a b => by omega⟩
  | succ d ih =>
    intro i h
    by_cases c : (qI S 81 i).toInt = 0
    · exact ⟨i, Nat.le_refl _, by omega, fun _ => c, fun j a b => by omega⟩
    · obtain ⟨r, r1, r2, r3, r4⟩ := ih (i + 1) (by omega)
      refine ⟨r, by omega, r2, r3, fun j a b => ?_⟩
      by_cases e : j = i
      · rw [e]; exact c
      · exact r4 j (by omega) b
theorem max_ex {P : Nat → Prop} : ∀ (n w : Nat), w < n → P w → ∃ l : Nat, l < n ∧ P l ∧ ∀ j : Nat, l < j → j < n → ¬ P j := by
  intro n
  induction n with
  | zero => intro w h; exact absurd h (Nat.not_lt_zero _)
  | succ n ih =>
    intro w hw pw
    by_cases c : P n
    · exact ⟨n, by omega, c, fun j a b => by omega⟩
    · obtain ⟨l, l1, l2, l3⟩ := ih w (by by_cases e : w = n; (subst e; exact absurd pw c); omega) pw
      refine ⟨l, by omega, l2, fun j a b => ?_⟩
      by_cases e : j = n
      · rw [e]; exact c
      · exact l3 j a (by omega)
def mtN (S : MS) : Nat := zc (qI S 88) (gN S).toNat
def isM (S : MS) (j : Nat) : Prop := ¬ (qI S 88 j).toInt = 0
/-- only more is met -/
def MtR (S u : MS) (r : Int32) : Prop := frm [88] [] S u ∧ mtN u ≤ mtN S ∧ (¬ r.toInt = 0 → mtN u < mtN S) ∧ (r.toInt = 0 → qI u 88 = qI S 88) ∧ ∀ j : Nat, isM S j → isM u j
theorem MtR.rf {S : MS} : MtR S S 0 := ⟨frm.rf, Nat.le_refl _, fun q => absurd rfl q, fun _ => rfl, fun _ q => q⟩
theorem MtR.tr {S u v : MS} {a b c : Int32} (h : MtR S u a) (k : MtR u v b) (h1 : ¬ c.toInt = 0 → ¬ a.toInt = 0 ∨ ¬ b.toInt = 0) (h2 : c.toInt = 0 → a.toInt = 0 ∧ b.toInt = 0) : MtR S v c := by
  obtain ⟨a1, a2, a3, a4, a5⟩ := h
  obtain ⟨b1, b2, b3, b4, b5⟩ := k
  refine ⟨a1.tr b1, by omega, fun q => ?_, fun q => ?_, fun j q => b5 j (a5 j q)⟩
  · rcases h1 q with z | z
    · have := a3 z; omega
    · have := b3 z; omega
  · rw [b4 (h2 q).2, a4 (h2 q).1]
theorem smO.m {S u : MS} (h : frm [88] [] S u) : smO S u ∧ qI u 86 = qI S 86 := ⟨smO.fm h (by decide) (by decide) (by decide), (h.2.2.2.2.1 86 (by decide) (by decide)).1⟩
theorem sp_meet {S : MS} {x : Int32} (hx : 0 ≤ x.toInt ∧ x.toInt < gN S ∧ gN S ≤ 1200) : w_meet S x (fun r u => MtR S u r ∧ isM u x.toInt.toNat ∧ ((qI S 88 x.toInt.toNat).toInt = 0 → ¬ r.toInt = 0)) := by
  have rg : 0 ≤ x.toInt ∧ x.toInt < 1200 := by omega
  unfold w_meet
  refine ⟨rg, fun c => ⟨rg, fun D eD => ?_⟩, fun c => ⟨MtR.rf, c, fun q => absurd q c⟩⟩
  have z := zc_set (S := S) (h := 88) (i := x.toInt.toNat) (n := (gN S).toNat) (v := vp_nar .boolean (1 : Int32)) (by omega) vb1
  rw [← eD] at z
  have fD : frm [88] [] S D := by rw [eD]; exact frm.pI (by decide)
  have eg : gN D = gN S := (smO.m fD).1.gn
  have me : isM D x.toInt.toNat := by unfold isM; rw [eD, qI_wI, if_pos ⟨rfl, rfl⟩]; exact vb1
  refine ⟨⟨fD, by unfold mtN; rw [eg]; exact z.1, fun _ => by unfold mtN; rw [eg]; exact z.2 c, fun q => absurd q (by decide), fun j q => ?_⟩, me, fun _ => by decide⟩
  by_cases e : j = x.toInt.toNat
  · rw [e]; exact me
  · unfold isM at q ⊢
    rw [eD, qI_wI, if_neg (fun w => e w.2)]
    exact q
/-- what follows i is met -/
def ClM (S u : MS) (i : Nat) : Prop := ((f_goesOn S (qI S 78 i)).toInt ≠ 0 → ∀ b : Nat, HrP S (i + 1) b → (b : Int) < gN S → isM u b) ∧ (∀ k t : Nat, (k : Int) < wyN S i → HrP S (tgV S i k).toInt.toNat t → isM u t) ∧ ∀ c t : Nat, (c : Int) < (qI S 0 135).toInt → (qI S 86 c).toInt = 0 → (qI S 82 c).toInt ≤ i → (i : Int) < (qI S 83 c).toInt → HrP S (qI S 84 c).toInt.toNat t → isM u t
theorem isIn_1 {S : MS} {x c : Int32} (h : ¬ (f_isIn S x c).toInt = 0) : (qI S 86 c.toInt.toNat).toInt = 0 ∧ (qI S 82 c.toInt.toNat).toInt ≤ x.toInt ∧ x.toInt < (qI S 83 c.toInt.toNat).toInt := by
  unfold f_isIn f_isIn_J33 at h
  by_cases c1 : (qI S 86 c.toInt.toNat).toInt = 0
  · rw [if_pos c1] at h
    by_cases c2 : x.toInt < (qI S 82 c.toInt.toNat).toInt
    · rw [if_pos c2] at h; exact absurd rfl h
    · rw [if_neg c2] at h
      by_cases c3 : (qI S 83 c.toInt.toNat).toInt ≤ x.toInt
      · rw [if_pos c3] at h; exact absurd rfl h
      · exact ⟨c1, by omega, by omega⟩
  · rw [if_neg c1] at h; exact absurd rfl h
theorem isIn_0 {S : MS} {x c : Int32} (h : (f_isIn S x c).toInt = 0) : ¬ ((qI S 86 c.toInt.toNat).toInt = 0 ∧ (qI S 82 c.toInt.toNat).toInt ≤ x.toInt ∧ x.toInt < (qI S 83 c.toInt.toNat).toInt) := by
  rintro ⟨q1, q2, q3⟩
  unfold f_isIn f_isIn_J33 at h
  rw [if_pos q1, if_neg (by omega), if_neg (by omega)] at h
  exact absurd h (by decide)
theorem d_in {S : MS} {x c : Int32} (hc : 0 ≤ c.toInt ∧ c.toInt < 16) : d_isIn S x c := by
  unfold d_isIn d_isIn_J33
  refine ⟨hc, ?_⟩
  refine ite_T (fun _ => ⟨hc, ite_T (fun _ => trivial) (fun _ => ⟨hc, ?_⟩)⟩) (fun _ => trivial)
  simp only [ite_self]
theorem sp_meetFrom {S : MS} {L F M : Int} {l : Nat} {x : Int32} (h : OpR S L F M) (ha : OpA S l) (hx : 0 ≤ x.toInt ∧ x.toInt < gN S) (hg : (qI S 81 x.toInt.toNat).toInt = 0) : w_meetFrom S x (fun r u => MtR S u r ∧ ClM S u x.toInt.toNat) := by
  have b := h.1
  have hN : 0 ≤ gN S ∧ gN S ≤ 1200 := by omega
  have rg : 0 ≤ x.toInt ∧ x.toInt < 1200 := by omega
  have cc := h.2.2.2.1
  have l0 : (0 : Int32).toInt = 0 := rfl
  have ll := ha.1.1
  have L84 : ∀ (c : Nat) (U : MS) (m k : Int32), MtR S U m → ((f_goesOn S (qI S 78 x.toInt.toNat)).toInt ≠ 0 → ∀ b : Nat, HrP S (x.toInt.toNat + 1) b → (b : Int) < gN S → isM U b) → (∀ k t : Nat, (k : Int) < wyN S x.toInt.toNat → HrP S (tgV S x.toInt.toNat k).toInt.toNat t → isM U t) → (∀ c t : Nat, (c : Int) < k.toInt → (c : Int) < (qI S 0 135).toInt → (qI S 86 c).toInt = 0 → (qI S 82 c).toInt ≤ x.toInt.toNat → (x.toInt.toNat : Int) < (qI S 83 c).toInt → HrP S (qI S 84 c).toInt.toNat t → isM U t) → 0 ≤ k.toInt → (16 - k.toInt).toNat < c → w_meetFrom_L84 (fun r u => MtR S u r ∧ ClM S u x.toInt.toNat) c U x m k := by
    intro c
    induction c with
    | zero => intro U m k _ _ _ _ _ h9; exact absurd h9 (Nat.not_lt_zero _)
    | succ c ih =>
      intro U m k hU g1 g2 g3 k0 hc
      obtain ⟨s, e86⟩ := smO.m hU.1
      unfold w_meetFrom_L84 w_meetFrom_J122 w_meetFrom_J127 w_meetFrom_J128
      rw [s.2.1]
      refine ⟨fun c1 => ⟨hU, g1, g2, fun c' t a b1 d e f => g3 c' t (by omega) a b1 d e f⟩, fun c1 => ?_⟩
      have ek : (k + Int32.ofInt 1).toInt = k.toInt + 1 := by rw [t_add (by rw [lo_1]; omega), lo_1]
      have kr : 0 ≤ k.toInt ∧ k.toInt < 16 := by omega
      have a8 : qI U 82 = qI S 82 := s.2.2.2.2.2.2.2.1
      have a9 : qI U 83 = qI S 83 := s.2.2.2.2.2.2.2.2.1
      have a10 : qI U 84 = qI S 84 := s.2.2.2.2.2.2.2.2.2.1
      refine ⟨d_in kr, fun c2 a ea => ?_, fun c2 => ?_⟩
      · subst ea
        refine ih U m _ hU g1 g2 (fun c' t a b1 b2 d e f => ?_) (by omega) (by omega)
        by_cases q : c' = k.toInt.toNat
        · have z := isIn_0 c2
          rw [e86, a8, a9, ← q] at z
          exact absurd ⟨b2, by omega, by omega⟩ z
        · exact g3 c' t (by omega) b1 b2 d e f
      · have z := isIn_1 c2
        rw [e86, a8, a9] at z
        have by_l := ha.2.2 k.toInt.toNat x.toInt.toNat (by omega) z.1 (by omega) hg (by omega) (by omega)
        have byr := (h.2.2.2.2 k.toInt.toNat (by omega)).2.2.1
        refine ⟨kr, _, fn_here (by rw [s.gn]; exact hN) (by rw [s.gn, a10]; omega), ?_⟩
        rintro r V ⟨eV, r0, r1⟩
        rw [eV]
        rw [s.hr, a10] at r1
        have rl : r.toInt.toNat ≤ l := r1.le (by omega) ha.1.2.1
        refine ⟨_, sp_meet ⟨r0, by rw [s.gn]; omega, by rw [s.gn]; omega⟩, ?_⟩
        rintro q W ⟨hW, mW, -⟩
        have go : ∀ m' : Int32, (¬ m'.toInt = 0 → ¬ m.toInt = 0 ∨ ¬ q.toInt = 0) → (m'.toInt = 0 → m.toInt = 0 ∧ q.toInt = 0) → ∀ a14 : Int32, a14 = (k + Int32.ofInt 1) → w_meetFrom_L84 (fun r u => MtR S u r ∧ ClM S u x.toInt.toNat) c W x m' a14 := fun m' h1 h2 a ea => by
          subst ea
          refine ih W m' _ (hU.tr hW h1 h2) (fun g b1 b2 b3 => hW.2.2.2.2 _ (g1 g b1 b2 b3)) (fun k' t a b1 => hW.2.2.2.2 _ (g2 k' t a b1)) (fun c' t a b1 b2 d e f => ?_) (by omega) (by omega)
          by_cases w : c' = k.toInt.toNat
          · subst w
            rw [f.uq r1]
            exact mW
          · exact hW.2.2.2.2 _ (g3 c' t (by omega) b1 b2 d e f)
        exact ⟨fun w1 => ⟨fun w2 => go 0 (fun z => absurd rfl z) (fun _ => ⟨w2, w1⟩), fun w2 => go 1 (fun _ => Or.inl w2) (fun z => absurd z (by decide))⟩, fun w1 => go 1 (fun _ => Or.inr w1) (fun z => absurd z (by decide))⟩
  have L44 : ∀ (c : Nat) (U : MS) (m k : Int32), MtR S U m → ((f_goesOn S (qI S 78 x.toInt.toNat)).toInt ≠ 0 → ∀ b : Nat, HrP S (x.toInt.toNat + 1) b → (b : Int) < gN S → isM U b) → (∀ k' t : Nat, (k' : Int) < k.toInt → (k' : Int) < wyN S x.toInt.toNat → HrP S (tgV S x.toInt.toNat k').toInt.toNat t → isM U t) → 0 ≤ k.toInt → (202 - k.toInt).toNat < c → w_meetFrom_L44 (fun r u => MtR S u r ∧ ClM S u x.toInt.toNat) c U x m k := by
    intro c
    induction c with
    | zero => intro U m k _ _ _ _ h9; exact absurd h9 (Nat.not_lt_zero _)
    | succ c ih =>
      intro U m k hU g1 g2 k0 hc
      obtain ⟨s, e86⟩ := smO.m hU.1
      have rU := s.r h
      obtain ⟨w1, w2, w3, w4⟩ := rU.wy (x := x) (by rw [s.gn]; exact hx)
      have ew : wyN U x.toInt.toNat = wyN S x.toInt.toNat := (s.tw _ 0).1
      unfold w_meetFrom_L44 w_meetFrom_J70 w_meetFrom_J75
      rw [w2]
      refine ⟨w1, fun c1 => ⟨_, L84 _ U m 0 hU g1 (fun k' t a b1 => g2 k' t (by omega) a b1) (fun c' t a => by rw [l0] at a; omega) (by decide) (Nat.lt_succ_self _)⟩, fun c1 => ⟨_, fn_wayOf rU (by rw [s.gn]; exact hx) ⟨k0, by omega⟩, ?_⟩⟩
      have ek : (k + Int32.ofInt 1).toInt = k.toInt + 1 := by rw [t_add (by rw [lo_1]; omega), lo_1]
      rintro r V ⟨eV, r0, r1⟩
      rw [eV]
      rw [s.hr, (s.tw _ _).2] at r1
      have tl := ha.2.1 x.toInt.toNat k.toInt.toNat (by omega) hg (by omega)
      have t0 := (w4 k.toInt.toNat (by omega)).1
      rw [(s.tw _ _).2] at t0
      have rl : r.toInt.toNat ≤ l := r1.le (by omega) ha.1.2.1
      refine ⟨_, sp_meet ⟨r0, by rw [s.gn]; omega, by rw [s.gn]; omega⟩, ?_⟩
      rintro q W ⟨hW, mW, -⟩
      have go : ∀ m' : Int32, (¬ m'.toInt = 0 → ¬ m.toInt = 0 ∨ ¬ q.toInt = 0) → (m'.toInt = 0 → m.toInt = 0 ∧ q.toInt = 0) → ∀ a36 : Int32, a36 = (k + Int32.ofInt 1) → w_meetFrom_L44 (fun r u => MtR S u r ∧ ClM S u x.toInt.toNat) c W x m' a36 := fun m' h1 h2 a ea => by
        subst ea
        refine ih W m' _ (hU.tr hW h1 h2) (fun g b1 b2 b3 => hW.2.2.2.2 _ (g1 g b1 b2 b3)) (fun k' t a b1 b2 => ?_) (by omega) (by omega)
        by_cases w : k' = k.toInt.toNat
        · subst w
          rw [b2.uq r1]
          exact mW
        · exact hW.2.2.2.2 _ (g2 k' t (by omega) b1 b2)
      exact ⟨fun w1 => ⟨fun w2 => go 0 (fun z => absurd rfl z) (fun _ => ⟨w2, w1⟩), fun w2 => go 1 (fun _ => Or.inl w2) (fun z => absurd z (by decide))⟩, fun w1 => go 1 (fun _ => Or.inr w1) (fun z => absurd z (by decide))⟩
  have j41 : ∀ (U : MS) (m : Int32), MtR S U m → ((f_goesOn S (qI S 78 x.toInt.toNat)).toInt ≠ 0 → ∀ b : Nat, HrP S (x.toInt.toNat + 1) b → (b : Int) < gN S → isM U b) → w_meetFrom_J41 (fun r u => MtR S u r ∧ ClM S u x.toInt.toNat) U m x := fun U m hU g1 => by
    unfold w_meetFrom_J41
    exact ⟨_, L44 _ U m 0 hU g1 (fun k' t a => by rw [l0] at a; omega) (by decide) (Nat.lt_succ_self _)⟩
  have dg : d_goesOn S (qI S 78 x.toInt.toNat) := by
    unfold d_goesOn d_goesOn_J60
    simp only [ite_self]
  unfold w_meetFrom w_meetFrom_J40
  refine ⟨rg, dg, fun c => j41 S 0 MtR.rf (fun q => absurd c q), fun c => ⟨_, fn_behind hN hx, ?_⟩⟩
  rintro r V ⟨eV, r0, r1⟩
  rw [eV]
  refine ⟨fun c1 => j41 S 0 MtR.rf (fun _ b1 b2 b3 => ?_), fun c1 => ⟨_, fn_behind hN hx, ?_⟩⟩
  · have := r1.uq b2
    unfold gN at b3
    omega
  · rintro r2 V2 ⟨eV2, r20, r21⟩
    rw [eV2]
    have e := r1.uq r21
    refine ⟨_, sp_meet ⟨r20, by unfold gN at hN ⊢; omega, hN.2⟩, ?_⟩
    rintro q W ⟨hW, mW, -⟩
    have cl : (f_goesOn S (qI S 78 x.toInt.toNat)).toInt ≠ 0 → ∀ b : Nat, HrP S (x.toInt.toNat + 1) b → (b : Int) < gN S → isM W b := fun _ b1 b2 b3 => by rw [b2.uq r21]; exact mW
    exact ⟨fun w1 => j41 W 0 ⟨hW.1, hW.2.1, fun z => absurd rfl z, fun _ => hW.2.2.2.1 w1, hW.2.2.2.2⟩ cl, fun w1 => j41 W 1 ⟨hW.1, hW.2.1, fun _ => hW.2.2.1 w1, fun z => absurd z (by decide), hW.2.2.2.2⟩ cl⟩
/-! sweep, the rest (behind sp_meetFrom, max_ex, hr_ex) -/
theorem ClM.mv {S U V W : MS} {i : Nat} (h : ClM U V i) (s : smO S U) (e : qI U 86 = qI S 86) (k : ∀ j : Nat, isM V j → isM W j) : ClM S W i := by
  obtain ⟨h1, h2, h3⟩ := h
  obtain ⟨a1, a2, a3, a4, a5, a6, a7, a8, a9, a10, a11⟩ := id s
  refine ⟨fun g b hb hb2 => k _ (h1 ?_ b (s.hr.mpr hb) (by rw [s.gn]; exact hb2)), fun k' t hk ht => k _ (h2 k' t (by rw [(s.tw i k').1]; exact hk) (by rw [(s.tw i k').2]; exact s.hr.mpr ht)), fun c t c1 c2 c3 c4 c5 => k _ (h3 c t (by rw [a2]; exact c1) (by rw [e]; exact c2) (by rw [a8]; exact c3) (by rw [a9]; exact c4) (by rw [a10]; exact s.hr.mpr c5))⟩
  rw [a4]
  exact g
theorem sp_sweep {S : MS} {L F M : Int} {l : Nat} (h : OpR S L F M) (ha : OpA S l) : w_sweep S (fun r u => OpR u L F M ∧ ∃ l' : Nat, OpA u l') := by
  have b := h.1
  have hN : 0 ≤ gN S ∧ gN S ≤ 1200 := by omega
  have l0 : (0 : Int32).toInt = 0 := rfl
  obtain ⟨h0, hh0⟩ := hr_ex (S := S) (gN S).toNat 0 (by omega)
  have h0l : h0 ≤ l := hh0.le (Nat.zero_le _) ha.1.2.1
  have ll := ha.1.1
  have h0g : (qI S 81 h0).toInt = 0 := hh0.2.2.1 (by omega)
  -- what isn't met goes
  have L98 : ∀ (U0 : MS), frm [88] [] S U0 → isM U0 h0 → (∀ j : Nat, (j : Int) < gN S → (qI S 81 j).toInt = 0 → isM U0 j → ClM S U0 j) → ∀ (c : Nat) (U : MS) (m x : Int32), frm [77, 81] [] U0 U → (m = 0 ∨ m = 1) → (0 ≤ x.toInt ∧ x.toInt ≤ gN S) → (∀ j : Nat, (x.toInt ≤ j → qI U 81 j = qI S 81 j) ∧ ((j : Int) < x.toInt → ((qI U 81 j).toInt = 0 ↔ (qI S 81 j).toInt = 0 ∧ isM U0 j))) → (1200 - x.toInt).toNat < c → w_sweep_L98 (fun r u => OpR u L F M ∧ ∃ l' : Nat, OpA u l') c U m x := by
    intro U0 f0 m0 cl c
    induction c with
    | zero => intro U m x _ _ _ _ h9; exact absurd h9 (Nat.not_lt_zero _)
    | succ c ih =>
      intro U m x fU hm hx hg hc
      obtain ⟨s0, e86⟩ := smO.m f0
      obtain ⟨a1, a2, a3, a4, a5, a6, a7, a8, a9, a10, a11⟩ := id s0
      have u129 : qI U 0 129 = qI S 0 129 := by rw [(fU.2.2.2.2.2 129 (by decide)).1, a1]
      have eg : (qI U 0 129).toInt = gN S := by rw [u129]; rfl
      have z := fun (a : Nat) (h1 : a ≠ 0) (h2 : a ∉ [77, 81]) => (fU.2.2.2.2.1 a h1 h2).1
      have u88 : qI U 88 = qI U0 88 := z 88 (by decide) (by decide)
      unfold w_sweep_L98
      rw [eg]
      refine ⟨fun c1 => ?_, fun c1 => ?_⟩
      · have ex : x.toInt = gN S := by omega
        have gU : ∀ j : Nat, (j : Int) < gN S → ((qI U 81 j).toInt = 0 ↔ (qI S 81 j).toInt = 0 ∧ isM U0 j) := fun j hj => (hg j).2 (by omega)
        have rU : OpR U L F M := by
          unfold OpR gN
          rw [u129, (fU.2.2.2.2.2 135 (by decide)).1, z 75 (by decide) (by decide), z 78 (by decide) (by decide), z 79 (by decide) (by decide), z 80 (by decide) (by decide), z 82 (by decide) (by decide), z 83 (by decide) (by decide), z 84 (by decide) (by decide), z 85 (by decide) (by decide), a2, a3, a4, a5, a6, a8, a9, a10, a11]
          exact h
        have gnU : gN U = gN S := eg
        obtain ⟨l', l1, l2, l3⟩ := max_ex (P := fun j => (qI U 81 j).toInt = 0) (gN S).toNat h0 (by omega) ((gU h0 (by omega)).mpr ⟨h0g, m0⟩)
        have wy : ∀ i k : Nat, wyN U i = wyN S i ∧ tgV U i k = tgV S i k := fun i k => by
          unfold wyN tgV
          rw [z 75 (by decide) (by decide), z 78 (by decide) (by decide), z 79 (by decide) (by decide), z 80 (by decide) (by decide), a3, a4, a5, a6]
          exact ⟨rfl, rfl⟩
        -- what is met lies at or before the last
        have low : ∀ t r : Nat, HrP S t r → isM U0 r → (r : Int) < gN S → t ≤ l' := fun t r hr mr hrN => by
          have g0 : (qI U 81 r).toInt = 0 := (gU r hrN).mpr ⟨hr.2.2.1 hrN, mr⟩
          by_cases q : r ≤ l'
          · have := hr.1; omega
          · exact absurd g0 (l3 r (by omega) (by omega))
        have aU : OpA U l' := by
          refine ⟨⟨by rw [gnU]; omega, l2, fun j j1 j2 => l3 j j1 (by rw [gnU] at j2; omega)⟩, fun i k i1 i2 i3 => ?_, fun c i c1 c2 i1 i2 i3 i4 => ?_⟩
          · rw [gnU] at i1
            rw [(wy i k).1] at i3
            rw [(wy i k).2]
            obtain ⟨g1, g2⟩ := (gU i i1).mp i2
            have e : (Int32.ofNat i).toInt = i := oN (by omega)
            have en : (Int32.ofNat i).toInt.toNat = i := by omega
            have w := h.wy (x := Int32.ofNat i) (by omega)
            rw [en] at w
            have t := w.2.2.2 k i3
            have tl := ha.2.1 i k i1 g1 i3
            obtain ⟨r, hr⟩ := hr_ex (S := S) ((gN S).toNat - (tgV S i k).toInt.toNat) (tgV S i k).toInt.toNat (by omega)
            have rl : r ≤ l := hr.le (by omega) ha.1.2.1
            have := low _ r hr ((cl i i1 g1 g2).2.1 k r i3 hr) (by omega)
            omega
          · rw [gnU] at i1
            rw [(fU.2.2.2.2.2 135 (by decide)).1, a2] at c1
            rw [z 86 (by decide) (by decide), e86] at c2
            rw [z 82 (by decide) (by decide), a8] at i3
            rw [z 83 (by decide) (by decide), a9] at i4
            rw [z 84 (by decide) (by decide), a10]
            obtain ⟨g1, g2⟩ := (gU i i1).mp i2
            have bl := ha.2.2 c i c1 c2 i1 g1 i3 i4
            have br := (h.2.2.2.2 c c1).2.2.1
            obtain ⟨r, hr⟩ := hr_ex (S := S) ((gN S).toNat - (qI S 84 c).toInt.toNat) (qI S 84 c).toInt.toNat (by omega)
            have rl : r ≤ l := hr.le (by omega) ha.1.2.1
            have := low _ r hr ((cl i i1 g1 g2).2.2 c r c1 c2 i3 i4 hr) (by omega)
            omega
        refine ⟨_, sp_mark rU, fun V hV => ⟨hm, ?_⟩⟩
        have sV : smO U V := smO.fm hV.1 (by decide) (by decide) (by decide)
        exact ⟨sV.r rU, l', sV.a aU hV.2⟩
      · have rg : 0 ≤ x.toInt ∧ x.toInt < 1200 := by omega
        have ek : (x + Int32.ofInt 1).toInt = x.toInt + 1 := by rw [t_add (by rw [lo_1]; omega), lo_1]
        have ux := (hg x.toInt.toNat).1 (by omega)
        have nxt : ∀ m' : Int32, (m' = 0 ∨ m' = 1) → (((qI U 81 x.toInt.toNat).toInt = 0 ↔ (qI S 81 x.toInt.toNat).toInt = 0 ∧ isM U0 x.toInt.toNat)) → w_sweep_J146 (fun r u => OpR u L F M ∧ ∃ l' : Nat, OpA u l') (w_sweep_L98 (fun r u => OpR u L F M ∧ ∃ l' : Nat, OpA u l') c) U m' x := fun m' hm' q => by
          unfold w_sweep_J146
          intro a ea
          subst ea
          refine ih U m' _ fU hm' ⟨by omega, by omega⟩ (fun j => ⟨fun j1 => (hg j).1 (by omega), fun j1 => ?_⟩) (by omega)
          by_cases e : j = x.toInt.toNat
          · rw [e]; exact q
          · exact (hg j).2 (by omega)
        refine ⟨rg, fun c2 => ⟨rg, fun c3 => ⟨rg, fun D eD E eE => ?_⟩, fun c3 => nxt m hm ?_⟩, fun c2 => nxt m hm ?_⟩
        · unfold w_sweep_J146
          intro a ea
          subst ea
          have e81 : ∀ j : Nat, qI E 81 j = if j = x.toInt.toNat then vp_nar .boolean (1 : Int32) else qI U 81 j := fun j => by
            rw [eE, rdH (by decide), eD, qI_wI]
            by_cases q : j = x.toInt.toNat
            · rw [if_pos ⟨rfl, q⟩, if_pos q]
            · rw [if_neg (fun w => q w.2), if_neg q]
          refine ih E 1 _ (fU.tr ((show frm [77, 81] [] U D by rw [eD]; exact frm.pI (by decide)).tr (by rw [eE]; exact frm.pI (by decide)))) (Or.inr rfl) ⟨by omega, by omega⟩ (fun j => ⟨fun j1 => ?_, fun j1 => ?_⟩) (by omega)
          · rw [e81, if_neg (by omega)]
            exact (hg j).1 (by omega)
          · rw [e81]
            by_cases q : j = x.toInt.toNat
            · rw [if_pos q]
              refine ⟨fun w => absurd w vb1, fun w => ?_⟩
              rw [q] at w
              rw [u88] at c3
              exact absurd c3 w.2
            · rw [if_neg q]
              exact (hg j).2 (by omega)
        · rw [u88] at c3
          rw [ux] at c2 ⊢
          exact ⟨fun _ => ⟨c2, c3⟩, fun w => w.1⟩
        · rw [ux] at c2 ⊢
          exact ⟨fun w => absurd w c2, fun w => w.1⟩
  -- a round
  have L41 : ∀ (S0 : MS) (k33 : MS → Int32 → Prop), frm [88] [] S S0 → (∀ (U : MS) (m : Int32), MtR S0 U m → (m.toInt = 0 → ∀ j : Nat, (j : Int) < gN S → (qI S 81 j).toInt = 0 → isM S0 j → ClM S S0 j) → k33 U m) → ∀ (c : Nat) (U : MS) (m x : Int32), MtR S0 U m → (m.toInt = 0 → ∀ j : Nat, (j : Int) < x.toInt → (qI S 81 j).toInt = 0 → isM S0 j → ClM S S0 j) → 0 ≤ x.toInt → (1200 - x.toInt).toNat < c → w_sweep_L41 (fun r u => OpR u L F M ∧ ∃ l' : Nat, OpA u l') k33 c U m x := by
    intro S0 k33 f0 hk c
    induction c with
    | zero => intro U m x _ _ _ h9; exact absurd h9 (Nat.not_lt_zero _)
    | succ c ih =>
      intro U m x hU hz x0 hc
      have fU : frm [88] [] S U := f0.tr hU.1
      obtain ⟨s, e86⟩ := smO.m fU
      have eg : (qI U 0 129).toInt = gN S := s.gn
      have e81 : qI U 81 = qI S 81 := s.2.2.2.2.2.2.1
      unfold w_sweep_L41 w_sweep_J79 w_sweep_J84 w_sweep_J85
      rw [eg, e81]
      refine ⟨fun c1 => hk U m hU (fun q j hj => hz q j (by omega)), fun c1 => ?_⟩
      have rg : 0 ≤ x.toInt ∧ x.toInt < 1200 := by omega
      have ek : (x + Int32.ofInt 1).toInt = x.toInt + 1 := by rw [t_add (by rw [lo_1]; omega), lo_1]
      have stay : (m.toInt = 0 → (qI S 81 x.toInt.toNat).toInt = 0 → isM S0 x.toInt.toNat → ClM S S0 x.toInt.toNat) → ∀ a31 : Int32, a31 = (x + Int32.ofInt 1) → w_sweep_L41 (fun r u => OpR u L F M ∧ ∃ l' : Nat, OpA u l') k33 c U m a31 := fun q a ea => by
        subst ea
        refine ih U m _ hU (fun w j hj => ?_) (by omega) (by omega)
        by_cases e : j = x.toInt.toNat
        · rw [e]; exact q w
        · exact hz w j (by omega)
      refine ⟨rg, fun c2 => ⟨rg, fun c3 => stay (fun w _ y => ?_), fun c3 => ?_⟩, fun c2 => stay (fun _ y => absurd y c2)⟩
      · unfold isM at y
        rw [← hU.2.2.2.1 w] at y
        exact absurd c3 y
      · refine ⟨_, sp_meetFrom (s.r h) (s.a ha (fun c q => by rw [e86] at q; exact q)) ⟨x0, by rw [s.gn]; omega⟩ (by rw [e81]; exact c2), ?_⟩
        rintro r V ⟨hV, clV⟩
        have go : ∀ m' : Int32, (¬ m'.toInt = 0 → ¬ m.toInt = 0 ∨ ¬ r.toInt = 0) → (m'.toInt = 0 → m.toInt = 0 ∧ r.toInt = 0) → ∀ a31 : Int32, a31 = (x + Int32.ofInt 1) → w_sweep_L41 (fun r u => OpR u L F M ∧ ∃ l' : Nat, OpA u l') k33 c V m' a31 := fun m' h1 h2 a ea => by
          subst ea
          refine ih V m' _ (hU.tr hV h1 h2) (fun w j hj j1 j2 => ?_) (by omega) (by omega)
          obtain ⟨w1, w2⟩ := h2 w
          by_cases e : j = x.toInt.toNat
          · rw [e]
            refine clV.mv s e86 (fun j' q => ?_)
            unfold isM at q ⊢
            rw [hV.2.2.2.1 w2, hU.2.2.2.1 w1] at q
            exact q
          · exact hz w1 j (by omega) j1 j2
        exact ⟨fun w1 => ⟨fun w2 => go 0 (fun y => absurd rfl y) (fun _ => ⟨w2, w1⟩), fun w2 => go 1 (fun _ => Or.inl w2) (fun y => absurd y (by decide))⟩, fun w1 => go 1 (fun _ => Or.inr w1) (fun y => absurd y (by decide))⟩
  have L33 : ∀ (c : Nat) (U : MS) (m : Int32), frm [88] [] S U → isM U h0 → (m.toInt = 0 → ∀ j : Nat, (j : Int) < gN S → (qI S 81 j).toInt = 0 → isM U j → ClM S U j) → (m.toInt = 0 ∧ 1 ≤ c ∨ mtN U + 2 ≤ c) → w_sweep_L33 (fun r u => OpR u L F M ∧ ∃ l' : Nat, OpA u l') c U m := by
    intro c
    induction c with
    | zero => intro U m _ _ _ h9; exact absurd h9 (by omega)
    | succ c ih =>
      intro U m fU m0 cl hc
      unfold w_sweep_L33
      refine ⟨fun c1 => ⟨_, L98 U fU m0 (cl c1) _ U 0 0 frm.rf (Or.inl rfl) ⟨by decide, by rw [l0]; omega⟩ (fun j => ⟨fun _ => by rw [(smO.m fU).1.2.2.2.2.2.2.1], fun q => by rw [l0] at q; omega⟩) (Nat.lt_succ_self _)⟩, fun c1 => ?_⟩
      have hc2 : mtN U + 2 ≤ c + 1 := by omega
      refine ⟨_, L41 U _ fU (fun V m' hV z => ih V m' (fU.tr hV.1) (hV.2.2.2.2 _ m0) (fun q j j1 j2 j3 => ?_) ?_) _ U 0 0 MtR.rf (fun _ j hj => by rw [l0] at hj; omega) (by decide) (Nat.lt_succ_self _)⟩
      · have e := hV.2.2.2.1 q
        have j4 : isM U j := by unfold isM at j3 ⊢; rw [e] at j3; exact j3
        have k := z q j j1 j2 j4
        exact ⟨fun a b1 b2 b3 => hV.2.2.2.2 _ (k.1 a b1 b2 b3), fun a b1 b2 b3 => hV.2.2.2.2 _ (k.2.1 a b1 b2 b3), fun a b1 b2 b3 b4 b5 b6 => hV.2.2.2.2 _ (k.2.2 a b1 b2 b3 b4 b5 b6)⟩
      · by_cases z2 : m'.toInt = 0
        · exact Or.inl ⟨z2, by omega⟩
        · have := hV.2.2.1 z2
          exact Or.inr (by omega)
  have L2 : ∀ (c : Nat) (U : MS) (x : Int32), frm [88] [] S U → (∀ j : Nat, (j : Int) < x.toInt → (qI U 88 j).toInt = 0) → 0 ≤ x.toInt → (1200 - x.toInt).toNat < c → w_sweep_L2 (fun r u => OpR u L F M ∧ ∃ l' : Nat, OpA u l') c U x := by
    intro c
    induction c with
    | zero => intro U x _ _ _ h9; exact absurd h9 (Nat.not_lt_zero _)
    | succ c ih =>
      intro U x fU hz x0 hc
      obtain ⟨s, e86⟩ := smO.m fU
      have eg : (qI U 0 129).toInt = gN S := s.gn
      unfold w_sweep_L2
      rw [eg]
      refine ⟨fun c1 => ⟨_, fn_here (by rw [s.gn]; exact hN) ⟨by decide, by rw [s.gn, l0]; omega⟩, ?_⟩, fun c1 => ⟨⟨x0, by omega⟩, fun D eD a ea => ?_⟩⟩
      · rintro r V ⟨eV, r0, r1⟩
        rw [eV]
        rw [s.hr] at r1
        have er : r.toInt.toNat = h0 := r1.uq hh0
        refine ⟨_, sp_meet ⟨r0, by rw [s.gn]; omega, by rw [s.gn]; omega⟩, ?_⟩
        rintro q W ⟨hW, mW, nq⟩
        rw [er] at mW
        have q1 := nq (hz _ (by omega))
        exact ⟨_, L33 _ W q (fU.tr hW.1) mW (fun w => absurd w q1) (Or.inr (Nat.le_refl _))⟩
      · have ek : (x + Int32.ofInt 1).toInt = x.toInt + 1 := by rw [t_add (by rw [lo_1]; omega), lo_1]
        subst ea
        refine ih D _ (fU.tr (by rw [eD]; exact frm.pI (by decide))) (fun j hj => ?_) (by omega) (by omega)
        rw [eD, qI_wI]
        by_cases q : j = x.toInt.toNat
        · rw [if_pos ⟨rfl, q⟩]; decide
        · rw [if_neg (fun w => q w.2)]; exact hz j (by omega)
  unfold w_sweep
  exact ⟨_, L2 _ S 0 frm.rf (fun j hj => by rw [l0] at hj; omega) (by decide) (Nat.lt_succ_self _)⟩
