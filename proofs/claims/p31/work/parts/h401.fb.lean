/-! findBlocks -/
theorem sp_begin {B : Nat × Nat} {S : MS} {x1 : Int32} (w : wfC S) (h : GBs B S) (hl : (qI S (qO S 52 0) 2).toInt ≤ (qN S (qO S 52 3) : Int)) : wX3_begin S x1 (fun u => ((∀ k, qI u (qO u 52 3) k = qI S (qO S 52 3) k ∨ qI u (qO u 52 3) k = 1) ∧ (x1.toInt = 0 → qI u (qO u 52 3) 0 = 1)) ∧ cfr [203] [] S u) := by
  refine frX3_begin w ?_
  have hR := h.2.2.2
  unfold wX3_begin
  refine ⟨fun c => ⟨fun k => Or.inl rfl, fun z => by omega⟩, fun c => ⟨h.rp, fun d => ⟨fun k => Or.inl rfl, fun z => by omega⟩, fun d => ⟨by omega, fun S7 e7 _ _ => ?_⟩⟩⟩
  have o : qO S7 52 3 = qO S 52 3 := by rw [e7]; rfl
  have q : ∀ k, qI S7 (qO S7 52 3) k = if k = x1.toInt.toNat then 1 else qI S (qO S 52 3) k := fun k => by
    rw [o, e7, qI_wI]
    by_cases z : k = x1.toInt.toNat
    · rw [if_pos ⟨rfl, z⟩, if_pos z]
    · rw [if_neg (fun y => z y.2), if_neg z]
  refine ⟨fun k => ?_, fun z => ?_⟩
  · rw [q]
    split
    · exact Or.inr rfl
    · exact Or.inl rfl
  · rw [q, if_pos (by omega)]
def FbJ (B : Nat × Nat) (ρ : Int) (U : MS) : Prop := GBs B U ∧ (qI U (qO U 52 0) 2).toInt = ρ ∧ ρ ≤ (qN U (qO U 52 3) : Int) ∧ qI U (qO U 52 3) 0 = 1
theorem FbJ.nx {B : Nat × Nat} {ρ : Int} {U u : MS} {x : Int32} (h : FbJ B ρ U) (w : wfC U) (q : ((∀ k, qI u (qO u 52 3) k = qI U (qO U 52 3) k ∨ qI u (qO u 52 3) k = 1) ∧ (x.toInt = 0 → qI u (qO u 52 3) 0 = 1)) ∧ cfr [203] [] U u) (wu : wfC u) (s : shy U u) : FbJ B ρ u := by
  obtain ⟨h1, h2, h3, h4⟩ := h
  have H := h1.qc w q.2 s wu rfl rfl
  refine ⟨H.1, H.2.R.trans h2, by rw [H.2.L (by decide)]; exact h3, ?_⟩
  rcases q.1.1 0 with e | e
  · rw [e, h4]
  · exact e
theorem FbJ.bg {B : Nat × Nat} {ρ : Int} {U : MS} {x : Int32} (h : FbJ B ρ U) (w : wfC U) : wX3_begin U x (fun u => ((∀ k, qI u (qO u 52 3) k = qI U (qO U 52 3) k ∨ qI u (qO u 52 3) k = 1) ∧ (x.toInt = 0 → qI u (qO u 52 3) 0 = 1)) ∧ cfr [203] [] U u) := sp_begin w h.1 (by rw [h.2.1]; exact h.2.2.1)
theorem t_inc {a b : Int32} (e : a = b + Int32.ofInt 1) (h : b.toInt < 2147483647) : a.toInt = b.toInt + 1 := by
  have := rgI b
  rw [e, t_addk (by rw [lo_1k]; omega), lo_1k]
theorem fb_J131 {Q : MS → Prop} {k60 : MS → Int32 → Prop} {U : MS} {v1 : Int32} (hk : ∀ a : Int32, wfC U → a = v1 + Int32.ofInt 1 → k60 U a) : w_X3_findBlocks_J131 Q k60 U v1 := by
  unfold w_X3_findBlocks_J131
  exact fun w a e => hk a w e
theorem fb_J124 {B : Nat × Nat} {ρ : Int} {Q : MS → Prop} {k60 : MS → Int32 → Prop} {U : MS} {v1 : Int32} (h : FbJ B ρ U) (hk : ∀ (V : MS) (a : Int32), FbJ B ρ V → a = v1 + Int32.ofInt 1 → k60 V a) : w_X3_findBlocks_J124 Q k60 U v1 := by
  unfold w_X3_findBlocks_J124
  refine fun w => ⟨_, h.bg w, fun S74 q w74 s74 => fb_J131 (fun a _ e => hk _ a (h.nx w q w74 s74) e)⟩
theorem fb_L82 {B : Nat × Nat} {ρ : Int} {Q : MS → Prop} {k60 : MS → Int32 → Prop} {v1 v2 : Int32} (hk : ∀ (V : MS) (a : Int32), FbJ B ρ V → a = v1 + Int32.ofInt 1 → k60 V a) : ∀ (n : Nat) {U : MS} {v3 : Int32}, FbJ B ρ U → 2147483648 - v3.toInt < n → w_X3_findBlocks_L82 Q k60 n U v1 v2 v3 := by
  intro n
  induction n with
  | zero => intro U v3 h hm; have := rgI v3; omega
  | succ n ih =>
    intro U v3 h hm
    unfold w_X3_findBlocks_L82
    intro w
    have k0 := h.1.k0 w
    refine ⟨fun c => ⟨fun _ => fb_J124 h hk, fun _ => ⟨h.1.rp, dd_X8_opAt w h.1.1 k0, fun a _ => ⟨dd_X6_goesOn, fun b _ => ⟨fun _ => fb_J124 h hk, fun _ => fb_J131 (fun a _ e => hk _ a h e)⟩⟩⟩⟩, fun c => ⟨h.1.rp, dd_X8_targetAt w h.1.1 k0, fun a _ => ⟨_, h.bg w, fun S95 q w95 s95 b eb => ?_⟩⟩⟩
    have r2 := rgI v2
    have e := t_inc eb (by omega)
    exact ih (h.nx w q w95 s95) (by omega)
theorem fb_L60 {B : Nat × Nat} {ρ : Int} {Q : MS → Prop} (hρ : ρ ≤ 1200) (hk : ∀ (V : MS), FbJ B ρ V → ∃ n, w_X3_findBlocks_L139 Q n V 0) : ∀ (n : Nat) {U : MS} {v1 : Int32}, FbJ B ρ U → 2147483648 - v1.toInt < n → w_X3_findBlocks_L60 Q n U v1 := by
  intro n
  induction n with
  | zero => intro U v1 h hm; have := rgI v1; omega
  | succ n ih =>
    intro U v1 h hm
    unfold w_X3_findBlocks_L60
    intro w
    refine ⟨h.1.rp, fun _ => hk U h, fun c => ⟨h.1.rp, dd_X8_targetCount w h.1.1 (h.1.k0 w), fun a _ => ⟨(2147483649 : Nat), fb_L82 (fun V b hV eb => ?_) _ h (by rw [li_0k]; decide)⟩⟩⟩
    have := h.2.1
    have e := t_inc eb (by omega)
    exact ih hV (by omega)
theorem fb_L139 {B : Nat × Nat} {ρ : Int} {Q : MS → Prop} (hk : ∀ (V : MS), FbJ B ρ V → wfC V → ∀ S18, S18 = wI V 52 1 (0 : Int32) → qT V 52 = 43 → wfC S18 → ∃ n, w_X3_findBlocks_L202 Q n S18 0) : ∀ (n : Nat) {U : MS} {v1 : Int32}, FbJ B ρ U → 0 ≤ v1.toInt → 2147483648 - v1.toInt < n → w_X3_findBlocks_L139 Q n U v1 := by
  intro n
  induction n with
  | zero => intro U v1 h _ hm; have := rgI v1; omega
  | succ n ih =>
    intro U v1 h h0 hm
    unfold w_X3_findBlocks_L139
    intro w
    have R := h.1.1.row (h.1.k0 w)
    refine ⟨h.1.rp, fun _ S18 e18 k18 w18 => hk U h w S18 e18 k18 w18, fun c => ⟨h.1.rp, R.1.2.2.2.1, by have := R.2; omega, _, h.bg w, fun S43 q43 w43 s43 => ?_⟩⟩
    have h43 := h.nx w q43 w43 s43
    have G1 := (h.1.qc w q43.2 s43 w43 rfl rfl).2
    have R43 := h43.1.1.row (h43.1.k0 w43)
    have c9 : qI S43 (qO S43 52 0) 9 = qI U (qO U 52 0) 9 := by rw [G1.1]; exact q43.2.kI (h.1.k0 w) (by decide) (by decide)
    refine ⟨h43.1.rp, R43.1.2.2.2.2.1, by have := R43.2; rw [c9] at this; omega, _, h43.bg w43, fun S52 q52 w52 s52 => ?_⟩
    have h52 := h43.nx w43 q52 w52 s52
    have G2 := (h43.1.qc w43 q52.2 s52 w52 rfl rfl).2
    have R52 := h52.1.1.row (h52.1.k0 w52)
    have d9 : qI S52 (qO S52 52 0) 9 = qI S43 (qO S43 52 0) 9 := by rw [G2.1]; exact q52.2.kI (h43.1.k0 w43) (by decide) (by decide)
    refine ⟨h52.1.rp, R52.1.2.2.2.2.2.1, by have := R52.2; rw [d9, c9] at this; omega, _, h52.bg w52, fun S61 q61 w61 s61 a ea => ?_⟩
    have := R.2
    have e := t_inc ea (by omega)
    exact ih (h52.nx w52 q61 w61 s61) (by omega) (by omega)
/-- what findBlocks finds -/
def FbP (S : MS) : Prop := (1 ≤ (qI S 52 1).toInt ∧ (qI S 52 1).toInt ≤ (qI S (qO S 52 0) 2).toInt ∧ (qI S (qO S 52 0) 2).toInt ≤ (qN S (qO S 52 3) : Int)) ∧ (∀ b : Nat, (b : Int) < (qI S 52 1).toInt → 0 ≤ gi S 2 b ∧ gi S 2 b < (qI S (qO S 52 0) 2).toInt) ∧ (∀ b : Nat, (b : Int) + 1 < (qI S 52 1).toInt → gi S 2 b < gi S 2 (b + 1)) ∧ ∀ i : Nat, (i : Int) < (qI S (qO S 52 0) 2).toInt → 0 ≤ gi S 3 i ∧ gi S 3 i < (qI S 52 1).toInt
def FbIk (B : Nat × Nat) (ρ i : Int) (U : MS) : Prop := GBs B U ∧ ((qI U (qO U 52 0) 2).toInt = ρ ∧ ρ ≤ (qN U (qO U 52 3) : Int) ∧ i ≤ ρ) ∧ (0 ≤ (qI U 52 1).toInt ∧ (qI U 52 1).toInt ≤ i ∧ (1 ≤ i → 1 ≤ (qI U 52 1).toInt) ∧ (i = 0 → gi U 3 0 ≠ 0)) ∧ (∀ b : Nat, (b : Int) < (qI U 52 1).toInt → 0 ≤ gi U 2 b ∧ gi U 2 b < i) ∧ (∀ b : Nat, (b : Int) + 1 < (qI U 52 1).toInt → gi U 2 b < gi U 2 (b + 1)) ∧ ∀ k : Nat, (k : Int) < i → 0 ≤ gi U 3 k ∧ gi U 3 k < (qI U 52 1).toInt
theorem fb_J242 {B : Nat × Nat} {ρ i : Int} {Q : MS → Prop} {k202 : MS → Int32 → Prop} {U : MS} {v1 : Int32} (hi : v1.toInt = i ∧ 0 ≤ i ∧ i < ρ ∧ ρ ≤ 1200) (h1 : GBs B U) (h2 : (qI U (qO U 52 0) 2).toInt = ρ ∧ ρ ≤ (qN U (qO U 52 3) : Int)) (h3 : 1 ≤ (qI U 52 1).toInt ∧ (qI U 52 1).toInt ≤ i + 1) (h4 : ∀ b : Nat, (b : Int) < (qI U 52 1).toInt → 0 ≤ gi U 2 b ∧ gi U 2 b < i + 1) (h5 : ∀ b : Nat, (b : Int) + 1 < (qI U 52 1).toInt → gi U 2 b < gi U 2 (b + 1)) (h6 : ∀ k : Nat, (k : Int) < i → 0 ≤ gi U 3 k ∧ gi U 3 k < (qI U 52 1).toInt) (hk : ∀ (V : MS) (a : Int32), FbIk B ρ (i + 1) V → a.toInt = i + 1 → k202 V a) : w_X3_findBlocks_J242 Q k202 U v1 := by
  unfold w_X3_findBlocks_J242
  refine fun w => ⟨by omega, fun S28 e28 k28 w28 a ea => ?_⟩
  have f : cfr [203] [] U S28 := by rw [e28]; exact cfr.aI k28 rfl
  have H := h1.qw w f (by rw [e28]; rfl) (by rw [e28]; rfl) (by rw [e28]; rfl) rfl rfl
  have g2 := (gi_fr w f w.g2 (by decide) rfl rfl rfl (by decide)).1
  have g3 : ∀ k, gi S28 3 k = if k = v1.toInt.toNat then (qI U 52 1).toInt - 1 else gi U 3 k := fun k => by
    unfold gi
    rw [H.2.1, e28, qI_wI]
    by_cases z : k = v1.toInt.toNat
    · rw [if_pos ⟨rfl, z⟩, if_pos z, t_subk (by rw [li_1k]; omega), li_1k]
    · rw [if_neg (fun y => z y.2), if_neg z]
  refine hk S28 a ⟨H.1, ⟨H.2.R.trans h2.1, by rw [H.2.L (by decide)]; exact h2.2, by omega⟩, ?_, ?_, ?_, ?_⟩ (by rw [t_inc ea (by omega)]; omega)
  · rw [H.2.N]; exact ⟨by omega, by omega, by omega, fun z => by omega⟩
  · intro b hb
    rw [H.2.N] at hb
    rw [g2]; exact h4 b hb
  · intro b hb
    rw [H.2.N] at hb
    rw [g2, g2]; exact h5 b hb
  · intro k hk'
    rw [H.2.N, g3]
    split
    · omega
    · exact h6 k (by omega)
theorem fb_L202 {B : Nat × Nat} {ρ : Int} {Q : MS → Prop} (hρ : 1 ≤ ρ ∧ ρ ≤ 1200) (hQ : ∀ U : MS, wfC U → GBs B U → FbP U → Q U) : ∀ (n : Nat) {U : MS} {v1 : Int32}, FbIk B ρ v1.toInt U → 0 ≤ v1.toInt → 2147483648 - v1.toInt < n → w_X3_findBlocks_L202 Q n U v1 := by
  intro n
  induction n with
  | zero => intro U v1 h _ hm; have := rgI v1; omega
  | succ n ih =>
    intro U v1 h h0 hm
    obtain ⟨h1, h2, h3, h4, h5, h6⟩ := h
    unfold w_X3_findBlocks_L202
    intro w
    refine ⟨h1.rp, fun c => ?_, fun c => ⟨by omega, fun d => ?_, fun d => ?_⟩⟩
    · refine hQ U w h1 ⟨⟨by omega, by omega, by omega⟩, fun b hb => ?_, h5, fun k hk => ?_⟩
      · have := h4 b hb; omega
      · exact h6 k (by omega)
    · refine fb_J242 (i := v1.toInt) ⟨rfl, h0, by omega, by omega⟩ h1 ⟨h2.1, h2.2.1⟩ ?_ (fun b hb => by have := h4 b hb; omega) h5 h6 (fun V a hV ea => ih (by rw [ea]; exact hV) (by omega) (by omega))
      have hz : gi U 3 v1.toInt.toNat = 0 := d
      refine ⟨?_, by omega⟩
      by_cases z : v1.toInt = 0
      · rw [z] at hz
        exact absurd hz (h3.2.2.2 z)
      · exact h3.2.2.1 (by omega)
    · refine ⟨by have := h1.2.1.1.1; omega, fun S33 e33 k33 w33 S35 e35 k35 w35 => ?_⟩
      have f33 : cfr [202] [] U S33 := by rw [e33]; exact cfr.aI k33 rfl
      have H := h1.qw w f33 (by rw [e33]; rfl) (by rw [e33]; rfl) (by rw [e33]; rfl) rfl rfl
      have f35 : cfr [] [(43, 1)] S33 S35 := by rw [e35]; exact cfr.oI k35 rfl
      have G35 : ShC B S35 := ShC.ws w33 H.1.1 f35 (by rw [e35]; rfl) (by rw [e35]; rfl) (by rw [e35]; rfl) rfl rfl
      have H2 := H.1.fr w33 f35 G35 (H.1.2.1.fr w33 f35 rfl rfl) rfl rfl rfl rfl rfl
      have g2a : ∀ k, gi S33 2 k = if k = (qI U 52 1).toInt.toNat then v1.toInt else gi U 2 k := fun k => by
        unfold gi
        rw [H.2.1, e33, qI_wI]
        by_cases z : k = (qI U 52 1).toInt.toNat
        · rw [if_pos ⟨rfl, z⟩, if_pos z]
        · rw [if_neg (fun y => z y.2), if_neg z]
      have g2 : ∀ k, gi S35 2 k = gi S33 2 k := (gi_fr w33 f35 w33.g2 rfl rfl rfl rfl (by decide)).1
      have g3 : ∀ k, gi S35 3 k = gi U 3 k := fun k => by rw [(gi_fr w33 f35 w33.g3 rfl rfl rfl rfl (by decide)).1, (gi_fr w f33 w.g3 (by decide) rfl rfl rfl (by decide)).1]
      have N : (qI S35 52 1).toInt = (qI U 52 1).toInt + 1 := by rw [e35, qI_wI, if_pos ⟨rfl, rfl⟩, H.2.2.1, t_addk (by rw [li_1k]; omega), li_1k]
      have R35 : (qI S35 (qO S35 52 0) 2).toInt = ρ := by rw [H2.2.1, H2.2.2.1.1, H.2.R]; exact h2.1
      have L35 : (qN S35 (qO S35 52 3) : Int) = (qN U (qO U 52 3) : Int) := by rw [← H.2.L (by decide), e35]; rfl
      refine fb_J242 (i := v1.toInt) ⟨rfl, h0, by omega, by omega⟩ H2.1 ⟨R35, by rw [L35]; exact h2.2.1⟩ (by omega) (fun b hb => ?_) (fun b hb => ?_) (fun k hk => ?_) (fun V a hV ea => ih (by rw [ea]; exact hV) (by omega) (by omega))
      · rw [g2, g2a]
        split
        · omega
        · have := h4 b (by omega); omega
      · rw [g2, g2, g2a, g2a]
        by_cases z : b + 1 = (qI U 52 1).toInt.toNat
        · rw [if_neg (by omega), if_pos z]
          exact (h4 b (by omega)).2
        · rw [if_neg (by omega), if_neg z]
          exact h5 b (by omega)
      · rw [g3, N]
        have := h6 k hk
        omega
theorem fb_J45 {B : Nat × Nat} {Q : MS → Prop} {U : MS} (h : GBs B U) (hl : (qI U (qO U 52 0) 2).toInt ≤ (qN U (qO U 52 3) : Int)) (hQ : ∀ V : MS, wfC V → GBs B V → FbP V → Q V) : w_X3_findBlocks_J45 Q U := by
  unfold w_X3_findBlocks_J45
  refine fun w k => ⟨_, frJ7_fill_53178 k (by decide) (sfJ7_fill_53178 w k (by decide)), fun S7 q7 w7 s7 => ?_⟩
  have H := h.qc w q7.2 s7 w7 rfl rfl
  have hl7 : (qI S7 (qO S7 52 0) 2).toInt ≤ (qN S7 (qO S7 52 3) : Int) := by rw [H.2.R, H.2.L (by decide)]; exact hl
  refine ⟨_, sp_begin w7 H.1 hl7, fun S10 q10 w10 s10 => ?_⟩
  have H2 := H.1.qc w7 q10.2 s10 w10 rfl rfl
  have hR := H2.1.2.2.2
  have J : FbJ B (qI S10 (qO S10 52 0) 2).toInt S10 := ⟨H2.1, rfl, by rw [H2.2.R, H2.2.L (by decide)]; exact hl7, q10.1.2 li_0k⟩
  refine ⟨2147483649, fb_L60 hR.2 (fun V hV => ⟨2147483649, fb_L139 (fun V hV wV S18 e18 k18 w18 => ?_) _ hV (by decide) (by rw [li_0k]; decide)⟩) _ J (by rw [li_0k]; decide)⟩
  have f : cfr [] [(43, 1)] V S18 := by rw [e18]; exact cfr.oI k18 rfl
  have G18 : ShC B S18 := ShC.ws wV hV.1.1 f (by rw [e18]; rfl) (by rw [e18]; rfl) (by rw [e18]; rfl) rfl rfl
  have H3 := hV.1.fr wV f G18 (hV.1.2.1.fr wV f rfl rfl) rfl rfl rfl rfl rfl
  have g3 := (gi_fr wV f wV.g3 rfl rfl rfl rfl (by decide)).1
  have N : (qI S18 52 1).toInt = 0 := by rw [e18, qI_wI, if_pos ⟨rfl, rfl⟩]; rfl
  refine ⟨2147483649, fb_L202 hR hQ _ ⟨H3.1, ⟨?_, ?_, by rw [li_0k]; omega⟩, ⟨by omega, by rw [li_0k]; omega, fun z => by rw [li_0k] at z; omega, fun _ => ?_⟩, fun b hb => by omega, fun b hb => by omega, fun k hk => by rw [li_0k] at hk; omega⟩ (by decide) (by rw [li_0k]; decide)⟩
  · rw [H3.2.1, H3.2.2.1.1]; exact hV.2.1
  · have : qN S18 (qO S18 52 3) = qN V (qO V 52 3) := by rw [e18]; rfl
    rw [this]; exact hV.2.2.1
  · rw [g3]; unfold gi; rw [hV.2.2.2]; decide
theorem sp_findBlocks {B : Nat × Nat} {S : MS} (w : wfC S) (h : GBs B S) : wX3_findBlocks S (fun u => (GBs B u ∧ FbP u) ∧ cfr [202, 203] [(43, 1), (43, 2), (43, 3)] S u) := by
  refine frX3_findBlocks w ?_
  have hR := h.2.2.2
  have rm := h.1.rm
  have cp := h.1.cap
  unfold wX3_findBlocks
  refine ⟨h.rp, fun c => fb_J45 h c (fun V _ a b => ⟨a, b⟩), fun c => ⟨h.rp, ?_⟩⟩
  have m2 := mul2_of (x := qI S (qO S 52 0) 2) (by omega)
  obtain ⟨n, hn⟩ : ∃ n : Nat, n = ((2 : Int32) * (qI S (qO S 52 0) 2)).toInt.toNat := ⟨_, rfl⟩
  rw [← hn]
  have hn2 : 2 * qN S (qO S 52 3) + 2 ≤ n ∧ n ≤ 2400 := by omega
  have hroom : qn S + 2 ≤ KCC ∧ qu S + 2 * n ≤ KSC := by
    unfold RmK PSc PNc at rm
    unfold CpK at cp
    have z : hp2 S ≤ 20000 := by unfold hp2; split <;> omega
    omega
  refine ⟨⟨by omega, by omega, by omega⟩, fun S28 e28 w28 S30 e30 k30 w30 => ?_⟩
  obtain ⟨f1, n1, d1, q1, u1, r1, l1, t1, o1⟩ := nw_step (K := []) (F := [(43, 2), (43, 3)]) w h.1.dn e28 w28 e30 k30 rfl (by decide)
  have hT := KC_TX (n := qn S) (by omega)
  have hT1 := KC_TX (n := qn S30) (by omega)
  have k0 := h.k0 w
  have o0 : qO S30 52 0 = qO S 52 0 := qO_eq (f1.kO w.k52 rfl rfl)
  have r0 : qR S30 52 0 = some (qO S30 52 0) := f1.kP w.k52 h.rp rfl rfl
  have c0 : qI S30 (qO S30 52 0) 2 = qI S (qO S 52 0) 2 := by rw [o0]; exact f1.kI k0 rfl rfl
  refine ⟨r0, ?_⟩
  rw [c0, ← hn]
  refine ⟨⟨by omega, by omega, by omega⟩, fun S35 e35 w35 S37 e37 k37 w37 => ?_⟩
  obtain ⟨f2, n2, d2, q2, u2, r2, l2, t2, o2⟩ := nw_step (K := []) (F := [(43, 2), (43, 3)]) w30 d1 e35 w35 e37 k37 rfl (by decide)
  have FF := f1.tr f2
  have NK := n1.tr n2 f2.1
  have ne1 := w30.ne hT1 w30.k52 (by decide)
  have R3 : qR S37 52 3 = some (qn S) := by rw [o2 52 3 (fun _ => by decide) ne1, r1]
  have N3 : qN S37 (qn S) = n := by rw [(f2.1.1 _ (by rw [t1]; decide)).2, l1]
  have O3 := qO_of R3
  have O2 := qO_of r2
  have G : ShC B S37 := ShC.g_gb w h.1 FF NK rfl (by rw [O3, N3]; omega) (by rw [O3, N3]; omega) (by omega) (by rw [O3, N3]; omega)
  have LL : ∀ j, (52, j) ∈ ptrC → j ≠ 2 → j ≠ 3 → qN S37 (qO S37 52 j) = qN S (qO S 52 j) := fun j hp h2 h3 => by
    have p := w.ptr hp
    have kb := w.rf3 52 j _ p
    have hc : ([(43, 2), (43, 3)] : List (Nat × Nat)).contains (43, j) = false := by
      simp [h2, h3]
    rw [qO_eq (FF.kO w.k52 rfl hc), (FF.1.1 _ (by rw [kb.1]; exact kb.2.1)).2]
  have hL : GrL S37 := by
    have := h.2.1
    unfold GrL at this ⊢
    rw [LL 4 (by decide) (by decide) (by decide), LL 5 (by decide) (by decide) (by decide), LL 6 (by decide) (by decide) (by decide), LL 7 (by decide) (by decide) (by decide), LL 8 (by decide) (by decide) (by decide), LL 11 (by decide) (by decide) (by decide), LL 12 (by decide) (by decide) (by decide), LL 13 (by decide) (by decide) (by decide), LL 14 (by decide) (by decide) (by decide), LL 15 (by decide) (by decide) (by decide), O3, O2, N3, l2]
    exact ⟨⟨rfl, this.1.2⟩, this.2⟩
  have H := h.fr w FF G hL rfl rfl rfl rfl rfl
  refine fb_J45 H.1 ?_ (fun V _ a b => ⟨a, b⟩)
  rw [H.2.1, H.2.2.1.1, O3, N3]
  omega
/-! Graph makes room -/
theorem t_div64 {x : Int32} (h : 0 ≤ x.toInt ∧ x.toInt ≤ 1200) : ((x + (63 : Int32)) / (64 : Int32)).toInt = (x.toInt + 63) / 64 := by
  rw [Int32.toInt_div, t_addk (by rw [li_63k]; omega), li_63k, li_64, Int.tdiv_eq_ediv_of_nonneg (by omega)]
  apply Int.bmod_eq_of_le <;> omega
def WdP (S : MS) : Prop := (qI S 52 10).toInt = ((qI S 52 1).toInt + 63) / 64 ∧ (qI S 52 1).toInt * (qI S 52 10).toInt ≤ (qN S (qO S 52 9) : Int)
theorem mul_bd {a b : Int} (h1 : 0 ≤ a ∧ a ≤ 1200) (h2 : 0 ≤ b ∧ b ≤ 19) : 0 ≤ a * b ∧ a * b ≤ 22800 := by
  refine ⟨Int.mul_nonneg h1.1 h2.1, ?_⟩
  have := Int.mul_le_mul h1.2 h2.2 h2.1 (by decide)
  omega
theorem FbP.fr {K : List Nat} {F : List (Nat × Nat)} {S u : MS} (w : wfC S) (h : FbP S) (f : cfr K F S u) (s : rSm S u (qO S 52 0)) (h43 : K.contains 43 = false) (h2 : K.contains 202 = false) (h3 : K.contains 203 = false) (hA : okO F = true) (hF : okL [(43, 0), (43, 1), (43, 2), (43, 3)] F = true) : FbP u := by
  have o0 : qO u 52 0 = qO S 52 0 := qO_eq (f.kO w.k52 h43 (okL_n hF (by decide)))
  have N : qI u 52 1 = qI S 52 1 := f.kI w.k52 h43 (okL_n hF (by decide))
  have g2 := (gi_fr w f w.g2 h2 hA h43 (okL_n hF (by decide)) (by decide)).1
  have g3 := (gi_fr w f w.g3 h3 hA h43 (okL_n hF (by decide)) (by decide)).1
  have L3 := f.kL (j := 3) w w.k52 (w.ptr (by decide)) h43 (okL_n hF (by decide))
  unfold FbP
  rw [o0, s.1.1, N, L3]
  refine ⟨h.1, fun b hb => ?_, fun b hb => ?_, fun i hi => ?_⟩
  · rw [g2]; exact h.2.1 b hb
  · rw [g2, g2]; exact h.2.2.1 b hb
  · rw [g3]; exact h.2.2.2 i hi
/-- Graph as makeRoom leaves it -/
def GB2 (B : Nat × Nat) (S : MS) : Prop := GBs B S ∧ FbP S ∧ ((qI S 52 1).toInt ≤ (qN S (qO S 52 13) : Int) ∧ WdP S)
theorem mr_J79 {B : Nat × Nat} {U : MS} {Q : MS → Prop} (h : GBs B U) (hb : FbP U) (hd : (qI U 52 1).toInt ≤ (qN U (qO U 52 13) : Int)) (hQ : ∀ u : MS, GB2 B u → Q u) : w_X3_makeRoom_J79 Q U := by
  unfold w_X3_makeRoom_J79
  intro w S5 e5 k5 w5
  have hN := hb.1
  have hR := h.2.2.2
  have f : cfr [] [(43, 10)] U S5 := by rw [e5]; exact cfr.oI k5 rfl
  have G5 : ShC B S5 := ShC.ws w h.1 f (by rw [e5]; rfl) (by rw [e5]; rfl) (by rw [e5]; rfl) rfl rfl
  have H := h.fr w f G5 (h.2.1.fr w f rfl rfl) rfl rfl rfl rfl rfl
  have B5 := hb.fr w f H.2.2 rfl rfl rfl rfl rfl
  have N5 : qI S5 52 1 = qI U 52 1 := f.kI w.k52 rfl rfl
  have W5 : (qI S5 52 10).toInt = ((qI S5 52 1).toInt + 63) / 64 := by rw [N5, e5, qI_wI, if_pos ⟨rfl, rfl⟩]; exact t_div64 (by omega)
  have D5 : (qI S5 52 1).toInt ≤ (qN S5 (qO S5 52 13) : Int) := by
    rw [N5]
    have : qN S5 (qO S5 52 13) = qN U (qO U 52 13) := by rw [e5]; rfl
    rw [this]; exact hd
  have bd := mul_bd (a := (qI S5 52 1).toInt) (b := (qI S5 52 10).toInt) (by rw [N5]; omega) (by rw [W5, N5]; omega)
  have m1 : ((qI S5 52 1) * (qI S5 52 10)).toInt = (qI S5 52 1).toInt * (qI S5 52 10).toInt := t_mulk (by omega)
  refine ⟨fun c => hQ _ ⟨H.1, B5, D5, W5, by rw [← m1]; exact c⟩, fun c => ?_⟩
  have m2 := mul2_of (x := qI S5 52 1) (by rw [N5]; omega)
  have m3 : ((2 : Int32) * (qI S5 52 1) * (qI S5 52 10)).toInt = 2 * ((qI S5 52 1).toInt * (qI S5 52 10).toInt) := by rw [t_mulk (by rw [m2, Int.mul_assoc]; omega), m2, Int.mul_assoc]
  obtain ⟨n, hn⟩ : ∃ n : Nat, n = ((2 : Int32) * (qI S5 52 1) * (qI S5 52 10)).toInt.toNat := ⟨_, rfl⟩
  rw [← hn]
  rw [m1] at c
  obtain ⟨z, hz⟩ : ∃ z : Int, z = (qI S5 52 1).toInt * (qI S5 52 10).toInt := ⟨_, rfl⟩
  rw [← hz] at c m3 bd m1
  have hn2 : 2 * qN S5 (qO S5 52 9) + 2 ≤ n ∧ n ≤ 45600 := by omega
  have rm := G5.rm
  have cp := G5.cap
  have hroom : qn S5 + 1 ≤ KCC ∧ qu S5 + n ≤ KSC := by
    unfold RmK PSc PNc at rm
    unfold CpK at cp
    have z : hp2 S5 ≤ 20000 := by unfold hp2; split <;> omega
    omega
  refine ⟨⟨by omega, by omega, by omega⟩, fun S15 e15 w15 S17 e17 k17 w17 => ?_⟩
  obtain ⟨f1, n1, d1, q1, u1, r1, l1, t1, o1⟩ := nw_step (K := []) (F := [(43, 9)]) w5 G5.dn e15 w15 e17 k17 rfl (by decide)
  have O9 := qO_of r1
  have G17 : ShC B S17 := ShC.g_gm w5 G5 f1 n1 rfl (by rw [O9, l1]; omega) (by rw [O9, l1]; omega) (by omega) (by rw [O9, l1]; omega)
  have LL : ∀ j, (52, j) ∈ ptrC → j ≠ 9 → qN S17 (qO S17 52 j) = qN S5 (qO S5 52 j) := fun j hp h9 => by
    have p := w5.ptr hp
    have kb := w5.rf3 52 j _ p
    have hc : ([(43, 9)] : List (Nat × Nat)).contains (43, j) = false := by simp [h9]
    rw [qO_eq (f1.kO w5.k52 rfl hc), (f1.1.1 _ (by rw [kb.1]; exact kb.2.1)).2]
  have hL : GrL S17 := by
    have := H.1.2.1
    unfold GrL at this ⊢
    rw [LL 2 (by decide) (by decide), LL 3 (by decide) (by decide), LL 4 (by decide) (by decide), LL 5 (by decide) (by decide), LL 6 (by decide) (by decide), LL 7 (by decide) (by decide), LL 8 (by decide) (by decide), LL 11 (by decide) (by decide), LL 12 (by decide) (by decide), LL 13 (by decide) (by decide), LL 14 (by decide) (by decide), LL 15 (by decide) (by decide)]
    exact this
  have H2 := H.1.fr w5 f1 G17 hL rfl rfl rfl rfl rfl
  have N17 : qI S17 52 1 = qI S5 52 1 := f1.kI w5.k52 rfl rfl
  have W17 : qI S17 52 10 = qI S5 52 10 := f1.kI w5.k52 rfl rfl
  refine hQ _ ⟨H2.1, B5.fr w5 f1 H2.2.2 rfl rfl rfl rfl rfl, by rw [N17, LL 13 (by decide) (by decide)]; exact D5, by rw [W17, N17]; exact W5, ?_⟩
  rw [W17, N17, O9, l1, ← hz]
  omega
/-- rows of the graph are made, one behind another -/
def AlP (S : MS) (F : List (Nat × Nat)) (k c : Nat) (L : List (Nat × Nat)) (U : MS) : Prop := cfr [] F S U ∧ nkC S U ∧ dnC U ∧ (qn U = qn S + k ∧ qu U = qu S + c) ∧ ∀ x ∈ L, qN U (qO U 52 x.1) = x.2 ∧ qR U 52 x.1 = some (qO U 52 x.1)
theorem AlP.st {S U u v : MS} {F L : List (Nat × Nat)} {k c t n j : Nat} (w : wfC U) (h : AlP S F k c L U) (hT : qn U < TXB) (hu : u = wN U t n n) (wu : wfC u) (hv : v = wR u 52 j (some (qn U))) (k9 : qT u 52 = 43) (hF : F.contains (43, j) = true) (ht : t ≠ 0 ∧ t ≠ 47 ∧ t ≠ 49 ∧ t ≠ 44) (hj : ∀ x ∈ L, x.1 ≠ j) : AlP S F (k + 1) (c + n) ((j, n) :: L) v := by
  obtain ⟨h1, h2, h3, h4, h5⟩ := h
  obtain ⟨f1, n1, d1, q1, u1, r1, l1, t1, o1⟩ := nw_step (K := []) (F := F) w h3 hu wu hv k9 hF ht
  have ne := w.ne hT w.k52 (by decide)
  refine ⟨h1.tr f1, h2.tr n1 f1.1, d1, ⟨by omega, by omega⟩, fun x hx => ?_⟩
  rcases List.mem_cons.mp hx with e | e
  · subst e
    have o := qO_of r1
    exact ⟨by rw [o]; exact l1, by rw [o]; exact r1⟩
  · have a := h5 x e
    have b := o1 52 x.1 (fun _ => hj x e) ne
    have kb := w.rf3 52 x.1 _ a.2
    have o : qO v 52 x.1 = qO U 52 x.1 := qO_eq b
    exact ⟨by rw [o, (f1.1.1 _ (by rw [kb.1]; exact kb.2.1)).2]; exact a.1, by rw [o, b]; exact a.2⟩
theorem AlP.rm {S U : MS} {F L : List (Nat × Nat)} {k c m kk cc : Nat} (h : AlP S F k c L U) (hr : qn S + kk ≤ KCC ∧ qu S + cc ≤ KSC) (hk : k + 1 ≤ kk) (hc : c + m ≤ cc) : qn U + 1 ≤ KCC ∧ qu U + m ≤ KSC := by
  have := h.2.2.2.1
  omega
theorem AlP.rf {S : MS} {F : List (Nat × Nat)} (d : dnC S) : AlP S F 0 0 [] S := ⟨cfr.rf, nkC.eq d rfl rfl, d, ⟨rfl, rfl⟩, fun _ h => absurd h (by simp)⟩
theorem gr_al {B : Nat × Nat} {S U : MS} {n : Nat} (w : wfC S) (h : GBs B S) (hb : FbP S) (hn : 2 * qN S (qO S 52 13) + 2 ≤ n ∧ n ≤ 2400 ∧ (qI S 52 1).toInt ≤ n) (a : AlP S [(43, 4), (43, 6), (43, 8), (43, 11), (43, 12), (43, 13), (43, 14), (43, 15)] 8 (8 * n + 2) [(15, n), (14, n), (13, n), (12, n), (11, n), (8, n), (6, n + 1), (4, n + 1)] U) : GBs B U ∧ FbP U ∧ (qI U 52 1).toInt ≤ (qN U (qO U 52 13) : Int) := by
  obtain ⟨f, nk, d, ⟨q1, q2⟩, l⟩ := a
  have l15 : qN U (qO U 52 15) = n := (l (15, n) (by simp)).1
  have l14 : qN U (qO U 52 14) = n := (l (14, n) (by simp)).1
  have l13 : qN U (qO U 52 13) = n := (l (13, n) (by simp)).1
  have l12 : qN U (qO U 52 12) = n := (l (12, n) (by simp)).1
  have l11 : qN U (qO U 52 11) = n := (l (11, n) (by simp)).1
  have l8 : qN U (qO U 52 8) = n := (l (8, n) (by simp)).1
  have l6 : qN U (qO U 52 6) = n + 1 := (l (6, n + 1) (by simp)).1
  have l4 : qN U (qO U 52 4) = n + 1 := (l (4, n + 1) (by simp)).1
  have G : ShC B U := ShC.g_gd w h.1 f nk rfl (by rw [l13]; omega) (by rw [l13]; omega) (by omega) (by rw [l13]; omega)
  have LL : ∀ j, (52, j) ∈ ptrC → ([(43, 4), (43, 6), (43, 8), (43, 11), (43, 12), (43, 13), (43, 14), (43, 15)] : List (Nat × Nat)).contains (43, j) = false → qN U (qO U 52 j) = qN S (qO S 52 j) := fun j hp hc => by
    have p := w.ptr hp
    have kb := w.rf3 52 j _ p
    rw [qO_eq (f.kO w.k52 rfl hc), (f.1.1 _ (by rw [kb.1]; exact kb.2.1)).2]
  have hL : GrL U := by
    have := h.2.1
    unfold GrL at this ⊢
    rw [LL 2 (by decide) rfl, LL 3 (by decide) rfl, LL 5 (by decide) rfl, LL 7 (by decide) rfl, l4, l6, l8, l11, l12, l13, l14, l15]
    exact ⟨⟨this.1.1, rfl, rfl, rfl, rfl, rfl, rfl, Or.inr rfl⟩, this.2⟩
  have H := h.fr w f G hL rfl rfl rfl rfl rfl
  refine ⟨H.1, hb.fr w f H.2.2 rfl rfl rfl rfl rfl, ?_⟩
  rw [show qI U 52 1 = qI S 52 1 from f.kI w.k52 rfl rfl, l13]
  exact hn.2.2
theorem sp_graphRoom {B : Nat × Nat} {S : MS} (w : wfC S) (h : GBs B S) (hb : FbP S) : wX3_makeRoom S (fun u => GB2 B u ∧ cfr [] [(43, 4), (43, 6), (43, 8), (43, 9), (43, 10), (43, 11), (43, 12), (43, 13), (43, 14), (43, 15)] S u) := by
  refine frX3_makeRoom w ?_
  unfold wX3_makeRoom
  refine ⟨fun c => mr_J79 h hb c (fun _ q => q), fun c a20 e20 => ?_⟩
  obtain ⟨n, p0, p1, hn1, hn, hn2, hroom⟩ : ∃ n : Nat, 0 ≤ a20.toInt ∧ 0 ≤ (a20 + (1 : Int32)).toInt ∧ (a20 + (1 : Int32)).toInt.toNat = n + 1 ∧ a20.toInt.toNat = n ∧ (2 * qN S (qO S 52 13) + 2 ≤ n ∧ n ≤ 2400 ∧ (qI S 52 1).toInt ≤ n) ∧ (qn S + 8 ≤ KCC ∧ qu S + (8 * n + 2) ≤ KSC) := by
    have hN := hb.1
    have hR := h.2.2.2
    have rm := h.1.rm
    have cp := h.1.cap
    have m2 : a20.toInt = 2 * (qI S 52 1).toInt := by rw [e20]; exact mul2_of (by omega)
    have m3 : (a20 + (1 : Int32)).toInt = a20.toInt + 1 := by rw [t_addk (by rw [li_1k]; omega), li_1k]
    have hn2 : 2 * qN S (qO S 52 13) + 2 ≤ a20.toInt.toNat ∧ a20.toInt.toNat ≤ 2400 := by omega
    refine ⟨a20.toInt.toNat, by omega, by omega, by omega, rfl, by omega, ?_⟩
    unfold RmK PSc PNc at rm
    unfold CpK at cp
    have z : hp2 S ≤ 20000 := by unfold hp2; split <;> omega
    omega
  clear e20 c
  rw [hn1, hn]
  have A0 := AlP.rf (S := S) (F := [(43, 4), (43, 6), (43, 8), (43, 11), (43, 12), (43, 13), (43, 14), (43, 15)]) h.1.dn
  refine ⟨⟨p1, A0.rm hroom (by decide) (by omega)⟩, fun S25 e25 w25 S27 e27 k27 w27 => ?_⟩
  have A1 := A0.st w (KC_TX (A0.rm (m := 0) hroom (by decide) (by omega)).1) e25 w25 e27 k27 rfl (by decide) (by simp)
  refine ⟨⟨p1, A1.rm hroom (by decide) (by omega)⟩, fun S32 e32 w32 S34 e34 k34 w34 => ?_⟩
  have A2 := A1.st w27 (KC_TX (A1.rm (m := 0) hroom (by decide) (by omega)).1) e32 w32 e34 k34 rfl (by decide) (by simp)
  refine ⟨⟨p0, A2.rm hroom (by decide) (by omega)⟩, fun S38 e38 w38 S40 e40 k40 w40 => ?_⟩
  have A3 := A2.st w34 (KC_TX (A2.rm (m := 0) hroom (by decide) (by omega)).1) e38 w38 e40 k40 rfl (by decide) (by simp)
  refine ⟨⟨p0, A3.rm hroom (by decide) (by omega)⟩, fun S44 e44 w44 S46 e46 k46 w46 => ?_⟩
  have A4 := A3.st w40 (KC_TX (A3.rm (m := 0) hroom (by decide) (by omega)).1) e44 w44 e46 k46 rfl (by decide) (by simp)
  refine ⟨⟨p0, A4.rm hroom (by decide) (by omega)⟩, fun S50 e50 w50 S52 e52 k52 w52 => ?_⟩
  have A5 := A4.st w46 (KC_TX (A4.rm (m := 0) hroom (by decide) (by omega)).1) e50 w50 e52 k52 rfl (by decide) (by simp)
  refine ⟨⟨p0, A5.rm hroom (by decide) (by omega)⟩, fun S56 e56 w56 S58 e58 k58 w58 => ?_⟩
  have A6 := A5.st w52 (KC_TX (A5.rm (m := 0) hroom (by decide) (by omega)).1) e56 w56 e58 k58 rfl (by decide) (by simp)
  refine ⟨⟨p0, A6.rm hroom (by decide) (by omega)⟩, fun S62 e62 w62 S64 e64 k64 w64 => ?_⟩
  have A7 := A6.st w58 (KC_TX (A6.rm (m := 0) hroom (by decide) (by omega)).1) e62 w62 e64 k64 rfl (by decide) (by simp)
  refine ⟨⟨p0, A7.rm hroom (by decide) (by omega)⟩, fun S68 e68 w68 S70 e70 k70 w70 => ?_⟩
  have A8 := A7.st w64 (KC_TX (A7.rm (m := 0) hroom (by decide) (by omega)).1) e68 w68 e70 k70 rfl (by decide) (by simp)
  have Z := gr_al w h hb hn2 (by rw [show 8 * n + 2 = 0 + (n + 1) + (n + 1) + n + n + n + n + n + n by omega]; exact A8)
  exact mr_J79 Z.1 Z.2.1 Z.2.2 (fun _ q => q)
/-! findEdges -/
theorem cpy_0 {f g : Nat → Int32} {x : Int32} {k : Nat} (h : (k : Int) < x.toInt) : va_cpy f g (0 : Int32).toNatClampNeg (0 : Int32).toNatClampNeg x.toNatClampNeg k = f k := by
  have z : (0 : Int32).toNatClampNeg = 0 := by decide
  have e : x.toNatClampNeg = x.toInt.toNat := rfl
  unfold va_cpy
  rw [z, e, if_pos (by omega)]
  congr 1
  omega
/-- a row of numbers is copied to a longer one: its numbers are there -/
theorem sp_copyOfV {S : MS} {kd p : Nat} {x : Int32} {Q : Nat → MS → Prop} (hL : qN S p < 2147483648) (hp : p ≠ qn S) (hx : (qN S p : Int) < x.toInt) (hr : qn S + 1 ≤ KCC ∧ qu S + x.toInt.toNat ≤ KSC) (hQ : ∀ (f : Nat → Int32) (u : MS), (∀ k : Nat, k < qN S p → f k = qI S p k) → u = wC (wN S kd x.toInt.toNat x.toInt.toNat) (qn S) f → wfC u → Q (qn S) u) : wJ7_copyOf_59c91 S kd p x Q := by
  have eL := toI_nat hL
  unfold wJ7_copyOf_59c91
  refine ⟨fun c => by rw [eL] at c; omega, fun c => ?_⟩
  refine ⟨⟨by omega, hr⟩, fun S5 e5 w5 => ?_⟩
  have e1 : qN S5 p = qN S p := by rw [e5]; exact if_neg hp
  have e2 : qN S5 (qn S) = x.toInt.toNat := by rw [e5]; exact if_pos rfl
  have cc : ¬ x < (Int32.ofNat (qN S p)) := fun q => by have := n_lt.mp q; rw [eL] at this; omega
  rw [e1, e2, if_neg cc]
  have z := li_0k
  refine ⟨acp_ok ⟨by omega, by omega, by omega, by omega, by omega⟩, fun S9 e9 k9 w9 => ?_⟩
  rw [e5] at e9
  refine hQ _ S9 (fun k hk => ?_) e9 w9
  rw [cpy_0 (by omega), wN_I hp]
section GE
variable {B : Nat × Nat} {K : List Nat} {F : List (Nat × Nat)} {S u v : MS}
def LG2 : List (Nat × Nat) := [(43, 0), (43, 1), (43, 2), (43, 3), (43, 9), (43, 10), (43, 13)]
def GmIk (S u : MS) : Prop := qI u 52 1 = qI S 52 1 ∧ qO u 52 0 = qO S 52 0 ∧ rSm S u (qO S 52 0) ∧ (qI u (qO S 52 0) 9 = qI S (qO S 52 0) 9)
theorem GmIk.tr (h : GmIk S u) (k : GmIk u v) : GmIk S v := by
  obtain ⟨h1, h2, h3, h4⟩ := h
  obtain ⟨k1, k2, k3, k4⟩ := k
  rw [h2] at k3 k4
  exact ⟨k1.trans h1, k2.trans h2, h3.tr k3, k4.trans h4⟩
theorem GmIk.rf : GmIk S S := ⟨rfl, rfl, rSm.rf, rfl⟩
theorem GmIk.R (h : GmIk S u) : (qI u (qO u 52 0) 2).toInt = (qI S (qO S 52 0) 2).toInt := by rw [h.2.1, h.2.2.1.1.1]
theorem GB2.fr (w : wfC S) (h : GB2 B S) (f : cfr K F S u) (hS : ShC B u) (hL : GrL u) (hK : okK K = true) (hM : okM K = true) (h2 : K.contains 202 = false) (h3 : K.contains 203 = false) (hF : okL LMr F = true) (hG : okL LG2 F = true) (h9 : F.contains (47, 9) = false) (hA : okO F = true) : GB2 B u ∧ GmIk S u := by
  have h43 : K.contains 43 = false := okK_n hK (by decide)
  obtain ⟨g, b, d, q⟩ := h
  have H := g.fr w f hS hL hM hF hA (okL_n hG (by decide)) h43
  have N : qI u 52 1 = qI S 52 1 := f.kI w.k52 h43 (okL_n hG (by decide))
  have W : qI u 52 10 = qI S 52 10 := f.kI w.k52 h43 (okL_n hG (by decide))
  have L13 := f.kL (j := 13) w w.k52 (w.ptr (by decide)) h43 (okL_n hG (by decide))
  have L9 := f.kL (j := 9) w w.k52 (w.ptr (by decide)) h43 (okL_n hG (by decide))
  refine ⟨⟨H.1, b.fr w f H.2.2 h43 h2 h3 hA (okL_mo hG (by decide)), by rw [N, L13]; exact d, ?_⟩, N, H.2.1, H.2.2, f.kI (g.k0 w) (okM_n hM (by decide)) h9⟩
  unfold WdP
  rw [N, W, L9]; exact q
/-- what addEdge leaves -/
def AeP (B : Nat × Nat) (S u : MS) (n m : Int) : Prop := GB2 B u ∧ GmIk S u ∧ (n ≤ m ∧ m ≤ n + 1 ∧ m ≤ (qN u (qO u 52 5) : Int)) ∧ (∀ k : Nat, (k : Int) < n → gi u 5 k = gi S 5 k) ∧ (∀ k : Nat, (k : Int) = n → n < m → 0 ≤ gi u 5 k ∧ gi u 5 k < (qI u 52 1).toInt) ∧ (∀ k, gi u 4 k = gi S 4 k) ∧ ∀ k, gi u 2 k = gi S 2 k
theorem ae_J59 {U : MS} {Q : Int32 → MS → Prop} {v1 v2 v3 : Int32} (h : GB2 B U) (hi : 0 ≤ v2.toInt ∧ v2.toInt < (qI U (qO U 52 0) 2).toInt) (hn : 0 ≤ v3.toInt ∧ v3.toInt < (qN U (qO U 52 5) : Int) ∧ v3.toInt ≤ 22800) (hQ : ∀ (r : Int32) (u : MS), wfC u → r.toInt = v3.toInt + 1 → AeP B U u v3.toInt r.toInt → Q r u) : w_X3_addEdge_J59 Q U v1 v2 v3 := by
  unfold w_X3_addEdge_J59
  intro w
  have L := h.1.2.1.1
  have hb := h.2.1
  have d := h.2.2.1
  have bo := hb.2.2.2 v2.toInt.toNat (by omega)
  unfold gi at bo
  refine ⟨by have := hb.1; omega, by omega, fun S19 e19 k19 w19 => ?_⟩
  have f1 : cfr [205, 211] [] U S19 := by rw [e19]; exact cfr.aI k19 rfl
  have H1 := h.1.qw w f1 (by rw [e19]; rfl) (by rw [e19]; rfl) (by rw [e19]; rfl) rfl rfl
  refine ⟨by have := hb.1; rw [H1.2.L (by decide)]; omega, by rw [H1.2.L (by decide)]; omega, fun S25 e25 k25 w25 => ?_⟩
  have f2 : cfr [205, 211] [] S19 S25 := by rw [e25]; exact cfr.aI k25 rfl
  have H2 := H1.1.qw w19 f2 (by rw [e25]; rfl) (by rw [e25]; rfl) (by rw [e25]; rfl) rfl rfl
  have f := f1.tr f2
  have G2 := h.fr w f H2.1.1 H2.1.2.1 rfl rfl rfl rfl rfl rfl rfl rfl
  have Q12 := H1.2.tr H2.2
  have g3 : ∀ k, gi S19 3 k = gi U 3 k := (gi_fr w f1 w.g3 (by decide) rfl rfl rfl (by decide)).1
  have g5a : ∀ k, gi S19 5 k = gi U 5 k := fun k => by
    unfold gi
    rw [H1.2.1, e19, qI_wI, if_neg (fun z => absurd (show (205 : Nat) = 211 by rw [← w.g5, ← w.g14, z.1]) (by decide))]
  have g5 : ∀ k, gi S25 5 k = if k = v3.toInt.toNat then gi U 3 v2.toInt.toNat else gi U 5 k := fun k => by
    rw [← g5a, ← g3]
    unfold gi
    rw [H2.2.1, e25, qI_wI]
    by_cases z : k = v3.toInt.toNat
    · rw [if_pos ⟨rfl, z⟩, if_pos z]
    · rw [if_neg (fun y => z y.2), if_neg z]
  have e1 : (v3 + (1 : Int32)).toInt = v3.toInt + 1 := by rw [t_addk (by rw [li_1k]; omega), li_1k]
  refine hQ _ S25 w25 e1 ⟨G2.1, G2.2, ⟨by omega, by omega, by rw [Q12.L (by decide)]; omega⟩, fun k hk => ?_, fun k hk _ => ?_, (gi_fr w f w.g4 (by decide) rfl rfl rfl (by decide)).1, (gi_fr w f w.g2 (by decide) rfl rfl rfl (by decide)).1⟩
  · rw [g5, if_neg (by omega)]
  · rw [g5, if_pos (by omega), G2.2.1]
    exact hb.2.2.2 v2.toInt.toNat (by omega)
theorem sp_addEdge {x1 x2 x3 : Int32} (w : wfC S) (h : GB2 B S) (hn : 0 ≤ x3.toInt ∧ x3.toInt ≤ (qN S (qO S 52 5) : Int) ∧ x3.toInt ≤ 22800) : wX3_addEdge S x1 x2 x3 (fun r u => AeP B S u x3.toInt r.toInt) := by
  have L := h.1.2.1.1
  have hb := h.2.1
  have d := h.2.2.1
  have E0 : AeP B S S x3.toInt x3.toInt := ⟨h, GmIk.rf, ⟨by omega, by omega, by omega⟩, fun _ _ => rfl, fun _ _ z => absurd z (by omega), fun _ => rfl, fun _ => rfl⟩
  unfold wX3_addEdge
  refine ⟨fun _ => E0, fun c1 => ⟨h.1.rp, fun _ => E0, fun c2 => ?_⟩⟩
  have bo := hb.2.2.2 x2.toInt.toNat (by omega)
  unfold gi at bo
  refine ⟨by have := hb.1; omega, by omega, fun _ => E0, fun c3 => ⟨fun c4 => ae_J59 h ⟨by omega, by omega⟩ ⟨by omega, c4, by omega⟩ (fun r u _ _ q => q), fun c4 k5 => ?_⟩⟩
  have e5 : qN S (qO S 52 5) = x3.toInt.toNat := by omega
  have db := e2_dbl _ h.1.2.1.2.1 (by omega)
  have le := e2_le _ h.1.2.1.2.1
  have eN : (Int32.ofNat (qN S (qO S 52 5))).toInt = qN S (qO S 52 5) := toI_nat (by omega)
  have m2 := mul2_of (x := Int32.ofNat (qN S (qO S 52 5))) (by omega)
  have rm := h.1.1.rm
  have cp := h.1.1.cap
  have hroom : qn S + 1 ≤ KCC ∧ qu S + 2 * qN S (qO S 52 5) ≤ KSC := by
    unfold RmK PSc PNc at rm
    unfold CpK at cp
    have z : hp2 S ≤ 20000 := by unfold hp2; split <;> omega
    omega
  have hT := KC_TX (n := qn S) (by omega)
  refine ⟨_, sp_copyOfV (Q := fun b u => b = qn S ∧ ∃ fc : Nat → Int32, (∀ k : Nat, k < qN S (qO S 52 5) → fc k = qI S (qO S 52 5) k) ∧ u = wC (wN S 205 ((2 : Int32) * (Int32.ofNat (qN S (qO S 52 5)))).toInt.toNat ((2 : Int32) * (Int32.ofNat (qN S (qO S 52 5)))).toInt.toNat) (qn S) fc) (by omega) (w.ne hT k5 (by decide)) (by omega) (by omega) (fun fc u hf hu _ => ⟨rfl, fc, hf, hu⟩), ?_⟩
  rintro b S34 ⟨rfl, fc, hf, e34⟩ w34 s34 k34 S38 e38 k38 w38
  obtain ⟨f1, n1, d1, q1, u1, r1, l1⟩ := cw_step (K := []) (F := [(43, 5)]) w h.1.1.dn hT e34 e38 k38 rfl (by decide)
  have O5 := qO_of r1
  have Ln : qN S38 (qO S38 52 5) = 2 * qN S (qO S 52 5) := by rw [O5, l1]; omega
  have G : ShC B S38 := ShC.g_ge w h.1.1 f1 n1 rfl Ln (by omega) (by omega) (by omega) (by rw [Ln]; omega)
  have LL : ∀ j, (52, j) ∈ ptrC → ([(43, 5)] : List (Nat × Nat)).contains (43, j) = false → qN S38 (qO S38 52 j) = qN S (qO S 52 j) := fun j hp hc => by
    have p := w.ptr hp
    have kb := w.rf3 52 j _ p
    rw [qO_eq (f1.kO w.k52 rfl hc), (f1.1.1 _ (by rw [kb.1]; exact kb.2.1)).2]
  have hL : GrL S38 := by
    have := h.1.2.1
    unfold GrL at this ⊢
    rw [LL 2 (by decide) rfl, LL 3 (by decide) rfl, LL 4 (by decide) rfl, LL 6 (by decide) rfl, LL 7 (by decide) rfl, LL 8 (by decide) rfl, LL 11 (by decide) rfl, LL 12 (by decide) rfl, LL 13 (by decide) rfl, LL 14 (by decide) rfl, LL 15 (by decide) rfl, Ln]
    exact ⟨this.1, db.2, this.2.2⟩
  have H := h.fr w f1 G hL rfl rfl rfl rfl rfl rfl rfl rfl
  have g5 : ∀ k : Nat, (k : Int) < x3.toInt → gi S38 5 k = gi S 5 k := fun k hk => by
    unfold gi
    rw [O5, e38]
    show (qI S34 (qn S) k).toInt = _
    rw [e34]
    have : qI (wC (wN S 205 ((2 : Int32) * (Int32.ofNat (qN S (qO S 52 5)))).toInt.toNat ((2 : Int32) * (Int32.ofNat (qN S (qO S 52 5)))).toInt.toNat) (qn S) fc) (qn S) k = fc k := by
      show (if qn S = qn S then fc else _) k = fc k
      rw [if_pos rfl]
    rw [this, hf k (by omega)]
  refine ae_J59 H.1 ⟨by omega, by rw [H.2.R]; omega⟩ ⟨by omega, by rw [Ln]; omega, by omega⟩ (fun r u _ _ q => ?_)
  obtain ⟨a1, a2, a3, a4, a5, a6, a7⟩ := q
  refine ⟨a1, H.2.tr a2, a3, fun k hk => by rw [a4 k hk, g5 k hk], a5, fun k => ?_, fun k => ?_⟩
  · rw [a6, (gi_fr w f1 w.g4 rfl rfl rfl rfl (by decide)).1]
  · rw [a7, (gi_fr w f1 w.g2 rfl rfl rfl rfl (by decide)).1]
end GE
/-! findEdges: its loops -/
section GF
variable {B : Nat × Nat} {S u v U U0 : MS} {n m b : Int}
def EmI (B : Nat × Nat) (U : MS) (n b : Int) : Prop := GB2 B U ∧ (0 ≤ n ∧ n ≤ (qN U (qO U 52 5) : Int)) ∧ (∀ k : Nat, (k : Int) < n → 0 ≤ gi U 5 k ∧ gi U 5 k < (qI U 52 1).toInt) ∧ (∀ c : Nat, (c : Int) ≤ b → 0 ≤ gi U 4 c ∧ gi U 4 c ≤ n) ∧ (∀ c : Nat, (c : Int) + 1 ≤ b → gi U 4 c ≤ gi U 4 (c + 1)) ∧ gi U 4 0 = 0 ∧ 0 ≤ b ∧ b < (qI U 52 1).toInt
def GsI (S u : MS) : Prop := GmIk S u ∧ ∀ k, gi u 2 k = gi S 2 k
theorem GsI.rf : GsI S S := ⟨GmIk.rf, fun _ => rfl⟩
theorem GsI.tr (h : GsI S u) (k : GsI u v) : GsI S v := ⟨h.1.tr k.1, fun i => (k.2 i).trans (h.2 i)⟩
theorem AeP.gs (h : AeP B S u n m) : GsI S u := ⟨h.2.1, h.2.2.2.2.2.2⟩
theorem EmI.ae (h : EmI B S n b) (a : AeP B S u n m) : EmI B u m b := by
  obtain ⟨h1, h2, h3, h4, h5, h6, h7⟩ := h
  obtain ⟨a1, a2, a3, a4, a5, a6, a7⟩ := a
  have N : (qI u 52 1).toInt = (qI S 52 1).toInt := by rw [a2.1]
  refine ⟨a1, ⟨by omega, by omega⟩, fun k hk => ?_, fun c hc => ?_, fun c hc => ?_, by rw [a6]; exact h6, by omega, by omega⟩
  · by_cases z : (k : Int) < n
    · rw [a4 k z, N]; exact h3 k z
    · exact a5 k (by omega) (by omega)
  · rw [a6]; have := h4 c hc; omega
  · rw [a6, a6]; exact h5 c hc
theorem ed_J145 {Q : MS → Prop} {k103 : MS → Int32 → Int32 → Int32 → Int32 → Prop} {v1 v2 v3 v5 : Int32} (hk : ∀ a : Int32, a = v5 + Int32.ofInt 1 → k103 U v1 v2 v3 a) : w_X3_findEdges_J145 Q k103 U v1 v2 v3 v5 := by
  unfold w_X3_findEdges_J145
  exact fun _ a e => hk a e
theorem ed_L103 {Q : MS → Prop} {k12 : MS → Int32 → Int32 → Prop} {n1 : Int} {v2 v3 : Int32} (h1 : n1 + 16 ≤ 22800) (hk : ∀ (V : MS) (m a : Int32), EmI B V m.toInt v2.toInt → GsI U0 V → m.toInt ≤ n1 + 16 → a = v2 + Int32.ofInt 1 → k12 V m a) : ∀ (n : Nat) {U : MS} {v1 v5 : Int32}, EmI B U v1.toInt v2.toInt → GsI U0 U → 0 ≤ v5.toInt → v5.toInt ≤ 16 → v1.toInt ≤ n1 + v5.toInt → 17 - v5.toInt < n → w_X3_findEdges_L103 Q k12 n U v1 v2 v3 v5 := by
  intro n
  induction n with
  | zero => intro U v1 v5 _ _ h0 h16 _ hm; omega
  | succ n ih =>
    intro U v1 v5 h g h0 h16 hb hm
    unfold w_X3_findEdges_L103
    intro w
    have k0 := h.1.1.k0 w
    have R := h.1.1.1.row k0
    have R2 := R.2
    refine ⟨h.1.1.rp, fun c a ea => hk U v1 a h g (by omega) ea, fun c => ⟨h.1.1.rp, dd_X8_catchHas w h.1.1.1 k0, fun a42 _ => ⟨fun _ => ed_J145 (fun a ea => ?_), fun _ => ⟨h.1.1.rp, R.1.2.2.2.2.2.1, by omega, _, sp_addEdge w h.1 ⟨h.2.1.1, h.2.1.2, by omega⟩, fun r52 S53 q w53 s53 => ed_J145 (fun a ea => ?_)⟩⟩⟩⟩
    · have e := t_inc ea (by omega)
      exact ih h g (by omega) (by omega) (by omega) (by omega)
    · have e := t_inc ea (by omega)
      have q3 := q.2.2.1
      exact ih (h.ae q) (g.tr q.gs) (by omega) (by omega) (by omega) (by omega)
theorem ed_L70 {Q : MS → Prop} {k12 : MS → Int32 → Int32 → Prop} {n2 : Int} {v2 v3 v4 : Int32} (h4 : 0 ≤ v4.toInt ∧ v4.toInt ≤ 300) (h1 : n2 + v4.toInt + 16 ≤ 22800) (hk : ∀ (V : MS) (m a : Int32), EmI B V m.toInt v2.toInt → GsI U0 V → m.toInt ≤ n2 + v4.toInt + 16 → a = v2 + Int32.ofInt 1 → k12 V m a) : ∀ (n : Nat) {U : MS} {v1 v5 : Int32}, EmI B U v1.toInt v2.toInt → GsI U0 U → 0 ≤ v5.toInt → v5.toInt ≤ v4.toInt → v1.toInt ≤ n2 + v5.toInt → 400 - v5.toInt < n → w_X3_findEdges_L70 Q k12 n U v1 v2 v3 v4 v5 := by
  intro n
  induction n with
  | zero => intro U v1 v5 _ _ h0 h16 _ hm; omega
  | succ n ih =>
    intro U v1 v5 h g h0 h16 hb hm
    unfold w_X3_findEdges_L70
    intro w
    have k0 := h.1.1.k0 w
    refine ⟨fun c => ⟨18, ed_L103 (n1 := n2 + v4.toInt) h1 hk _ h g (by decide) (by decide) (by rw [li_0k]; omega) (by rw [li_0k]; decide)⟩, fun c => ⟨h.1.1.rp, dd_X8_targetAt w h.1.1.1 k0, fun a61 _ => ⟨_, sp_addEdge w h.1 ⟨h.2.1.1, h.2.1.2, by omega⟩, fun r63 S64 q w64 s64 a ea => ?_⟩⟩⟩
    have e := t_inc ea (by omega)
    have q3 := q.2.2.1
    exact ih (h.ae q) (g.tr q.gs) (by omega) (by omega) (by omega) (by omega)
theorem ed_J57 {Q : MS → Prop} {k12 : MS → Int32 → Int32 → Prop} {T : Int} {v1 v2 v3 : Int32} (h : EmI B U v1.toInt v2.toInt) (hT : (fX8_targetCount U (qO U 52 0) v3).toInt = T) (h4 : 0 ≤ T ∧ T ≤ 300) (h1 : v1.toInt + T + 16 ≤ 22800) (hk : ∀ (V : MS) (m a : Int32), EmI B V m.toInt v2.toInt → GsI U V → m.toInt ≤ v1.toInt + T + 16 → a = v2 + Int32.ofInt 1 → k12 V m a) : w_X3_findEdges_J57 Q k12 U v1 v2 v3 := by
  unfold w_X3_findEdges_J57
  intro w
  have k0 := h.1.1.k0 w
  refine ⟨h.1.1.rp, dd_X8_targetCount w h.1.1.1 k0, fun a31 e31 => ⟨401, ?_⟩⟩
  rw [← e31] at hT
  subst hT
  exact ed_L70 (n2 := v1.toInt) h4 h1 hk _ h GsI.rf (by decide) (by rw [li_0k]; omega) (by rw [li_0k]; omega) (by rw [li_0k]; decide)
/-- what findEdges finds -/
def EdP (S : MS) : Prop := (0 ≤ gi S 4 (qI S 52 1).toInt.toNat ∧ gi S 4 (qI S 52 1).toInt.toNat ≤ (qN S (qO S 52 5) : Int) ∧ gi S 4 (qI S 52 1).toInt.toNat ≤ 22800) ∧ (∀ k : Nat, (k : Int) < gi S 4 (qI S 52 1).toInt.toNat → 0 ≤ gi S 5 k ∧ gi S 5 k < (qI S 52 1).toInt) ∧ (∀ c : Nat, (c : Int) ≤ (qI S 52 1).toInt → 0 ≤ gi S 4 c ∧ gi S 4 c ≤ gi S 4 (qI S 52 1).toInt.toNat) ∧ (∀ c : Nat, (c : Int) < (qI S 52 1).toInt → gi S 4 c ≤ gi S 4 (c + 1)) ∧ gi S 4 0 = 0
def SwB (U : MS) (b e : Int) : Prop := b < (qI U 52 1).toInt → ∀ i : Nat, (i : Int) < (qI U (qO U 52 0) 2).toInt → gi U 2 b.toNat ≤ i → swO (rOp U (qO U 52 0) i) → e ≤ aTk U (qO U 52 0) i
def EdIk (B : Nat × Nat) (U : MS) (n b : Int) : Prop := GB2 B U ∧ (0 ≤ b ∧ b ≤ (qI U 52 1).toInt) ∧ (0 ≤ n ∧ n ≤ (qN U (qO U 52 5) : Int)) ∧ (∀ k : Nat, (k : Int) < n → 0 ≤ gi U 5 k ∧ gi U 5 k < (qI U 52 1).toInt) ∧ (∀ c : Nat, (c : Int) < b → 0 ≤ gi U 4 c ∧ gi U 4 c ≤ n) ∧ (∀ c : Nat, (c : Int) + 1 < b → gi U 4 c ≤ gi U 4 (c + 1)) ∧ (0 < b → gi U 4 0 = 0) ∧ (b = 0 → n = 0) ∧ ∃ e : Int, 0 ≤ e ∧ e ≤ (qI U (qO U 52 0) 4).toInt ∧ n ≤ 18 * b + e ∧ SwB U b e
theorem szT_ge {o : Int32} {m : Int} (h : 1 ≤ m) : 2 + m ≤ szT o m := by
  unfold szT; split <;> omega
/-- edgeAt[b] is put -/
theorem ed_put {b n : Int32} {i : Nat} (w : wfC U) (h : GB2 B U) (e : S = wI U (qO U 52 4) i n) (k : qT U (qO U 52 4) = 204) : GB2 B S ∧ GsI U S ∧ (∀ c, gi S 4 c = if c = i then n.toInt else gi U 4 c) ∧ (∀ c, gi S 5 c = gi U 5 c) ∧ (qN S (qO S 52 5) : Int) = (qN U (qO U 52 5) : Int) := by
  have f : cfr [204] [] U S := by rw [e]; exact cfr.aI k rfl
  have H := h.1.qw w f (by rw [e]; rfl) (by rw [e]; rfl) (by rw [e]; rfl) rfl rfl
  have G := h.fr w f H.1.1 H.1.2.1 rfl rfl rfl rfl rfl rfl rfl rfl
  refine ⟨G.1, ⟨G.2, (gi_fr w f w.g2 (by decide) rfl rfl rfl (by decide)).1⟩, fun c => ?_, (gi_fr w f w.g5 (by decide) rfl rfl rfl (by decide)).1, H.2.L (by decide)⟩
  unfold gi
  rw [H.2.1, e, qI_wI]
  by_cases z : c = i
  · rw [if_pos ⟨rfl, z⟩, if_pos z]
  · rw [if_neg (fun y => z y.2), if_neg z]
theorem ed_L12 {Q : MS → Prop} (hQ : ∀ U : MS, wfC U → GB2 B U → EdP U → Q U) : ∀ (n : Nat) {U : MS} {v1 v2 : Int32}, EdIk B U v1.toInt v2.toInt → 1300 - v2.toInt < n → w_X3_findEdges_L12 Q n U v1 v2 := by
  intro n
  induction n with
  | zero => intro U v1 v2 h hm; have := h.2.1; have := h.1.1.2.2.2; have := h.1.2.1.1; omega
  | succ n ih =>
    intro U v1 v2 h hm
    obtain ⟨h1, h2, h3, h4, h5, h6, h7, h8, e, e1, e2, e3, e4⟩ := h
    have L := h1.1.2.1.1
    have hN := h1.2.1.1
    have hR := h1.1.2.2.2
    have hd := h1.2.2.1
    unfold w_X3_findEdges_L12
    intro w
    have k0 := h1.1.k0 w
    have R2 := (h1.1.1.row k0).2
    refine ⟨fun c => ⟨by omega, fun S8 e8 k8 w8 => ?_⟩, fun c => ⟨by omega, fun S11 e11 k11 w11 => ?_⟩⟩
    · obtain ⟨G, gs, g4, g5, l5⟩ := ed_put (b := v2) w h1 e8 k8
      have N : (qI S8 52 1).toInt = (qI U 52 1).toInt := by rw [gs.1.1]
      have gN : gi S8 4 (qI U 52 1).toInt.toNat = v1.toInt := by rw [g4, if_pos rfl]
      refine hQ S8 w8 G ?_
      unfold EdP
      rw [N, gN, l5]
      refine ⟨⟨h3.1, h3.2, by omega⟩, fun k hk => by rw [g5]; exact h4 k hk, fun c hc => ?_, fun c hc => ?_, ?_⟩
      · rw [g4]
        split
        · omega
        · exact h5 c (by omega)
      · rw [g4, if_neg (by omega), g4]
        split
        · exact (h5 c (by omega)).2
        · exact h6 c (by omega)
      · rw [g4, if_neg (by omega)]; exact h7 (by omega)
    · obtain ⟨G, gs, g4, g5, l5⟩ := ed_put (b := v2) w h1 e11 k11
      have N : (qI S11 52 1).toInt = (qI U 52 1).toInt := by rw [gs.1.1]
      have RR : (qI S11 (qO S11 52 0) 2).toInt = (qI U (qO U 52 0) 2).toInt := gs.1.R
      have T4 : (qI S11 (qO S11 52 0) 4).toInt = (qI U (qO U 52 0) 4).toInt := by rw [gs.1.2.1, gs.1.2.2.1.1.2]
      have M : EmI B S11 v1.toInt v2.toInt := by
        refine ⟨G, ⟨h3.1, by rw [l5]; exact h3.2⟩, fun k hk => by rw [g5, N]; exact h4 k hk, fun c hc => ?_, fun c hc => ?_, ?_, by omega, by omega⟩
        · rw [g4]
          split
          · omega
          · exact h5 c (by omega)
        · rw [g4, if_neg (by omega), g4]
          split
          · exact (h5 c (by omega)).2
          · exact h6 c (by omega)
        · rw [g4]
          split
          · exact h8 (by omega)
          · exact h7 (by omega)
      have v21 : (v2 + (1 : Int32)).toInt = v2.toInt + 1 := by rw [t_addk (by rw [li_1k]; omega), li_1k]
      have k0' := G.1.k0 w11
      refine ⟨?_, fun a15 e15 => ⟨G.1.rp, dd_X8_opAt w11 G.1.1 k0', fun a21 _ => ⟨dd_X6_goesOn, fun a25 _ => ?_⟩⟩⟩
      · unfold d_X3_lastOf
        rw [v21]
        split
        · exact ⟨G.1.rp, trivial⟩
        · have := G.1.2.1.1.1
          have := G.2.1.1
          exact ⟨by omega, trivial⟩
      have sb := G.2.1.2.1
      have hlast : gi S11 2 v2.toInt.toNat ≤ a15.toInt ∧ a15.toInt < (qI S11 (qO S11 52 0) 2).toInt ∧ (v2.toInt + 1 < (qI U 52 1).toInt → gi S11 2 (v2.toInt + 1).toNat = a15.toInt + 1) := by
        have s1 := sb v2.toInt.toNat (by omega)
        rw [e15]
        unfold fX3_lastOf
        rw [v21, N]
        split
        · rw [t_subk (by rw [li_1k]; omega), li_1k]; omega
        · have s2 := sb (v2.toInt + 1).toNat (by omega)
          have s3 := G.2.1.2.2.1 v2.toInt.toNat (by omega)
          have s4 : v2.toInt.toNat + 1 = (v2.toInt + 1).toNat := by omega
          rw [s4] at s3
          unfold gi at s2 s3 ⊢
          rw [t_subk (by rw [li_1k]; omega), li_1k]
          omega
      have s0 := (sb v2.toInt.toNat (by omega)).1
      -- the ways of the last instruction
      obtain ⟨T, e', hT, hT2, he'1, he'2, hbd, hsw⟩ : ∃ T e' : Int, (∀ V : MS, GsI S11 V → (fX8_targetCount V (qO V 52 0) a15).toInt = T) ∧ (0 ≤ T ∧ T ≤ 300) ∧ 0 ≤ e' ∧ e' ≤ (qI U (qO U 52 0) 4).toInt ∧ v1.toInt + 1 + T + 16 ≤ 18 * (v2.toInt + 1) + e' ∧ SwB S11 (v2.toInt + 1) e' := by
        have rv := G.1.2.2.1.2
        have same : ∀ V : MS, GsI S11 V → (fX8_targetCount V (qO V 52 0) a15).toInt = (fX8_targetCount S11 (qO S11 52 0) a15).toInt := fun V gV => by
          obtain ⟨⟨_, o, s, _⟩, _⟩ := gV
          unfold fX8_targetCount fX8_opAt fX8_argAt fX8_tableAt
          rw [o, s.1.1, s.1.2, s.2.1.1, s.2.1.2.1, s.2.1.2.2, s.2.2.1, s.2.2.2.1, s.2.2.2.2]
          rfl
        have sw0 : SwB S11 v2.toInt e := by
          intro hb i hi hs sw
          have s := gs.1.2.2.1
          rw [RR] at hi
          rw [gs.2] at hs
          rw [gs.1.2.1, s.xOp] at sw
          rw [gs.1.2.1, s.xA]
          exact e4 (by omega) i hi hs sw
        rcases rv.tc a15 with q | ⟨q1, q2, q3⟩
        · refine ⟨_, e, same, by omega, e1, e2, by omega, ?_⟩
          intro hb i hi hs sw
          refine sw0 (by omega) i hi ?_ sw
          have := hlast.2.2 (by omega)
          omega
        · obtain ⟨a1, a2, a3, a4⟩ := rv.1 a15.toInt.toNat (by omega) q2
          have ae := sw0 (by omega) a15.toInt.toNat (by omega) (by omega) q2
          have z := szT_ge (o := rOp S11 (qO S11 52 0) a15.toInt.toNat) a2
          have ee : eT S11 (qO S11 52 0) a15.toInt.toNat = aTk S11 (qO S11 52 0) a15.toInt.toNat + szT (rOp S11 (qO S11 52 0) a15.toInt.toNat) (mT S11 (qO S11 52 0) a15.toInt.toNat) := rfl
          refine ⟨_, eT S11 (qO S11 52 0) a15.toInt.toNat, same, by omega, by omega, by omega, by omega, ?_⟩
          intro hb i hi hs sw
          have := hlast.2.2 (by omega)
          exact rv.2 a15.toInt.toNat i (by omega) hi q2 sw
      have fin : ∀ (V : MS) (m a : Int32), EmI B V m.toInt v2.toInt → GsI S11 V → m.toInt ≤ v1.toInt + 1 + T + 16 → a = v2 + Int32.ofInt 1 → w_X3_findEdges_L12 Q n V m a := fun V m a hV gV hm2 ea => by
        have ea2 := t_inc ea (by omega)
        obtain ⟨m1, m2, m3, m4, m5, m6, m7⟩ := hV
        have NV : (qI V 52 1).toInt = (qI U 52 1).toInt := by rw [gV.1.1, N]
        refine ih ⟨m1, by omega, m2, m3, fun c hc => m4 c (by omega), fun c hc => m5 c (by omega), fun _ => m6, fun z => by omega, e', he'1, ?_, by omega, ?_⟩ (by omega)
        · rw [gV.1.2.1, gV.1.2.2.1.1.2, T4]; exact he'2
        · intro hb i hi hs sw
          have s := gV.1.2.2.1
          rw [gV.1.R] at hi
          rw [gV.2, ea2] at hs
          rw [gV.1.2.1, s.xOp] at sw
          rw [gV.1.2.1, s.xA]
          exact hsw (by omega) i hi hs sw
      refine ⟨fun _ => ed_J57 M (hT _ GsI.rf) hT2 (by omega) (fun V m a hV gV hm2 ea => fin V m a hV gV (by omega) ea), fun _ => ⟨_, sp_addEdge w11 G ⟨h3.1, by rw [l5]; exact h3.2, by omega⟩, fun r71 S72 q w72 s72 => ?_⟩⟩
      have q3 := q.2.2.1
      exact ed_J57 (M.ae q) (hT _ q.gs) hT2 (by omega) (fun V m a hV gV hm2 ea => fin V m a hV (q.gs.tr gV) (by omega) ea)
theorem sp_findEdges (w : wfC S) (h : GB2 B S) : wX3_findEdges S (fun u => (GB2 B u ∧ EdP u) ∧ cfr [204, 205, 211] [(43, 5)] S u) := by
  refine frX3_findEdges w ?_
  unfold wX3_findEdges
  refine fun k => ⟨_, frJ7_fill_53178 k (by decide) (sfJ7_fill_53178 w k (by decide)), fun S3 q3 w3 s3 => ⟨1301, ?_⟩⟩
  have H := h.1.qc w q3.2 s3 w3 rfl rfl
  have G := (h.fr w q3.2 H.1.1 H.1.2.1 rfl rfl rfl rfl rfl rfl rfl rfl).1
  have R2 := (G.1.1.row (G.1.k0 w3)).2
  refine ed_L12 (fun U _ a b => ⟨a, b⟩) _ ⟨G, ⟨by decide, by have := G.2.1.1; rw [li_0k]; omega⟩, ⟨by decide, by rw [li_0k]; omega⟩, fun k hk => by rw [li_0k] at hk; omega, fun c hc => by rw [li_0k] at hc; omega, fun c hc => by rw [li_0k] at hc; omega, fun z => by rw [li_0k] at z; omega, fun _ => rfl, 0, by omega, by omega, by rw [li_0k]; omega, ?_⟩ (by rw [li_0k]; decide)
  intro hb i hi hs sw
  exact (G.1.2.2.1.2.1 i hi sw).1
end GF
/-! findBacks -/
section GK
def cE (f : Nat → Int) (s : Int) : Nat → Nat
  | 0 => 0
  | k + 1 => cE f s k + (if f k = s then 1 else 0)
def pE (f : Nat → Int) (E : Nat) : Nat → Nat
  | 0 => 0
  | c + 1 => pE f E c + cE f c E
theorem cE_s {f : Nat → Int} {s : Int} {k : Nat} : cE f s (k + 1) = cE f s k + (if f k = s then 1 else 0) := rfl
theorem pE_s {f : Nat → Int} {E c : Nat} : pE f E (c + 1) = pE f E c + cE f c E := rfl
theorem cE_mo {f : Nat → Int} {s : Int} {k l : Nat} (h : k ≤ l) : cE f s k ≤ cE f s l := by
  induction l with
  | zero => rw [show k = 0 by omega]; exact Nat.le_refl _
  | succ l ih =>
    by_cases z : k = l + 1
    · rw [z]; exact Nat.le_refl _
    · rw [cE_s]; have := ih (by omega); omega
theorem cE_le {f : Nat → Int} {s : Int} {k : Nat} : cE f s k ≤ k := by
  induction k with
  | zero => exact Nat.le_refl _
  | succ k ih => rw [cE_s]; split <;> omega
theorem pE_0 {f : Nat → Int} {c : Nat} : pE f 0 c = 0 := by
  induction c with
  | zero => rfl
  | succ c ih => rw [pE_s, ih]; rfl
theorem pE_E {f : Nat → Int} {E c : Nat} : pE f (E + 1) c = pE f E c + (if 0 ≤ f E ∧ f E < c then 1 else 0) := by
  induction c with
  | zero => rw [if_neg (by omega)]; rfl
  | succ c ih =>
    rw [pE_s, pE_s, ih, cE_s]
    by_cases z : f E = c
    · rw [if_pos z, if_neg (by omega), if_pos (by omega)]; omega
    · rw [if_neg z]
      by_cases y : 0 ≤ f E ∧ f E < c
      · rw [if_pos y, if_pos (by omega)]; omega
      · rw [if_neg y, if_neg (by omega)]; omega
theorem pE_le {f : Nat → Int} {E c : Nat} : pE f E c ≤ E := by
  induction E with
  | zero => rw [pE_0]; exact Nat.le_refl _
  | succ E ih => rw [pE_E]; split <;> omega
/-- the place that is taken is within the rows of its block -/
theorem cE_at {f : Nat → Int} {E N k : Nat} {s : Nat} (hk : k < E) (hf : f k = s) (hs : s < N) : pE f E s + cE f s k < pE f E (s + 1) ∧ pE f E (s + 1) ≤ E := by
  have h1 : cE f s (k + 1) ≤ cE f s E := cE_mo (by omega)
  rw [cE_s, if_pos hf] at h1
  exact ⟨by rw [pE_s]; omega, pE_le⟩
variable {B : Nat × Nat} {K : List Nat} {F : List (Nat × Nat)} {S u v U : MS}
def GB3 (B : Nat × Nat) (S : MS) : Prop := GB2 B S ∧ EdP S
theorem EdP.fr (w : wfC S) (h : EdP S) (f : cfr K F S u) (h43 : K.contains 43 = false) (h4 : K.contains 204 = false) (h5 : K.contains 205 = false) (hA : okO F = true) (hF : okL [(43, 1), (43, 4), (43, 5)] F = true) : EdP u := by
  have N : qI u 52 1 = qI S 52 1 := f.kI w.k52 h43 (okL_n hF (by decide))
  have g4 := (gi_fr w f w.g4 h4 hA h43 (okL_n hF (by decide)) (by decide)).1
  have g5 := (gi_fr w f w.g5 h5 hA h43 (okL_n hF (by decide)) (by decide)).1
  have L5 := f.kL (j := 5) w w.k52 (w.ptr (by decide)) h43 (okL_n hF (by decide))
  unfold EdP
  rw [N, L5, g4, g4]
  refine ⟨h.1, fun k hk => by rw [g5]; exact h.2.1 k hk, fun c hc => by rw [g4]; exact h.2.2.1 c hc, fun c hc => by rw [g4, g4]; exact h.2.2.2.1 c hc, h.2.2.2.2⟩
theorem GB3.q (w : wfC S) (h : GB3 B S) (f : cfr K [] S u) (hS : ShC B u) (hK : okK K = true) (hM : okM K = true) (h2 : K.contains 202 = false) (h3 : K.contains 203 = false) (h4 : K.contains 204 = false) (h5 : K.contains 205 = false) : GB3 B u ∧ GqI S u ∧ (∀ k, gi u 4 k = gi S 4 k) ∧ ∀ k, gi u 5 k = gi S 5 k := by
  have h43 : K.contains 43 = false := okK_n hK (by decide)
  have H := h.1.1.q w f hS hK hM
  refine ⟨⟨(h.1.fr w f hS H.1.2.1 hK hM h2 h3 rfl rfl rfl rfl).1, h.2.fr w f h43 h4 h5 rfl rfl⟩, H.2, (gi_fr w f w.g4 h4 rfl h43 rfl (by decide)).1, (gi_fr w f w.g5 h5 rfl h43 rfl (by decide)).1⟩
theorem GB3.wI {t j i : Nat} {x : Int32} (w : wfC S) (h : GB3 B S) (e : u = wI S (qO S 52 j) i x) (k : qT S (qO S 52 j) = t) (hK : okK [t] = true) (hM : okM [t] = true) (h2 : [t].contains 202 = false) (h3 : [t].contains 203 = false) (h4 : [t].contains 204 = false) (h5 : [t].contains 205 = false) : GB3 B u ∧ GqI S u ∧ (∀ k, gi u 4 k = gi S 4 k) ∧ (∀ k, gi u 5 k = gi S 5 k) ∧ (∀ k, gi u j k = if k = i then x.toInt else gi S j k) ∧ ∀ (l tl : Nat), qT S (qO S 52 l) = tl → tl ≠ t → ∀ k, gi u l k = gi S l k := by
  have f : cfr [t] [] S u := by rw [e]; exact cfr.aI k (by simp)
  have H := h.q w f (ShC.ws w h.1.1.1 f (by rw [e]; rfl) (by rw [e]; rfl) (by rw [e]; rfl) hK rfl) hK hM h2 h3 h4 h5
  refine ⟨H.1, H.2.1, H.2.2.1, H.2.2.2, fun k => ?_, fun l tl hl ht k9 => ?_⟩
  · unfold gi
    rw [H.2.1.1, e, qI_wI]
    by_cases z : k = i
    · rw [if_pos ⟨rfl, z⟩, if_pos z]
    · rw [if_neg (fun y => z y.2), if_neg z]
  · have ne : qO S 52 l ≠ qO S 52 j := fun z => ht (by rw [← hl, z, k])
    unfold gi
    rw [H.2.1.1, e, qI_wI, if_neg (fun y => ne y.1)]
/-- fill fills -/
theorem ct_fill {p : Nat} {x1 : Int32} : ∀ (n : Nat) {U : MS} {x2 x3 : Int32}, 0 ≤ x2.toInt → x3.toInt ≤ (qN U p : Int) → (∀ k : Nat, (k : Int) < x2.toInt → qI U p k = x1) → x2.toInt ≤ x3.toInt → x3.toInt - x2.toInt < n → w_J7_fill_53178_L5 (fun u => ∀ k : Nat, (k : Int) < x3.toInt → qI u p k = x1) n U p x1 x2 x3 := by
  intro n
  induction n with
  | zero => intro U x2 x3 h0 h1 h2 h3 hm; omega
  | succ n ih =>
    intro U x2 x3 h0 h1 h2 h3 hm
    unfold w_J7_fill_53178_L5
    intro w
    refine ⟨fun c k hk => h2 k (by omega), fun c => ⟨by omega, fun S4 e4 w4 a ea => ?_⟩⟩
    have r3 := rgI x3
    have e := t_inc ea (by omega)
    refine ih (by omega) (by rw [e4]; exact h1) (fun k hk => ?_) (by omega) (by omega)
    rw [e4, qI_wI]
    split
    · rfl
    · rename_i z
      exact h2 k (by
        have : k ≠ x2.toInt.toNat := fun q => z ⟨rfl, q⟩
        omega)
theorem sp_fill {S : MS} {p kd : Nat} {x1 : Int32} (w : wfC S) (hk : qT S p = kd) (h0 : kd ≠ 0) : wJ7_fill_53178 S p x1 (fun u => (∀ k : Nat, k < qN S p → qI u p k = x1) ∧ cfr [kd] [] S u) := by
  refine frJ7_fill_53178 hk h0 ?_
  have l := w.len9 hk h0
  unfold wJ7_fill_53178
  intro a ea
  have e : a.toInt = qN S p := by rw [ea]; exact toI_nat (by omega)
  refine ⟨8388610, ?_⟩
  have z := li_0k
  have := ct_fill (p := p) (x1 := x1) 8388610 (U := S) (x2 := 0) (x3 := a) (by decide) (by omega) (fun k hk => by omega) (by omega) (by omega)
  have q : (fun u => ∀ k : Nat, (k : Int) < a.toInt → qI u p k = x1) = fun u => ∀ k : Nat, k < qN S p → qI u p k = x1 := by
    funext u
    rw [e]
    exact propext ⟨fun h k hk => h k (by omega), fun h k hk => h k (by omega)⟩
  rw [q] at this
  exact this
end GK
/-! findBacks: its loops -/
theorem wC_s {S : MS} {b k : Nat} {f : Nat → Int32} : qI (wC S b f) b k = f k := by
  show (if b = b then f else qI S b) k = f k
  rw [if_pos rfl]
section GLB
variable {B : Nat × Nat} {S u v U : MS} {f : Nat → Int} {ν ε : Nat} {Q : MS → Prop}
def Bk0 (B : Nat × Nat) (f : Nat → Int) (ν ε : Nat) (U : MS) : Prop := GB3 B U ∧ (∀ k, gi U 5 k = f k) ∧ (qI U 52 1).toInt = ν ∧ gi U 4 ν = ε ∧ (ε : Int) ≤ (qN U (qO U 52 7) : Int)
theorem Bk0.num (h : Bk0 B f ν ε U) : (1 ≤ ν ∧ ν ≤ 1200 ∧ (ν : Int) ≤ (qN U (qO U 52 13) : Int) ∧ qN U (qO U 52 14) = qN U (qO U 52 13) ∧ qN U (qO U 52 6) = qN U (qO U 52 4) ∧ qN U (qO U 52 4) = qN U (qO U 52 13) + 1) ∧ (ε ≤ 22800 ∧ (ε : Int) ≤ (qN U (qO U 52 5) : Int)) ∧ ∀ k, k < ε → 0 ≤ f k ∧ f k < ν := by
  obtain ⟨⟨h1, h2⟩, h3, h4, h5, h6⟩ := h
  have L := h1.1.2.1.1
  have hb := h1.2.1.1
  have hd := h1.2.2.1
  have hr := h1.1.2.2.2
  obtain ⟨e1, e2, e3⟩ := h2
  rw [h4] at e1 e2
  have z : ((ν : Int)).toNat = ν := by omega
  rw [z, h5] at e1 e2
  refine ⟨⟨by omega, by omega, by omega, by omega, by omega, by omega⟩, ⟨by omega, by omega⟩, fun k hk => ?_⟩
  have := e2 k (by omega)
  rw [h3] at this
  exact this
theorem Bk0.wI {t j i : Nat} {x : Int32} (w : wfC S) (h : Bk0 B f ν ε S) (e : u = wI S (qO S 52 j) i x) (k : qT S (qO S 52 j) = t) (hK : okK [t] = true) (hM : okM [t] = true) (h2 : [t].contains 202 = false) (h3 : [t].contains 203 = false) (h4 : [t].contains 204 = false) (h5 : [t].contains 205 = false) : Bk0 B f ν ε u ∧ (∀ k, gi u j k = if k = i then x.toInt else gi S j k) ∧ ∀ (l tl : Nat), qT S (qO S 52 l) = tl → tl ≠ t → ∀ k, gi u l k = gi S l k := by
  obtain ⟨a1, a2, a3, a4, a5, a6⟩ := h.1.wI w e k hK hM h2 h3 h4 h5
  exact ⟨⟨a1, fun k => by rw [a4]; exact h.2.1 k, by rw [a2.N]; exact h.2.2.1, by rw [a3]; exact h.2.2.2.1, by rw [a2.L (by decide)]; exact h.2.2.2.2⟩, a5, a6⟩
theorem bk_L40 {v1 : Int32} (hv : v1.toInt = ε) (hk : ∀ V : MS, Bk0 B f ν ε V → gi V 6 0 = 0 → (∀ s : Nat, s < ν → gi V 6 (s + 1) = cE f s ε) → ∃ n, w_X3_findBacks_L70 Q n V 0) : ∀ (n : Nat) {U : MS} {v2 : Int32}, Bk0 B f ν ε U → 0 ≤ v2.toInt → v2.toInt ≤ ε → gi U 6 0 = 0 → (∀ s : Nat, s < ν → gi U 6 (s + 1) = cE f s v2.toInt.toNat) → ε - v2.toInt < n → w_X3_findBacks_L40 Q n U v1 v2 := by
  intro n
  induction n with
  | zero => intro U v2 _ _ h2 _ _ hm; omega
  | succ n ih =>
    intro U v2 h h0 h1 z0 hs hm
    unfold w_X3_findBacks_L40
    intro w
    have nu := h.num
    refine ⟨fun c => hk U h z0 (fun s hs' => by rw [hs s hs', show v2.toInt.toNat = ε by omega]), fun c => ?_⟩
    have fk := nu.2.2 v2.toInt.toNat (by omega)
    have ek : (qI U (qO U 52 5) v2.toInt.toNat).toInt = f v2.toInt.toNat := h.2.1 _
    have e1 : ((qI U (qO U 52 5) v2.toInt.toNat) + (1 : Int32)).toInt = f v2.toInt.toNat + 1 := by rw [t_addk (by rw [li_1k]; omega), li_1k, ek]
    rw [e1]
    refine ⟨by omega, by omega, by omega, fun S68 e68 k68 w68 a ea => ?_⟩
    obtain ⟨H, g6, _⟩ := h.wI w e68 k68 rfl rfl rfl rfl rfl rfl
    have e := t_inc ea (by omega)
    obtain ⟨s0, hs0⟩ : ∃ s0 : Nat, (s0 : Int) = f v2.toInt.toNat := ⟨(f v2.toInt.toNat).toNat, by omega⟩
    have hI : (f v2.toInt.toNat + 1).toNat = s0 + 1 := by omega
    rw [hI] at g6
    have old := hs s0 (by omega)
    have le := cE_le (f := f) (s := s0) (k := v2.toInt.toNat)
    have en : ((qI U (qO U 52 6) (s0 + 1)) + (1 : Int32)).toInt = cE f s0 v2.toInt.toNat + 1 := by
      unfold gi at old
      rw [t_addk (by rw [li_1k]; omega), li_1k, old]
    refine ih H (by omega) (by omega) (by rw [g6, if_neg (by omega)]; exact z0) (fun s hs' => ?_) (by omega)
    rw [g6, show a.toInt.toNat = v2.toInt.toNat + 1 by omega, cE_s]
    by_cases z : s = s0
    · rw [if_pos (by omega), if_pos (by rw [z]; omega), en, z]; omega
    · rw [if_neg (by omega), if_neg (by omega), hs s hs']; rfl
def Bk1 (f : Nat → Int) (ν ε : Nat) (U : MS) : Prop := ∀ c : Nat, c ≤ ν → gi U 6 c = pE f ε c
theorem bk_L70 (hk : ∀ V : MS, Bk0 B f ν ε V → Bk1 f ν ε V → (∀ s : Nat, s < ν → gi V 14 s = pE f ε s) → ∃ n, w_X3_findBacks_L120 Q n V 0) : ∀ (n : Nat) {U : MS} {v2 : Int32}, Bk0 B f ν ε U → 0 ≤ v2.toInt → v2.toInt ≤ ν → (∀ c : Nat, (c : Int) ≤ v2.toInt → gi U 6 c = pE f ε c) → (∀ s : Nat, v2.toInt ≤ s → s < ν → gi U 6 (s + 1) = cE f s ε) → ν - v2.toInt < n → w_X3_findBacks_L70 Q n U v2 := by
  intro n
  induction n with
  | zero => intro U v2 _ _ h2 _ _ hm; omega
  | succ n ih =>
    intro U v2 h h0 h1 hp hs hm
    unfold w_X3_findBacks_L70
    intro w
    have nu := h.num
    have hN := h.2.2.1
    rw [hN]
    refine ⟨fun c => ?_, fun c => ?_⟩
    · have z := li_0k
      refine ⟨acp_ok ⟨by omega, by omega, by omega, by omega, by omega⟩, fun S16 e16 k16 w16 => ?_⟩
      have fr : cfr [211] [] U S16 := by rw [e16]; exact cfr.aC k16 rfl
      have G := h.1.q w fr (ShC.ws w h.1.1.1.1 fr (by rw [e16]; rfl) (by rw [e16]; rfl) (by rw [e16]; rfl) rfl rfl) rfl rfl rfl rfl rfl rfl
      have g6 := (gi_fr w fr w.g6 (by decide) rfl rfl rfl (by decide)).1
      refine hk S16 ⟨G.1, fun k => by rw [G.2.2.2]; exact h.2.1 k, by rw [G.2.1.N]; exact hN, by rw [G.2.2.1]; exact h.2.2.2.1, by rw [G.2.1.L (by decide)]; exact h.2.2.2.2⟩ (fun c hc => by rw [g6]; exact hp c (by omega)) (fun s hs' => ?_)
      rw [← hp s (by omega)]
      unfold gi
      rw [G.2.1.1, e16]
      have : qI (wC U (qO U 52 14) (va_cpy (qI U (qO U 52 6)) (qI U (qO U 52 14)) (0 : Int32).toNatClampNeg (0 : Int32).toNatClampNeg (qI U 52 1).toNatClampNeg)) (qO U 52 14) s = va_cpy (qI U (qO U 52 6)) (qI U (qO U 52 14)) (0 : Int32).toNatClampNeg (0 : Int32).toNatClampNeg (qI U 52 1).toNatClampNeg s := by
        exact wC_s
      rw [this, cpy_0 (by omega)]
    · have e1 : (v2 + (1 : Int32)).toInt = v2.toInt + 1 := by rw [t_addk (by rw [li_1k]; omega), li_1k]
      rw [e1]
      refine ⟨by omega, by omega, by omega, fun S57 e57 k57 w57 a ea => ?_⟩
      obtain ⟨H, g6, _⟩ := h.wI w e57 k57 rfl rfl rfl rfl rfl rfl
      have e := t_inc ea (by omega)
      have hI : (v2.toInt + 1).toNat = v2.toInt.toNat + 1 := by omega
      rw [hI] at g6
      have a1 := hp v2.toInt.toNat (by omega)
      have a2 := hs v2.toInt.toNat (by omega) (by omega)
      have b1 := pE_le (f := f) (E := ε) (c := v2.toInt.toNat)
      have b2 := cE_le (f := f) (s := v2.toInt.toNat) (k := ε)
      have en : ((qI U (qO U 52 6) (v2.toInt.toNat + 1)) + (qI U (qO U 52 6) v2.toInt.toNat)).toInt = pE f ε (v2.toInt.toNat + 1) := by
        unfold gi at a1 a2
        rw [pE_s, t_addk (by omega), a1, a2]
        omega
      refine ih H (by omega) (by omega) (fun c hc => ?_) (fun s h1 h2 => ?_) (by omega)
      · rw [g6]
        by_cases z : c = v2.toInt.toNat + 1
        · rw [if_pos z, en, z]
        · rw [if_neg z]; exact hp c (by omega)
      · rw [g6, if_neg (by omega)]; exact hs s (by omega) h2
def Bk2 (f : Nat → Int) (ν ε k : Nat) (U : MS) : Prop := ∀ s : Nat, s < ν → gi U 14 s = (pE f ε s + cE f s k : Nat) ∧ ∀ p : Nat, pE f ε s ≤ p → p < pE f ε s + cE f s k → 0 ≤ gi U 7 p ∧ gi U 7 p < ν
theorem bk_L135 {k120 : MS → Int32 → Prop} {v2 : Int32} (h2 : 0 ≤ v2.toInt ∧ v2.toInt < ν) (hk : ∀ (V : MS) (a : Int32) (k : Nat), Bk0 B f ν ε V → Bk1 f ν ε V → Bk2 f ν ε k V → (k : Int) = gi V 4 (v2.toInt + 1).toNat → a.toInt = v2.toInt + 1 → k120 V a) : ∀ (n : Nat) {U : MS} {v3 : Int32}, Bk0 B f ν ε U → Bk1 f ν ε U → Bk2 f ν ε v3.toInt.toNat U → 0 ≤ v3.toInt → v3.toInt ≤ gi U 4 (v2.toInt + 1).toNat → 30000 - v3.toInt < n → w_X3_findBacks_L135 Q k120 n U v2 v3 := by
  intro n
  induction n with
  | zero =>
    intro U v3 h _ _ h0 h3 hm
    have nu := h.num
    have e := h.1.2.2.2.1 (v2.toInt + 1).toNat (by rw [h.2.2.1]; omega)
    rw [h.2.2.1, show ((ν : Int)).toNat = ν by omega, h.2.2.2.1] at e
    omega
  | succ n ih =>
    intro U v3 h b1 b2 h0 h3 hm
    have nu := h.num
    have eE := h.1.2.2.2.1 (v2.toInt + 1).toNat (by rw [h.2.2.1]; omega)
    rw [h.2.2.1, show ((ν : Int)).toNat = ν by omega, h.2.2.2.1] at eE
    unfold w_X3_findBacks_L135
    intro w
    have e1 : (v2 + (1 : Int32)).toInt = v2.toInt + 1 := by rw [t_addk (by rw [li_1k]; omega), li_1k]
    rw [e1]
    have g4 : (qI U (qO U 52 4) (v2.toInt + 1).toNat).toInt = gi U 4 (v2.toInt + 1).toNat := rfl
    rw [g4]
    refine ⟨by omega, fun c a ea => hk U a v3.toInt.toNat h b1 b2 (by omega) (t_inc ea (by omega)), fun c => ?_⟩
    have fk := nu.2.2 v3.toInt.toNat (by omega)
    have ek : (qI U (qO U 52 5) v3.toInt.toNat).toInt = f v3.toInt.toNat := h.2.1 _
    obtain ⟨s0, hs0⟩ : ∃ s0 : Nat, (s0 : Int) = f v3.toInt.toNat := ⟨(f v3.toInt.toNat).toNat, by omega⟩
    have hI : (f v3.toInt.toNat).toNat = s0 := by omega
    rw [ek, hI]
    have sg := b2 s0 (by omega)
    have ca := cE_at (f := f) (E := ε) (N := ν) (k := v3.toInt.toNat) (s := s0) (by omega) hs0.symm (by omega)
    have g14 : (qI U (qO U 52 14) s0).toInt = gi U 14 s0 := rfl
    have L7 := h.2.2.2.2
    refine ⟨by omega, by omega, fun a34 e34 => ⟨by rw [e34]; omega, fun S37 e37 k37 w37 => ?_⟩⟩
    have ha : a34.toInt = (pE f ε s0 + cE f s0 v3.toInt.toNat : Nat) := by rw [e34, g14]; exact sg.1
    obtain ⟨H, g7, go⟩ := h.wI w e37 k37 rfl rfl rfl rfl rfl rfl
    have n37 := H.num
    have ek2 : (qI S37 (qO S37 52 5) v3.toInt.toNat).toInt = f v3.toInt.toNat := H.2.1 _
    rw [ek2, hI]
    refine ⟨by omega, by omega, by omega, fun S46 e46 k46 w46 a ea => ?_⟩
    obtain ⟨H2, g14b, go2⟩ := H.wI w37 e46 k46 rfl rfl rfl rfl rfl rfl
    have e := t_inc ea (by omega)
    have x4 : gi S46 4 (v2.toInt + 1).toNat = gi U 4 (v2.toInt + 1).toNat := by rw [go2 4 204 w37.g4 (by decide), go 4 204 w.g4 (by decide)]
    have x6 : Bk1 f ν ε S46 := fun c hc => by rw [go2 6 206 w37.g6 (by decide), go 6 206 w.g6 (by decide)]; exact b1 c hc
    have x7 : ∀ k, gi S46 7 k = if k = a34.toInt.toNat then v2.toInt else gi U 7 k := fun k => by rw [go2 7 207 w37.g7 (by decide), g7]
    have x14 : ∀ k, gi S46 14 k = if k = s0 then gi U 14 s0 + 1 else gi U 14 k := fun k => by
      rw [g14b]
      have y : ∀ k, gi S37 14 k = gi U 14 k := go 14 211 w.g14 (by decide)
      have y0 : (qI S37 (qO S37 52 14) s0).toInt = gi U 14 s0 := y s0
      by_cases z : k = s0
      · rw [if_pos z, if_pos z, t_addk (by rw [li_1k]; omega), li_1k, y0]
      · rw [if_neg z, if_neg z, y]
    refine ih H2 x6 (fun s hs => ?_) (by omega) (by rw [x4]; omega) (by omega)
    have bs := b2 s hs
    rw [show a.toInt.toNat = v3.toInt.toNat + 1 by omega, cE_s, x14]
    by_cases z : s = s0
    · subst z
      rw [if_pos rfl, if_pos hs0.symm]
      refine ⟨by omega, fun p h1 h2 => ?_⟩
      rw [x7]
      split
      · omega
      · exact bs.2 p h1 (by omega)
    · rw [if_neg z, if_neg (by omega)]
      refine ⟨by rw [bs.1]; rfl, fun p h1 h2 => ?_⟩
      rw [x7]
      split
      · omega
      · exact bs.2 p h1 (by omega)
/-- what findBacks finds -/
def BkP (S : MS) : Prop := (∀ c : Nat, (c : Int) ≤ (qI S 52 1).toInt → 0 ≤ gi S 6 c ∧ gi S 6 c ≤ (qN S (qO S 52 7) : Int)) ∧ ∀ b p : Nat, (b : Int) < (qI S 52 1).toInt → gi S 6 b ≤ p → (p : Int) < gi S 6 (b + 1) → 0 ≤ gi S 7 p ∧ gi S 7 p < (qI S 52 1).toInt
theorem bk_L120 (hQ : ∀ V : MS, wfC V → GB3 B V → BkP V → Q V) : ∀ (n : Nat) {U : MS} {v2 : Int32} {k : Nat}, Bk0 B f ν ε U → Bk1 f ν ε U → Bk2 f ν ε k U → 0 ≤ v2.toInt → v2.toInt ≤ ν → (k : Int) = gi U 4 v2.toInt.toNat → ν - v2.toInt < n → w_X3_findBacks_L120 Q n U v2 := by
  intro n
  induction n with
  | zero => intro U v2 k _ _ _ _ h2 _ hm; omega
  | succ n ih =>
    intro U v2 k h b1 b2 h0 h3 hk hm
    have nu := h.num
    have hN := h.2.2.1
    unfold w_X3_findBacks_L120
    intro w
    rw [hN]
    refine ⟨fun c => hQ U w h.1 ?_, fun c => ⟨by omega, fun a21 e21 => ⟨30001, ?_⟩⟩⟩
    · have ek : k = ε := by
        have := h.2.2.2.1
        rw [show v2.toInt.toNat = ν by omega] at hk
        omega
      subst ek
      have L7 := h.2.2.2.2
      unfold BkP
      rw [hN]
      refine ⟨fun c hc => ?_, fun b p hb h1 h2 => ?_⟩
      · rw [b1 c (by omega)]
        have := pE_le (f := f) (E := k) (c := c)
        omega
      · rw [b1 b (by omega)] at h1
        rw [b1 (b + 1) (by omega), pE_s] at h2
        exact (b2 b (by omega)).2 p (by omega) (by omega)
    · have e : a21.toInt = k := by rw [e21]; exact hk.symm
      have mo := h.1.2.2.2.2.1 v2.toInt.toNat (by rw [hN]; omega)
      have hI : v2.toInt.toNat + 1 = (v2.toInt + 1).toNat := by omega
      rw [hI] at mo
      refine bk_L135 (B := B) (f := f) (ν := ν) (ε := ε) ⟨h0, by omega⟩ (fun V a k' hV c1 c2 hk' ea => ih hV c1 c2 (by omega) (by omega) (by rw [ea]; exact hk') (by omega)) _ h b1 (by rw [show a21.toInt.toNat = k by omega]; exact b2) (by omega) (by omega) (by omega)
theorem bk_J30 {v1 : Int32} (h : GB3 B U) (hv : v1.toInt = gi U 4 (qI U 52 1).toInt.toNat) (h7 : v1.toInt ≤ (qN U (qO U 52 7) : Int)) (hQ : ∀ V : MS, wfC V → GB3 B V → BkP V → Q V) : w_X3_findBacks_J30 Q U v1 := by
  unfold w_X3_findBacks_J30
  intro w k
  refine ⟨_, sp_fill w k (by decide), fun S9 q9 w9 s9 => ?_⟩
  have G := h.q w q9.2 (ShC.ca w h.1.1.1 q9.2 s9 w9 rfl rfl) rfl rfl rfl rfl rfl rfl
  have hN := h.1.2.1.1
  have hv0 := h.2.1
  obtain ⟨ν, eν⟩ : ∃ ν : Nat, (qI U 52 1).toInt = ν := ⟨(qI U 52 1).toInt.toNat, by omega⟩
  rw [eν, show ((ν : Int)).toNat = ν by omega] at hv hv0
  obtain ⟨ε, eε⟩ : ∃ ε : Nat, gi U 4 ν = ε := ⟨(gi U 4 ν).toNat, by omega⟩
  have b0 : Bk0 B (gi U 5) ν ε S9 := ⟨G.1, G.2.2.2, by rw [G.2.1.N]; exact eν, by rw [G.2.2.1]; exact eε, by rw [G.2.1.L (by decide)]; omega⟩
  have nu := b0.num
  have z6 : ∀ c : Nat, c < qN U (qO U 52 6) → gi S9 6 c = 0 := fun c hc => by
    unfold gi
    rw [G.2.1.1, q9.1 c hc]; rfl
  have l6 : qN S9 (qO S9 52 6) = qN U (qO U 52 6) := G.2.1.2.2.1 6 (by decide)
  have z := li_0k
  refine ⟨30001, bk_L40 (by omega) (fun V hV z0 hs => ⟨1300, bk_L70 (fun V hV c1 c2 => ⟨1300, bk_L120 (k := 0) hQ _ hV c1 (fun s hs => ⟨by rw [c2 s hs]; show ((pE (gi U 5) ε s : Nat) : Int) = ((pE (gi U 5) ε s + 0 : Nat) : Int); rfl, fun p h1 h2 => absurd h2 (by show ¬ p < pE (gi U 5) ε s + 0; omega)⟩) (by decide) (by omega) ?_ (by omega)⟩) _ hV (by decide) (by omega) (fun c hc => ?_) (fun s _ hs' => hs s hs') (by omega)⟩) _ b0 (by decide) (by omega) (z6 0 (by omega)) (fun s hs => by rw [z6 (s + 1) (by omega)]; rfl) (by omega)⟩
  · have e0 := hV.1.2.2.2.2.2
    show _ = gi V 4 0
    rw [e0]; rfl
  · rw [show c = 0 by omega, z0]; rfl
theorem sp_findBacks (w : wfC S) (h : GB3 B S) : wX3_findBacks S (fun u => (GB3 B u ∧ BkP u) ∧ cfr [206, 207, 211] [(43, 7)] S u) := by
  refine frX3_findBacks w ?_
  have hN := h.1.2.1.1
  have hd := h.1.2.2.1
  have L := h.1.1.2.1
  have L1 := L.1
  have E := h.2.1
  unfold wX3_findBacks
  refine ⟨by omega, fun a4 e4 => ?_⟩
  have e4' : a4.toInt = gi S 4 (qI S 52 1).toInt.toNat := by rw [e4]; rfl
  refine ⟨fun c => bk_J30 h e4' c (fun V _ a b => ⟨a, b⟩), fun c => ?_⟩
  have le := e2_le _ L.2.1
  have eN : (Int32.ofNat (qN S (qO S 52 5))).toInt = qN S (qO S 52 5) := toI_nat (by omega)
  obtain ⟨n, hn⟩ : ∃ n : Nat, n = (Int32.ofNat (qN S (qO S 52 5))).toInt.toNat := ⟨_, rfl⟩
  rw [← hn]
  have hn2 : n = qN S (qO S 52 5) := by omega
  have rm := h.1.1.1.rm
  have cp := h.1.1.1.cap
  have old : 2 * qN S (qO S 52 7) ≤ n ∧ (qN S (qO S 52 7) = 0 ∨ 16 ≤ qN S (qO S 52 7)) := by
    rcases L.2.2 with q | q
    · omega
    · have := e2_lt _ q _ L.2.1 (by omega)
      have := e2_le _ q
      omega
  have hroom : qn S + 1 ≤ KCC ∧ qu S + n ≤ KSC := by
    unfold RmK PSc PNc at rm
    unfold CpK at cp
    have z : hp2 S ≤ 20000 := by unfold hp2; split <;> omega
    omega
  refine ⟨⟨by omega, by omega, by omega⟩, fun S76 e76 w76 S78 e78 k78 w78 => ?_⟩
  obtain ⟨f1, n1, d1, q1, u1, r1, l1, t1, o1⟩ := nw_step (K := []) (F := [(43, 7)]) w h.1.1.1.dn e76 w76 e78 k78 rfl (by decide)
  have O7 := qO_of r1
  have G : ShC B S78 := ShC.g_gk w h.1.1.1 f1 n1 rfl (by rw [O7, l1]; omega) (by rw [O7, l1]; omega) old.2 (by rw [O7, l1]; omega) (by omega) (by rw [O7, l1]; omega)
  have LL : ∀ j, (52, j) ∈ ptrC → ([(43, 7)] : List (Nat × Nat)).contains (43, j) = false → qN S78 (qO S78 52 j) = qN S (qO S 52 j) := fun j hp hc => by
    have p := w.ptr hp
    have kb := w.rf3 52 j _ p
    rw [qO_eq (f1.kO w.k52 rfl hc), (f1.1.1 _ (by rw [kb.1]; exact kb.2.1)).2]
  have hL : GrL S78 := by
    unfold GrL at L ⊢
    rw [LL 2 (by decide) rfl, LL 3 (by decide) rfl, LL 4 (by decide) rfl, LL 5 (by decide) rfl, LL 6 (by decide) rfl, LL 8 (by decide) rfl, LL 11 (by decide) rfl, LL 12 (by decide) rfl, LL 13 (by decide) rfl, LL 14 (by decide) rfl, LL 15 (by decide) rfl, O7, l1, hn2]
    exact ⟨L.1, L.2.1, Or.inr L.2.1⟩
  have H := h.1.fr w f1 G hL rfl rfl rfl rfl rfl rfl rfl rfl
  have g4 := (gi_fr w f1 w.g4 rfl rfl rfl rfl (by decide)).1
  refine bk_J30 ⟨H.1, h.2.fr w f1 rfl rfl rfl rfl rfl⟩ (by rw [H.2.1, g4]; exact e4') (by rw [O7, l1]; omega) (fun V _ a b => ⟨a, b⟩)
end GLB
/-! Graph drawn as far as findBacks: dominators -/
section GD
variable {B : Nat × Nat} {K : List Nat} {S u v U : MS}
def GB4 (B : Nat × Nat) (S : MS) : Prop := GB3 B S ∧ BkP S
def okQ (K : List Nat) : Bool := K.all (fun x => ([208, 209, 210, 211, 212, 303, 401] : List Nat).contains x)
theorem okQ_n {t : Nat} (h : okQ K = true) (m : ([208, 209, 210, 211, 212, 303, 401] : List Nat).contains t = false) : K.contains t = false := by
  cases e : K.contains t with
  | false => rfl
  | true =>
    have := List.all_eq_true.mp h _ (List.contains_iff_mem.mp e)
    rw [m] at this
    cases this
theorem okQ_K (h : okQ K = true) : okK K = true := List.all_eq_true.mpr (fun x hx => by
  have := List.contains_iff_mem.mp (List.all_eq_true.mp h x hx)
  simp at this
  rcases this with rfl | rfl | rfl | rfl | rfl | rfl | rfl <;> rfl)
theorem okQ_M (h : okQ K = true) : okM K = true := List.all_eq_true.mpr (fun x hx => by
  have := List.contains_iff_mem.mp (List.all_eq_true.mp h x hx)
  simp at this
  rcases this with rfl | rfl | rfl | rfl | rfl | rfl | rfl <;> rfl)
theorem GB4.q (w : wfC S) (h : GB4 B S) (f : cfr K [] S u) (hS : ShC B u) (hq : okQ K = true) : GB4 B u ∧ GqI S u := by
  have h43 : K.contains 43 = false := okQ_n hq (by decide)
  have H := h.1.q w f hS (okQ_K hq) (okQ_M hq) (okQ_n hq (by decide)) (okQ_n hq (by decide)) (okQ_n hq (by decide)) (okQ_n hq (by decide))
  have g6 := (gi_fr w f w.g6 (okQ_n hq (by decide)) rfl h43 rfl (by decide)).1
  have g7 := (gi_fr w f w.g7 (okQ_n hq (by decide)) rfl h43 rfl (by decide)).1
  refine ⟨⟨H.1, ?_⟩, H.2.1⟩
  unfold BkP
  rw [H.2.1.N, H.2.1.L (by decide)]
  exact ⟨fun c hc => by rw [g6]; exact h.2.1 c hc, fun b p hb h1 h2 => by rw [g6] at h1 h2; rw [g7]; exact h.2.2 b p hb h1 h2⟩
theorem GB4.c (w : wfC S) (h : GB4 B S) (f : cfr K [] S u) (s : shy S u) (wu : wfC u) (hq : okQ K = true) : GB4 B u ∧ GqI S u := h.q w f (ShC.ca w h.1.1.1.1 f s wu (okQ_K hq) rfl) hq
theorem GB4.w {t j i : Nat} {x : Int32} (w : wfC S) (h : GB4 B S) (e : u = wI S (qO S 52 j) i x) (k : qT S (qO S 52 j) = t) (hq : okQ [t] = true) : GB4 B u ∧ GqI S u ∧ (∀ k, gi u j k = if k = i then x.toInt else gi S j k) ∧ ∀ (l tl : Nat), qT S (qO S 52 l) = tl → tl ≠ t → ∀ k, gi u l k = gi S l k := by
  have f : cfr [t] [] S u := by rw [e]; exact cfr.aI k (by simp)
  have H := h.q w f (ShC.ws w h.1.1.1.1 f (by rw [e]; rfl) (by rw [e]; rfl) (by rw [e]; rfl) (okQ_K hq) rfl) hq
  refine ⟨H.1, H.2, fun k => ?_, fun l tl hl ht k9 => ?_⟩
  · unfold gi
    rw [H.2.1, e, qI_wI]
    by_cases z : k = i
    · rw [if_pos ⟨rfl, z⟩, if_pos z]
    · rw [if_neg (fun y => z y.2), if_neg z]
  · have ne : qO S 52 l ≠ qO S 52 j := fun z => ht (by rw [← hl, z, k])
    unfold gi
    rw [H.2.1, e, qI_wI, if_neg (fun y => ne y.1)]
theorem GB4.wj {j i : Nat} {x : Int64} (w : wfC S) (h : GB4 B S) (e : u = wJ S j i x) (k : qT S j = 401) : GB4 B u ∧ GqI S u := by
  have f : cfr [401] [] S u := by rw [e]; exact cfr.aJ k rfl
  exact h.q w f (ShC.ws w h.1.1.1.1 f (by rw [e]; rfl) (by rw [e]; rfl) (by rw [e]; rfl) rfl rfl) rfl
theorem GB4.num (h : GB4 B S) : (1 ≤ (qI S 52 1).toInt ∧ (qI S 52 1).toInt ≤ 1200 ∧ (qI S 52 1).toInt ≤ (qN S (qO S 52 13) : Int) ∧ (qI S 52 10).toInt = ((qI S 52 1).toInt + 63) / 64) ∧ qN S (qO S 52 8) = qN S (qO S 52 13) ∧ qN S (qO S 52 11) = qN S (qO S 52 13) ∧ qN S (qO S 52 12) = qN S (qO S 52 13) ∧ qN S (qO S 52 14) = qN S (qO S 52 13) ∧ qN S (qO S 52 15) = qN S (qO S 52 13) ∧ qN S (qO S 52 6) = qN S (qO S 52 4) ∧ qN S (qO S 52 4) = qN S (qO S 52 13) + 1 := by
  obtain ⟨⟨⟨g, b, d, q⟩, e⟩, k⟩ := h
  have L := g.2.1.1
  have b1 := b.1
  have r := g.2.2.2
  have q1 := q.1
  refine ⟨⟨by omega, by omega, by omega, q1⟩, by omega, by omega, by omega, by omega, by omega, by omega, by omega⟩
theorem GB4.dx (h : GB4 B S) {c x : Int32} (hc : 0 ≤ c.toInt ∧ c.toInt < (qI S 52 1).toInt) (hx : 0 ≤ x.toInt ∧ x.toInt < (qI S 52 10).toInt) : 0 ≤ (c * (qI S 52 10) + x).toInt ∧ (c * (qI S 52 10) + x).toInt < (qN S (qO S 52 9) : Int) := by
  have n := h.num.1
  have q2 := h.1.1.2.2.2.2
  have bd := mul_bd (a := c.toInt) (b := (qI S 52 10).toInt) (by omega) (by omega)
  have m1 : (c * (qI S 52 10)).toInt = c.toInt * (qI S 52 10).toInt := t_mulk (by omega)
  have le : (c.toInt + 1) * (qI S 52 10).toInt ≤ (qI S 52 1).toInt * (qI S 52 10).toInt := Int.mul_le_mul_of_nonneg_right (by omega) (by omega)
  rw [Int.add_mul, Int.one_mul] at le
  obtain ⟨z, hz⟩ : ∃ z, z = c.toInt * (qI S 52 10).toInt := ⟨_, rfl⟩
  obtain ⟨y, hy⟩ : ∃ y, y = (qI S 52 1).toInt * (qI S 52 10).toInt := ⟨_, rfl⟩
  rw [← hz] at bd m1 le
  rw [← hy] at le q2
  rw [t_addk (by omega), m1]
  omega
theorem c_shr6 {x : Int32} : (x >>> ((6 : Int32) &&& 31)).toInt = x.toInt / 64 := by
  rw [pk_shr x _ 6 (by decide), Int.shiftRight_eq_div_pow]
  rfl
theorem GB4.dm (h : GB4 B S) {x1 x2 : Int32} (h1 : 0 ≤ x1.toInt ∧ x1.toInt < (qI S 52 1).toInt) (h2 : 0 ≤ x2.toInt ∧ x2.toInt < (qI S 52 1).toInt) : d_X3_dominates S x1 x2 := by
  have n := h.num.1
  exact ⟨h.dx h2 (by rw [c_shr6]; omega), trivial⟩
/-- what edges and backs lead to -/
theorem GB4.ed (h : GB4 B S) {b k : Int32} (hb : 0 ≤ b.toInt ∧ b.toInt < (qI S 52 1).toInt) (h0 : 0 ≤ k.toInt) (hk : k.toInt < gi S 4 (b.toInt + 1).toNat) : k.toInt < (qN S (qO S 52 5) : Int) ∧ 0 ≤ (qI S (qO S 52 5) k.toInt.toNat).toInt ∧ (qI S (qO S 52 5) k.toInt.toNat).toInt < (qI S 52 1).toInt ∧ k.toInt < 22800 := by
  obtain ⟨e1, e2, e3, e4, e5⟩ := h.1.2
  have a := e3 (b.toInt + 1).toNat (by omega)
  have c := e2 k.toInt.toNat (by omega)
  exact ⟨by omega, c.1, c.2, by omega⟩
theorem GB4.ea (h : GB4 B S) {b : Int32} (hb : 0 ≤ b.toInt ∧ b.toInt ≤ (qI S 52 1).toInt) : 0 ≤ (qI S (qO S 52 4) b.toInt.toNat).toInt := (h.1.2.2.2.1 b.toInt.toNat (by omega)).1
theorem GB4.ba (h : GB4 B S) {b : Int32} (hb : 0 ≤ b.toInt ∧ b.toInt ≤ (qI S 52 1).toInt) : 0 ≤ (qI S (qO S 52 6) b.toInt.toNat).toInt := (h.2.1 b.toInt.toNat (by omega)).1
theorem GB4.bk (h : GB4 B S) {b k : Int32} (hb : 0 ≤ b.toInt ∧ b.toInt < (qI S 52 1).toInt) (h0 : gi S 6 b.toInt.toNat ≤ k.toInt) (hk : k.toInt < gi S 6 (b.toInt + 1).toNat) : (0 ≤ k.toInt ∧ k.toInt < (qN S (qO S 52 7) : Int)) ∧ 0 ≤ (qI S (qO S 52 7) k.toInt.toNat).toInt ∧ (qI S (qO S 52 7) k.toInt.toNat).toInt < (qI S 52 1).toInt ∧ k.toInt < 32768 := by
  obtain ⟨b1, b2⟩ := h.2
  have a := b1 (b.toInt + 1).toNat (by omega)
  have a0 := b1 b.toInt.toNat (by omega)
  have z : b.toInt.toNat + 1 = (b.toInt + 1).toNat := by omega
  have c := b2 b.toInt.toNat k.toInt.toNat (by omega) (by omega) (by rw [z]; omega)
  have l := h.1.1.1.2.1.2.2
  have l7 : qN S (qO S 52 7) ≤ 32768 := by
    rcases l with q | q
    · omega
    · exact (e2_le _ q).2
  exact ⟨by omega, c.1, c.2, by omega⟩
theorem t_add1 {b : Int32} (h : -2 ≤ b.toInt ∧ b.toInt ≤ 1000000) : (b + (1 : Int32)).toInt = b.toInt + 1 := by rw [t_addk (by rw [li_1k]; omega), li_1k]
theorem nr_J95 {Q : Int32 → MS → Prop} {k5 : MS → Int32 → Int32 → Int32 → Int32 → Prop} {t0 t1 v1 v2 v4 : Int32} {v7 : Int64} (h : GB4 B U) (h1 : 0 ≤ v1.toInt ∧ v1.toInt < (qI U 52 1).toInt) (h4 : 0 ≤ v4.toInt ∧ v4.toInt < (qI U 52 10).toInt) (ht : t1 = 0 ∨ t1 = 1) (hk : ∀ (V : MS) (r a : Int32), GB4 B V → GqI U V → (r = 0 ∨ r = 1) → a = v4 + Int32.ofInt 1 → k5 V v1 v2 r a) : w_X3_narrow_J95 Q k5 U t0 t1 v1 v2 v4 v7 := by
  unfold w_X3_narrow_J95
  intro w ht0 a24 e24
  refine ⟨h.dx h1 h4, fun S29 e29 k29 w29 a ea => ?_⟩
  have H := h.wj w e29 k29
  exact hk S29 a24 a H.1 H.2 (by rw [e24]; exact bit_or ht ht0) ea
theorem nr_J33 {Q : Int32 → MS → Prop} {k5 : MS → Int32 → Int32 → Int32 → Int32 → Prop} {t0 : Int64} {v1 v2 v3 v4 : Int32} (h : GB4 B U) (h1 : 0 ≤ v1.toInt ∧ v1.toInt < (qI U 52 1).toInt) (h2 : 0 ≤ v2.toInt ∧ v2.toInt < (qI U 52 1).toInt) (h4 : 0 ≤ v4.toInt ∧ v4.toInt < (qI U 52 10).toInt) (ht : v3 = 0 ∨ v3 = 1) (hk : ∀ (V : MS) (r a : Int32), GB4 B V → GqI U V → (r = 0 ∨ r = 1) → a = v4 + Int32.ofInt 1 → k5 V v1 v2 r a) : w_X3_narrow_J33 Q k5 U t0 v1 v2 v3 v4 := by
  unfold w_X3_narrow_J33
  intro w
  exact ⟨h.dx h1 h4, h.dx h2 h4, fun a16 _ => ⟨h.dx h1 h4, fun _ => nr_J95 h h1 h4 ht hk, fun _ => nr_J95 h h1 h4 ht hk⟩⟩
theorem nr_L5 {v1 v2 : Int32} {ν ω : Int} (hω : ω ≤ 19) (h1 : 0 ≤ v1.toInt ∧ v1.toInt < ν) (h2 : 0 ≤ v2.toInt ∧ v2.toInt < ν) : ∀ (n : Nat) {U : MS} {v3 v4 : Int32}, GB4 B U → (qI U 52 1).toInt = ν → (qI U 52 10).toInt = ω → (v3 = 0 ∨ v3 = 1) → 0 ≤ v4.toInt → 2147483648 - v4.toInt < n → w_X3_narrow_L5 (fun _ u => True) n U v1 v2 v3 v4 := by
  intro n
  induction n with
  | zero =>
    intro U v3 v4 h eν eω _ h0 hm
    have := rgI v4
    omega
  | succ n ih =>
    intro U v3 v4 h eν eω hb h0 hm
    unfold w_X3_narrow_L5
    intro w
    have nx : ∀ (V : MS) (r a : Int32), ¬ (qI U 52 10).toInt ≤ v4.toInt → GB4 B V → GqI U V → (r = 0 ∨ r = 1) → a = v4 + Int32.ofInt 1 → w_X3_narrow_L5 (fun _ u => True) n V v1 v2 r a := fun V r a c hV gV hr ea => by
      have e := t_inc ea (by omega)
      exact ih hV (by rw [gV.N]; exact eν) (by rw [gV.2.1]; exact eω) hr (by omega) (by omega)
    exact ⟨fun c => ⟨hb, trivial⟩, fun c => ⟨fun _ => nr_J33 h (by omega) (by omega) (by omega) hb (fun V r a p1 p2 p3 p4 => nx V r a c p1 p2 p3 p4), fun _ => nr_J33 h (by omega) (by omega) (by omega) hb (fun V r a p1 p2 p3 p4 => nx V r a c p1 p2 p3 p4)⟩⟩
theorem sp_narrow {x1 x2 : Int32} (w : wfC S) (h : GB4 B S) (h1 : 0 ≤ x1.toInt ∧ x1.toInt < (qI S 52 1).toInt) (h2 : 0 ≤ x2.toInt ∧ x2.toInt < (qI S 52 1).toInt) : wX3_narrow S x1 x2 (fun _ u => True ∧ cfr [401] [] S u) := by
  refine frX3_narrow w ?_
  have n := h.num.1
  unfold wX3_narrow
  exact ⟨2147483649, nr_L5 (ω := (qI S 52 10).toInt) (by omega) h1 h2 _ h rfl rfl (Or.inl rfl) (by decide) (by rw [li_0k]; decide)⟩
theorem sp_domCount {x1 : Int32} (w : wfC S) (h : GB4 B S) (h1 : 0 ≤ x1.toInt ∧ x1.toInt < (qI S 52 1).toInt) : wX3_dominatorCount S x1 (fun _ u => u = S) := by
  have n := h.num.1
  unfold wX3_dominatorCount
  refine ⟨2147483649, ?_⟩
  have L : ∀ (n : Nat) {v2 v3 : Int32}, 0 ≤ v3.toInt → 2147483648 - v3.toInt < n → w_X3_dominatorCount_L4 (fun _ u => u = S) n S x1 v2 v3 := by
    intro n
    induction n with
    | zero =>
      intro v2 v3 h0 hm
      have := rgI v3
      omega
    | succ n ih =>
      intro v2 v3 h0 hm
      unfold w_X3_dominatorCount_L4
      intro w
      refine ⟨fun _ => rfl, fun c => ⟨h.dx h1 ⟨h0, by omega⟩, dd_J13_bitCount_95d88, fun a11 _ a12 ea => ?_⟩⟩
      have e := t_inc ea (by omega)
      exact ih (by omega) (by omega)
  exact L _ (by decide) (by rw [li_0k]; decide)
theorem sp_nearest {x1 : Int32} (w : wfC S) (h : GB4 B S) (h1 : 0 ≤ x1.toInt ∧ x1.toInt < (qI S 52 1).toInt) : wX3_nearestDominator S x1 (fun _ u => u = S) := by
  have nm := h.num.1
  unfold wX3_nearestDominator
  refine ⟨_, sp_domCount w h h1, ?_⟩
  rintro r2 S3 rfl w3 s3 a6 _
  refine ⟨2147483649, ?_⟩
  have L : ∀ (n : Nat) {v2 v3 : Int32}, 0 ≤ v3.toInt → 2147483648 - v3.toInt < n → w_X3_nearestDominator_L10 (fun _ u => u = S3) n S3 x1 v2 v3 := by
    intro n
    induction n with
    | zero =>
      intro v2 v3 h0 hm
      have := rgI v3
      omega
    | succ n ih =>
      intro v2 v3 h0 hm
      unfold w_X3_nearestDominator_L10
      intro w
      have nx : ¬ (qI S3 52 1).toInt ≤ v3.toInt → w_X3_nearestDominator_J43 (fun _ u => u = S3) (w_X3_nearestDominator_L10 (fun _ u => u = S3) n) S3 x1 v2 v3 := fun c => by
        unfold w_X3_nearestDominator_J43
        intro _ a ea
        have e := t_inc ea (by omega)
        exact ih (by omega) (by omega)
      refine ⟨fun _ => rfl, fun c => ⟨fun _ => nx c, fun _ => ⟨h.dm ⟨h0, by omega⟩ h1, fun _ => nx c, fun _ => ⟨_, sp_domCount w h ⟨h0, by omega⟩, ?_⟩⟩⟩⟩
      rintro r15 S16 rfl w16 s16
      exact ⟨fun _ => rfl, fun _ => nx c⟩
  exact L _ (by decide) (by rw [li_0k]; decide)
end GD
/-! findDominators, findReached -/
section GX
variable {B : Nat × Nat} {S u v U : MS} {Q : MS → Prop}
theorem fd_J163 {k132 : MS → Int32 → Prop} {t0 v2 : Int32} {t2 : Nat} (h : GB4 B U) (e2 : t2 = qO U 52 11) (h2 : 0 ≤ v2.toInt ∧ v2.toInt < (qI U 52 1).toInt) (hk : ∀ (V : MS) (a : Int32), GB4 B V → GqI U V → a = v2 + Int32.ofInt 1 → k132 V a) : w_X3_findDominators_J163 Q k132 U t0 v2 t2 v2 := by
  unfold w_X3_findDominators_J163
  intro w k2
  have n := h.num
  rw [e2] at k2 ⊢
  refine ⟨by omega, fun S13 e13 k13 w13 a ea => ?_⟩
  have H := h.w w e13 k13 rfl
  exact hk S13 a H.1 H.2.1 ea
theorem fd_L132 {ν : Int} (hν : ν ≤ 1200) (hQ : ∀ V : MS, wfC V → GB4 B V → Q V) : ∀ (n : Nat) {U : MS} {v2 : Int32}, GB4 B U → (qI U 52 1).toInt = ν → 0 ≤ v2.toInt → 2147483648 - v2.toInt < n → w_X3_findDominators_L132 Q n U v2 := by
  intro n
  induction n with
  | zero => intro U v2 _ _ h0 hm; have := rgI v2; omega
  | succ n ih =>
    intro U v2 h eν h0 hm
    have nm := h.num
    unfold w_X3_findDominators_L132
    intro w
    have nx : ¬ (qI U 52 1).toInt ≤ v2.toInt → ∀ (V : MS) (a : Int32), GB4 B V → GqI U V → a = v2 + Int32.ofInt 1 → w_X3_findDominators_L132 Q n V a := fun c V a hV gV ea => by
      have e := t_inc ea (by omega)
      exact ih hV (by rw [gV.N]; exact eν) (by omega) (by omega)
    refine ⟨fun c => hQ U w h, fun c => ⟨by omega, fun _ => fd_J163 h rfl (by omega) (nx c), fun _ => ⟨_, sp_nearest w h (by omega), ?_⟩⟩⟩
    rintro r17 S18 rfl w18 s18
    exact fd_J163 h rfl (by omega) (nx c)
theorem fd_L75 {k59 : MS → Int32 → Int32 → Int32 → Prop} {v2 v3 : Int32} {ν : Int} (h3 : 0 ≤ v3.toInt ∧ v3.toInt < ν ∧ ν ≤ 1200) (hk : ∀ (V : MS) (r a : Int32), GB4 B V → (qI V 52 1).toInt = ν → a = v3 + Int32.ofInt 1 → k59 V r v2 a) : ∀ (n : Nat) {U : MS} {v1 v4 : Int32}, GB4 B U → (qI U 52 1).toInt = ν → 0 ≤ v4.toInt → 2147483648 - v4.toInt < n → w_X3_findDominators_L75 Q k59 n U v1 v2 v3 v4 := by
  intro n
  induction n with
  | zero => intro U v1 v4 _ _ h0 hm; have := rgI v4; omega
  | succ n ih =>
    intro U v1 v4 h eν h0 hm
    have nm := h.num
    have e1 := t_add1 (b := v3) (by omega)
    unfold w_X3_findDominators_L75
    intro w
    have J : w_X3_findDominators_J118 Q k59 U v1 v2 v3 := by
      unfold w_X3_findDominators_J118
      exact fun _ a ea => hk U v1 a h eν ea
    rw [e1]
    refine ⟨by omega, fun _ => J, fun _ => ⟨by omega, fun _ => J, fun c => ?_⟩⟩
    have ed := h.ed (b := v3) (k := v4) (by omega) h0 (by unfold gi; omega)
    refine ⟨by omega, _, sp_narrow w h (by omega) (by omega), fun r43 S44 q w44 s44 a47 _ a48 ea => ?_⟩
    have H := h.c w q.2 s44 w44 rfl
    have e := t_inc ea (by omega)
    exact ih H.1 (by rw [H.2.N]; exact eν) (by omega) (by omega)
theorem fd_L59 {k45 : MS → Int32 → Int32 → Prop} {v2 : Int32} {ν : Int} (hν : ν ≤ 1200) (hk : ∀ (V : MS) (r a : Int32), GB4 B V → (qI V 52 1).toInt = ν → a = v2 + Int32.ofInt 1 → k45 V r a) : ∀ (n : Nat) {U : MS} {v1 v3 : Int32}, GB4 B U → (qI U 52 1).toInt = ν → 0 ≤ v3.toInt → 2147483648 - v3.toInt < n → w_X3_findDominators_L59 Q k45 n U v1 v2 v3 := by
  intro n
  induction n with
  | zero => intro U v1 v3 _ _ h0 hm; have := rgI v3; omega
  | succ n ih =>
    intro U v1 v3 h eν h0 hm
    have nm := h.num
    unfold w_X3_findDominators_L59
    intro w
    refine ⟨fun c a ea => hk U v1 a h eν ea, fun c => ⟨by omega, fun a27 e27 => ⟨2147483649, fd_L75 (ν := ν) (by omega) (fun V r a hV eV ea => ?_) _ h eν ?_ ?_⟩⟩⟩
    · have e := t_inc ea (by omega)
      exact ih hV eV (by omega) (by omega)
    · rw [e27]; exact h.ea (by omega)
    · have := h.ea (b := v3) (by omega)
      rw [← e27] at this
      omega
theorem fd_J130 (h : GB4 B U) (hQ : ∀ V : MS, wfC V → GB4 B V → Q V) : w_X3_findDominators_J130 Q U := by
  unfold w_X3_findDominators_J130
  exact fun _ => ⟨2147483649, fd_L132 (ν := (qI U 52 1).toInt) (by have := h.num.1; omega) hQ _ h rfl (by decide) (by rw [li_0k]; decide)⟩
theorem fd_L45 {ν : Int} (hν : ν ≤ 1200) (hQ : ∀ V : MS, wfC V → GB4 B V → Q V) : ∀ (n : Nat) {U : MS} {v1 v2 : Int32}, GB4 B U → (qI U 52 1).toInt = ν → 2147483648 - v2.toInt < n → w_X3_findDominators_L45 Q n U v1 v2 := by
  intro n
  induction n with
  | zero => intro U v1 v2 _ _ hm; have := rgI v2; omega
  | succ n ih =>
    intro U v1 v2 h eν hm
    unfold w_X3_findDominators_L45
    intro w
    refine ⟨fun _ => fd_J130 h hQ, fun _ => ⟨fun _ => fd_J130 h hQ, fun c => ⟨2147483649, fd_L59 hν (fun V r a hV eV ea => ?_) _ h eν (by decide) (by rw [li_0k]; decide)⟩⟩⟩
    have e := t_inc ea (by omega)
    exact ih hV eV (by omega)
theorem fd_J34 {k12 : MS → Int32 → Prop} {t0 : Int64} {v1 : Int32} (h : GB4 B U) (h1 : 0 ≤ v1.toInt ∧ v1.toInt < (qI U 52 10).toInt) (hk : ∀ (V : MS) (a : Int32), GB4 B V → GqI U V → a = v1 + Int32.ofInt 1 → k12 V a) : w_X3_findDominators_J34 Q k12 U t0 v1 (qO U 52 9) v1 := by
  unfold w_X3_findDominators_J34
  intro w k9
  have n := h.num.1
  have z : ((0 : Int32) * (qI U 52 10) + v1) = v1 := by rw [Int32.zero_mul, Int32.zero_add]
  have dx := h.dx (c := 0) (x := v1) (by rw [li_0k]; omega) h1
  rw [z] at dx
  refine ⟨dx, fun S51 e51 k51 w51 a ea => ?_⟩
  have H := h.wj w e51 k51
  exact hk S51 a H.1 H.2 ea
theorem fd_L12 {ν ω : Int} (hν : ν ≤ 1200) (hω : ω ≤ 19) (hQ : ∀ V : MS, wfC V → GB4 B V → Q V) : ∀ (n : Nat) {U : MS} {v1 : Int32}, GB4 B U → (qI U 52 1).toInt = ν → (qI U 52 10).toInt = ω → 0 ≤ v1.toInt → 2147483648 - v1.toInt < n → w_X3_findDominators_L12 Q n U v1 := by
  intro n
  induction n with
  | zero => intro U v1 _ _ _ h0 hm; have := rgI v1; omega
  | succ n ih =>
    intro U v1 h eν eω h0 hm
    unfold w_X3_findDominators_L12
    intro w
    have nx : ¬ (qI U 52 10).toInt ≤ v1.toInt → ∀ (V : MS) (a : Int32), GB4 B V → GqI U V → a = v1 + Int32.ofInt 1 → w_X3_findDominators_L12 Q n V a := fun c V a hV gV ea => by
      have e := t_inc ea (by omega)
      exact ih hV (by rw [gV.N]; exact eν) (by rw [gV.2.1]; exact eω) (by omega) (by omega)
    exact ⟨fun _ => ⟨2147483649, fd_L45 hν hQ _ h eν (by rw [li_0k]; decide)⟩, fun c => ⟨fun _ => fd_J34 h (by omega) (nx c), fun _ => fd_J34 h (by omega) (nx c)⟩⟩
theorem sp_findDominators (w : wfC S) (h : GB4 B S) : wX3_findDominators S (fun u => GB4 B u ∧ cfr [208, 401] [] S u) := by
  refine frX3_findDominators w ?_
  unfold wX3_findDominators
  refine fun k => ⟨_, frJ7_fill_d0a16 k (by decide) (sfJ7_fill_d0a16 w k (by decide)), fun S3 q3 w3 s3 => ?_⟩
  have H := h.c w q3.2 s3 w3 rfl
  have n := H.1.num.1
  exact ⟨2147483649, fd_L12 (ν := (qI S3 52 1).toInt) (ω := (qI S3 52 10).toInt) (by omega) (by omega) (fun V _ q => q) _ H.1 rfl rfl (by decide) (by rw [li_0k]; decide)⟩
/-- how many are zero -/
def zC (f : Nat → Int) : Nat → Nat
  | 0 => 0
  | k + 1 => zC f k + (if f k = 0 then 1 else 0)
theorem zC_s {f : Nat → Int} {k : Nat} : zC f (k + 1) = zC f k + (if f k = 0 then 1 else 0) := rfl
theorem zC_0 {f : Nat → Int} {k : Nat} (h : f 0 ≠ 0) : zC f (k + 1) ≤ k := by
  induction k with
  | zero => rw [zC_s, if_neg h]; exact Nat.le_refl _
  | succ k ih => rw [zC_s]; split <;> omega
theorem zC_eq {f g : Nat → Int} {k : Nat} (h : ∀ i, i < k → g i = f i) : zC g k = zC f k := by
  induction k with
  | zero => rfl
  | succ k ih => rw [zC_s, zC_s, ih (fun i hi => h i (by omega)), h k (by omega)]
theorem zC_dn {f g : Nat → Int} {i k : Nat} (hi : i < k) (h : ∀ j, j ≠ i → g j = f j) (h0 : f i = 0) (h1 : g i ≠ 0) : zC g k + 1 = zC f k := by
  induction k with
  | zero => omega
  | succ k ih =>
    rw [zC_s, zC_s]
    by_cases z : i = k
    · subst z
      rw [zC_eq (f := f) (fun j hj => h j (by omega)), if_neg h1, if_pos h0]
    · rw [h k (by omega), ← ih (by omega)]
      omega
/-- the blocks that wait -/
def WtIk (U : MS) (n : Int) : Prop := (0 ≤ n ∧ n ≤ (qN U (qO U 52 15) : Int)) ∧ ∀ i : Nat, (i : Int) < n → 0 ≤ gi U 15 i ∧ gi U 15 i < (qI U 52 1).toInt
def RcI (ν : Nat) (U : MS) (n : Int) : Prop := (qI U 52 1).toInt = ν ∧ WtIk U n ∧ n + zC (gi U 8) ν ≤ ν
theorem fr_L72 {k42 : MS → Int32 → Int32 → Prop} {v2 v3 : Int32} {ν : Nat} (h3 : 0 ≤ v3.toInt ∧ v3.toInt < ν) (hk : ∀ (V : MS) (r a : Int32), GB4 B V → RcI ν V r.toInt → a = v2 + Int32.ofInt 1 → k42 V r a) : ∀ (n : Nat) {U : MS} {v1 v4 : Int32}, GB4 B U → RcI ν U v1.toInt → 0 ≤ v4.toInt → 2147483648 - v4.toInt < n → w_X3_findReached_L72 Q k42 n U v1 v2 v3 v4 := by
  intro n
  induction n with
  | zero => intro U v1 v4 _ _ h0 hm; have := rgI v4; omega
  | succ n ih =>
    intro U v1 v4 h r h0 hm
    have nm := h.num
    have eν := r.1
    have e1 := t_add1 (b := v3) (by omega)
    unfold w_X3_findReached_L72
    intro w
    rw [e1]
    refine ⟨by omega, fun c a ea => hk U v1 a h r ea, fun c => ?_⟩
    have ed := h.ed (b := v3) (k := v4) (by omega) h0 (by unfold gi; omega)
    have nx : ∀ (V : MS) (x : Int32), GB4 B V → RcI ν V x.toInt → w_X3_findReached_J129 Q (w_X3_findReached_L72 Q k42 n) V x v2 v3 v4 := fun V x hV rV => by
      unfold w_X3_findReached_J129
      intro _ a ea
      have e := t_inc ea (by omega)
      exact ih hV rV (by omega) (by omega)
    refine ⟨by omega, by omega, fun c0 => ⟨by omega, by omega, fun S36 e36 k36 w36 => ?_⟩, fun _ => nx U v1 h r⟩
    obtain ⟨H, G, g8, go⟩ := h.w w e36 k36 rfl
    have one : (vp_nar .boolean (1 : Int32)).toInt ≠ 0 := by decide
    have zd := zC_dn (f := gi U 8) (g := gi S36 8) (i := (qI U (qO U 52 5) v4.toInt.toNat).toInt.toNat) (k := ν) (by omega) (fun j hj => by rw [g8, if_neg hj]) c0 (by rw [g8, if_pos rfl]; exact one)
    have r2 := r.2.1.1
    have r3 := r.2.2
    have l15 : (qN S36 (qO S36 52 15) : Int) = (qN U (qO U 52 15) : Int) := G.L (by decide)
    have l5 : (qN S36 (qO S36 52 5) : Int) = (qN U (qO U 52 5) : Int) := G.L (by decide)
    refine ⟨by omega, by omega, fun S42 e42 k42' w42 a43 ea => ?_⟩
    obtain ⟨H2, G2, g15, go2⟩ := H.w w36 e42 k42' rfl
    have e := t_inc ea (by omega)
    have g5 : (qI S36 (qO S36 52 5) v4.toInt.toNat).toInt = (qI U (qO U 52 5) v4.toInt.toNat).toInt := go 5 205 w.g5 (by decide) v4.toInt.toNat
    have g8' : ∀ k, gi S42 8 k = gi S36 8 k := go2 8 303 w36.g8 (by decide)
    have g15a : ∀ k, gi S36 15 k = gi U 15 k := go 15 212 w.g15 (by decide)
    refine nx S42 a43 H2 ⟨by rw [G2.N, G.N]; exact eν, ⟨⟨by omega, by rw [G2.L (by decide), l15]; omega⟩, fun i hi => ?_⟩, ?_⟩
    · rw [G2.N, G.N, g15]
      split
      · rw [g5]; omega
      · rw [g15a]; exact r.2.1.2 i (by omega)
    · rw [zC_eq (f := gi S36 8) (fun i _ => g8' i)]
      omega
theorem fr_L42 {ν : Nat} (hQ : ∀ V : MS, wfC V → GB4 B V → Q V) : ∀ (n : Nat) {U : MS} {v1 v2 : Int32}, GB4 B U → RcI ν U v1.toInt → 0 ≤ v2.toInt → 2147483648 - v2.toInt < n → w_X3_findReached_L42 Q n U v1 v2 := by
  intro n
  induction n with
  | zero => intro U v1 v2 _ _ h0 hm; have := rgI v2; omega
  | succ n ih =>
    intro U v1 v2 h r h0 hm
    have nm := h.num
    have eν := r.1
    have r2 := r.2.1.1
    have r3 := r.2.2
    unfold w_X3_findReached_L42
    intro w
    refine ⟨fun _ => hQ U w h, fun c => ⟨fun _ => hQ U w h, fun c2 a7 e7 => ?_⟩⟩
    have e := t_dec e7
    have e' : a7.toInt = v1.toInt - 1 := by have := rgI v1; omega
    refine ⟨by omega, fun a11 e11 => ?_⟩
    have wt : 0 ≤ a11.toInt ∧ a11.toInt < (qI U 52 1).toInt := by
      rw [e11]
      exact r.2.1.2 a7.toInt.toNat (by omega)
    refine ⟨by omega, fun a15 e15 => ⟨2147483649, fr_L72 (ν := ν) (by omega) (fun V x a hV rV ea => ?_) _ h ⟨eν, ⟨⟨by omega, by omega⟩, fun i hi => r.2.1.2 i (by omega)⟩, by omega⟩ (by rw [e15]; exact h.ea (by omega)) (by have := h.ea (b := a11) (by omega); rw [← e15] at this; omega)⟩⟩
    have e2 := t_inc ea (by omega)
    exact ih hV rV (by omega) (by omega)
theorem fr_J24 {k2 : MS → Int32 → Prop} {t0 v1 : Int32} (h : GB4 B U) (h1 : 0 ≤ v1.toInt ∧ v1.toInt < (qI U 52 1).toInt) (hk : ∀ (V : MS) (a : Int32), GB4 B V → GqI U V → (∀ k, gi V 8 k = if k = v1.toInt.toNat then (vp_nar .boolean t0).toInt else gi U 8 k) → a = v1 + Int32.ofInt 1 → k2 V a) : w_X3_findReached_J24 Q k2 U t0 v1 (qO U 52 8) v1 := by
  unfold w_X3_findReached_J24
  intro w k8 _
  have n := h.num
  refine ⟨by omega, fun S46 e46 k46 w46 a ea => ?_⟩
  obtain ⟨H, G, g8, go⟩ := h.w w e46 k46 rfl
  exact hk S46 a H G g8 ea
theorem fr_L2 {ν : Nat} (hQ : ∀ V : MS, wfC V → GB4 B V → Q V) : ∀ (n : Nat) {U : MS} {v1 : Int32}, GB4 B U → (qI U 52 1).toInt = ν → 0 ≤ v1.toInt → (1 ≤ v1.toInt → gi U 8 0 ≠ 0) → 2147483648 - v1.toInt < n → w_X3_findReached_L2 Q n U v1 := by
  intro n
  induction n with
  | zero => intro U v1 _ _ h0 _ hm; have := rgI v1; omega
  | succ n ih =>
    intro U v1 h eν h0 hz hm
    have nm := h.num
    unfold w_X3_findReached_L2
    intro w
    refine ⟨fun c => ⟨by omega, fun S4 e4 k4 w4 => ?_⟩, fun c => ⟨fun c0 => fr_J24 h (by omega) (fun V a hV gV g8 ea => ?_), fun c0 => fr_J24 h (by omega) (fun V a hV gV g8 ea => ?_)⟩⟩
    · obtain ⟨H, G, g15, go⟩ := h.w w e4 k4 rfl
      have g8 : ∀ k, gi S4 8 k = gi U 8 k := go 8 303 w.g8 (by decide)
      obtain ⟨m, hm'⟩ : ∃ m, ν = m + 1 := ⟨ν - 1, by omega⟩
      have zz := zC_0 (f := gi S4 8) (k := m) (by rw [g8]; exact hz (by omega))
      rw [← hm'] at zz
      refine ⟨2147483649, fr_L42 (ν := ν) hQ _ H ⟨by rw [G.N]; exact eν, ⟨⟨by decide, by rw [G.L (by decide), li_1k]; omega⟩, fun i hi => ?_⟩, by rw [li_1k]; omega⟩ (by decide) (by rw [li_0k]; decide)⟩
      rw [li_1k] at hi
      rw [g15, if_pos (by omega), G.N, li_0k]
      omega
    · have e := t_inc ea (by omega)
      refine ih hV (by rw [gV.N]; exact eν) (by omega) (fun _ => ?_) (by omega)
      rw [g8, if_pos (by omega)]
      decide
    · have e := t_inc ea (by omega)
      refine ih hV (by rw [gV.N]; exact eν) (by omega) (fun _ => ?_) (by omega)
      rw [g8, if_neg (by omega)]
      exact hz (by omega)
theorem sp_findReached (w : wfC S) (h : GB4 B S) : wX3_findReached S (fun u => GB4 B u ∧ cfr [212, 303] [] S u) := by
  refine frX3_findReached w ?_
  have n := h.num.1
  unfold wX3_findReached
  exact ⟨2147483649, fr_L2 (ν := (qI S 52 1).toInt.toNat) (fun V _ q => q) _ h (by omega) (by decide) (fun z => by rw [li_0k] at z; omega) (by rw [li_0k]; decide)⟩
end GX
