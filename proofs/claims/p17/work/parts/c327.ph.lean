/-! pointersHold, tableRoom: safe -/
theorem cfr.k98 {K : List Nat} {F : List (Nat × Nat)} {S u : MS} (w : wfC S) (f : cfr K F S u) (hK : K.contains 46 = false) (h : F.contains (46, 8) = false) : qI u 9 8 = qI S 9 8 := by
  have k9 : qT S 9 = 46 := (w.2.1 _ finC_2).2.1
  exact (f.2.2 9 8 (by rw [k9]; decide) (by rw [k9]; exact hK) (by rw [k9]; exact h)).1
theorem cfr.k82 {K : List Nat} {F : List (Nat × Nat)} {S u : MS} (w : wfC S) (f : cfr K F S u) (hK : K.contains 42 = false) (h : F.contains (42, 2) = false) : qI u 8 2 = qI S 8 2 := by
  have k8 : qT S 8 = 42 := (w.2.1 _ finC_26).2.1
  exact (f.2.2 8 2 (by rw [k8]; decide) (by rw [k8]; exact hK) (by rw [k8]; exact h)).1
theorem sf_ptC {S0 : MS} {k2 : MS → Int32 → Prop} {v1 : Int32} (h9 : 0 ≤ (qI S0 9 1).toInt) (hk : ∀ U : MS, smX S0 U → qI U 9 8 = qI S0 9 8 → ∀ a : Int32, a = v1 + Int32.ofInt 1 → k2 U a) : ∀ (n : Nat) {U : MS} {v : Int32}, smX S0 U → qI U 9 8 = qI S0 9 8 → 0 ≤ v.toInt → 2147483648 - v.toInt < n → w_X2_pointersHold_L77 (fun _ _ => True) k2 n U v1 v := by
  intro n
  induction n with
  | zero => intro U v h e8 h0 hn; have := rgI v; exfalso; omega
  | succ n ih =>
    intro U v h e8 h0 hn
    unfold w_X2_pointersHold_L77
    intro w
    refine ⟨fun _ a e => hk U h e8 a e, fun c => ⟨_, frX2_catchHolds w (sfX2_catchHolds w (h.h9 h9) (w.2.1 _ finC_2).2.1), ?_⟩⟩
    rintro r14 S15 ⟨_, f15⟩ w15 _
    have m15 : smX S0 S15 := h.tr (cfr.sm w f15 (by decide) (by decide) (by decide) (by decide) (fun _ => rfl))
    refine ⟨fun _ => ⟨_, sfX7_breaks w15, fun _ _ _ _ _ => trivial⟩, fun _ a e => ?_⟩
    have := rgI (qI U 8 6)
    have ea : a.toInt = v.toInt + 1 := by rw [e, t_add (by rw [show (Int32.ofInt 1).toInt = 1 from rfl]; omega)]; rfl
    exact ih m15 ((f15.k98 w rfl rfl).trans e8) (by omega) (by omega)
theorem sf_ptI {S0 : MS} {k2 : MS → Int32 → Prop} {v1 : Int32} (h9 : 0 ≤ (qI S0 9 1).toInt) (hs : (qI S0 8 2).toInt ≤ 1200) (hk : ∀ U : MS, smX S0 U → qI U 9 8 = qI S0 9 8 → ∀ a : Int32, a = v1 + Int32.ofInt 1 → k2 U a) : ∀ (n : Nat) {U : MS} {v : Int32}, smX S0 U → qI U 9 8 = qI S0 9 8 → qI U 8 2 = qI S0 8 2 → 0 ≤ v.toInt → v.toInt ≤ 4300 → 5000 - v.toInt < n → w_X2_pointersHold_L24 (fun _ _ => True) k2 n U v1 v := by
  intro n
  induction n with
  | zero => intro U v h e8 e2 h0 h1 hn; exfalso; omega
  | succ n ih =>
    intro U v h e8 e2 h0 h1 hn
    unfold w_X2_pointersHold_L24
    intro w
    refine ⟨fun _ => ⟨2147483650, sf_ptC h9 hk 2147483650 h e8 (by decide) (by decide)⟩, fun c => ⟨_, frX2_decode w (sfX2_decode w (h.h9 h9) (w.2.1 _ finC_2).2.1), ?_⟩⟩
    rw [e2] at c
    rintro S26 ⟨_, f26⟩ w26 _
    have m26 : smX S0 S26 := h.tr (cfr.sm w f26 (by decide) (by decide) (by decide) (by decide) (fun _ => rfl))
    refine ⟨_, frX2_pointsWell w26 (sfX2_pointsWell w26 (m26.h9 h9) (w26.2.1 _ finC_2).2.1), ?_⟩
    rintro r29 S30 ⟨_, f30⟩ w30 _
    have m30 : smX S0 S30 := m26.tr (cfr.sm w26 f30 (by decide) (by decide) (by decide) (by decide) (fun _ => rfl))
    refine ⟨fun _ => ⟨_, sfX7_breaks w30, fun _ _ _ _ _ => trivial⟩, fun _ => ?_⟩
    obtain ⟨r, hr⟩ := ex_lengthAt (S := S30) (o := v) (m30.h9 h9) ⟨h0, by omega⟩
    refine ⟨_, sp_lengthAt hr, ?_⟩
    rintro r' u ⟨rfl, rfl⟩ wu _ a e
    have hm1 := mx1 hr.1
    have ea : a.toInt = v.toInt + (if (1 : Int32) < r' then r' else (1 : Int32)).toInt := by rw [e, t_add (by omega)]
    exact ih m30 ((f30.k98 w26 rfl rfl).trans ((f26.k98 w rfl rfl).trans e8)) ((f30.k82 w26 rfl rfl).trans ((f26.k82 w rfl rfl).trans e2)) (by omega) (by omega) (by omega)
theorem sf_ptO {S : MS} (h9 : 0 ≤ (qI S 9 1).toInt) (hm : (qI S 9 8).toInt ≤ 60000) : ∀ (n : Nat) {U : MS} {v : Int32}, smX S U → qI U 9 8 = qI S 9 8 → 0 ≤ v.toInt → v.toInt ≤ 60000 → 60001 - v.toInt < n → w_X2_pointersHold_L2 (fun _ _ => True) n U v := by
  intro n
  induction n with
  | zero => intro U v h e8 h0 h1 hn; exfalso; omega
  | succ n ih =>
    intro U v h e8 h0 h1 hn
    unfold w_X2_pointersHold_L2
    intro wU
    refine ⟨fun _ => trivial, fun c => ?_⟩
    refine ⟨_, frX2_lookAt wU (sp_lookAt (Q := fun u => LoQ U (stV U v) u) (h.h9 h9) (fun u q => q)), ?_⟩
    rintro u ⟨q, f⟩ wu _
    have mu : smX S u := h.tr q.1
    have s2 : (qI u 8 2).toInt ≤ 1200 := by rw [q.2.2.1]; exact szV_rg
    rw [e8] at c
    refine ⟨_, frX2_numberInstructions wu (sp_numberInstructions (Q := fun y => NiQ u y) wu (mu.h9 h9) s2 (fun y q => q)), ?_⟩
    rintro y ⟨qy, fy⟩ wy _
    have my : smX S y := mu.tr qy.1
    have y2 : (qI y 8 2).toInt ≤ 1200 := by rw [qy.2.2 2 (by decide)]; exact s2
    refine ⟨5001, sf_ptI (my.h9 h9) y2 ?_ 5001 smX.rf rfl rfl (by decide) (by decide) (by decide)⟩
    intro z mz ez a e
    have ea : a.toInt = v.toInt + 1 := by rw [e, t_add (by rw [show (Int32.ofInt 1).toInt = 1 from rfl]; omega)]; rfl
    exact ih (my.tr mz) (ez.trans ((fy.k98 wu rfl rfl).trans ((f.k98 wU rfl rfl).trans e8))) (by omega) (by omega) (by omega)
theorem sfX2_pointersHold {S : MS} (h9 : 0 ≤ (qI S 9 1).toInt) (hm : (qI S 9 8).toInt ≤ 60000) : wX2_pointersHold S (fun _ _ => True) := by
  unfold wX2_pointersHold
  exact ⟨60002, sf_ptO h9 hm 60002 smX.rf rfl (by decide) (by decide) (by decide)⟩
theorem sf_trL {S0 : MS} (h9 : 0 ≤ (qI S0 9 1).toInt) (hs : (qI S0 8 2).toInt ≤ 1200) : ∀ (n : Nat) {U : MS} {b v : Int32}, smX S0 U → qI U 8 2 = qI S0 8 2 → 0 ≤ v.toInt → v.toInt ≤ 4300 → 5000 - v.toInt < n → w_X2_tableRoom_L4 (fun _ _ => True) n U b v := by
  intro n
  induction n with
  | zero => intro U b v h e2 h0 h1 hn; exfalso; omega
  | succ n ih =>
    intro U b v h e2 h0 h1 hn
    unfold w_X2_tableRoom_L4
    intro w
    refine ⟨fun _ => trivial, fun c => ⟨_, frX2_decode w (sfX2_decode w (h.h9 h9) (w.2.1 _ finC_2).2.1), ?_⟩⟩
    rw [e2] at c
    rintro S4 ⟨_, f4⟩ w4 _
    have m4 : smX S0 S4 := h.tr (cfr.sm w f4 (by decide) (by decide) (by decide) (by decide) (fun _ => rfl))
    have i2 : qI S4 8 2 = qI S0 8 2 := (f4.k82 w rfl rfl).trans e2
    have J : ∀ b : Int32, w_X2_tableRoom_J59 (fun _ _ => True) (w_X2_tableRoom_L4 (fun _ _ => True) n) S4 b v := by
      intro b
      unfold w_X2_tableRoom_J59
      intro _
      obtain ⟨r, hr⟩ := ex_lengthAt (S := S4) (o := v) (m4.h9 h9) ⟨h0, by omega⟩
      refine ⟨_, sp_lengthAt hr, ?_⟩
      rintro r' u ⟨rfl, rfl⟩ wu _ a e
      have hm1 := mx1 hr.1
      have ea : a.toInt = v.toInt + (if (1 : Int32) < r' then r' else (1 : Int32)).toInt := by rw [e, t_add (by omega)]
      exact ih m4 i2 (by omega) (by omega) (by omega)
    have J6 : ∀ t0 t1 t2 : Int32, w_X2_tableRoom_J56 (fun _ _ => True) (w_X2_tableRoom_L4 (fun _ _ => True) n) S4 t0 t1 t2 v := by
      intro t0 t1 t2
      unfold w_X2_tableRoom_J56
      intro _ a _
      exact J a
    exact ⟨dd_X6_isSwitch, fun _ => J _, fun _ => ⟨dd_X2_switchCount (m4.h9 h9), fun a _ => ⟨fun _ => J6 _ _ _, fun _ => J6 _ _ _⟩⟩⟩
theorem sfX2_tableRoom {S : MS} (h9 : 0 ≤ (qI S 9 1).toInt) (hs : (qI S 8 2).toInt ≤ 1200) : wX2_tableRoom S (fun _ _ => True) := by
  unfold wX2_tableRoom
  exact ⟨5001, sf_trL h9 hs 5001 smX.rf rfl (by decide) (by decide) (by decide)⟩
