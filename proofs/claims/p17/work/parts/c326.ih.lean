/-! instructionsHold, its outer loop -/
theorem sp_ihM {Q : Int32 → MS → Prop} {k2 : MS → Int32 → Prop} {v1 : Int32} {U : MS} (h9 : 0 ≤ (qI U 9 1).toInt) (hs : (qI U 8 2).toInt ≤ 1200) (hk : ∀ a : Int32, a = v1 + Int32.ofInt 1 → k2 U a) (hq : ∀ (r : Int32) (u : MS), smX U u → Q r u) : ∀ (n : Nat) {v : Int32}, 0 ≤ v.toInt → v.toInt ≤ 4300 → 5000 - v.toInt < n → w_X2_instructionsHold_L20 Q k2 n U v1 v := by
  intro n
  induction n with
  | zero => intro v h0 h1 hm; exfalso; omega
  | succ n ih =>
    intro v h0 h1 hm
    unfold w_X2_instructionsHold_L20
    intro wU
    refine ⟨fun c a e => hk a e, fun c => ?_⟩
    obtain ⟨r, hr⟩ := ex_lengthAt (S := U) (o := v) h9 ⟨h0, by omega⟩
    refine ⟨_, sp_lengthAt hr, ?_⟩
    rintro r' u ⟨rfl, hu⟩ wu _
    subst hu
    refine ⟨fun c2 => ⟨_, sp_lengthAt hr, ?_⟩, fun c2 => ⟨_, frX7_breaks wu (sfX7_breaks wu), fun r2 u2 q2 w2 _ => hq r2 u2 (cfr.sm wu q2.2 (by decide) (by decide) (by decide) (by decide) (fun _ => rfl))⟩⟩
    rintro r2 u2 ⟨rfl, hu2⟩ wu2 _ a e
    subst hu2
    have hr1 := hr.1
    have ea : a.toInt = v.toInt + r2.toInt := by rw [e, t_add (by omega)]
    exact ih (by omega) (by omega) (by omega)
theorem sp_ihO {S : MS} {Q : Int32 → MS → Prop} (h9 : 0 ≤ (qI S 9 1).toInt) (hm : (qI S 9 8).toInt ≤ 60000) (hq : ∀ (r : Int32) (u : MS), smX S u → Q r u) : ∀ (n : Nat) {U : MS} {v : Int32}, smX S U → qI U 9 8 = qI S 9 8 → 0 ≤ v.toInt → v.toInt ≤ 60000 → 60001 - v.toInt < n → w_X2_instructionsHold_L2 Q n U v := by
  intro n
  induction n with
  | zero => intro U v h e8 h0 h1 hn; exfalso; omega
  | succ n ih =>
    intro U v h e8 h0 h1 hn
    unfold w_X2_instructionsHold_L2
    intro wU
    refine ⟨fun _ => hq _ _ h, fun c => ?_⟩
    refine ⟨_, frX2_lookAt wU (sp_lookAt (Q := fun u => LoQ U (stV U v) u) (h.h9 h9) (fun u q => q)), ?_⟩
    rintro u ⟨q, f⟩ wu _
    have k9 : qT U 9 = 46 := (wU.2.1 _ finC_2).2.1
    have i8 : qI u 9 8 = qI U 9 8 := (f.2.2 9 8 (by rw [k9]; decide) (by rw [k9]; decide) (by rw [k9]; decide)).1
    have mu : smX S u := h.tr q.1
    rw [e8] at c
    refine ⟨5001, sp_ihM (mu.h9 h9) (by rw [q.2.2.1]; exact szV_rg) ?_ (fun r w m => hq r w (mu.tr m)) 5001 (by decide) (by decide) (by decide)⟩
    intro a e
    have ea : a.toInt = v.toInt + 1 := by rw [e, t_add (by rw [show (Int32.ofInt 1).toInt = 1 from rfl]; omega)]; rfl
    exact ih mu (i8.trans e8) (by omega) (by omega) (by omega)
theorem sp_instructionsHold {S : MS} {Q : Int32 → MS → Prop} (h9 : 0 ≤ (qI S 9 1).toInt) (hm : (qI S 9 8).toInt ≤ 60000) (hq : ∀ (r : Int32) (u : MS), smX S u → Q r u) : wX2_instructionsHold S Q := by
  unfold wX2_instructionsHold
  exact ⟨60002, sp_ihO h9 hm hq 60002 smX.rf rfl (by decide) (by decide) (by decide)⟩
