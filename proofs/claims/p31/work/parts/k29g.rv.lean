def v_outLocal (S : MS) (x1 : Int32) (x2 : Int32) (x3 : Int32) (uo : MS) : Prop := ((4 ≤ x2.toInt ∧ (∃ (S5 : MS), v_out S (((x1 <<< ((8 : Int32) &&& 31)) ||| x2).toInt64) (2 : Int32) S5 ∧ (uo = S5))) ∨ (¬ 4 ≤ x2.toInt ∧ (∃ (S9 : MS), v_out S ((x3 + x2).toInt64) (1 : Int32) S9 ∧ (uo = S9))))
set_option maxRecDepth 100000 in
theorem ru_outLocal {S : MS} {x1 : Int32} {x2 : Int32} {x3 : Int32} {Q : MS → Prop} (h : w_outLocal S x1 x2 x3 Q) : ∃ uo, v_outLocal S x1 x2 x3 uo ∧ Q uo := by
  have i0 : Unit := ()
  have K : ∀ (i : Unit) (uo : MS), v_outLocal S x1 x2 x3 uo → v_outLocal S x1 x2 x3 uo := fun _ _ z => z
  unfold w_outLocal at h
  by_cases c : 4 ≤ x2.toInt
  · replace h := h.1 c
    replace K := fun i uo z => K i uo (Or.inl ⟨c, z⟩)
    obtain ⟨Q9, h0, h⟩ := h
    obtain ⟨S5, z9, g9⟩ := ru_out h0
    replace h := h S5 g9
    replace K := fun i uo z => K i uo ⟨S5, z9, z⟩
    exact ⟨_, K i0 _ rfl, h⟩
  · replace h := h.2 c
    replace K := fun i uo z => K i uo (Or.inr ⟨c, z⟩)
    obtain ⟨Q9, h0, h⟩ := h
    obtain ⟨S9, z9, g9⟩ := ru_out h0
    replace h := h S9 g9
    replace K := fun i uo z => K i uo ⟨S9, z9, z⟩
    exact ⟨_, K i0 _ rfl, h⟩
set_option maxRecDepth 100000 in
theorem vw_outLocal {S : MS} {x1 : Int32} {x2 : Int32} {x3 : Int32} {uo : MS} (h : v_outLocal S x1 x2 x3 uo) : w_outLocal S x1 x2 x3 (fun u => u = uo) := by
  unfold v_outLocal at h
  unfold w_outLocal
  rcases h with ⟨c, h⟩ | ⟨c, h⟩
  · refine ⟨fun _ => ?_, fun c2 => absurd c c2⟩
    obtain ⟨q9, z9, h⟩ := h
    refine ⟨_, vw_out z9, ?_⟩
    intro q8 d9
    subst d9
    exact h.symm
  · refine ⟨fun c2 => absurd c2 c, fun _ => ?_⟩
    obtain ⟨q9, z9, h⟩ := h
    refine ⟨_, vw_out z9, ?_⟩
    intro q8 d9
    subst d9
    exact h.symm
set_option maxRecDepth 100000 in
theorem vz_outLocal {S : MS} {x1 : Int32} {x2 : Int32} {x3 : Int32} {uo : MS} {Q : MS → Prop} (h : v_outLocal S x1 x2 x3 uo) (w : w_outLocal S x1 x2 x3 Q) : Q uo := by
  unfold v_outLocal at h
  unfold w_outLocal at w
  rcases h with ⟨c, h⟩ | ⟨c, h⟩
  · replace w := w.1 c
    obtain ⟨q9, z9, h⟩ := h
    obtain ⟨Q9, w0, w⟩ := w
    replace w := w q9 (vz_out z9 w0)
    rw [h]
    exact w
  · replace w := w.2 c
    obtain ⟨q9, z9, h⟩ := h
    obtain ⟨Q9, w0, w⟩ := w
    replace w := w q9 (vz_out z9 w0)
    rw [h]
    exact w
def v_outPush_J22 (oo : MS ⊕ MS) (U22 : MS) (v22_1 : Int32) (v22_2 : Int32) : Prop := (d_isByte U22 v22_2 ∧ (((f_isByte U22 v22_2).toInt = 0 ∧ (d_isShort U22 v22_2 ∧ (((f_isShort U22 v22_2).toInt = 0 ∧ ((∃ (r10 : Int32) (S11 : MS), v_needOf U22 v22_1 (.inl (r10, S11)) ∧ ((256 ≤ r10.toInt ∧ ((∃ (r15 : Int32) (S16 : MS), v_needOf S11 v22_1 (.inl (r15, S16)) ∧ (∃ (S20 : MS), v_out S16 (((1245184 : Int32) ||| r15).toInt64) (3 : Int32) S20 ∧ (oo = .inl S20))) ∨ (∃ u9 : MS, v_needOf S11 v22_1 (.inr u9) ∧ (oo = .inr u9)))) ∨ (¬ 256 ≤ r10.toInt ∧ ((∃ (r23 : Int32) (S24 : MS), v_needOf S11 v22_1 (.inl (r23, S24)) ∧ (∃ (S28 : MS), v_out S24 (((4608 : Int32) ||| r23).toInt64) (2 : Int32) S28 ∧ (oo = .inl S28))) ∨ (∃ u9 : MS, v_needOf S11 v22_1 (.inr u9) ∧ (oo = .inr u9)))))) ∨ (∃ u9 : MS, v_needOf U22 v22_1 (.inr u9) ∧ (oo = .inr u9)))) ∨ (¬ (f_isShort U22 v22_2).toInt = 0 ∧ (∃ (S33 : MS), v_out U22 (((1114112 : Int32) ||| (v22_2 &&& (65535 : Int32))).toInt64) (3 : Int32) S33 ∧ (oo = .inl S33)))))) ∨ (¬ (f_isByte U22 v22_2).toInt = 0 ∧ (∃ (S38 : MS), v_out U22 (((4096 : Int32) ||| (v22_2 &&& (255 : Int32))).toInt64) (2 : Int32) S38 ∧ (oo = .inl S38)))))
def v_outPush (S : MS) (x1 : Int32) (x2 : Int32) (oo : MS ⊕ MS) : Prop := ((x2.toInt < (-1) ∧ (v_outPush_J22 oo S x1 x2)) ∨ (¬ x2.toInt < (-1) ∧ ((5 < x2.toInt ∧ (v_outPush_J22 oo S x1 x2)) ∨ (¬ 5 < x2.toInt ∧ (∃ (S44 : MS), v_out S ((x2 + (3 : Int32)).toInt64) (1 : Int32) S44 ∧ (oo = .inl S44))))))
set_option maxRecDepth 100000 in
theorem ru_outPush_J22 {ι : Type} {P : MS ⊕ MS → Prop} {Q : MS → Prop} {E : MS → Prop} {U22 : MS} {v22_1 : Int32} {v22_2 : Int32} (i0 : ι) (K : ∀ (i : ι) (oo : MS ⊕ MS), v_outPush_J22 oo U22 v22_1 v22_2 → P oo) (h : w_outPush_J22 Q E U22 v22_1 v22_2) : ∃ oo, P oo ∧ oV Q E oo := by
  unfold w_outPush_J22 at h
  obtain ⟨g1_, h⟩ := h
  replace K := fun i oo z => K i oo ⟨g1_, z⟩
  by_cases c : (f_isByte U22 v22_2).toInt = 0
  · replace h := h.1 c
    replace K := fun i oo z => K i oo (Or.inl ⟨c, z⟩)
    obtain ⟨g2_, h⟩ := h
    replace K := fun i oo z => K i oo ⟨g2_, z⟩
    by_cases c : (f_isShort U22 v22_2).toInt = 0
    · replace h := h.1 c
      replace K := fun i oo z => K i oo (Or.inl ⟨c, z⟩)
      obtain ⟨Q9, E9, h0, h⟩ := h
      obtain ⟨o9, z9, g9⟩ := ru_needOf h0
      rcases o9 with ⟨r10, S11⟩ | u9
      · replace h := h.1 r10 S11 g9
        replace K := fun i oo z => K i oo (Or.inl ⟨r10, S11, z9, z⟩)
        by_cases c : 256 ≤ r10.toInt
        · replace h := h.1 c
          replace K := fun i oo z => K i oo (Or.inl ⟨c, z⟩)
          obtain ⟨Q9, E9, h0, h⟩ := h
          obtain ⟨o9, z9, g9⟩ := ru_needOf h0
          rcases o9 with ⟨r15, S16⟩ | u9
          · replace h := h.1 r15 S16 g9
            replace K := fun i oo z => K i oo (Or.inl ⟨r15, S16, z9, z⟩)
            obtain ⟨Q9, h0, h⟩ := h
            obtain ⟨S20, z9, g9⟩ := ru_out h0
            replace h := h S20 g9
            replace K := fun i oo z => K i oo ⟨S20, z9, z⟩
            exact ⟨.inl _, K i0 _ rfl, h⟩
          · replace h := h.2 u9 g9
            replace K := fun i oo z => K i oo (Or.inr ⟨u9, z9, z⟩)
            exact ⟨.inr u9, K i0 _ rfl, h⟩
        · replace h := h.2 c
          replace K := fun i oo z => K i oo (Or.inr ⟨c, z⟩)
          obtain ⟨Q9, E9, h0, h⟩ := h
          obtain ⟨o9, z9, g9⟩ := ru_needOf h0
          rcases o9 with ⟨r23, S24⟩ | u9
          · replace h := h.1 r23 S24 g9
            replace K := fun i oo z => K i oo (Or.inl ⟨r23, S24, z9, z⟩)
            obtain ⟨Q9, h0, h⟩ := h
            obtain ⟨S28, z9, g9⟩ := ru_out h0
            replace h := h S28 g9
            replace K := fun i oo z => K i oo ⟨S28, z9, z⟩
            exact ⟨.inl _, K i0 _ rfl, h⟩
          · replace h := h.2 u9 g9
            replace K := fun i oo z => K i oo (Or.inr ⟨u9, z9, z⟩)
            exact ⟨.inr u9, K i0 _ rfl, h⟩
      · replace h := h.2 u9 g9
        replace K := fun i oo z => K i oo (Or.inr ⟨u9, z9, z⟩)
        exact ⟨.inr u9, K i0 _ rfl, h⟩
    · replace h := h.2 c
      replace K := fun i oo z => K i oo (Or.inr ⟨c, z⟩)
      obtain ⟨Q9, h0, h⟩ := h
      obtain ⟨S33, z9, g9⟩ := ru_out h0
      replace h := h S33 g9
      replace K := fun i oo z => K i oo ⟨S33, z9, z⟩
      exact ⟨.inl _, K i0 _ rfl, h⟩
  · replace h := h.2 c
    replace K := fun i oo z => K i oo (Or.inr ⟨c, z⟩)
    obtain ⟨Q9, h0, h⟩ := h
    obtain ⟨S38, z9, g9⟩ := ru_out h0
    replace h := h S38 g9
    replace K := fun i oo z => K i oo ⟨S38, z9, z⟩
    exact ⟨.inl _, K i0 _ rfl, h⟩
set_option maxRecDepth 100000 in
theorem ru_outPush {S : MS} {x1 : Int32} {x2 : Int32} {Q : MS → Prop} {E : MS → Prop} (h : w_outPush S x1 x2 Q E) : ∃ oo, v_outPush S x1 x2 oo ∧ oV Q E oo := by
  have i0 : Unit := ()
  have K : ∀ (i : Unit) (oo : MS ⊕ MS), v_outPush S x1 x2 oo → v_outPush S x1 x2 oo := fun _ _ z => z
  unfold w_outPush at h
  by_cases c : x2.toInt < (-1)
  · replace h := h.1 c
    replace K := fun i oo z => K i oo (Or.inl ⟨c, z⟩)
    exact ru_outPush_J22 i0 K h
  · replace h := h.2 c
    replace K := fun i oo z => K i oo (Or.inr ⟨c, z⟩)
    by_cases c : 5 < x2.toInt
    · replace h := h.1 c
      replace K := fun i oo z => K i oo (Or.inl ⟨c, z⟩)
      exact ru_outPush_J22 i0 K h
    · replace h := h.2 c
      replace K := fun i oo z => K i oo (Or.inr ⟨c, z⟩)
      obtain ⟨Q9, h0, h⟩ := h
      obtain ⟨S44, z9, g9⟩ := ru_out h0
      replace h := h S44 g9
      replace K := fun i oo z => K i oo ⟨S44, z9, z⟩
      exact ⟨.inl _, K i0 _ rfl, h⟩
set_option maxRecDepth 100000 in
theorem vw_outPush_J22 {oo : MS ⊕ MS} {U22 : MS} {v22_1 : Int32} {v22_2 : Int32} (h : v_outPush_J22 oo U22 v22_1 v22_2) : w_outPush_J22 (fun u => oo = .inl u) (fun u => oo = .inr u) U22 v22_1 v22_2 := by
  unfold v_outPush_J22 at h
  unfold w_outPush_J22
  obtain ⟨g9, h⟩ := h
  refine ⟨g9, ?_⟩
  rcases h with ⟨c, h⟩ | ⟨c, h⟩
  · refine ⟨fun _ => ?_, fun c2 => absurd c c2⟩
    obtain ⟨g9, h⟩ := h
    refine ⟨g9, ?_⟩
    rcases h with ⟨c, h⟩ | ⟨c, h⟩
    · refine ⟨fun _ => ?_, fun c2 => absurd c c2⟩
      rcases h with ⟨p9, q9, z9, h⟩ | ⟨q9, z9, h⟩
      · refine ⟨_, _, vw_needOf z9, ?_, ?_⟩
        · intro p8 q8 d9
          injection d9 with d9
          injection d9 with d8 d9
          subst d8
          subst d9
          rcases h with ⟨c, h⟩ | ⟨c, h⟩
          · refine ⟨fun _ => ?_, fun c2 => absurd c c2⟩
            rcases h with ⟨p9, q9, z9, h⟩ | ⟨q9, z9, h⟩
            · refine ⟨_, _, vw_needOf z9, ?_, ?_⟩
              · intro p8 q8 d9
                injection d9 with d9
                injection d9 with d8 d9
                subst d8
                subst d9
                obtain ⟨q9, z9, h⟩ := h
                refine ⟨_, vw_out z9, ?_⟩
                intro q8 d9
                subst d9
                exact h
              · intro q8 d9
                exact nomatch d9
            · refine ⟨_, _, vw_needOf z9, ?_, ?_⟩
              · intro p8 q8 d9
                exact nomatch d9
              · intro q8 d9
                injection d9 with d9
                subst d9
                exact h
          · refine ⟨fun c2 => absurd c2 c, fun _ => ?_⟩
            rcases h with ⟨p9, q9, z9, h⟩ | ⟨q9, z9, h⟩
            · refine ⟨_, _, vw_needOf z9, ?_, ?_⟩
              · intro p8 q8 d9
                injection d9 with d9
                injection d9 with d8 d9
                subst d8
                subst d9
                obtain ⟨q9, z9, h⟩ := h
                refine ⟨_, vw_out z9, ?_⟩
                intro q8 d9
                subst d9
                exact h
              · intro q8 d9
                exact nomatch d9
            · refine ⟨_, _, vw_needOf z9, ?_, ?_⟩
              · intro p8 q8 d9
                exact nomatch d9
              · intro q8 d9
                injection d9 with d9
                subst d9
                exact h
        · intro q8 d9
          exact nomatch d9
      · refine ⟨_, _, vw_needOf z9, ?_, ?_⟩
        · intro p8 q8 d9
          exact nomatch d9
        · intro q8 d9
          injection d9 with d9
          subst d9
          exact h
    · refine ⟨fun c2 => absurd c2 c, fun _ => ?_⟩
      obtain ⟨q9, z9, h⟩ := h
      refine ⟨_, vw_out z9, ?_⟩
      intro q8 d9
      subst d9
      exact h
  · refine ⟨fun c2 => absurd c2 c, fun _ => ?_⟩
    obtain ⟨q9, z9, h⟩ := h
    refine ⟨_, vw_out z9, ?_⟩
    intro q8 d9
    subst d9
    exact h
set_option maxRecDepth 100000 in
theorem vz_outPush_J22 {oo : MS ⊕ MS} {Q : MS → Prop} {E : MS → Prop} {U22 : MS} {v22_1 : Int32} {v22_2 : Int32} (h : v_outPush_J22 oo U22 v22_1 v22_2) (w : w_outPush_J22 Q E U22 v22_1 v22_2) : oV Q E oo := by
  unfold v_outPush_J22 at h
  unfold w_outPush_J22 at w
  replace h := h.2
  replace w := w.2
  rcases h with ⟨c, h⟩ | ⟨c, h⟩
  · replace w := w.1 c
    replace h := h.2
    replace w := w.2
    rcases h with ⟨c, h⟩ | ⟨c, h⟩
    · replace w := w.1 c
      obtain ⟨Q9, E9, w0, w⟩ := w
      rcases h with ⟨p9, q9, z9, h⟩ | ⟨q9, z9, h⟩
      · replace w := w.1 p9 q9 (vz_needOf z9 w0)
        rcases h with ⟨c, h⟩ | ⟨c, h⟩
        · replace w := w.1 c
          obtain ⟨Q9, E9, w0, w⟩ := w
          rcases h with ⟨p9, q9, z9, h⟩ | ⟨q9, z9, h⟩
          · replace w := w.1 p9 q9 (vz_needOf z9 w0)
            obtain ⟨q9, z9, h⟩ := h
            obtain ⟨Q9, w0, w⟩ := w
            replace w := w q9 (vz_out z9 w0)
            rw [h]
            exact w
          · replace w := w.2 q9 (vz_needOf z9 w0)
            rw [h]
            exact w
        · replace w := w.2 c
          obtain ⟨Q9, E9, w0, w⟩ := w
          rcases h with ⟨p9, q9, z9, h⟩ | ⟨q9, z9, h⟩
          · replace w := w.1 p9 q9 (vz_needOf z9 w0)
            obtain ⟨q9, z9, h⟩ := h
            obtain ⟨Q9, w0, w⟩ := w
            replace w := w q9 (vz_out z9 w0)
            rw [h]
            exact w
          · replace w := w.2 q9 (vz_needOf z9 w0)
            rw [h]
            exact w
      · replace w := w.2 q9 (vz_needOf z9 w0)
        rw [h]
        exact w
    · replace w := w.2 c
      obtain ⟨q9, z9, h⟩ := h
      obtain ⟨Q9, w0, w⟩ := w
      replace w := w q9 (vz_out z9 w0)
      rw [h]
      exact w
  · replace w := w.2 c
    obtain ⟨q9, z9, h⟩ := h
    obtain ⟨Q9, w0, w⟩ := w
    replace w := w q9 (vz_out z9 w0)
    rw [h]
    exact w
set_option maxRecDepth 100000 in
theorem vw_outPush {S : MS} {x1 : Int32} {x2 : Int32} {oo : MS ⊕ MS} (h : v_outPush S x1 x2 oo) : w_outPush S x1 x2 (fun u => oo = .inl u) (fun u => oo = .inr u) := by
  unfold v_outPush at h
  unfold w_outPush
  rcases h with ⟨c, h⟩ | ⟨c, h⟩
  · refine ⟨fun _ => ?_, fun c2 => absurd c c2⟩
    exact vw_outPush_J22 h
  · refine ⟨fun c2 => absurd c2 c, fun _ => ?_⟩
    rcases h with ⟨c, h⟩ | ⟨c, h⟩
    · refine ⟨fun _ => ?_, fun c2 => absurd c c2⟩
      exact vw_outPush_J22 h
    · refine ⟨fun c2 => absurd c2 c, fun _ => ?_⟩
      obtain ⟨q9, z9, h⟩ := h
      refine ⟨_, vw_out z9, ?_⟩
      intro q8 d9
      subst d9
      exact h
set_option maxRecDepth 100000 in
theorem vz_outPush {S : MS} {x1 : Int32} {x2 : Int32} {oo : MS ⊕ MS} {Q : MS → Prop} {E : MS → Prop} (h : v_outPush S x1 x2 oo) (w : w_outPush S x1 x2 Q E) : oV Q E oo := by
  unfold v_outPush at h
  unfold w_outPush at w
  rcases h with ⟨c, h⟩ | ⟨c, h⟩
  · replace w := w.1 c
    exact vz_outPush_J22 h w
  · replace w := w.2 c
    rcases h with ⟨c, h⟩ | ⟨c, h⟩
    · replace w := w.1 c
      exact vz_outPush_J22 h w
    · replace w := w.2 c
      obtain ⟨q9, z9, h⟩ := h
      obtain ⟨Q9, w0, w⟩ := w
      replace w := w q9 (vz_out z9 w0)
      rw [h]
      exact w
def v_outSwitch_J151 (uo : MS) (k114 : MS → Int32 → Int32 → Int32 → Int32 → Int32 → Prop) (U151 : MS) (v151_1 : Int32) (v151_2 : Int32) (v151_3 : Int32) (v151_4 : Int32) (v151_5 : Int32) : Prop := ((qR U151 0 49 = some (qO U151 0 49)) ∧ (((0 : Int) ≤ ((v151_3 + (2 : Int32)) + ((2 : Int32) * v151_5)).toInt ∧ ((v151_3 + (2 : Int32)) + ((2 : Int32) * v151_5)).toInt < (qN U151 (qO U151 0 49) : Int)) ∧ (((0 : Int) ≤ (qI U151 (qO U151 0 49) ((((v151_3 + (2 : Int32)) + ((2 : Int32) * v151_5)).toInt).toNat)).toInt ∧ (qI U151 (qO U151 0 49) ((((v151_3 + (2 : Int32)) + ((2 : Int32) * v151_5)).toInt).toNat)).toInt < 1297) ∧ (∃ (S51 : MS), v_out U151 (((qI U151 36 (((qI U151 (qO U151 0 49) ((((v151_3 + (2 : Int32)) + ((2 : Int32) * v151_5)).toInt).toNat)).toInt).toNat)) - v151_2).toInt64) (4 : Int32) S51 ∧ (∃ a53 : Int32, a53 = (v151_5 + Int32.ofInt 1) ∧ (k114 S51 v151_1 v151_2 v151_3 v151_4 a53))))))
def v_outSwitch_L114 (uo : MS) : Nat → MS → Int32 → Int32 → Int32 → Int32 → Int32 → Prop
  | 0, _, _, _, _, _, _ => False
  | n114 + 1, U114, v114_1, v114_2, v114_3, v114_4, v114_5 => ((v114_4.toInt ≤ v114_5.toInt ∧ (uo = U114)) ∨ (¬ v114_4.toInt ≤ v114_5.toInt ∧ (d_op U114 v114_1 ∧ (((f_op U114 v114_1).toInt = 171 ∧ ((qR U114 0 49 = some (qO U114 0 49)) ∧ (((0 : Int) ≤ ((v114_3 + (1 : Int32)) + ((2 : Int32) * v114_5)).toInt ∧ ((v114_3 + (1 : Int32)) + ((2 : Int32) * v114_5)).toInt < (qN U114 (qO U114 0 49) : Int)) ∧ (∃ (S63 : MS), v_out U114 ((qI U114 (qO U114 0 49) ((((v114_3 + (1 : Int32)) + ((2 : Int32) * v114_5)).toInt).toNat)).toInt64) (4 : Int32) S63 ∧ (v_outSwitch_J151 uo (v_outSwitch_L114 uo n114) S63 v114_1 v114_2 v114_3 v114_4 v114_5))))) ∨ (¬ (f_op U114 v114_1).toInt = 171 ∧ (v_outSwitch_J151 uo (v_outSwitch_L114 uo n114) U114 v114_1 v114_2 v114_3 v114_4 v114_5))))))
def v_outSwitch_J111 (uo : MS) (U111 : MS) (v111_1 : Int32) (v111_2 : Int32) (v111_3 : Int32) (v111_4 : Int32) : Prop := (∃ n, v_outSwitch_L114 uo n U111 v111_1 v111_2 v111_3 v111_4 0)
def v_outSwitch (S : MS) (x1 : Int32) (x2 : Int32) (uo : MS) : Prop := (d_op S x1 ∧ (∃ (S5 : MS), v_out S ((f_op S x1).toInt64) (1 : Int32) S5 ∧ (d_switchFrom S5 x2 ∧ (∃ (S13 : MS), v_out S5 0 (((f_switchFrom S5 x2) - x2) - (1 : Int32)) S13 ∧ (d_first S13 x1 ∧ (∃ a18 : Int32, a18 = (f_first S13 x1) ∧ (d_second S13 x1 ∧ (∃ a22 : Int32, a22 = (f_second S13 x1) ∧ ((qR S13 0 49 = some (qO S13 0 49)) ∧ (((0 : Int) ≤ a18.toInt ∧ a18.toInt < (qN S13 (qO S13 0 49) : Int)) ∧ (((0 : Int) ≤ (qI S13 (qO S13 0 49) a18.toInt.toNat).toInt ∧ (qI S13 (qO S13 0 49) a18.toInt.toNat).toInt < 1297) ∧ (∃ (S31 : MS), v_out S13 (((qI S13 36 (((qI S13 (qO S13 0 49) a18.toInt.toNat).toInt).toNat)) - x2).toInt64) (4 : Int32) S31 ∧ (d_op S31 x1 ∧ (((f_op S31 x1).toInt = 170 ∧ ((qR S31 0 49 = some (qO S31 0 49)) ∧ (((0 : Int) ≤ (a18 + (1 : Int32)).toInt ∧ (a18 + (1 : Int32)).toInt < (qN S31 (qO S31 0 49) : Int)) ∧ (∃ (S75 : MS), v_out S31 ((qI S31 (qO S31 0 49) (((a18 + (1 : Int32)).toInt).toNat)).toInt64) (4 : Int32) S75 ∧ ((qR S75 0 49 = some (qO S75 0 49)) ∧ (((0 : Int) ≤ (a18 + (1 : Int32)).toInt ∧ (a18 + (1 : Int32)).toInt < (qN S75 (qO S75 0 49) : Int)) ∧ (∃ (S85 : MS), v_out S75 ((((qI S75 (qO S75 0 49) (((a18 + (1 : Int32)).toInt).toNat)) + a22) - (1 : Int32)).toInt64) (4 : Int32) S85 ∧ (v_outSwitch_J111 uo S85 x1 x2 a18 a22)))))))) ∨ (¬ (f_op S31 x1).toInt = 170 ∧ (∃ (S67 : MS), v_out S31 (a22.toInt64) (4 : Int32) S67 ∧ (v_outSwitch_J111 uo S67 x1 x2 a18 a22)))))))))))))))))
set_option maxRecDepth 100000 in
theorem ru_outSwitch_J151 {ι : Type} {P : MS → Prop} {Q : MS → Prop} {k114 : MS → Int32 → Int32 → Int32 → Int32 → Int32 → Prop} {k114v : ι → MS → MS → Int32 → Int32 → Int32 → Int32 → Int32 → Prop} {U151 : MS} {v151_1 : Int32} {v151_2 : Int32} {v151_3 : Int32} {v151_4 : Int32} {v151_5 : Int32} (i0 : ι) (hk114 : ∀ (u : MS) (z0 : Int32) (z1 : Int32) (z2 : Int32) (z3 : Int32) (z4 : Int32), k114 u z0 z1 z2 z3 z4 → (∀ (i : ι) (uo : MS), k114v i uo u z0 z1 z2 z3 z4 → P uo) → ∃ uo, P uo ∧ Q uo) (K : ∀ (i : ι) (uo : MS), v_outSwitch_J151 uo (k114v i uo) U151 v151_1 v151_2 v151_3 v151_4 v151_5 → P uo) (h : w_outSwitch_J151 Q k114 U151 v151_1 v151_2 v151_3 v151_4 v151_5) : ∃ uo, P uo ∧ Q uo := by
  unfold w_outSwitch_J151 at h
  obtain ⟨g1_, h⟩ := h
  replace K := fun i uo z => K i uo ⟨g1_, z⟩
  obtain ⟨g2_, h⟩ := h
  replace K := fun i uo z => K i uo ⟨g2_, z⟩
  obtain ⟨g3_, h⟩ := h
  replace K := fun i uo z => K i uo ⟨g3_, z⟩
  obtain ⟨Q9, h0, h⟩ := h
  obtain ⟨S51, z9, g9⟩ := ru_out h0
  replace h := h S51 g9
  replace K := fun i uo z => K i uo ⟨S51, z9, z⟩
  obtain ⟨a53, ea53⟩ : ∃ x9 : Int32, x9 = (v151_5 + Int32.ofInt 1) := ⟨_, rfl⟩
  replace h := h a53 ea53
  replace K := fun i uo z => K i uo ⟨a53, ea53, z⟩
  exact hk114 _ _ _ _ _ _ h K
set_option maxRecDepth 100000 in
theorem ru_outSwitch_L114 {ι : Type} {P : MS → Prop} {Q : MS → Prop} : ∀ (n : Nat) {U114 : MS} {v114_1 : Int32} {v114_2 : Int32} {v114_3 : Int32} {v114_4 : Int32} {v114_5 : Int32} (i0 : ι), (∀ (i : ι) (uo : MS), (∃ n8, v_outSwitch_L114 uo n8 U114 v114_1 v114_2 v114_3 v114_4 v114_5) → P uo) → w_outSwitch_L114 Q n U114 v114_1 v114_2 v114_3 v114_4 v114_5 → ∃ uo, P uo ∧ Q uo := by
  intro n
  induction n with
  | zero => intro U114 v114_1 v114_2 v114_3 v114_4 v114_5 i0 K h; unfold w_outSwitch_L114 at h; exact h.elim
  | succ n ih =>
    intro U114 v114_1 v114_2 v114_3 v114_4 v114_5 i0 K h
    unfold w_outSwitch_L114 at h
    replace K := fun (i : ι × Nat) uo (z : v_outSwitch_L114 uo (i.2 + 1) U114 v114_1 v114_2 v114_3 v114_4 v114_5) => K i.1 uo ⟨i.2 + 1, z⟩
    have i00 := i0
    replace i0 : ι × Nat := (i0, 0)
    by_cases c : v114_4.toInt ≤ v114_5.toInt
    · replace h := h.1 c
      replace K := fun i uo z => K i uo (Or.inl ⟨c, z⟩)
      exact ⟨_, K i0 _ rfl, h⟩
    · replace h := h.2 c
      replace K := fun i uo z => K i uo (Or.inr ⟨c, z⟩)
      obtain ⟨g4_, h⟩ := h
      replace K := fun i uo z => K i uo ⟨g4_, z⟩
      by_cases c : (f_op U114 v114_1).toInt = 171
      · replace h := h.1 c
        replace K := fun i uo z => K i uo (Or.inl ⟨c, z⟩)
        obtain ⟨g5_, h⟩ := h
        replace K := fun i uo z => K i uo ⟨g5_, z⟩
        obtain ⟨g6_, h⟩ := h
        replace K := fun i uo z => K i uo ⟨g6_, z⟩
        obtain ⟨Q9, h0, h⟩ := h
        obtain ⟨S63, z9, g9⟩ := ru_out h0
        replace h := h S63 g9
        replace K := fun i uo z => K i uo ⟨S63, z9, z⟩
        exact ru_outSwitch_J151 i0 (fun _ _ _ _ _ _ h K => ih i00 (fun i uo ⟨n8, z⟩ => K (i, n8) uo z) h) K h
      · replace h := h.2 c
        replace K := fun i uo z => K i uo (Or.inr ⟨c, z⟩)
        exact ru_outSwitch_J151 i0 (fun _ _ _ _ _ _ h K => ih i00 (fun i uo ⟨n8, z⟩ => K (i, n8) uo z) h) K h
set_option maxRecDepth 100000 in
theorem ru_outSwitch_J111 {ι : Type} {P : MS → Prop} {Q : MS → Prop} {U111 : MS} {v111_1 : Int32} {v111_2 : Int32} {v111_3 : Int32} {v111_4 : Int32} (i0 : ι) (K : ∀ (i : ι) (uo : MS), v_outSwitch_J111 uo U111 v111_1 v111_2 v111_3 v111_4 → P uo) (h : w_outSwitch_J111 Q U111 v111_1 v111_2 v111_3 v111_4) : ∃ uo, P uo ∧ Q uo := by
  unfold w_outSwitch_J111 at h
  obtain ⟨n9, h⟩ := h
  exact ru_outSwitch_L114 n9 i0 K h
set_option maxRecDepth 100000 in
theorem ru_outSwitch {S : MS} {x1 : Int32} {x2 : Int32} {Q : MS → Prop} (h : w_outSwitch S x1 x2 Q) : ∃ uo, v_outSwitch S x1 x2 uo ∧ Q uo := by
  have i0 : Unit := ()
  have K : ∀ (i : Unit) (uo : MS), v_outSwitch S x1 x2 uo → v_outSwitch S x1 x2 uo := fun _ _ z => z
  unfold w_outSwitch at h
  obtain ⟨g7_, h⟩ := h
  replace K := fun i uo z => K i uo ⟨g7_, z⟩
  obtain ⟨Q9, h0, h⟩ := h
  obtain ⟨S5, z9, g9⟩ := ru_out h0
  replace h := h S5 g9
  replace K := fun i uo z => K i uo ⟨S5, z9, z⟩
  obtain ⟨g8_, h⟩ := h
  replace K := fun i uo z => K i uo ⟨g8_, z⟩
  obtain ⟨Q9, h0, h⟩ := h
  obtain ⟨S13, z9, g9⟩ := ru_out h0
  replace h := h S13 g9
  replace K := fun i uo z => K i uo ⟨S13, z9, z⟩
  obtain ⟨g9_, h⟩ := h
  replace K := fun i uo z => K i uo ⟨g9_, z⟩
  obtain ⟨a18, ea18⟩ : ∃ x9 : Int32, x9 = (f_first S13 x1) := ⟨_, rfl⟩
  replace h := h a18 ea18
  replace K := fun i uo z => K i uo ⟨a18, ea18, z⟩
  obtain ⟨g10_, h⟩ := h
  replace K := fun i uo z => K i uo ⟨g10_, z⟩
  obtain ⟨a22, ea22⟩ : ∃ x9 : Int32, x9 = (f_second S13 x1) := ⟨_, rfl⟩
  replace h := h a22 ea22
  replace K := fun i uo z => K i uo ⟨a22, ea22, z⟩
  obtain ⟨g11_, h⟩ := h
  replace K := fun i uo z => K i uo ⟨g11_, z⟩
  obtain ⟨g12_, h⟩ := h
  replace K := fun i uo z => K i uo ⟨g12_, z⟩
  obtain ⟨g13_, h⟩ := h
  replace K := fun i uo z => K i uo ⟨g13_, z⟩
  obtain ⟨Q9, h0, h⟩ := h
  obtain ⟨S31, z9, g9⟩ := ru_out h0
  replace h := h S31 g9
  replace K := fun i uo z => K i uo ⟨S31, z9, z⟩
  obtain ⟨g14_, h⟩ := h
  replace K := fun i uo z => K i uo ⟨g14_, z⟩
  by_cases c : (f_op S31 x1).toInt = 170
  · replace h := h.1 c
    replace K := fun i uo z => K i uo (Or.inl ⟨c, z⟩)
    obtain ⟨g15_, h⟩ := h
    replace K := fun i uo z => K i uo ⟨g15_, z⟩
    obtain ⟨g16_, h⟩ := h
    replace K := fun i uo z => K i uo ⟨g16_, z⟩
    obtain ⟨Q9, h0, h⟩ := h
    obtain ⟨S75, z9, g9⟩ := ru_out h0
    replace h := h S75 g9
    replace K := fun i uo z => K i uo ⟨S75, z9, z⟩
    obtain ⟨g17_, h⟩ := h
    replace K := fun i uo z => K i uo ⟨g17_, z⟩
    obtain ⟨g18_, h⟩ := h
    replace K := fun i uo z => K i uo ⟨g18_, z⟩
    obtain ⟨Q9, h0, h⟩ := h
    obtain ⟨S85, z9, g9⟩ := ru_out h0
    replace h := h S85 g9
    replace K := fun i uo z => K i uo ⟨S85, z9, z⟩
    exact ru_outSwitch_J111 i0 K h
  · replace h := h.2 c
    replace K := fun i uo z => K i uo (Or.inr ⟨c, z⟩)
    obtain ⟨Q9, h0, h⟩ := h
    obtain ⟨S67, z9, g9⟩ := ru_out h0
    replace h := h S67 g9
    replace K := fun i uo z => K i uo ⟨S67, z9, z⟩
    exact ru_outSwitch_J111 i0 K h
set_option maxRecDepth 100000 in
theorem vw_outSwitch_J151 {uo : MS} {k114 k114v : MS → Int32 → Int32 → Int32 → Int32 → Int32 → Prop} {U151 : MS} {v151_1 : Int32} {v151_2 : Int32} {v151_3 : Int32} {v151_4 : Int32} {v151_5 : Int32} (hk114 : ∀ (u : MS) (z0 : Int32) (z1 : Int32) (z2 : Int32) (z3 : Int32) (z4 : Int32), k114v u z0 z1 z2 z3 z4 → k114 u z0 z1 z2 z3 z4) (h : v_outSwitch_J151 uo k114v U151 v151_1 v151_2 v151_3 v151_4 v151_5) : w_outSwitch_J151 (fun u => u = uo) k114 U151 v151_1 v151_2 v151_3 v151_4 v151_5 := by
  unfold v_outSwitch_J151 at h
  unfold w_outSwitch_J151
  obtain ⟨g9, h⟩ := h
  refine ⟨g9, ?_⟩
  obtain ⟨g9, h⟩ := h
  refine ⟨g9, ?_⟩
  obtain ⟨g9, h⟩ := h
  refine ⟨g9, ?_⟩
  obtain ⟨q9, z9, h⟩ := h
  refine ⟨_, vw_out z9, ?_⟩
  intro q8 d9
  subst d9
  obtain ⟨v9, e9, h⟩ := h
  intro x9 d9
  have c9 : v9 = x9 := e9.trans d9.symm
  subst c9
  exact hk114 _ _ _ _ _ _ h
set_option maxRecDepth 100000 in
theorem vz_outSwitch_J151 {uo : MS} {Q : MS → Prop} {k114 k114v : MS → Int32 → Int32 → Int32 → Int32 → Int32 → Prop} {U151 : MS} {v151_1 : Int32} {v151_2 : Int32} {v151_3 : Int32} {v151_4 : Int32} {v151_5 : Int32} (hk114 : ∀ (u : MS) (z0 : Int32) (z1 : Int32) (z2 : Int32) (z3 : Int32) (z4 : Int32), k114v u z0 z1 z2 z3 z4 → k114 u z0 z1 z2 z3 z4 → Q uo) (h : v_outSwitch_J151 uo k114v U151 v151_1 v151_2 v151_3 v151_4 v151_5) (w : w_outSwitch_J151 Q k114 U151 v151_1 v151_2 v151_3 v151_4 v151_5) : Q uo := by
  unfold v_outSwitch_J151 at h
  unfold w_outSwitch_J151 at w
  replace h := h.2
  replace w := w.2
  replace h := h.2
  replace w := w.2
  replace h := h.2
  replace w := w.2
  obtain ⟨q9, z9, h⟩ := h
  obtain ⟨Q9, w0, w⟩ := w
  replace w := w q9 (vz_out z9 w0)
  obtain ⟨v9, e9, h⟩ := h
  replace w := w v9 e9
  exact hk114 _ _ _ _ _ _ h w
set_option maxRecDepth 100000 in
theorem vw_outSwitch_L114 {uo : MS} : ∀ (n : Nat) {U114 : MS} {v114_1 : Int32} {v114_2 : Int32} {v114_3 : Int32} {v114_4 : Int32} {v114_5 : Int32}, v_outSwitch_L114 uo n U114 v114_1 v114_2 v114_3 v114_4 v114_5 → w_outSwitch_L114 (fun u => u = uo) n U114 v114_1 v114_2 v114_3 v114_4 v114_5 := by
  intro n
  induction n with
  | zero => intro U114 v114_1 v114_2 v114_3 v114_4 v114_5 h; unfold v_outSwitch_L114 at h; exact h.elim
  | succ n ih =>
    intro U114 v114_1 v114_2 v114_3 v114_4 v114_5 h
    unfold v_outSwitch_L114 at h
    unfold w_outSwitch_L114
    rcases h with ⟨c, h⟩ | ⟨c, h⟩
    · refine ⟨fun _ => ?_, fun c2 => absurd c c2⟩
      exact h.symm
    · refine ⟨fun c2 => absurd c2 c, fun _ => ?_⟩
      obtain ⟨g9, h⟩ := h
      refine ⟨g9, ?_⟩
      rcases h with ⟨c, h⟩ | ⟨c, h⟩
      · refine ⟨fun _ => ?_, fun c2 => absurd c c2⟩
        obtain ⟨g9, h⟩ := h
        refine ⟨g9, ?_⟩
        obtain ⟨g9, h⟩ := h
        refine ⟨g9, ?_⟩
        obtain ⟨q9, z9, h⟩ := h
        refine ⟨_, vw_out z9, ?_⟩
        intro q8 d9
        subst d9
        exact vw_outSwitch_J151 (fun _ _ _ _ _ _ h => ih h) h
      · refine ⟨fun c2 => absurd c2 c, fun _ => ?_⟩
        exact vw_outSwitch_J151 (fun _ _ _ _ _ _ h => ih h) h
set_option maxRecDepth 100000 in
theorem vz_outSwitch_L114 {uo : MS} {Q : MS → Prop} : ∀ (n m : Nat) {U114 : MS} {v114_1 : Int32} {v114_2 : Int32} {v114_3 : Int32} {v114_4 : Int32} {v114_5 : Int32}, v_outSwitch_L114 uo n U114 v114_1 v114_2 v114_3 v114_4 v114_5 → w_outSwitch_L114 Q m U114 v114_1 v114_2 v114_3 v114_4 v114_5 → Q uo := by
  intro n
  induction n with
  | zero => intro m U114 v114_1 v114_2 v114_3 v114_4 v114_5 h; unfold v_outSwitch_L114 at h; exact h.elim
  | succ n ih =>
    intro m U114 v114_1 v114_2 v114_3 v114_4 v114_5 h w
    cases m with
    | zero => unfold w_outSwitch_L114 at w; exact w.elim
    | succ m =>
      unfold v_outSwitch_L114 at h
      unfold w_outSwitch_L114 at w
      rcases h with ⟨c, h⟩ | ⟨c, h⟩
      · replace w := w.1 c
        rw [h]
        exact w
      · replace w := w.2 c
        replace h := h.2
        replace w := w.2
        rcases h with ⟨c, h⟩ | ⟨c, h⟩
        · replace w := w.1 c
          replace h := h.2
          replace w := w.2
          replace h := h.2
          replace w := w.2
          obtain ⟨q9, z9, h⟩ := h
          obtain ⟨Q9, w0, w⟩ := w
          replace w := w q9 (vz_out z9 w0)
          exact vz_outSwitch_J151 (fun _ _ _ _ _ _ h w => ih m h w) h w
        · replace w := w.2 c
          exact vz_outSwitch_J151 (fun _ _ _ _ _ _ h w => ih m h w) h w
set_option maxRecDepth 100000 in
theorem vw_outSwitch_J111 {uo : MS} {U111 : MS} {v111_1 : Int32} {v111_2 : Int32} {v111_3 : Int32} {v111_4 : Int32} (h : v_outSwitch_J111 uo U111 v111_1 v111_2 v111_3 v111_4) : w_outSwitch_J111 (fun u => u = uo) U111 v111_1 v111_2 v111_3 v111_4 := by
  unfold v_outSwitch_J111 at h
  unfold w_outSwitch_J111
  obtain ⟨n9, h⟩ := h
  exact ⟨n9, vw_outSwitch_L114 n9 h⟩
set_option maxRecDepth 100000 in
theorem vz_outSwitch_J111 {uo : MS} {Q : MS → Prop} {U111 : MS} {v111_1 : Int32} {v111_2 : Int32} {v111_3 : Int32} {v111_4 : Int32} (h : v_outSwitch_J111 uo U111 v111_1 v111_2 v111_3 v111_4) (w : w_outSwitch_J111 Q U111 v111_1 v111_2 v111_3 v111_4) : Q uo := by
  unfold v_outSwitch_J111 at h
  unfold w_outSwitch_J111 at w
  obtain ⟨n9, h⟩ := h
  obtain ⟨n8, w⟩ := w
  exact vz_outSwitch_L114 n9 n8 h w
set_option maxRecDepth 100000 in
theorem vw_outSwitch {S : MS} {x1 : Int32} {x2 : Int32} {uo : MS} (h : v_outSwitch S x1 x2 uo) : w_outSwitch S x1 x2 (fun u => u = uo) := by
  unfold v_outSwitch at h
  unfold w_outSwitch
  obtain ⟨g9, h⟩ := h
  refine ⟨g9, ?_⟩
  obtain ⟨q9, z9, h⟩ := h
  refine ⟨_, vw_out z9, ?_⟩
  intro q8 d9
  subst d9
  obtain ⟨g9, h⟩ := h
  refine ⟨g9, ?_⟩
  obtain ⟨q9, z9, h⟩ := h
  refine ⟨_, vw_out z9, ?_⟩
  intro q8 d9
  subst d9
  obtain ⟨g9, h⟩ := h
  refine ⟨g9, ?_⟩
  obtain ⟨v9, e9, h⟩ := h
  intro x9 d9
  have c9 : v9 = x9 := e9.trans d9.symm
  subst c9
  obtain ⟨g9, h⟩ := h
  refine ⟨g9, ?_⟩
  obtain ⟨v9, e9, h⟩ := h
  intro x9 d9
  have c9 : v9 = x9 := e9.trans d9.symm
  subst c9
  obtain ⟨g9, h⟩ := h
  refine ⟨g9, ?_⟩
  obtain ⟨g9, h⟩ := h
  refine ⟨g9, ?_⟩
  obtain ⟨g9, h⟩ := h
  refine ⟨g9, ?_⟩
  obtain ⟨q9, z9, h⟩ := h
  refine ⟨_, vw_out z9, ?_⟩
  intro q8 d9
  subst d9
  obtain ⟨g9, h⟩ := h
  refine ⟨g9, ?_⟩
  rcases h with ⟨c, h⟩ | ⟨c, h⟩
  · refine ⟨fun _ => ?_, fun c2 => absurd c c2⟩
    obtain ⟨g9, h⟩ := h
    refine ⟨g9, ?_⟩
    obtain ⟨g9, h⟩ := h
    refine ⟨g9, ?_⟩
    obtain ⟨q9, z9, h⟩ := h
    refine ⟨_, vw_out z9, ?_⟩
    intro q8 d9
    subst d9
    obtain ⟨g9, h⟩ := h
    refine ⟨g9, ?_⟩
    obtain ⟨g9, h⟩ := h
    refine ⟨g9, ?_⟩
    obtain ⟨q9, z9, h⟩ := h
    refine ⟨_, vw_out z9, ?_⟩
    intro q8 d9
    subst d9
    exact vw_outSwitch_J111 h
  · refine ⟨fun c2 => absurd c2 c, fun _ => ?_⟩
    obtain ⟨q9, z9, h⟩ := h
    refine ⟨_, vw_out z9, ?_⟩
    intro q8 d9
    subst d9
    exact vw_outSwitch_J111 h
set_option maxRecDepth 100000 in
theorem vz_outSwitch {S : MS} {x1 : Int32} {x2 : Int32} {uo : MS} {Q : MS → Prop} (h : v_outSwitch S x1 x2 uo) (w : w_outSwitch S x1 x2 Q) : Q uo := by
  unfold v_outSwitch at h
  unfold w_outSwitch at w
  replace h := h.2
  replace w := w.2
  obtain ⟨q9, z9, h⟩ := h
  obtain ⟨Q9, w0, w⟩ := w
  replace w := w q9 (vz_out z9 w0)
  replace h := h.2
  replace w := w.2
  obtain ⟨q9, z9, h⟩ := h
  obtain ⟨Q9, w0, w⟩ := w
  replace w := w q9 (vz_out z9 w0)
  replace h := h.2
  replace w := w.2
  obtain ⟨v9, e9, h⟩ := h
  replace w := w v9 e9
  replace h := h.2
  replace w := w.2
  obtain ⟨v9, e9, h⟩ := h
  replace w := w v9 e9
  replace h := h.2
  replace w := w.2
  replace h := h.2
  replace w := w.2
  replace h := h.2
  replace w := w.2
  obtain ⟨q9, z9, h⟩ := h
  obtain ⟨Q9, w0, w⟩ := w
  replace w := w q9 (vz_out z9 w0)
  replace h := h.2
  replace w := w.2
  rcases h with ⟨c, h⟩ | ⟨c, h⟩
  · replace w := w.1 c
    replace h := h.2
    replace w := w.2
    replace h := h.2
    replace w := w.2
    obtain ⟨q9, z9, h⟩ := h
    obtain ⟨Q9, w0, w⟩ := w
    replace w := w q9 (vz_out z9 w0)
    replace h := h.2
    replace w := w.2
    replace h := h.2
    replace w := w.2
    obtain ⟨q9, z9, h⟩ := h
    obtain ⟨Q9, w0, w⟩ := w
    replace w := w q9 (vz_out z9 w0)
    exact vz_outSwitch_J111 h w
  · replace w := w.2 c
    obtain ⟨q9, z9, h⟩ := h
    obtain ⟨Q9, w0, w⟩ := w
    replace w := w q9 (vz_out z9 w0)
    exact vz_outSwitch_J111 h w
def v_outRow_J141 (oo : MS ⊕ MS) (U141 : MS) (t141_0 : Int32) (t141_1 : Int32) (t141_2 : Int32) : Prop := (∃ (S15 : MS), v_outLocal U141 t141_2 t141_1 t141_0 S15 ∧ (oo = .inl S15))
def v_outRow_J114 (oo : MS ⊕ MS) (U114 : MS) (v114_2 : Int32) (v114_3 : Int32) : Prop := ((v114_2.toInt = 21 ∧ (v_outRow_J141 oo U114 26 v114_3 v114_2)) ∨ (¬ v114_2.toInt = 21 ∧ ((v114_2.toInt = 22 ∧ (v_outRow_J141 oo U114 30 v114_3 v114_2)) ∨ (¬ v114_2.toInt = 22 ∧ (v_outRow_J141 oo U114 42 v114_3 v114_2)))))
def v_outRow_J192 (oo : MS ⊕ MS) (U192 : MS) (t192_0 : Int32) (t192_1 : Int32) (t192_2 : Int32) : Prop := (∃ (S23 : MS), v_outLocal U192 t192_2 t192_1 t192_0 S23 ∧ (oo = .inl S23))
def v_outRow_J165 (oo : MS ⊕ MS) (U165 : MS) (v165_2 : Int32) (v165_3 : Int32) : Prop := ((v165_2.toInt = 54 ∧ (v_outRow_J192 oo U165 59 v165_3 v165_2)) ∨ (¬ v165_2.toInt = 54 ∧ ((v165_2.toInt = 55 ∧ (v_outRow_J192 oo U165 63 v165_3 v165_2)) ∨ (¬ v165_2.toInt = 55 ∧ (v_outRow_J192 oo U165 75 v165_3 v165_2)))))
def v_outRow_J349 (oo : MS ⊕ MS) (U349 : MS) (v349_1 : Int32) (v349_2 : Int32) : Prop := ((∃ (r41 : Int32) (S42 : MS), v_needOf U349 v349_1 (.inl (r41, S42)) ∧ (∃ (S46 : MS), v_out S42 (((v349_2 <<< ((16 : Int32) &&& 31)) ||| r41).toInt64) (3 : Int32) S46 ∧ (oo = .inl S46))) ∨ (∃ u9 : MS, v_needOf U349 v349_1 (.inr u9) ∧ (oo = .inr u9)))
def v_outRow_J243 (oo : MS ⊕ MS) (U243 : MS) (v243_1 : Int32) (v243_2 : Int32) (v243_3 : Int32) (v243_4 : Int32) : Prop := ((v243_2.toInt = 132 ∧ (∃ (S71 : MS), v_out U243 (50308 : Int64) (2 : Int32) S71 ∧ (∃ (S74 : MS), v_out S71 (v243_3.toInt64) (2 : Int32) S74 ∧ (d_second S74 v243_1 ∧ (∃ (S80 : MS), v_out S74 ((f_second S74 v243_1).toInt64) (2 : Int32) S80 ∧ (oo = .inl S80)))))) ∨ (¬ v243_2.toInt = 132 ∧ (d_isSwitch U243 v243_2 ∧ (((f_isSwitch U243 v243_2).toInt = 0 ∧ (d_isJump U243 v243_2 ∧ (((f_isJump U243 v243_2).toInt = 0 ∧ ((v243_2.toInt = 178 ∧ (v_outRow_J349 oo U243 v243_1 v243_2)) ∨ (¬ v243_2.toInt = 178 ∧ ((v243_2.toInt = 179 ∧ (v_outRow_J349 oo U243 v243_1 v243_2)) ∨ (¬ v243_2.toInt = 179 ∧ ((v243_2.toInt = 184 ∧ (v_outRow_J349 oo U243 v243_1 v243_2)) ∨ (¬ v243_2.toInt = 184 ∧ ((v243_2.toInt = 188 ∧ (∃ (S56 : MS), v_out U243 (48138 : Int64) (2 : Int32) S56 ∧ (oo = .inl S56))) ∨ (¬ v243_2.toInt = 188 ∧ (∃ (S53 : MS), v_out U243 (v243_2.toInt64) (1 : Int32) S53 ∧ (oo = .inl S53))))))))))) ∨ (¬ (f_isJump U243 v243_2).toInt = 0 ∧ (∃ (S59 : MS), v_out U243 (v243_2.toInt64) (1 : Int32) S59 ∧ (((0 : Int) ≤ v243_3.toInt ∧ v243_3.toInt < 1297) ∧ (∃ (S65 : MS), v_out S59 (((qI S59 36 v243_3.toInt.toNat) - v243_4).toInt64) (2 : Int32) S65 ∧ (oo = .inl S65)))))))) ∨ (¬ (f_isSwitch U243 v243_2).toInt = 0 ∧ (∃ (S68 : MS), v_outSwitch U243 v243_1 v243_4 S68 ∧ (oo = .inl S68)))))))
def v_outRow_J61 (oo : MS ⊕ MS) (U61 : MS) (v61_1 : Int32) : Prop := (d_longOf U61 v61_1 ∧ (∃ (S109 : MS), v_out U61 ((9 : Int64) + (f_longOf U61 v61_1)) (1 : Int32) S109 ∧ (oo = .inl S109)))
def v_outRow (S : MS) (x1 : Int32) (oo : MS ⊕ MS) : Prop := (d_op S x1 ∧ (∃ a4 : Int32, a4 = (f_op S x1) ∧ (d_first S x1 ∧ (∃ a8 : Int32, a8 = (f_first S x1) ∧ (((0 : Int) ≤ x1.toInt ∧ x1.toInt < 1297) ∧ (∃ a11 : Int32, a11 = (qI S 36 x1.toInt.toNat) ∧ ((a4.toInt = 18 ∧ ((∃ (S126 : MS), v_outPush S x1 a8 (.inl S126) ∧ (oo = .inl S126)) ∨ (∃ u9 : MS, v_outPush S x1 a8 (.inr u9) ∧ (oo = .inr u9)))) ∨ (¬ a4.toInt = 18 ∧ ((a4.toInt = 20 ∧ (d_longOf S x1 ∧ (((lg_cmp (f_longOf S x1) 0).toInt = 0 ∧ (v_outRow_J61 oo S x1)) ∨ (¬ (lg_cmp (f_longOf S x1) 0).toInt = 0 ∧ (d_longOf S x1 ∧ (((lg_cmp (f_longOf S x1) 1).toInt = 0 ∧ (v_outRow_J61 oo S x1)) ∨ (¬ (lg_cmp (f_longOf S x1) 1).toInt = 0 ∧ ((∃ (r118 : Int32) (S119 : MS), v_needOf S x1 (.inl (r118, S119)) ∧ (∃ (S123 : MS), v_out S119 (((1310720 : Int32) ||| r118).toInt64) (3 : Int32) S123 ∧ (oo = .inl S123))) ∨ (∃ u9 : MS, v_needOf S x1 (.inr u9) ∧ (oo = .inr u9)))))))))) ∨ (¬ a4.toInt = 20 ∧ ((a4.toInt = 21 ∧ (v_outRow_J114 oo S a4 a8)) ∨ (¬ a4.toInt = 21 ∧ ((a4.toInt = 22 ∧ (v_outRow_J114 oo S a4 a8)) ∨ (¬ a4.toInt = 22 ∧ ((a4.toInt = 25 ∧ (v_outRow_J114 oo S a4 a8)) ∨ (¬ a4.toInt = 25 ∧ ((a4.toInt = 54 ∧ (v_outRow_J165 oo S a4 a8)) ∨ (¬ a4.toInt = 54 ∧ ((a4.toInt = 55 ∧ (v_outRow_J165 oo S a4 a8)) ∨ (¬ a4.toInt = 55 ∧ ((a4.toInt = 58 ∧ (v_outRow_J165 oo S a4 a8)) ∨ (¬ a4.toInt = 58 ∧ ((a4.toInt = 132 ∧ (d_second S x1 ∧ (d_isByte S (f_second S x1) ∧ (((f_isByte S (f_second S x1)).toInt = 0 ∧ (v_outRow_J243 oo S x1 a4 a8 a11)) ∨ (¬ (f_isByte S (f_second S x1)).toInt = 0 ∧ (d_second S x1 ∧ (∃ (S98 : MS), v_out S ((((8650752 : Int32) ||| (a8 <<< ((8 : Int32) &&& 31))) ||| ((f_second S x1) &&& (255 : Int32))).toInt64) (3 : Int32) S98 ∧ (oo = .inl S98)))))))) ∨ (¬ a4.toInt = 132 ∧ (v_outRow_J243 oo S x1 a4 a8 a11)))))))))))))))))))))))))
set_option maxRecDepth 100000 in
theorem ru_outRow_J141 {ι : Type} {P : MS ⊕ MS → Prop} {Q : MS → Prop} {E : MS → Prop} {U141 : MS} {t141_0 : Int32} {t141_1 : Int32} {t141_2 : Int32} (i0 : ι) (K : ∀ (i : ι) (oo : MS ⊕ MS), v_outRow_J141 oo U141 t141_0 t141_1 t141_2 → P oo) (h : w_outRow_J141 Q E U141 t141_0 t141_1 t141_2) : ∃ oo, P oo ∧ oV Q E oo := by
  unfold w_outRow_J141 at h
  obtain ⟨Q9, h0, h⟩ := h
  obtain ⟨S15, z9, g9⟩ := ru_outLocal h0
  replace h := h S15 g9
  replace K := fun i oo z => K i oo ⟨S15, z9, z⟩
  exact ⟨.inl _, K i0 _ rfl, h⟩
set_option maxRecDepth 100000 in
theorem ru_outRow_J114 {ι : Type} {P : MS ⊕ MS → Prop} {Q : MS → Prop} {E : MS → Prop} {U114 : MS} {v114_2 : Int32} {v114_3 : Int32} (i0 : ι) (K : ∀ (i : ι) (oo : MS ⊕ MS), v_outRow_J114 oo U114 v114_2 v114_3 → P oo) (h : w_outRow_J114 Q E U114 v114_2 v114_3) : ∃ oo, P oo ∧ oV Q E oo := by
  unfold w_outRow_J114 at h
  by_cases c : v114_2.toInt = 21
  · replace h := h.1 c
    replace K := fun i oo z => K i oo (Or.inl ⟨c, z⟩)
    exact ru_outRow_J141 i0 K h
  · replace h := h.2 c
    replace K := fun i oo z => K i oo (Or.inr ⟨c, z⟩)
    by_cases c : v114_2.toInt = 22
    · replace h := h.1 c
      replace K := fun i oo z => K i oo (Or.inl ⟨c, z⟩)
      exact ru_outRow_J141 i0 K h
    · replace h := h.2 c
      replace K := fun i oo z => K i oo (Or.inr ⟨c, z⟩)
      exact ru_outRow_J141 i0 K h
set_option maxRecDepth 100000 in
theorem ru_outRow_J192 {ι : Type} {P : MS ⊕ MS → Prop} {Q : MS → Prop} {E : MS → Prop} {U192 : MS} {t192_0 : Int32} {t192_1 : Int32} {t192_2 : Int32} (i0 : ι) (K : ∀ (i : ι) (oo : MS ⊕ MS), v_outRow_J192 oo U192 t192_0 t192_1 t192_2 → P oo) (h : w_outRow_J192 Q E U192 t192_0 t192_1 t192_2) : ∃ oo, P oo ∧ oV Q E oo := by
  unfold w_outRow_J192 at h
  obtain ⟨Q9, h0, h⟩ := h
  obtain ⟨S23, z9, g9⟩ := ru_outLocal h0
  replace h := h S23 g9
  replace K := fun i oo z => K i oo ⟨S23, z9, z⟩
  exact ⟨.inl _, K i0 _ rfl, h⟩
set_option maxRecDepth 100000 in
theorem ru_outRow_J165 {ι : Type} {P : MS ⊕ MS → Prop} {Q : MS → Prop} {E : MS → Prop} {U165 : MS} {v165_2 : Int32} {v165_3 : Int32} (i0 : ι) (K : ∀ (i : ι) (oo : MS ⊕ MS), v_outRow_J165 oo U165 v165_2 v165_3 → P oo) (h : w_outRow_J165 Q E U165 v165_2 v165_3) : ∃ oo, P oo ∧ oV Q E oo := by
  unfold w_outRow_J165 at h
  by_cases c : v165_2.toInt = 54
  · replace h := h.1 c
    replace K := fun i oo z => K i oo (Or.inl ⟨c, z⟩)
    exact ru_outRow_J192 i0 K h
  · replace h := h.2 c
    replace K := fun i oo z => K i oo (Or.inr ⟨c, z⟩)
    by_cases c : v165_2.toInt = 55
    · replace h := h.1 c
      replace K := fun i oo z => K i oo (Or.inl ⟨c, z⟩)
      exact ru_outRow_J192 i0 K h
    · replace h := h.2 c
      replace K := fun i oo z => K i oo (Or.inr ⟨c, z⟩)
      exact ru_outRow_J192 i0 K h
set_option maxRecDepth 100000 in
theorem ru_outRow_J349 {ι : Type} {P : MS ⊕ MS → Prop} {Q : MS → Prop} {E : MS → Prop} {U349 : MS} {v349_1 : Int32} {v349_2 : Int32} (i0 : ι) (K : ∀ (i : ι) (oo : MS ⊕ MS), v_outRow_J349 oo U349 v349_1 v349_2 → P oo) (h : w_outRow_J349 Q E U349 v349_1 v349_2) : ∃ oo, P oo ∧ oV Q E oo := by
  unfold w_outRow_J349 at h
  obtain ⟨Q9, E9, h0, h⟩ := h
  obtain ⟨o9, z9, g9⟩ := ru_needOf h0
  rcases o9 with ⟨r41, S42⟩ | u9
  · replace h := h.1 r41 S42 g9
    replace K := fun i oo z => K i oo (Or.inl ⟨r41, S42, z9, z⟩)
    obtain ⟨Q9, h0, h⟩ := h
    obtain ⟨S46, z9, g9⟩ := ru_out h0
    replace h := h S46 g9
    replace K := fun i oo z => K i oo ⟨S46, z9, z⟩
    exact ⟨.inl _, K i0 _ rfl, h⟩
  · replace h := h.2 u9 g9
    replace K := fun i oo z => K i oo (Or.inr ⟨u9, z9, z⟩)
    exact ⟨.inr u9, K i0 _ rfl, h⟩
set_option maxRecDepth 100000 in
theorem ru_outRow_J243 {ι : Type} {P : MS ⊕ MS → Prop} {Q : MS → Prop} {E : MS → Prop} {U243 : MS} {v243_1 : Int32} {v243_2 : Int32} {v243_3 : Int32} {v243_4 : Int32} (i0 : ι) (K : ∀ (i : ι) (oo : MS ⊕ MS), v_outRow_J243 oo U243 v243_1 v243_2 v243_3 v243_4 → P oo) (h : w_outRow_J243 Q E U243 v243_1 v243_2 v243_3 v243_4) : ∃ oo, P oo ∧ oV Q E oo := by
  unfold w_outRow_J243 at h
  by_cases c : v243_2.toInt = 132
  · replace h := h.1 c
    replace K := fun i oo z => K i oo (Or.inl ⟨c, z⟩)
    obtain ⟨Q9, h0, h⟩ := h
    obtain ⟨S71, z9, g9⟩ := ru_out h0
    replace h := h S71 g9
    replace K := fun i oo z => K i oo ⟨S71, z9, z⟩
    obtain ⟨Q9, h0, h⟩ := h
    obtain ⟨S74, z9, g9⟩ := ru_out h0
    replace h := h S74 g9
    replace K := fun i oo z => K i oo ⟨S74, z9, z⟩
    obtain ⟨g1_, h⟩ := h
    replace K := fun i oo z => K i oo ⟨g1_, z⟩
    obtain ⟨Q9, h0, h⟩ := h
    obtain ⟨S80, z9, g9⟩ := ru_out h0
    replace h := h S80 g9
    replace K := fun i oo z => K i oo ⟨S80, z9, z⟩
    exact ⟨.inl _, K i0 _ rfl, h⟩
  · replace h := h.2 c
    replace K := fun i oo z => K i oo (Or.inr ⟨c, z⟩)
    obtain ⟨g2_, h⟩ := h
    replace K := fun i oo z => K i oo ⟨g2_, z⟩
    by_cases c : (f_isSwitch U243 v243_2).toInt = 0
    · replace h := h.1 c
      replace K := fun i oo z => K i oo (Or.inl ⟨c, z⟩)
      obtain ⟨g3_, h⟩ := h
      replace K := fun i oo z => K i oo ⟨g3_, z⟩
      by_cases c : (f_isJump U243 v243_2).toInt = 0
      · replace h := h.1 c
        replace K := fun i oo z => K i oo (Or.inl ⟨c, z⟩)
        by_cases c : v243_2.toInt = 178
        · replace h := h.1 c
          replace K := fun i oo z => K i oo (Or.inl ⟨c, z⟩)
          exact ru_outRow_J349 i0 K h
        · replace h := h.2 c
          replace K := fun i oo z => K i oo (Or.inr ⟨c, z⟩)
          by_cases c : v243_2.toInt = 179
          · replace h := h.1 c
            replace K := fun i oo z => K i oo (Or.inl ⟨c, z⟩)
            exact ru_outRow_J349 i0 K h
          · replace h := h.2 c
            replace K := fun i oo z => K i oo (Or.inr ⟨c, z⟩)
            by_cases c : v243_2.toInt = 184
            · replace h := h.1 c
              replace K := fun i oo z => K i oo (Or.inl ⟨c, z⟩)
              exact ru_outRow_J349 i0 K h
            · replace h := h.2 c
              replace K := fun i oo z => K i oo (Or.inr ⟨c, z⟩)
              by_cases c : v243_2.toInt = 188
              · replace h := h.1 c
                replace K := fun i oo z => K i oo (Or.inl ⟨c, z⟩)
                obtain ⟨Q9, h0, h⟩ := h
                obtain ⟨S56, z9, g9⟩ := ru_out h0
                replace h := h S56 g9
                replace K := fun i oo z => K i oo ⟨S56, z9, z⟩
                exact ⟨.inl _, K i0 _ rfl, h⟩
              · replace h := h.2 c
                replace K := fun i oo z => K i oo (Or.inr ⟨c, z⟩)
                obtain ⟨Q9, h0, h⟩ := h
                obtain ⟨S53, z9, g9⟩ := ru_out h0
                replace h := h S53 g9
                replace K := fun i oo z => K i oo ⟨S53, z9, z⟩
                exact ⟨.inl _, K i0 _ rfl, h⟩
      · replace h := h.2 c
        replace K := fun i oo z => K i oo (Or.inr ⟨c, z⟩)
        obtain ⟨Q9, h0, h⟩ := h
        obtain ⟨S59, z9, g9⟩ := ru_out h0
        replace h := h S59 g9
        replace K := fun i oo z => K i oo ⟨S59, z9, z⟩
        obtain ⟨g4_, h⟩ := h
        replace K := fun i oo z => K i oo ⟨g4_, z⟩
        obtain ⟨Q9, h0, h⟩ := h
        obtain ⟨S65, z9, g9⟩ := ru_out h0
        replace h := h S65 g9
        replace K := fun i oo z => K i oo ⟨S65, z9, z⟩
        exact ⟨.inl _, K i0 _ rfl, h⟩
    · replace h := h.2 c
      replace K := fun i oo z => K i oo (Or.inr ⟨c, z⟩)
      obtain ⟨Q9, h0, h⟩ := h
      obtain ⟨S68, z9, g9⟩ := ru_outSwitch h0
      replace h := h S68 g9
      replace K := fun i oo z => K i oo ⟨S68, z9, z⟩
      exact ⟨.inl _, K i0 _ rfl, h⟩
set_option maxRecDepth 100000 in
theorem ru_outRow_J61 {ι : Type} {P : MS ⊕ MS → Prop} {Q : MS → Prop} {E : MS → Prop} {U61 : MS} {v61_1 : Int32} (i0 : ι) (K : ∀ (i : ι) (oo : MS ⊕ MS), v_outRow_J61 oo U61 v61_1 → P oo) (h : w_outRow_J61 Q E U61 v61_1) : ∃ oo, P oo ∧ oV Q E oo := by
  unfold w_outRow_J61 at h
  obtain ⟨g5_, h⟩ := h
  replace K := fun i oo z => K i oo ⟨g5_, z⟩
  obtain ⟨Q9, h0, h⟩ := h
  obtain ⟨S109, z9, g9⟩ := ru_out h0
  replace h := h S109 g9
  replace K := fun i oo z => K i oo ⟨S109, z9, z⟩
  exact ⟨.inl _, K i0 _ rfl, h⟩
set_option maxRecDepth 100000 in
theorem ru_outRow {S : MS} {x1 : Int32} {Q : MS → Prop} {E : MS → Prop} (h : w_outRow S x1 Q E) : ∃ oo, v_outRow S x1 oo ∧ oV Q E oo := by
  have i0 : Unit := ()
  have K : ∀ (i : Unit) (oo : MS ⊕ MS), v_outRow S x1 oo → v_outRow S x1 oo := fun _ _ z => z
  unfold w_outRow at h
  obtain ⟨g6_, h⟩ := h
  replace K := fun i oo z => K i oo ⟨g6_, z⟩
  obtain ⟨a4, ea4⟩ : ∃ x9 : Int32, x9 = (f_op S x1) := ⟨_, rfl⟩
  replace h := h a4 ea4
  replace K := fun i oo z => K i oo ⟨a4, ea4, z⟩
  obtain ⟨g7_, h⟩ := h
  replace K := fun i oo z => K i oo ⟨g7_, z⟩
  obtain ⟨a8, ea8⟩ : ∃ x9 : Int32, x9 = (f_first S x1) := ⟨_, rfl⟩
  replace h := h a8 ea8
  replace K := fun i oo z => K i oo ⟨a8, ea8, z⟩
  obtain ⟨g8_, h⟩ := h
  replace K := fun i oo z => K i oo ⟨g8_, z⟩
  obtain ⟨a11, ea11⟩ : ∃ x9 : Int32, x9 = (qI S 36 x1.toInt.toNat) := ⟨_, rfl⟩
  replace h := h a11 ea11
  replace K := fun i oo z => K i oo ⟨a11, ea11, z⟩
  by_cases c : a4.toInt = 18
  · replace h := h.1 c
    replace K := fun i oo z => K i oo (Or.inl ⟨c, z⟩)
    obtain ⟨Q9, E9, h0, h⟩ := h
    obtain ⟨o9, z9, g9⟩ := ru_outPush h0
    rcases o9 with S126 | u9
    · replace h := h.1 S126 g9
      replace K := fun i oo z => K i oo (Or.inl ⟨S126, z9, z⟩)
      exact ⟨.inl _, K i0 _ rfl, h⟩
    · replace h := h.2 u9 g9
      replace K := fun i oo z => K i oo (Or.inr ⟨u9, z9, z⟩)
      exact ⟨.inr u9, K i0 _ rfl, h⟩
  · replace h := h.2 c
    replace K := fun i oo z => K i oo (Or.inr ⟨c, z⟩)
    by_cases c : a4.toInt = 20
    · replace h := h.1 c
      replace K := fun i oo z => K i oo (Or.inl ⟨c, z⟩)
      obtain ⟨g9_, h⟩ := h
      replace K := fun i oo z => K i oo ⟨g9_, z⟩
      by_cases c : (lg_cmp (f_longOf S x1) 0).toInt = 0
      · replace h := h.1 c
        replace K := fun i oo z => K i oo (Or.inl ⟨c, z⟩)
        exact ru_outRow_J61 i0 K h
      · replace h := h.2 c
        replace K := fun i oo z => K i oo (Or.inr ⟨c, z⟩)
        obtain ⟨g10_, h⟩ := h
        replace K := fun i oo z => K i oo ⟨g10_, z⟩
        by_cases c : (lg_cmp (f_longOf S x1) 1).toInt = 0
        · replace h := h.1 c
          replace K := fun i oo z => K i oo (Or.inl ⟨c, z⟩)
          exact ru_outRow_J61 i0 K h
        · replace h := h.2 c
          replace K := fun i oo z => K i oo (Or.inr ⟨c, z⟩)
          obtain ⟨Q9, E9, h0, h⟩ := h
          obtain ⟨o9, z9, g9⟩ := ru_needOf h0
          rcases o9 with ⟨r118, S119⟩ | u9
          · replace h := h.1 r118 S119 g9
            replace K := fun i oo z => K i oo (Or.inl ⟨r118, S119, z9, z⟩)
            obtain ⟨Q9, h0, h⟩ := h
            obtain ⟨S123, z9, g9⟩ := ru_out h0
            replace h := h S123 g9
            replace K := fun i oo z => K i oo ⟨S123, z9, z⟩
            exact ⟨.inl _, K i0 _ rfl, h⟩
          · replace h := h.2 u9 g9
            replace K := fun i oo z => K i oo (Or.inr ⟨u9, z9, z⟩)
            exact ⟨.inr u9, K i0 _ rfl, h⟩
    · replace h := h.2 c
      replace K := fun i oo z => K i oo (Or.inr ⟨c, z⟩)
      by_cases c : a4.toInt = 21
      · replace h := h.1 c
        replace K := fun i oo z => K i oo (Or.inl ⟨c, z⟩)
        exact ru_outRow_J114 i0 K h
      · replace h := h.2 c
        replace K := fun i oo z => K i oo (Or.inr ⟨c, z⟩)
        by_cases c : a4.toInt = 22
        · replace h := h.1 c
          replace K := fun i oo z => K i oo (Or.inl ⟨c, z⟩)
          exact ru_outRow_J114 i0 K h
        · replace h := h.2 c
          replace K := fun i oo z => K i oo (Or.inr ⟨c, z⟩)
          by_cases c : a4.toInt = 25
          · replace h := h.1 c
            replace K := fun i oo z => K i oo (Or.inl ⟨c, z⟩)
            exact ru_outRow_J114 i0 K h
          · replace h := h.2 c
            replace K := fun i oo z => K i oo (Or.inr ⟨c, z⟩)
            by_cases c : a4.toInt = 54
            · replace h := h.1 c
              replace K := fun i oo z => K i oo (Or.inl ⟨c, z⟩)
              exact ru_outRow_J165 i0 K h
            · replace h := h.2 c
              replace K := fun i oo z => K i oo (Or.inr ⟨c, z⟩)
              by_cases c : a4.toInt = 55
              · replace h := h.1 c
                replace K := fun i oo z => K i oo (Or.inl ⟨c, z⟩)
                exact ru_outRow_J165 i0 K h
              · replace h := h.2 c
                replace K := fun i oo z => K i oo (Or.inr ⟨c, z⟩)
                by_cases c : a4.toInt = 58
                · replace h := h.1 c
                  replace K := fun i oo z => K i oo (Or.inl ⟨c, z⟩)
                  exact ru_outRow_J165 i0 K h
                · replace h := h.2 c
                  replace K := fun i oo z => K i oo (Or.inr ⟨c, z⟩)
                  by_cases c : a4.toInt = 132
                  · replace h := h.1 c
                    replace K := fun i oo z => K i oo (Or.inl ⟨c, z⟩)
                    obtain ⟨g11_, h⟩ := h
                    replace K := fun i oo z => K i oo ⟨g11_, z⟩
                    obtain ⟨g12_, h⟩ := h
                    replace K := fun i oo z => K i oo ⟨g12_, z⟩
                    by_cases c : (f_isByte S (f_second S x1)).toInt = 0
                    · replace h := h.1 c
                      replace K := fun i oo z => K i oo (Or.inl ⟨c, z⟩)
                      exact ru_outRow_J243 i0 K h
                    · replace h := h.2 c
                      replace K := fun i oo z => K i oo (Or.inr ⟨c, z⟩)
                      obtain ⟨g13_, h⟩ := h
                      replace K := fun i oo z => K i oo ⟨g13_, z⟩
                      obtain ⟨Q9, h0, h⟩ := h
                      obtain ⟨S98, z9, g9⟩ := ru_out h0
                      replace h := h S98 g9
                      replace K := fun i oo z => K i oo ⟨S98, z9, z⟩
                      exact ⟨.inl _, K i0 _ rfl, h⟩
                  · replace h := h.2 c
                    replace K := fun i oo z => K i oo (Or.inr ⟨c, z⟩)
                    exact ru_outRow_J243 i0 K h
set_option maxRecDepth 100000 in
theorem vw_outRow_J141 {oo : MS ⊕ MS} {U141 : MS} {t141_0 : Int32} {t141_1 : Int32} {t141_2 : Int32} (h : v_outRow_J141 oo U141 t141_0 t141_1 t141_2) : w_outRow_J141 (fun u => oo = .inl u) (fun u => oo = .inr u) U141 t141_0 t141_1 t141_2 := by
  unfold v_outRow_J141 at h
  unfold w_outRow_J141
  obtain ⟨q9, z9, h⟩ := h
  refine ⟨_, vw_outLocal z9, ?_⟩
  intro q8 d9
  subst d9
  exact h
set_option maxRecDepth 100000 in
theorem vz_outRow_J141 {oo : MS ⊕ MS} {Q : MS → Prop} {E : MS → Prop} {U141 : MS} {t141_0 : Int32} {t141_1 : Int32} {t141_2 : Int32} (h : v_outRow_J141 oo U141 t141_0 t141_1 t141_2) (w : w_outRow_J141 Q E U141 t141_0 t141_1 t141_2) : oV Q E oo := by
  unfold v_outRow_J141 at h
  unfold w_outRow_J141 at w
  obtain ⟨q9, z9, h⟩ := h
  obtain ⟨Q9, w0, w⟩ := w
  replace w := w q9 (vz_outLocal z9 w0)
  rw [h]
  exact w
set_option maxRecDepth 100000 in
theorem vw_outRow_J114 {oo : MS ⊕ MS} {U114 : MS} {v114_2 : Int32} {v114_3 : Int32} (h : v_outRow_J114 oo U114 v114_2 v114_3) : w_outRow_J114 (fun u => oo = .inl u) (fun u => oo = .inr u) U114 v114_2 v114_3 := by
  unfold v_outRow_J114 at h
  unfold w_outRow_J114
  rcases h with ⟨c, h⟩ | ⟨c, h⟩
  · refine ⟨fun _ => ?_, fun c2 => absurd c c2⟩
    exact vw_outRow_J141 h
  · refine ⟨fun c2 => absurd c2 c, fun _ => ?_⟩
    rcases h with ⟨c, h⟩ | ⟨c, h⟩
    · refine ⟨fun _ => ?_, fun c2 => absurd c c2⟩
      exact vw_outRow_J141 h
    · refine ⟨fun c2 => absurd c2 c, fun _ => ?_⟩
      exact vw_outRow_J141 h
set_option maxRecDepth 100000 in
theorem vz_outRow_J114 {oo : MS ⊕ MS} {Q : MS → Prop} {E : MS → Prop} {U114 : MS} {v114_2 : Int32} {v114_3 : Int32} (h : v_outRow_J114 oo U114 v114_2 v114_3) (w : w_outRow_J114 Q E U114 v114_2 v114_3) : oV Q E oo := by
  unfold v_outRow_J114 at h
  unfold w_outRow_J114 at w
  rcases h with ⟨c, h⟩ | ⟨c, h⟩
  · replace w := w.1 c
    exact vz_outRow_J141 h w
  · replace w := w.2 c
    rcases h with ⟨c, h⟩ | ⟨c, h⟩
    · replace w := w.1 c
      exact vz_outRow_J141 h w
    · replace w := w.2 c
      exact vz_outRow_J141 h w
set_option maxRecDepth 100000 in
theorem vw_outRow_J192 {oo : MS ⊕ MS} {U192 : MS} {t192_0 : Int32} {t192_1 : Int32} {t192_2 : Int32} (h : v_outRow_J192 oo U192 t192_0 t192_1 t192_2) : w_outRow_J192 (fun u => oo = .inl u) (fun u => oo = .inr u) U192 t192_0 t192_1 t192_2 := by
  unfold v_outRow_J192 at h
  unfold w_outRow_J192
  obtain ⟨q9, z9, h⟩ := h
  refine ⟨_, vw_outLocal z9, ?_⟩
  intro q8 d9
  subst d9
  exact h
set_option maxRecDepth 100000 in
theorem vz_outRow_J192 {oo : MS ⊕ MS} {Q : MS → Prop} {E : MS → Prop} {U192 : MS} {t192_0 : Int32} {t192_1 : Int32} {t192_2 : Int32} (h : v_outRow_J192 oo U192 t192_0 t192_1 t192_2) (w : w_outRow_J192 Q E U192 t192_0 t192_1 t192_2) : oV Q E oo := by
  unfold v_outRow_J192 at h
  unfold w_outRow_J192 at w
  obtain ⟨q9, z9, h⟩ := h
  obtain ⟨Q9, w0, w⟩ := w
  replace w := w q9 (vz_outLocal z9 w0)
  rw [h]
  exact w
set_option maxRecDepth 100000 in
theorem vw_outRow_J165 {oo : MS ⊕ MS} {U165 : MS} {v165_2 : Int32} {v165_3 : Int32} (h : v_outRow_J165 oo U165 v165_2 v165_3) : w_outRow_J165 (fun u => oo = .inl u) (fun u => oo = .inr u) U165 v165_2 v165_3 := by
  unfold v_outRow_J165 at h
  unfold w_outRow_J165
  rcases h with ⟨c, h⟩ | ⟨c, h⟩
  · refine ⟨fun _ => ?_, fun c2 => absurd c c2⟩
    exact vw_outRow_J192 h
  · refine ⟨fun c2 => absurd c2 c, fun _ => ?_⟩
    rcases h with ⟨c, h⟩ | ⟨c, h⟩
    · refine ⟨fun _ => ?_, fun c2 => absurd c c2⟩
      exact vw_outRow_J192 h
    · refine ⟨fun c2 => absurd c2 c, fun _ => ?_⟩
      exact vw_outRow_J192 h
set_option maxRecDepth 100000 in
theorem vz_outRow_J165 {oo : MS ⊕ MS} {Q : MS → Prop} {E : MS → Prop} {U165 : MS} {v165_2 : Int32} {v165_3 : Int32} (h : v_outRow_J165 oo U165 v165_2 v165_3) (w : w_outRow_J165 Q E U165 v165_2 v165_3) : oV Q E oo := by
  unfold v_outRow_J165 at h
  unfold w_outRow_J165 at w
  rcases h with ⟨c, h⟩ | ⟨c, h⟩
  · replace w := w.1 c
    exact vz_outRow_J192 h w
  · replace w := w.2 c
    rcases h with ⟨c, h⟩ | ⟨c, h⟩
    · replace w := w.1 c
      exact vz_outRow_J192 h w
    · replace w := w.2 c
      exact vz_outRow_J192 h w
set_option maxRecDepth 100000 in
theorem vw_outRow_J349 {oo : MS ⊕ MS} {U349 : MS} {v349_1 : Int32} {v349_2 : Int32} (h : v_outRow_J349 oo U349 v349_1 v349_2) : w_outRow_J349 (fun u => oo = .inl u) (fun u => oo = .inr u) U349 v349_1 v349_2 := by
  unfold v_outRow_J349 at h
  unfold w_outRow_J349
  rcases h with ⟨p9, q9, z9, h⟩ | ⟨q9, z9, h⟩
  · refine ⟨_, _, vw_needOf z9, ?_, ?_⟩
    · intro p8 q8 d9
      injection d9 with d9
      injection d9 with d8 d9
      subst d8
      subst d9
      obtain ⟨q9, z9, h⟩ := h
      refine ⟨_, vw_out z9, ?_⟩
      intro q8 d9
      subst d9
      exact h
    · intro q8 d9
      exact nomatch d9
  · refine ⟨_, _, vw_needOf z9, ?_, ?_⟩
    · intro p8 q8 d9
      exact nomatch d9
    · intro q8 d9
      injection d9 with d9
      subst d9
      exact h
set_option maxRecDepth 100000 in
theorem vz_outRow_J349 {oo : MS ⊕ MS} {Q : MS → Prop} {E : MS → Prop} {U349 : MS} {v349_1 : Int32} {v349_2 : Int32} (h : v_outRow_J349 oo U349 v349_1 v349_2) (w : w_outRow_J349 Q E U349 v349_1 v349_2) : oV Q E oo := by
  unfold v_outRow_J349 at h
  unfold w_outRow_J349 at w
  obtain ⟨Q9, E9, w0, w⟩ := w
  rcases h with ⟨p9, q9, z9, h⟩ | ⟨q9, z9, h⟩
  · replace w := w.1 p9 q9 (vz_needOf z9 w0)
    obtain ⟨q9, z9, h⟩ := h
    obtain ⟨Q9, w0, w⟩ := w
    replace w := w q9 (vz_out z9 w0)
    rw [h]
    exact w
  · replace w := w.2 q9 (vz_needOf z9 w0)
    rw [h]
    exact w
set_option maxRecDepth 100000 in
theorem vw_outRow_J243 {oo : MS ⊕ MS} {U243 : MS} {v243_1 : Int32} {v243_2 : Int32} {v243_3 : Int32} {v243_4 : Int32} (h : v_outRow_J243 oo U243 v243_1 v243_2 v243_3 v243_4) : w_outRow_J243 (fun u => oo = .inl u) (fun u => oo = .inr u) U243 v243_1 v243_2 v243_3 v243_4 := by
  unfold v_outRow_J243 at h
  unfold w_outRow_J243
  rcases h with ⟨c, h⟩ | ⟨c, h⟩
  · refine ⟨fun _ => ?_, fun c2 => absurd c c2⟩
    obtain ⟨q9, z9, h⟩ := h
    refine ⟨_, vw_out z9, ?_⟩
    intro q8 d9
    subst d9
    obtain ⟨q9, z9, h⟩ := h
    refine ⟨_, vw_out z9, ?_⟩
    intro q8 d9
    subst d9
    obtain ⟨g9, h⟩ := h
    refine ⟨g9, ?_⟩
    obtain ⟨q9, z9, h⟩ := h
    refine ⟨_, vw_out z9, ?_⟩
    intro q8 d9
    subst d9
    exact h
  · refine ⟨fun c2 => absurd c2 c, fun _ => ?_⟩
    obtain ⟨g9, h⟩ := h
    refine ⟨g9, ?_⟩
    rcases h with ⟨c, h⟩ | ⟨c, h⟩
    · refine ⟨fun _ => ?_, fun c2 => absurd c c2⟩
      obtain ⟨g9, h⟩ := h
      refine ⟨g9, ?_⟩
      rcases h with ⟨c, h⟩ | ⟨c, h⟩
      · refine ⟨fun _ => ?_, fun c2 => absurd c c2⟩
        rcases h with ⟨c, h⟩ | ⟨c, h⟩
        · refine ⟨fun _ => ?_, fun c2 => absurd c c2⟩
          exact vw_outRow_J349 h
        · refine ⟨fun c2 => absurd c2 c, fun _ => ?_⟩
          rcases h with ⟨c, h⟩ | ⟨c, h⟩
          · refine ⟨fun _ => ?_, fun c2 => absurd c c2⟩
            exact vw_outRow_J349 h
          · refine ⟨fun c2 => absurd c2 c, fun _ => ?_⟩
            rcases h with ⟨c, h⟩ | ⟨c, h⟩
            · refine ⟨fun _ => ?_, fun c2 => absurd c c2⟩
              exact vw_outRow_J349 h
            · refine ⟨fun c2 => absurd c2 c, fun _ => ?_⟩
              rcases h with ⟨c, h⟩ | ⟨c, h⟩
              · refine ⟨fun _ => ?_, fun c2 => absurd c c2⟩
                obtain ⟨q9, z9, h⟩ := h
                refine ⟨_, vw_out z9, ?_⟩
                intro q8 d9
                subst d9
                exact h
              · refine ⟨fun c2 => absurd c2 c, fun _ => ?_⟩
                obtain ⟨q9, z9, h⟩ := h
                refine ⟨_, vw_out z9, ?_⟩
                intro q8 d9
                subst d9
                exact h
      · refine ⟨fun c2 => absurd c2 c, fun _ => ?_⟩
        obtain ⟨q9, z9, h⟩ := h
        refine ⟨_, vw_out z9, ?_⟩
        intro q8 d9
        subst d9
        obtain ⟨g9, h⟩ := h
        refine ⟨g9, ?_⟩
        obtain ⟨q9, z9, h⟩ := h
        refine ⟨_, vw_out z9, ?_⟩
        intro q8 d9
        subst d9
        exact h
    · refine ⟨fun c2 => absurd c2 c, fun _ => ?_⟩
      obtain ⟨q9, z9, h⟩ := h
      refine ⟨_, vw_outSwitch z9, ?_⟩
      intro q8 d9
      subst d9
      exact h
set_option maxRecDepth 100000 in
theorem vz_outRow_J243 {oo : MS ⊕ MS} {Q : MS → Prop} {E : MS → Prop} {U243 : MS} {v243_1 : Int32} {v243_2 : Int32} {v243_3 : Int32} {v243_4 : Int32} (h : v_outRow_J243 oo U243 v243_1 v243_2 v243_3 v243_4) (w : w_outRow_J243 Q E U243 v243_1 v243_2 v243_3 v243_4) : oV Q E oo := by
  unfold v_outRow_J243 at h
  unfold w_outRow_J243 at w
  rcases h with ⟨c, h⟩ | ⟨c, h⟩
  · replace w := w.1 c
    obtain ⟨q9, z9, h⟩ := h
    obtain ⟨Q9, w0, w⟩ := w
    replace w := w q9 (vz_out z9 w0)
    obtain ⟨q9, z9, h⟩ := h
    obtain ⟨Q9, w0, w⟩ := w
    replace w := w q9 (vz_out z9 w0)
    replace h := h.2
    replace w := w.2
    obtain ⟨q9, z9, h⟩ := h
    obtain ⟨Q9, w0, w⟩ := w
    replace w := w q9 (vz_out z9 w0)
    rw [h]
    exact w
  · replace w := w.2 c
    replace h := h.2
    replace w := w.2
    rcases h with ⟨c, h⟩ | ⟨c, h⟩
    · replace w := w.1 c
      replace h := h.2
      replace w := w.2
      rcases h with ⟨c, h⟩ | ⟨c, h⟩
      · replace w := w.1 c
        rcases h with ⟨c, h⟩ | ⟨c, h⟩
        · replace w := w.1 c
          exact vz_outRow_J349 h w
        · replace w := w.2 c
          rcases h with ⟨c, h⟩ | ⟨c, h⟩
          · replace w := w.1 c
            exact vz_outRow_J349 h w
          · replace w := w.2 c
            rcases h with ⟨c, h⟩ | ⟨c, h⟩
            · replace w := w.1 c
              exact vz_outRow_J349 h w
            · replace w := w.2 c
              rcases h with ⟨c, h⟩ | ⟨c, h⟩
              · replace w := w.1 c
                obtain ⟨q9, z9, h⟩ := h
                obtain ⟨Q9, w0, w⟩ := w
                replace w := w q9 (vz_out z9 w0)
                rw [h]
                exact w
              · replace w := w.2 c
                obtain ⟨q9, z9, h⟩ := h
                obtain ⟨Q9, w0, w⟩ := w
                replace w := w q9 (vz_out z9 w0)
                rw [h]
                exact w
      · replace w := w.2 c
        obtain ⟨q9, z9, h⟩ := h
        obtain ⟨Q9, w0, w⟩ := w
        replace w := w q9 (vz_out z9 w0)
        replace h := h.2
        replace w := w.2
        obtain ⟨q9, z9, h⟩ := h
        obtain ⟨Q9, w0, w⟩ := w
        replace w := w q9 (vz_out z9 w0)
        rw [h]
        exact w
    · replace w := w.2 c
      obtain ⟨q9, z9, h⟩ := h
      obtain ⟨Q9, w0, w⟩ := w
      replace w := w q9 (vz_outSwitch z9 w0)
      rw [h]
      exact w
set_option maxRecDepth 100000 in
theorem vw_outRow_J61 {oo : MS ⊕ MS} {U61 : MS} {v61_1 : Int32} (h : v_outRow_J61 oo U61 v61_1) : w_outRow_J61 (fun u => oo = .inl u) (fun u => oo = .inr u) U61 v61_1 := by
  unfold v_outRow_J61 at h
  unfold w_outRow_J61
  obtain ⟨g9, h⟩ := h
  refine ⟨g9, ?_⟩
  obtain ⟨q9, z9, h⟩ := h
  refine ⟨_, vw_out z9, ?_⟩
  intro q8 d9
  subst d9
  exact h
set_option maxRecDepth 100000 in
theorem vz_outRow_J61 {oo : MS ⊕ MS} {Q : MS → Prop} {E : MS → Prop} {U61 : MS} {v61_1 : Int32} (h : v_outRow_J61 oo U61 v61_1) (w : w_outRow_J61 Q E U61 v61_1) : oV Q E oo := by
  unfold v_outRow_J61 at h
  unfold w_outRow_J61 at w
  replace h := h.2
  replace w := w.2
  obtain ⟨q9, z9, h⟩ := h
  obtain ⟨Q9, w0, w⟩ := w
  replace w := w q9 (vz_out z9 w0)
  rw [h]
  exact w
set_option maxRecDepth 100000 in
theorem vw_outRow {S : MS} {x1 : Int32} {oo : MS ⊕ MS} (h : v_outRow S x1 oo) : w_outRow S x1 (fun u => oo = .inl u) (fun u => oo = .inr u) := by
  unfold v_outRow at h
  unfold w_outRow
  obtain ⟨g9, h⟩ := h
  refine ⟨g9, ?_⟩
  obtain ⟨v9, e9, h⟩ := h
  intro x9 d9
  have c9 : v9 = x9 := e9.trans d9.symm
  subst c9
  obtain ⟨g9, h⟩ := h
  refine ⟨g9, ?_⟩
  obtain ⟨v9, e9, h⟩ := h
  intro x9 d9
  have c9 : v9 = x9 := e9.trans d9.symm
  subst c9
  obtain ⟨g9, h⟩ := h
  refine ⟨g9, ?_⟩
  obtain ⟨v9, e9, h⟩ := h
  intro x9 d9
  have c9 : v9 = x9 := e9.trans d9.symm
  subst c9
  rcases h with ⟨c, h⟩ | ⟨c, h⟩
  · refine ⟨fun _ => ?_, fun c2 => absurd c c2⟩
    rcases h with ⟨q9, z9, h⟩ | ⟨q9, z9, h⟩
    · refine ⟨_, _, vw_outPush z9, ?_, ?_⟩
      · intro q8 d9
        injection d9 with d9
        subst d9
        exact h
      · intro q8 d9
        exact nomatch d9
    · refine ⟨_, _, vw_outPush z9, ?_, ?_⟩
      · intro q8 d9
        exact nomatch d9
      · intro q8 d9
        injection d9 with d9
        subst d9
        exact h
  · refine ⟨fun c2 => absurd c2 c, fun _ => ?_⟩
    rcases h with ⟨c, h⟩ | ⟨c, h⟩
    · refine ⟨fun _ => ?_, fun c2 => absurd c c2⟩
      obtain ⟨g9, h⟩ := h
      refine ⟨g9, ?_⟩
      rcases h with ⟨c, h⟩ | ⟨c, h⟩
      · refine ⟨fun _ => ?_, fun c2 => absurd c c2⟩
        exact vw_outRow_J61 h
      · refine ⟨fun c2 => absurd c2 c, fun _ => ?_⟩
        obtain ⟨g9, h⟩ := h
        refine ⟨g9, ?_⟩
        rcases h with ⟨c, h⟩ | ⟨c, h⟩
        · refine ⟨fun _ => ?_, fun c2 => absurd c c2⟩
          exact vw_outRow_J61 h
        · refine ⟨fun c2 => absurd c2 c, fun _ => ?_⟩
          rcases h with ⟨p9, q9, z9, h⟩ | ⟨q9, z9, h⟩
          · refine ⟨_, _, vw_needOf z9, ?_, ?_⟩
            · intro p8 q8 d9
              injection d9 with d9
              injection d9 with d8 d9
              subst d8
              subst d9
              obtain ⟨q9, z9, h⟩ := h
              refine ⟨_, vw_out z9, ?_⟩
              intro q8 d9
              subst d9
              exact h
            · intro q8 d9
              exact nomatch d9
          · refine ⟨_, _, vw_needOf z9, ?_, ?_⟩
            · intro p8 q8 d9
              exact nomatch d9
            · intro q8 d9
              injection d9 with d9
              subst d9
              exact h
    · refine ⟨fun c2 => absurd c2 c, fun _ => ?_⟩
      rcases h with ⟨c, h⟩ | ⟨c, h⟩
      · refine ⟨fun _ => ?_, fun c2 => absurd c c2⟩
        exact vw_outRow_J114 h
      · refine ⟨fun c2 => absurd c2 c, fun _ => ?_⟩
        rcases h with ⟨c, h⟩ | ⟨c, h⟩
        · refine ⟨fun _ => ?_, fun c2 => absurd c c2⟩
          exact vw_outRow_J114 h
        · refine ⟨fun c2 => absurd c2 c, fun _ => ?_⟩
          rcases h with ⟨c, h⟩ | ⟨c, h⟩
          · refine ⟨fun _ => ?_, fun c2 => absurd c c2⟩
            exact vw_outRow_J114 h
          · refine ⟨fun c2 => absurd c2 c, fun _ => ?_⟩
            rcases h with ⟨c, h⟩ | ⟨c, h⟩
            · refine ⟨fun _ => ?_, fun c2 => absurd c c2⟩
              exact vw_outRow_J165 h
            · refine ⟨fun c2 => absurd c2 c, fun _ => ?_⟩
              rcases h with ⟨c, h⟩ | ⟨c, h⟩
              · refine ⟨fun _ => ?_, fun c2 => absurd c c2⟩
                exact vw_outRow_J165 h
              · refine ⟨fun c2 => absurd c2 c, fun _ => ?_⟩
                rcases h with ⟨c, h⟩ | ⟨c, h⟩
                · refine ⟨fun _ => ?_, fun c2 => absurd c c2⟩
                  exact vw_outRow_J165 h
                · refine ⟨fun c2 => absurd c2 c, fun _ => ?_⟩
                  rcases h with ⟨c, h⟩ | ⟨c, h⟩
                  · refine ⟨fun _ => ?_, fun c2 => absurd c c2⟩
                    obtain ⟨g9, h⟩ := h
                    refine ⟨g9, ?_⟩
                    obtain ⟨g9, h⟩ := h
                    refine ⟨g9, ?_⟩
                    rcases h with ⟨c, h⟩ | ⟨c, h⟩
                    · refine ⟨fun _ => ?_, fun c2 => absurd c c2⟩
                      exact vw_outRow_J243 h
                    · refine ⟨fun c2 => absurd c2 c, fun _ => ?_⟩
                      obtain ⟨g9, h⟩ := h
                      refine ⟨g9, ?_⟩
                      obtain ⟨q9, z9, h⟩ := h
                      refine ⟨_, vw_out z9, ?_⟩
                      intro q8 d9
                      subst d9
                      exact h
                  · refine ⟨fun c2 => absurd c2 c, fun _ => ?_⟩
                    exact vw_outRow_J243 h
set_option maxRecDepth 100000 in
theorem vz_outRow {S : MS} {x1 : Int32} {oo : MS ⊕ MS} {Q : MS → Prop} {E : MS → Prop} (h : v_outRow S x1 oo) (w : w_outRow S x1 Q E) : oV Q E oo := by
  unfold v_outRow at h
  unfold w_outRow at w
  replace h := h.2
  replace w := w.2
  obtain ⟨v9, e9, h⟩ := h
  replace w := w v9 e9
  replace h := h.2
  replace w := w.2
  obtain ⟨v9, e9, h⟩ := h
  replace w := w v9 e9
  replace h := h.2
  replace w := w.2
  obtain ⟨v9, e9, h⟩ := h
  replace w := w v9 e9
  rcases h with ⟨c, h⟩ | ⟨c, h⟩
  · replace w := w.1 c
    obtain ⟨Q9, E9, w0, w⟩ := w
    rcases h with ⟨q9, z9, h⟩ | ⟨q9, z9, h⟩
    · replace w := w.1 q9 (vz_outPush z9 w0)
      rw [h]
      exact w
    · replace w := w.2 q9 (vz_outPush z9 w0)
      rw [h]
      exact w
  · replace w := w.2 c
    rcases h with ⟨c, h⟩ | ⟨c, h⟩
    · replace w := w.1 c
      replace h := h.2
      replace w := w.2
      rcases h with ⟨c, h⟩ | ⟨c, h⟩
      · replace w := w.1 c
        exact vz_outRow_J61 h w
      · replace w := w.2 c
        replace h := h.2
        replace w := w.2
        rcases h with ⟨c, h⟩ | ⟨c, h⟩
        · replace w := w.1 c
          exact vz_outRow_J61 h w
        · replace w := w.2 c
          obtain ⟨Q9, E9, w0, w⟩ := w
          rcases h with ⟨p9, q9, z9, h⟩ | ⟨q9, z9, h⟩
          · replace w := w.1 p9 q9 (vz_needOf z9 w0)
            obtain ⟨q9, z9, h⟩ := h
            obtain ⟨Q9, w0, w⟩ := w
            replace w := w q9 (vz_out z9 w0)
            rw [h]
            exact w
          · replace w := w.2 q9 (vz_needOf z9 w0)
            rw [h]
            exact w
    · replace w := w.2 c
      rcases h with ⟨c, h⟩ | ⟨c, h⟩
      · replace w := w.1 c
        exact vz_outRow_J114 h w
      · replace w := w.2 c
        rcases h with ⟨c, h⟩ | ⟨c, h⟩
        · replace w := w.1 c
          exact vz_outRow_J114 h w
        · replace w := w.2 c
          rcases h with ⟨c, h⟩ | ⟨c, h⟩
          · replace w := w.1 c
            exact vz_outRow_J114 h w
          · replace w := w.2 c
            rcases h with ⟨c, h⟩ | ⟨c, h⟩
            · replace w := w.1 c
              exact vz_outRow_J165 h w
            · replace w := w.2 c
              rcases h with ⟨c, h⟩ | ⟨c, h⟩
              · replace w := w.1 c
                exact vz_outRow_J165 h w
              · replace w := w.2 c
                rcases h with ⟨c, h⟩ | ⟨c, h⟩
                · replace w := w.1 c
                  exact vz_outRow_J165 h w
                · replace w := w.2 c
                  rcases h with ⟨c, h⟩ | ⟨c, h⟩
                  · replace w := w.1 c
                    replace h := h.2
                    replace w := w.2
                    replace h := h.2
                    replace w := w.2
                    rcases h with ⟨c, h⟩ | ⟨c, h⟩
                    · replace w := w.1 c
                      exact vz_outRow_J243 h w
                    · replace w := w.2 c
                      replace h := h.2
                      replace w := w.2
                      obtain ⟨q9, z9, h⟩ := h
                      obtain ⟨Q9, w0, w⟩ := w
                      replace w := w q9 (vz_out z9 w0)
                      rw [h]
                      exact w
                  · replace w := w.2 c
                    exact vz_outRow_J243 h w
def v_outMethod_J274 (oo : MS ⊕ MS) (k201 : MS → Int32 → Prop) (U274 : MS) (t274_0 : Int64) (v274_4 : Int32) : Prop := (∃ (S86 : MS), v_out U274 t274_0 (2 : Int32) S86 ∧ (∃ a88 : Int32, a88 = (v274_4 + Int32.ofInt 1) ∧ (k201 S86 a88)))
def v_outMethod_L213 (oo : MS ⊕ MS) (k201 : MS → Int32 → Prop) : Nat → MS → Int32 → Int32 → Prop
  | 0, _, _, _ => False
  | n213 + 1, U213, v213_4, v213_5 => ((3 ≤ v213_5.toInt ∧ (d_catchWord U213 v213_4 (3 : Int32) ∧ ((0 ≤ (f_catchWord U213 v213_4 (3 : Int32)).toInt ∧ (d_catchWord U213 v213_4 (3 : Int32) ∧ (d_errorName U213 (f_catchWord U213 v213_4 (3 : Int32)) ∧ ((∃ (r97 : Int32) (S98 : MS), v_classNumber U213 (f_errorName U213 (f_catchWord U213 v213_4 (3 : Int32))) (.inl (r97, S98)) ∧ (v_outMethod_J274 oo k201 S98 (r97.toInt64) v213_4)) ∨ (∃ u9 : MS, v_classNumber U213 (f_errorName U213 (f_catchWord U213 v213_4 (3 : Int32))) (.inr u9) ∧ (oo = .inr u9)))))) ∨ (¬ 0 ≤ (f_catchWord U213 v213_4 (3 : Int32)).toInt ∧ (v_outMethod_J274 oo k201 U213 0 v213_4))))) ∨ (¬ 3 ≤ v213_5.toInt ∧ (d_catchWord U213 v213_4 v213_5 ∧ (((0 : Int) ≤ (f_catchWord U213 v213_4 v213_5).toInt ∧ (f_catchWord U213 v213_4 v213_5).toInt < 1297) ∧ (∃ (S106 : MS), v_out U213 ((qI U213 36 (((f_catchWord U213 v213_4 v213_5).toInt).toNat)).toInt64) (2 : Int32) S106 ∧ (∃ a108 : Int32, a108 = (v213_5 + Int32.ofInt 1) ∧ ((v_outMethod_L213 oo k201 n213) S106 v213_4 a108)))))))
def v_outMethod_L201 (oo : MS ⊕ MS) : Nat → MS → Int32 → Prop
  | 0, _, _ => False
  | n201 + 1, U201, v201_4 => (((qI U201 0 54).toInt ≤ v201_4.toInt ∧ (∃ (S79 : MS), v_out U201 0 (2 : Int32) S79 ∧ (oo = .inl S79))) ∨ (¬ (qI U201 0 54).toInt ≤ v201_4.toInt ∧ (∃ n, v_outMethod_L213 oo (v_outMethod_L201 oo n201) n U201 v201_4 0)))
def v_outMethod_L167 (oo : MS ⊕ MS) : Nat → MS → Int32 → Prop
  | 0, _, _ => False
  | n167 + 1, U167, v167_4 => (((qI U167 0 52).toInt ≤ v167_4.toInt ∧ (∃ (S75 : MS), v_out U167 ((qI U167 0 54).toInt64) (2 : Int32) S75 ∧ (∃ n, v_outMethod_L201 oo n S75 0))) ∨ (¬ (qI U167 0 52).toInt ≤ v167_4.toInt ∧ ((∃ (S110 : MS), v_outRow U167 v167_4 (.inl S110) ∧ (∃ a112 : Int32, a112 = (v167_4 + Int32.ofInt 1) ∧ ((v_outMethod_L167 oo n167) S110 a112))) ∨ (∃ u9 : MS, v_outRow U167 v167_4 (.inr u9) ∧ (oo = .inr u9)))))
def v_outMethod_L57 (oo : MS ⊕ MS) : Nat → MS → Nat → Int32 → Int32 → Int32 → Prop
  | 0, _, _, _, _, _ => False
  | n57 + 1, U57, v57_1, v57_2, v57_3, v57_4 => (((qI U57 0 52).toInt ≤ v57_4.toInt ∧ (((0 : Int) ≤ (qI U57 0 52).toInt ∧ (qI U57 0 52).toInt < 1297) ∧ (∃ S36 : MS, S36 = wI U57 36 (((qI U57 0 52).toInt).toNat) v57_3 ∧ ((∃ (r39 : Int32) (S40 : MS), v_nameNumber S36 10000000 (.inl (r39, S40)) ∧ (∃ (S43 : MS), v_out S40 (r39.toInt64) (2 : Int32) S43 ∧ (∃ (S49 : MS), v_out S43 ((((12 : Int32) + v57_3) + ((8 : Int32) * (qI S43 0 54))).toInt64) (4 : Int32) S49 ∧ (∃ (r52 : Int32) (S53 : MS), v_leastStack S49 r52 S53 ∧ (∃ (S56 : MS), v_out S53 (r52.toInt64) (2 : Int32) S56 ∧ ((qR S56 v57_1 10 = some (qO S56 v57_1 10)) ∧ (((0 : Int) ≤ v57_2.toInt ∧ v57_2.toInt < (qN S56 (qO S56 v57_1 10) : Int)) ∧ ((qR S56 (qO S56 v57_1 10) v57_2.toInt.toNat = some (qO S56 (qO S56 v57_1 10) v57_2.toInt.toNat)) ∧ (∃ (r64 : Int32) (S65 : MS), v_leastLocals S56 (qO S56 (qO S56 v57_1 10) v57_2.toInt.toNat) r64 S65 ∧ (∃ (S68 : MS), v_out S65 (r64.toInt64) (2 : Int32) S68 ∧ (∃ (S71 : MS), v_out S68 (v57_3.toInt64) (4 : Int32) S71 ∧ (∃ n, v_outMethod_L167 oo n S71 0)))))))))))) ∨ (∃ u9 : MS, v_nameNumber S36 10000000 (.inr u9) ∧ (oo = .inr u9)))))) ∨ (¬ (qI U57 0 52).toInt ≤ v57_4.toInt ∧ (((0 : Int) ≤ v57_4.toInt ∧ v57_4.toInt < 1297) ∧ (∃ S114 : MS, S114 = wI U57 36 v57_4.toInt.toNat v57_3 ∧ ((∃ (r116 : Int32) (S117 : MS), v_bytesOf S114 v57_4 v57_3 (.inl (r116, S117)) ∧ (∃ a120 : Int32, a120 = (v57_3 + r116) ∧ (∃ a121 : Int32, a121 = (v57_4 + Int32.ofInt 1) ∧ ((v_outMethod_L57 oo n57) S117 v57_1 v57_2 a120 a121)))) ∨ (∃ u9 : MS, v_bytesOf S114 v57_4 v57_3 (.inr u9) ∧ (oo = .inr u9)))))))
def v_outMethod (S : MS) (p1 : Nat) (x2 : Int32) (oo : MS ⊕ MS) : Prop := (∃ (S2 : MS), v_out S (9 : Int64) (2 : Int32) S2 ∧ ((qR S2 p1 8 = some (qO S2 p1 8)) ∧ (((0 : Int) ≤ x2.toInt ∧ x2.toInt < (qN S2 (qO S2 p1 8) : Int)) ∧ ((qR S2 (qO S2 p1 8) x2.toInt.toNat = some (qO S2 (qO S2 p1 8) x2.toInt.toNat)) ∧ ((∃ (r10 : Int32) (S11 : MS), v_nameNumber S2 (qO S2 (qO S2 p1 8) x2.toInt.toNat) (.inl (r10, S11)) ∧ (∃ (S14 : MS), v_out S11 (r10.toInt64) (2 : Int32) S14 ∧ ((qR S14 p1 9 = some (qO S14 p1 9)) ∧ (((0 : Int) ≤ x2.toInt ∧ x2.toInt < (qN S14 (qO S14 p1 9) : Int)) ∧ ((qR S14 (qO S14 p1 9) x2.toInt.toNat = some (qO S14 (qO S14 p1 9) x2.toInt.toNat)) ∧ ((∃ (r22 : Int32) (S23 : MS), v_nameNumber S14 (qO S14 (qO S14 p1 9) x2.toInt.toNat) (.inl (r22, S23)) ∧ (∃ (S26 : MS), v_out S23 (r22.toInt64) (2 : Int32) S26 ∧ (∃ (S29 : MS), v_out S26 1 (2 : Int32) S29 ∧ (∃ (S32 : MS), v_look S29 p1 x2 S32 ∧ (∃ n, v_outMethod_L57 oo n S32 p1 x2 0 0))))) ∨ (∃ u9 : MS, v_nameNumber S14 (qO S14 (qO S14 p1 9) x2.toInt.toNat) (.inr u9) ∧ (oo = .inr u9)))))))) ∨ (∃ u9 : MS, v_nameNumber S2 (qO S2 (qO S2 p1 8) x2.toInt.toNat) (.inr u9) ∧ (oo = .inr u9)))))))
set_option maxRecDepth 100000 in
theorem ru_outMethod_J274 {ι : Type} {P : MS ⊕ MS → Prop} {Q : MS → Prop} {E : MS → Prop} {k201 : MS → Int32 → Prop} {k201v : ι → MS ⊕ MS → MS → Int32 → Prop} {U274 : MS} {t274_0 : Int64} {v274_4 : Int32} (i0 : ι) (hk201 : ∀ (u : MS) (z0 : Int32), k201 u z0 → (∀ (i : ι) (oo : MS ⊕ MS), k201v i oo u z0 → P oo) → ∃ oo, P oo ∧ oV Q E oo) (K : ∀ (i : ι) (oo : MS ⊕ MS), v_outMethod_J274 oo (k201v i oo) U274 t274_0 v274_4 → P oo) (h : w_outMethod_J274 Q E k201 U274 t274_0 v274_4) : ∃ oo, P oo ∧ oV Q E oo := by
  unfold w_outMethod_J274 at h
  obtain ⟨Q9, h0, h⟩ := h
  obtain ⟨S86, z9, g9⟩ := ru_out h0
  replace h := h S86 g9
  replace K := fun i oo z => K i oo ⟨S86, z9, z⟩
  obtain ⟨a88, ea88⟩ : ∃ x9 : Int32, x9 = (v274_4 + Int32.ofInt 1) := ⟨_, rfl⟩
  replace h := h a88 ea88
  replace K := fun i oo z => K i oo ⟨a88, ea88, z⟩
  exact hk201 _ _ h K
set_option maxRecDepth 100000 in
theorem ru_outMethod_L213 {ι : Type} {P : MS ⊕ MS → Prop} {Q : MS → Prop} {E : MS → Prop} {k201 : MS → Int32 → Prop} {k201v : ι → MS ⊕ MS → MS → Int32 → Prop} : ∀ (n : Nat) {U213 : MS} {v213_4 : Int32} {v213_5 : Int32} (i0 : ι) (hk201 : ∀ (u : MS) (z0 : Int32), k201 u z0 → (∀ (i : ι) (oo : MS ⊕ MS), k201v i oo u z0 → P oo) → ∃ oo, P oo ∧ oV Q E oo), (∀ (i : ι) (oo : MS ⊕ MS), (∃ n8, v_outMethod_L213 oo (k201v i oo) n8 U213 v213_4 v213_5) → P oo) → w_outMethod_L213 Q E k201 n U213 v213_4 v213_5 → ∃ oo, P oo ∧ oV Q E oo := by
  intro n
  induction n with
  | zero => intro U213 v213_4 v213_5 i0 hk201 K h; unfold w_outMethod_L213 at h; exact h.elim
  | succ n ih =>
    intro U213 v213_4 v213_5 i0 hk201 K h
    unfold w_outMethod_L213 at h
    replace K := fun (i : ι × Nat) oo (z : v_outMethod_L213 oo (k201v i.1 oo) (i.2 + 1) U213 v213_4 v213_5) => K i.1 oo ⟨i.2 + 1, z⟩
    have i00 := i0
    replace i0 : ι × Nat := (i0, 0)
    by_cases c : 3 ≤ v213_5.toInt
    · replace h := h.1 c
      replace K := fun i oo z => K i oo (Or.inl ⟨c, z⟩)
      obtain ⟨g1_, h⟩ := h
      replace K := fun i oo z => K i oo ⟨g1_, z⟩
      by_cases c : 0 ≤ (f_catchWord U213 v213_4 (3 : Int32)).toInt
      · replace h := h.1 c
        replace K := fun i oo z => K i oo (Or.inl ⟨c, z⟩)
        obtain ⟨g2_, h⟩ := h
        replace K := fun i oo z => K i oo ⟨g2_, z⟩
        obtain ⟨g3_, h⟩ := h
        replace K := fun i oo z => K i oo ⟨g3_, z⟩
        obtain ⟨Q9, E9, h0, h⟩ := h
        obtain ⟨o9, z9, g9⟩ := ru_classNumber h0
        rcases o9 with ⟨r97, S98⟩ | u9
        · replace h := h.1 r97 S98 g9
          replace K := fun i oo z => K i oo (Or.inl ⟨r97, S98, z9, z⟩)
          exact ru_outMethod_J274 i0 (fun _ _ h K => hk201 _ _ h (fun i oo z => K (i, 0) oo z)) K h
        · replace h := h.2 u9 g9
          replace K := fun i oo z => K i oo (Or.inr ⟨u9, z9, z⟩)
          exact ⟨.inr u9, K i0 _ rfl, h⟩
      · replace h := h.2 c
        replace K := fun i oo z => K i oo (Or.inr ⟨c, z⟩)
        exact ru_outMethod_J274 i0 (fun _ _ h K => hk201 _ _ h (fun i oo z => K (i, 0) oo z)) K h
    · replace h := h.2 c
      replace K := fun i oo z => K i oo (Or.inr ⟨c, z⟩)
      obtain ⟨g4_, h⟩ := h
      replace K := fun i oo z => K i oo ⟨g4_, z⟩
      obtain ⟨g5_, h⟩ := h
      replace K := fun i oo z => K i oo ⟨g5_, z⟩
      obtain ⟨Q9, h0, h⟩ := h
      obtain ⟨S106, z9, g9⟩ := ru_out h0
      replace h := h S106 g9
      replace K := fun i oo z => K i oo ⟨S106, z9, z⟩
      obtain ⟨a108, ea108⟩ : ∃ x9 : Int32, x9 = (v213_5 + Int32.ofInt 1) := ⟨_, rfl⟩
      replace h := h a108 ea108
      replace K := fun i oo z => K i oo ⟨a108, ea108, z⟩
      exact ih i00 hk201 (fun i oo ⟨n8, z⟩ => K (i, n8) oo z) h
set_option maxRecDepth 100000 in
theorem ru_outMethod_L201 {ι : Type} {P : MS ⊕ MS → Prop} {Q : MS → Prop} {E : MS → Prop} : ∀ (n : Nat) {U201 : MS} {v201_4 : Int32} (i0 : ι), (∀ (i : ι) (oo : MS ⊕ MS), (∃ n8, v_outMethod_L201 oo n8 U201 v201_4) → P oo) → w_outMethod_L201 Q E n U201 v201_4 → ∃ oo, P oo ∧ oV Q E oo := by
  intro n
  induction n with
  | zero => intro U201 v201_4 i0 K h; unfold w_outMethod_L201 at h; exact h.elim
  | succ n ih =>
    intro U201 v201_4 i0 K h
    unfold w_outMethod_L201 at h
    replace K := fun (i : ι × Nat) oo (z : v_outMethod_L201 oo (i.2 + 1) U201 v201_4) => K i.1 oo ⟨i.2 + 1, z⟩
    have i00 := i0
    replace i0 : ι × Nat := (i0, 0)
    by_cases c : (qI U201 0 54).toInt ≤ v201_4.toInt
    · replace h := h.1 c
      replace K := fun i oo z => K i oo (Or.inl ⟨c, z⟩)
      obtain ⟨Q9, h0, h⟩ := h
      obtain ⟨S79, z9, g9⟩ := ru_out h0
      replace h := h S79 g9
      replace K := fun i oo z => K i oo ⟨S79, z9, z⟩
      exact ⟨.inl _, K i0 _ rfl, h⟩
    · replace h := h.2 c
      replace K := fun i oo z => K i oo (Or.inr ⟨c, z⟩)
      obtain ⟨n9, h⟩ := h
      exact ru_outMethod_L213 n9 i0 (fun _ _ h K => ih i00 (fun i oo ⟨n8, z⟩ => K (i, n8) oo z) h) K h
set_option maxRecDepth 100000 in
theorem ru_outMethod_L167 {ι : Type} {P : MS ⊕ MS → Prop} {Q : MS → Prop} {E : MS → Prop} : ∀ (n : Nat) {U167 : MS} {v167_4 : Int32} (i0 : ι), (∀ (i : ι) (oo : MS ⊕ MS), (∃ n8, v_outMethod_L167 oo n8 U167 v167_4) → P oo) → w_outMethod_L167 Q E n U167 v167_4 → ∃ oo, P oo ∧ oV Q E oo := by
  intro n
  induction n with
  | zero => intro U167 v167_4 i0 K h; unfold w_outMethod_L167 at h; exact h.elim
  | succ n ih =>
    intro U167 v167_4 i0 K h
    unfold w_outMethod_L167 at h
    replace K := fun (i : ι × Nat) oo (z : v_outMethod_L167 oo (i.2 + 1) U167 v167_4) => K i.1 oo ⟨i.2 + 1, z⟩
    have i00 := i0
    replace i0 : ι × Nat := (i0, 0)
    by_cases c : (qI U167 0 52).toInt ≤ v167_4.toInt
    · replace h := h.1 c
      replace K := fun i oo z => K i oo (Or.inl ⟨c, z⟩)
      obtain ⟨Q9, h0, h⟩ := h
      obtain ⟨S75, z9, g9⟩ := ru_out h0
      replace h := h S75 g9
      replace K := fun i oo z => K i oo ⟨S75, z9, z⟩
      obtain ⟨n9, h⟩ := h
      exact ru_outMethod_L201 n9 i0 K h
    · replace h := h.2 c
      replace K := fun i oo z => K i oo (Or.inr ⟨c, z⟩)
      obtain ⟨Q9, E9, h0, h⟩ := h
      obtain ⟨o9, z9, g9⟩ := ru_outRow h0
      rcases o9 with S110 | u9
      · replace h := h.1 S110 g9
        replace K := fun i oo z => K i oo (Or.inl ⟨S110, z9, z⟩)
        obtain ⟨a112, ea112⟩ : ∃ x9 : Int32, x9 = (v167_4 + Int32.ofInt 1) := ⟨_, rfl⟩
        replace h := h a112 ea112
        replace K := fun i oo z => K i oo ⟨a112, ea112, z⟩
        exact ih i00 (fun i oo ⟨n8, z⟩ => K (i, n8) oo z) h
      · replace h := h.2 u9 g9
        replace K := fun i oo z => K i oo (Or.inr ⟨u9, z9, z⟩)
        exact ⟨.inr u9, K i0 _ rfl, h⟩
set_option maxRecDepth 100000 in
theorem ru_outMethod_L57 {ι : Type} {P : MS ⊕ MS → Prop} {Q : MS → Prop} {E : MS → Prop} : ∀ (n : Nat) {U57 : MS} {v57_1 : Nat} {v57_2 : Int32} {v57_3 : Int32} {v57_4 : Int32} (i0 : ι), (∀ (i : ι) (oo : MS ⊕ MS), (∃ n8, v_outMethod_L57 oo n8 U57 v57_1 v57_2 v57_3 v57_4) → P oo) → w_outMethod_L57 Q E n U57 v57_1 v57_2 v57_3 v57_4 → ∃ oo, P oo ∧ oV Q E oo := by
  intro n
  induction n with
  | zero => intro U57 v57_1 v57_2 v57_3 v57_4 i0 K h; unfold w_outMethod_L57 at h; exact h.elim
  | succ n ih =>
    intro U57 v57_1 v57_2 v57_3 v57_4 i0 K h
    unfold w_outMethod_L57 at h
    replace K := fun (i : ι × Nat) oo (z : v_outMethod_L57 oo (i.2 + 1) U57 v57_1 v57_2 v57_3 v57_4) => K i.1 oo ⟨i.2 + 1, z⟩
    have i00 := i0
    replace i0 : ι × Nat := (i0, 0)
    by_cases c : (qI U57 0 52).toInt ≤ v57_4.toInt
    · replace h := h.1 c
      replace K := fun i oo z => K i oo (Or.inl ⟨c, z⟩)
      obtain ⟨g6_, h⟩ := h
      replace K := fun i oo z => K i oo ⟨g6_, z⟩
      obtain ⟨S36, eS36⟩ : ∃ x9 : MS, x9 = wI U57 36 (((qI U57 0 52).toInt).toNat) v57_3 := ⟨_, rfl⟩
      replace h := h S36 eS36
      replace K := fun i oo z => K i oo ⟨S36, eS36, z⟩
      obtain ⟨Q9, E9, h0, h⟩ := h
      obtain ⟨o9, z9, g9⟩ := ru_nameNumber h0
      rcases o9 with ⟨r39, S40⟩ | u9
      · replace h := h.1 r39 S40 g9
        replace K := fun i oo z => K i oo (Or.inl ⟨r39, S40, z9, z⟩)
        obtain ⟨Q9, h0, h⟩ := h
        obtain ⟨S43, z9, g9⟩ := ru_out h0
        replace h := h S43 g9
        replace K := fun i oo z => K i oo ⟨S43, z9, z⟩
        obtain ⟨Q9, h0, h⟩ := h
        obtain ⟨S49, z9, g9⟩ := ru_out h0
        replace h := h S49 g9
        replace K := fun i oo z => K i oo ⟨S49, z9, z⟩
        obtain ⟨Q9, h0, h⟩ := h
        obtain ⟨r52, S53, z9, g9⟩ := ru_leastStack h0
        replace h := h r52 S53 g9
        replace K := fun i oo z => K i oo ⟨r52, S53, z9, z⟩
        obtain ⟨Q9, h0, h⟩ := h
        obtain ⟨S56, z9, g9⟩ := ru_out h0
        replace h := h S56 g9
        replace K := fun i oo z => K i oo ⟨S56, z9, z⟩
        obtain ⟨g7_, h⟩ := h
        replace K := fun i oo z => K i oo ⟨g7_, z⟩
        obtain ⟨g8_, h⟩ := h
        replace K := fun i oo z => K i oo ⟨g8_, z⟩
        obtain ⟨g9_, h⟩ := h
        replace K := fun i oo z => K i oo ⟨g9_, z⟩
        obtain ⟨Q9, h0, h⟩ := h
        obtain ⟨r64, S65, z9, g9⟩ := ru_leastLocals h0
        replace h := h r64 S65 g9
        replace K := fun i oo z => K i oo ⟨r64, S65, z9, z⟩
        obtain ⟨Q9, h0, h⟩ := h
        obtain ⟨S68, z9, g9⟩ := ru_out h0
        replace h := h S68 g9
        replace K := fun i oo z => K i oo ⟨S68, z9, z⟩
        obtain ⟨Q9, h0, h⟩ := h
        obtain ⟨S71, z9, g9⟩ := ru_out h0
        replace h := h S71 g9
        replace K := fun i oo z => K i oo ⟨S71, z9, z⟩
        obtain ⟨n9, h⟩ := h
        exact ru_outMethod_L167 n9 i0 K h
      · replace h := h.2 u9 g9
        replace K := fun i oo z => K i oo (Or.inr ⟨u9, z9, z⟩)
        exact ⟨.inr u9, K i0 _ rfl, h⟩
    · replace h := h.2 c
      replace K := fun i oo z => K i oo (Or.inr ⟨c, z⟩)
      obtain ⟨g10_, h⟩ := h
      replace K := fun i oo z => K i oo ⟨g10_, z⟩
      obtain ⟨S114, eS114⟩ : ∃ x9 : MS, x9 = wI U57 36 v57_4.toInt.toNat v57_3 := ⟨_, rfl⟩
      replace h := h S114 eS114
      replace K := fun i oo z => K i oo ⟨S114, eS114, z⟩
      obtain ⟨Q9, E9, h0, h⟩ := h
      obtain ⟨o9, z9, g9⟩ := ru_bytesOf h0
      rcases o9 with ⟨r116, S117⟩ | u9
      · replace h := h.1 r116 S117 g9
        replace K := fun i oo z => K i oo (Or.inl ⟨r116, S117, z9, z⟩)
        obtain ⟨a120, ea120⟩ : ∃ x9 : Int32, x9 = (v57_3 + r116) := ⟨_, rfl⟩
        replace h := h a120 ea120
        replace K := fun i oo z => K i oo ⟨a120, ea120, z⟩
        obtain ⟨a121, ea121⟩ : ∃ x9 : Int32, x9 = (v57_4 + Int32.ofInt 1) := ⟨_, rfl⟩
        replace h := h a121 ea121
        replace K := fun i oo z => K i oo ⟨a121, ea121, z⟩
        exact ih i00 (fun i oo ⟨n8, z⟩ => K (i, n8) oo z) h
      · replace h := h.2 u9 g9
        replace K := fun i oo z => K i oo (Or.inr ⟨u9, z9, z⟩)
        exact ⟨.inr u9, K i0 _ rfl, h⟩
set_option maxRecDepth 100000 in
theorem ru_outMethod {S : MS} {p1 : Nat} {x2 : Int32} {Q : MS → Prop} {E : MS → Prop} (h : w_outMethod S p1 x2 Q E) : ∃ oo, v_outMethod S p1 x2 oo ∧ oV Q E oo := by
  have i0 : Unit := ()
  have K : ∀ (i : Unit) (oo : MS ⊕ MS), v_outMethod S p1 x2 oo → v_outMethod S p1 x2 oo := fun _ _ z => z
  unfold w_outMethod at h
  obtain ⟨Q9, h0, h⟩ := h
  obtain ⟨S2, z9, g9⟩ := ru_out h0
  replace h := h S2 g9
  replace K := fun i oo z => K i oo ⟨S2, z9, z⟩
  obtain ⟨g11_, h⟩ := h
  replace K := fun i oo z => K i oo ⟨g11_, z⟩
  obtain ⟨g12_, h⟩ := h
  replace K := fun i oo z => K i oo ⟨g12_, z⟩
  obtain ⟨g13_, h⟩ := h
  replace K := fun i oo z => K i oo ⟨g13_, z⟩
  obtain ⟨Q9, E9, h0, h⟩ := h
  obtain ⟨o9, z9, g9⟩ := ru_nameNumber h0
  rcases o9 with ⟨r10, S11⟩ | u9
  · replace h := h.1 r10 S11 g9
    replace K := fun i oo z => K i oo (Or.inl ⟨r10, S11, z9, z⟩)
    obtain ⟨Q9, h0, h⟩ := h
    obtain ⟨S14, z9, g9⟩ := ru_out h0
    replace h := h S14 g9
    replace K := fun i oo z => K i oo ⟨S14, z9, z⟩
    obtain ⟨g14_, h⟩ := h
    replace K := fun i oo z => K i oo ⟨g14_, z⟩
    obtain ⟨g15_, h⟩ := h
    replace K := fun i oo z => K i oo ⟨g15_, z⟩
    obtain ⟨g16_, h⟩ := h
    replace K := fun i oo z => K i oo ⟨g16_, z⟩
    obtain ⟨Q9, E9, h0, h⟩ := h
    obtain ⟨o9, z9, g9⟩ := ru_nameNumber h0
    rcases o9 with ⟨r22, S23⟩ | u9
    · replace h := h.1 r22 S23 g9
      replace K := fun i oo z => K i oo (Or.inl ⟨r22, S23, z9, z⟩)
      obtain ⟨Q9, h0, h⟩ := h
      obtain ⟨S26, z9, g9⟩ := ru_out h0
      replace h := h S26 g9
      replace K := fun i oo z => K i oo ⟨S26, z9, z⟩
      obtain ⟨Q9, h0, h⟩ := h
      obtain ⟨S29, z9, g9⟩ := ru_out h0
      replace h := h S29 g9
      replace K := fun i oo z => K i oo ⟨S29, z9, z⟩
      obtain ⟨Q9, h0, h⟩ := h
      obtain ⟨S32, z9, g9⟩ := ru_look h0
      replace h := h S32 g9
      replace K := fun i oo z => K i oo ⟨S32, z9, z⟩
      obtain ⟨n9, h⟩ := h
      exact ru_outMethod_L57 n9 i0 K h
    · replace h := h.2 u9 g9
      replace K := fun i oo z => K i oo (Or.inr ⟨u9, z9, z⟩)
      exact ⟨.inr u9, K i0 _ rfl, h⟩
  · replace h := h.2 u9 g9
    replace K := fun i oo z => K i oo (Or.inr ⟨u9, z9, z⟩)
    exact ⟨.inr u9, K i0 _ rfl, h⟩
set_option maxRecDepth 100000 in
theorem vw_outMethod_J274 {oo : MS ⊕ MS} {k201 k201v : MS → Int32 → Prop} {U274 : MS} {t274_0 : Int64} {v274_4 : Int32} (hk201 : ∀ (u : MS) (z0 : Int32), k201v u z0 → k201 u z0) (h : v_outMethod_J274 oo k201v U274 t274_0 v274_4) : w_outMethod_J274 (fun u => oo = .inl u) (fun u => oo = .inr u) k201 U274 t274_0 v274_4 := by
  unfold v_outMethod_J274 at h
  unfold w_outMethod_J274
  obtain ⟨q9, z9, h⟩ := h
  refine ⟨_, vw_out z9, ?_⟩
  intro q8 d9
  subst d9
  obtain ⟨v9, e9, h⟩ := h
  intro x9 d9
  have c9 : v9 = x9 := e9.trans d9.symm
  subst c9
  exact hk201 _ _ h
set_option maxRecDepth 100000 in
theorem vz_outMethod_J274 {oo : MS ⊕ MS} {Q : MS → Prop} {E : MS → Prop} {k201 k201v : MS → Int32 → Prop} {U274 : MS} {t274_0 : Int64} {v274_4 : Int32} (hk201 : ∀ (u : MS) (z0 : Int32), k201v u z0 → k201 u z0 → oV Q E oo) (h : v_outMethod_J274 oo k201v U274 t274_0 v274_4) (w : w_outMethod_J274 Q E k201 U274 t274_0 v274_4) : oV Q E oo := by
  unfold v_outMethod_J274 at h
  unfold w_outMethod_J274 at w
  obtain ⟨q9, z9, h⟩ := h
  obtain ⟨Q9, w0, w⟩ := w
  replace w := w q9 (vz_out z9 w0)
  obtain ⟨v9, e9, h⟩ := h
  replace w := w v9 e9
  exact hk201 _ _ h w
set_option maxRecDepth 100000 in
theorem vw_outMethod_L213 {oo : MS ⊕ MS} {k201 k201v : MS → Int32 → Prop} : ∀ (n : Nat) {U213 : MS} {v213_4 : Int32} {v213_5 : Int32} (hk201 : ∀ (u : MS) (z0 : Int32), k201v u z0 → k201 u z0), v_outMethod_L213 oo k201v n U213 v213_4 v213_5 → w_outMethod_L213 (fun u => oo = .inl u) (fun u => oo = .inr u) k201 n U213 v213_4 v213_5 := by
  intro n
  induction n with
  | zero => intro U213 v213_4 v213_5 hk201 h; unfold v_outMethod_L213 at h; exact h.elim
  | succ n ih =>
    intro U213 v213_4 v213_5 hk201 h
    unfold v_outMethod_L213 at h
    unfold w_outMethod_L213
    rcases h with ⟨c, h⟩ | ⟨c, h⟩
    · refine ⟨fun _ => ?_, fun c2 => absurd c c2⟩
      obtain ⟨g9, h⟩ := h
      refine ⟨g9, ?_⟩
      rcases h with ⟨c, h⟩ | ⟨c, h⟩
      · refine ⟨fun _ => ?_, fun c2 => absurd c c2⟩
        obtain ⟨g9, h⟩ := h
        refine ⟨g9, ?_⟩
        obtain ⟨g9, h⟩ := h
        refine ⟨g9, ?_⟩
        rcases h with ⟨p9, q9, z9, h⟩ | ⟨q9, z9, h⟩
        · refine ⟨_, _, vw_classNumber z9, ?_, ?_⟩
          · intro p8 q8 d9
            injection d9 with d9
            injection d9 with d8 d9
            subst d8
            subst d9
            exact vw_outMethod_J274 hk201 h
          · intro q8 d9
            exact nomatch d9
        · refine ⟨_, _, vw_classNumber z9, ?_, ?_⟩
          · intro p8 q8 d9
            exact nomatch d9
          · intro q8 d9
            injection d9 with d9
            subst d9
            exact h
      · refine ⟨fun c2 => absurd c2 c, fun _ => ?_⟩
        exact vw_outMethod_J274 hk201 h
    · refine ⟨fun c2 => absurd c2 c, fun _ => ?_⟩
      obtain ⟨g9, h⟩ := h
      refine ⟨g9, ?_⟩
      obtain ⟨g9, h⟩ := h
      refine ⟨g9, ?_⟩
      obtain ⟨q9, z9, h⟩ := h
      refine ⟨_, vw_out z9, ?_⟩
      intro q8 d9
      subst d9
      obtain ⟨v9, e9, h⟩ := h
      intro x9 d9
      have c9 : v9 = x9 := e9.trans d9.symm
      subst c9
      exact ih hk201 h
set_option maxRecDepth 100000 in
theorem vz_outMethod_L213 {oo : MS ⊕ MS} {Q : MS → Prop} {E : MS → Prop} {k201 k201v : MS → Int32 → Prop} : ∀ (n m : Nat) {U213 : MS} {v213_4 : Int32} {v213_5 : Int32} (hk201 : ∀ (u : MS) (z0 : Int32), k201v u z0 → k201 u z0 → oV Q E oo), v_outMethod_L213 oo k201v n U213 v213_4 v213_5 → w_outMethod_L213 Q E k201 m U213 v213_4 v213_5 → oV Q E oo := by
  intro n
  induction n with
  | zero => intro m U213 v213_4 v213_5 hk201 h; unfold v_outMethod_L213 at h; exact h.elim
  | succ n ih =>
    intro m U213 v213_4 v213_5 hk201 h w
    cases m with
    | zero => unfold w_outMethod_L213 at w; exact w.elim
    | succ m =>
      unfold v_outMethod_L213 at h
      unfold w_outMethod_L213 at w
      rcases h with ⟨c, h⟩ | ⟨c, h⟩
      · replace w := w.1 c
        replace h := h.2
        replace w := w.2
        rcases h with ⟨c, h⟩ | ⟨c, h⟩
        · replace w := w.1 c
          replace h := h.2
          replace w := w.2
          replace h := h.2
          replace w := w.2
          obtain ⟨Q9, E9, w0, w⟩ := w
          rcases h with ⟨p9, q9, z9, h⟩ | ⟨q9, z9, h⟩
          · replace w := w.1 p9 q9 (vz_classNumber z9 w0)
            exact vz_outMethod_J274 hk201 h w
          · replace w := w.2 q9 (vz_classNumber z9 w0)
            rw [h]
            exact w
        · replace w := w.2 c
          exact vz_outMethod_J274 hk201 h w
      · replace w := w.2 c
        replace h := h.2
        replace w := w.2
        replace h := h.2
        replace w := w.2
        obtain ⟨q9, z9, h⟩ := h
        obtain ⟨Q9, w0, w⟩ := w
        replace w := w q9 (vz_out z9 w0)
        obtain ⟨v9, e9, h⟩ := h
        replace w := w v9 e9
        exact ih m hk201 h w
set_option maxRecDepth 100000 in
theorem vw_outMethod_L201 {oo : MS ⊕ MS} : ∀ (n : Nat) {U201 : MS} {v201_4 : Int32}, v_outMethod_L201 oo n U201 v201_4 → w_outMethod_L201 (fun u => oo = .inl u) (fun u => oo = .inr u) n U201 v201_4 := by
  intro n
  induction n with
  | zero => intro U201 v201_4 h; unfold v_outMethod_L201 at h; exact h.elim
  | succ n ih =>
    intro U201 v201_4 h
    unfold v_outMethod_L201 at h
    unfold w_outMethod_L201
    rcases h with ⟨c, h⟩ | ⟨c, h⟩
    · refine ⟨fun _ => ?_, fun c2 => absurd c c2⟩
      obtain ⟨q9, z9, h⟩ := h
      refine ⟨_, vw_out z9, ?_⟩
      intro q8 d9
      subst d9
      exact h
    · refine ⟨fun c2 => absurd c2 c, fun _ => ?_⟩
      obtain ⟨n9, h⟩ := h
      exact ⟨n9, vw_outMethod_L213 n9 (fun _ _ h => ih h) h⟩
set_option maxRecDepth 100000 in
theorem vz_outMethod_L201 {oo : MS ⊕ MS} {Q : MS → Prop} {E : MS → Prop} : ∀ (n m : Nat) {U201 : MS} {v201_4 : Int32}, v_outMethod_L201 oo n U201 v201_4 → w_outMethod_L201 Q E m U201 v201_4 → oV Q E oo := by
  intro n
  induction n with
  | zero => intro m U201 v201_4 h; unfold v_outMethod_L201 at h; exact h.elim
  | succ n ih =>
    intro m U201 v201_4 h w
    cases m with
    | zero => unfold w_outMethod_L201 at w; exact w.elim
    | succ m =>
      unfold v_outMethod_L201 at h
      unfold w_outMethod_L201 at w
      rcases h with ⟨c, h⟩ | ⟨c, h⟩
      · replace w := w.1 c
        obtain ⟨q9, z9, h⟩ := h
        obtain ⟨Q9, w0, w⟩ := w
        replace w := w q9 (vz_out z9 w0)
        rw [h]
        exact w
      · replace w := w.2 c
        obtain ⟨n9, h⟩ := h
        obtain ⟨n8, w⟩ := w
        exact vz_outMethod_L213 n9 n8 (fun _ _ h w => ih m h w) h w
set_option maxRecDepth 100000 in
theorem vw_outMethod_L167 {oo : MS ⊕ MS} : ∀ (n : Nat) {U167 : MS} {v167_4 : Int32}, v_outMethod_L167 oo n U167 v167_4 → w_outMethod_L167 (fun u => oo = .inl u) (fun u => oo = .inr u) n U167 v167_4 := by
  intro n
  induction n with
  | zero => intro U167 v167_4 h; unfold v_outMethod_L167 at h; exact h.elim
  | succ n ih =>
    intro U167 v167_4 h
    unfold v_outMethod_L167 at h
    unfold w_outMethod_L167
    rcases h with ⟨c, h⟩ | ⟨c, h⟩
    · refine ⟨fun _ => ?_, fun c2 => absurd c c2⟩
      obtain ⟨q9, z9, h⟩ := h
      refine ⟨_, vw_out z9, ?_⟩
      intro q8 d9
      subst d9
      obtain ⟨n9, h⟩ := h
      exact ⟨n9, vw_outMethod_L201 n9 h⟩
    · refine ⟨fun c2 => absurd c2 c, fun _ => ?_⟩
      rcases h with ⟨q9, z9, h⟩ | ⟨q9, z9, h⟩
      · refine ⟨_, _, vw_outRow z9, ?_, ?_⟩
        · intro q8 d9
          injection d9 with d9
          subst d9
          obtain ⟨v9, e9, h⟩ := h
          intro x9 d9
          have c9 : v9 = x9 := e9.trans d9.symm
          subst c9
          exact ih h
        · intro q8 d9
          exact nomatch d9
      · refine ⟨_, _, vw_outRow z9, ?_, ?_⟩
        · intro q8 d9
          exact nomatch d9
        · intro q8 d9
          injection d9 with d9
          subst d9
          exact h
set_option maxRecDepth 100000 in
theorem vz_outMethod_L167 {oo : MS ⊕ MS} {Q : MS → Prop} {E : MS → Prop} : ∀ (n m : Nat) {U167 : MS} {v167_4 : Int32}, v_outMethod_L167 oo n U167 v167_4 → w_outMethod_L167 Q E m U167 v167_4 → oV Q E oo := by
  intro n
  induction n with
  | zero => intro m U167 v167_4 h; unfold v_outMethod_L167 at h; exact h.elim
  | succ n ih =>
    intro m U167 v167_4 h w
    cases m with
    | zero => unfold w_outMethod_L167 at w; exact w.elim
    | succ m =>
      unfold v_outMethod_L167 at h
      unfold w_outMethod_L167 at w
      rcases h with ⟨c, h⟩ | ⟨c, h⟩
      · replace w := w.1 c
        obtain ⟨q9, z9, h⟩ := h
        obtain ⟨Q9, w0, w⟩ := w
        replace w := w q9 (vz_out z9 w0)
        obtain ⟨n9, h⟩ := h
        obtain ⟨n8, w⟩ := w
        exact vz_outMethod_L201 n9 n8 h w
      · replace w := w.2 c
        obtain ⟨Q9, E9, w0, w⟩ := w
        rcases h with ⟨q9, z9, h⟩ | ⟨q9, z9, h⟩
        · replace w := w.1 q9 (vz_outRow z9 w0)
          obtain ⟨v9, e9, h⟩ := h
          replace w := w v9 e9
          exact ih m h w
        · replace w := w.2 q9 (vz_outRow z9 w0)
          rw [h]
          exact w
set_option maxRecDepth 100000 in
theorem vw_outMethod_L57 {oo : MS ⊕ MS} : ∀ (n : Nat) {U57 : MS} {v57_1 : Nat} {v57_2 : Int32} {v57_3 : Int32} {v57_4 : Int32}, v_outMethod_L57 oo n U57 v57_1 v57_2 v57_3 v57_4 → w_outMethod_L57 (fun u => oo = .inl u) (fun u => oo = .inr u) n U57 v57_1 v57_2 v57_3 v57_4 := by
  intro n
  induction n with
  | zero => intro U57 v57_1 v57_2 v57_3 v57_4 h; unfold v_outMethod_L57 at h; exact h.elim
  | succ n ih =>
    intro U57 v57_1 v57_2 v57_3 v57_4 h
    unfold v_outMethod_L57 at h
    unfold w_outMethod_L57
    rcases h with ⟨c, h⟩ | ⟨c, h⟩
    · refine ⟨fun _ => ?_, fun c2 => absurd c c2⟩
      obtain ⟨g9, h⟩ := h
      refine ⟨g9, ?_⟩
      obtain ⟨v9, e9, h⟩ := h
      intro x9 d9
      have c9 : v9 = x9 := e9.trans d9.symm
      subst c9
      rcases h with ⟨p9, q9, z9, h⟩ | ⟨q9, z9, h⟩
      · refine ⟨_, _, vw_nameNumber z9, ?_, ?_⟩
        · intro p8 q8 d9
          injection d9 with d9
          injection d9 with d8 d9
          subst d8
          subst d9
          obtain ⟨q9, z9, h⟩ := h
          refine ⟨_, vw_out z9, ?_⟩
          intro q8 d9
          subst d9
          obtain ⟨q9, z9, h⟩ := h
          refine ⟨_, vw_out z9, ?_⟩
          intro q8 d9
          subst d9
          obtain ⟨p9, q9, z9, h⟩ := h
          refine ⟨_, vw_leastStack z9, ?_⟩
          rintro p8 q8 ⟨d8, d9⟩
          subst d8
          subst d9
          obtain ⟨q9, z9, h⟩ := h
          refine ⟨_, vw_out z9, ?_⟩
          intro q8 d9
          subst d9
          obtain ⟨g9, h⟩ := h
          refine ⟨g9, ?_⟩
          obtain ⟨g9, h⟩ := h
          refine ⟨g9, ?_⟩
          obtain ⟨g9, h⟩ := h
          refine ⟨g9, ?_⟩
          obtain ⟨p9, q9, z9, h⟩ := h
          refine ⟨_, vw_leastLocals z9, ?_⟩
          rintro p8 q8 ⟨d8, d9⟩
          subst d8
          subst d9
          obtain ⟨q9, z9, h⟩ := h
          refine ⟨_, vw_out z9, ?_⟩
          intro q8 d9
          subst d9
          obtain ⟨q9, z9, h⟩ := h
          refine ⟨_, vw_out z9, ?_⟩
          intro q8 d9
          subst d9
          obtain ⟨n9, h⟩ := h
          exact ⟨n9, vw_outMethod_L167 n9 h⟩
        · intro q8 d9
          exact nomatch d9
      · refine ⟨_, _, vw_nameNumber z9, ?_, ?_⟩
        · intro p8 q8 d9
          exact nomatch d9
        · intro q8 d9
          injection d9 with d9
          subst d9
          exact h
    · refine ⟨fun c2 => absurd c2 c, fun _ => ?_⟩
      obtain ⟨g9, h⟩ := h
      refine ⟨g9, ?_⟩
      obtain ⟨v9, e9, h⟩ := h
      intro x9 d9
      have c9 : v9 = x9 := e9.trans d9.symm
      subst c9
      rcases h with ⟨p9, q9, z9, h⟩ | ⟨q9, z9, h⟩
      · refine ⟨_, _, vw_bytesOf z9, ?_, ?_⟩
        · intro p8 q8 d9
          injection d9 with d9
          injection d9 with d8 d9
          subst d8
          subst d9
          obtain ⟨v9, e9, h⟩ := h
          intro x9 d9
          have c9 : v9 = x9 := e9.trans d9.symm
          subst c9
          obtain ⟨v9, e9, h⟩ := h
          intro x9 d9
          have c9 : v9 = x9 := e9.trans d9.symm
          subst c9
          exact ih h
        · intro q8 d9
          exact nomatch d9
      · refine ⟨_, _, vw_bytesOf z9, ?_, ?_⟩
        · intro p8 q8 d9
          exact nomatch d9
        · intro q8 d9
          injection d9 with d9
          subst d9
          exact h
set_option maxRecDepth 100000 in
theorem vz_outMethod_L57 {oo : MS ⊕ MS} {Q : MS → Prop} {E : MS → Prop} : ∀ (n m : Nat) {U57 : MS} {v57_1 : Nat} {v57_2 : Int32} {v57_3 : Int32} {v57_4 : Int32}, v_outMethod_L57 oo n U57 v57_1 v57_2 v57_3 v57_4 → w_outMethod_L57 Q E m U57 v57_1 v57_2 v57_3 v57_4 → oV Q E oo := by
  intro n
  induction n with
  | zero => intro m U57 v57_1 v57_2 v57_3 v57_4 h; unfold v_outMethod_L57 at h; exact h.elim
  | succ n ih =>
    intro m U57 v57_1 v57_2 v57_3 v57_4 h w
    cases m with
    | zero => unfold w_outMethod_L57 at w; exact w.elim
    | succ m =>
      unfold v_outMethod_L57 at h
      unfold w_outMethod_L57 at w
      rcases h with ⟨c, h⟩ | ⟨c, h⟩
      · replace w := w.1 c
        replace h := h.2
        replace w := w.2
        obtain ⟨v9, e9, h⟩ := h
        replace w := w v9 e9
        obtain ⟨Q9, E9, w0, w⟩ := w
        rcases h with ⟨p9, q9, z9, h⟩ | ⟨q9, z9, h⟩
        · replace w := w.1 p9 q9 (vz_nameNumber z9 w0)
          obtain ⟨q9, z9, h⟩ := h
          obtain ⟨Q9, w0, w⟩ := w
          replace w := w q9 (vz_out z9 w0)
          obtain ⟨q9, z9, h⟩ := h
          obtain ⟨Q9, w0, w⟩ := w
          replace w := w q9 (vz_out z9 w0)
          obtain ⟨p9, q9, z9, h⟩ := h
          obtain ⟨Q9, w0, w⟩ := w
          replace w := w p9 q9 (vz_leastStack z9 w0)
          obtain ⟨q9, z9, h⟩ := h
          obtain ⟨Q9, w0, w⟩ := w
          replace w := w q9 (vz_out z9 w0)
          replace h := h.2
          replace w := w.2
          replace h := h.2
          replace w := w.2
          replace h := h.2
          replace w := w.2
          obtain ⟨p9, q9, z9, h⟩ := h
          obtain ⟨Q9, w0, w⟩ := w
          replace w := w p9 q9 (vz_leastLocals z9 w0)
          obtain ⟨q9, z9, h⟩ := h
          obtain ⟨Q9, w0, w⟩ := w
          replace w := w q9 (vz_out z9 w0)
          obtain ⟨q9, z9, h⟩ := h
          obtain ⟨Q9, w0, w⟩ := w
          replace w := w q9 (vz_out z9 w0)
          obtain ⟨n9, h⟩ := h
          obtain ⟨n8, w⟩ := w
          exact vz_outMethod_L167 n9 n8 h w
        · replace w := w.2 q9 (vz_nameNumber z9 w0)
          rw [h]
          exact w
      · replace w := w.2 c
        replace h := h.2
        replace w := w.2
        obtain ⟨v9, e9, h⟩ := h
        replace w := w v9 e9
        obtain ⟨Q9, E9, w0, w⟩ := w
        rcases h with ⟨p9, q9, z9, h⟩ | ⟨q9, z9, h⟩
        · replace w := w.1 p9 q9 (vz_bytesOf z9 w0)
          obtain ⟨v9, e9, h⟩ := h
          replace w := w v9 e9
          obtain ⟨v9, e9, h⟩ := h
          replace w := w v9 e9
          exact ih m h w
        · replace w := w.2 q9 (vz_bytesOf z9 w0)
          rw [h]
          exact w
set_option maxRecDepth 100000 in
theorem vw_outMethod {S : MS} {p1 : Nat} {x2 : Int32} {oo : MS ⊕ MS} (h : v_outMethod S p1 x2 oo) : w_outMethod S p1 x2 (fun u => oo = .inl u) (fun u => oo = .inr u) := by
  unfold v_outMethod at h
  unfold w_outMethod
  obtain ⟨q9, z9, h⟩ := h
  refine ⟨_, vw_out z9, ?_⟩
  intro q8 d9
  subst d9
  obtain ⟨g9, h⟩ := h
  refine ⟨g9, ?_⟩
  obtain ⟨g9, h⟩ := h
  refine ⟨g9, ?_⟩
  obtain ⟨g9, h⟩ := h
  refine ⟨g9, ?_⟩
  rcases h with ⟨p9, q9, z9, h⟩ | ⟨q9, z9, h⟩
  · refine ⟨_, _, vw_nameNumber z9, ?_, ?_⟩
    · intro p8 q8 d9
      injection d9 with d9
      injection d9 with d8 d9
      subst d8
      subst d9
      obtain ⟨q9, z9, h⟩ := h
      refine ⟨_, vw_out z9, ?_⟩
      intro q8 d9
      subst d9
      obtain ⟨g9, h⟩ := h
      refine ⟨g9, ?_⟩
      obtain ⟨g9, h⟩ := h
      refine ⟨g9, ?_⟩
      obtain ⟨g9, h⟩ := h
      refine ⟨g9, ?_⟩
      rcases h with ⟨p9, q9, z9, h⟩ | ⟨q9, z9, h⟩
      · refine ⟨_, _, vw_nameNumber z9, ?_, ?_⟩
        · intro p8 q8 d9
          injection d9 with d9
          injection d9 with d8 d9
          subst d8
          subst d9
          obtain ⟨q9, z9, h⟩ := h
          refine ⟨_, vw_out z9, ?_⟩
          intro q8 d9
          subst d9
          obtain ⟨q9, z9, h⟩ := h
          refine ⟨_, vw_out z9, ?_⟩
          intro q8 d9
          subst d9
          obtain ⟨q9, z9, h⟩ := h
          refine ⟨_, vw_look z9, ?_⟩
          intro q8 d9
          subst d9
          obtain ⟨n9, h⟩ := h
          exact ⟨n9, vw_outMethod_L57 n9 h⟩
        · intro q8 d9
          exact nomatch d9
      · refine ⟨_, _, vw_nameNumber z9, ?_, ?_⟩
        · intro p8 q8 d9
          exact nomatch d9
        · intro q8 d9
          injection d9 with d9
          subst d9
          exact h
    · intro q8 d9
      exact nomatch d9
  · refine ⟨_, _, vw_nameNumber z9, ?_, ?_⟩
    · intro p8 q8 d9
      exact nomatch d9
    · intro q8 d9
      injection d9 with d9
      subst d9
      exact h
set_option maxRecDepth 100000 in
theorem vz_outMethod {S : MS} {p1 : Nat} {x2 : Int32} {oo : MS ⊕ MS} {Q : MS → Prop} {E : MS → Prop} (h : v_outMethod S p1 x2 oo) (w : w_outMethod S p1 x2 Q E) : oV Q E oo := by
  unfold v_outMethod at h
  unfold w_outMethod at w
  obtain ⟨q9, z9, h⟩ := h
  obtain ⟨Q9, w0, w⟩ := w
  replace w := w q9 (vz_out z9 w0)
  replace h := h.2
  replace w := w.2
  replace h := h.2
  replace w := w.2
  replace h := h.2
  replace w := w.2
  obtain ⟨Q9, E9, w0, w⟩ := w
  rcases h with ⟨p9, q9, z9, h⟩ | ⟨q9, z9, h⟩
  · replace w := w.1 p9 q9 (vz_nameNumber z9 w0)
    obtain ⟨q9, z9, h⟩ := h
    obtain ⟨Q9, w0, w⟩ := w
    replace w := w q9 (vz_out z9 w0)
    replace h := h.2
    replace w := w.2
    replace h := h.2
    replace w := w.2
    replace h := h.2
    replace w := w.2
    obtain ⟨Q9, E9, w0, w⟩ := w
    rcases h with ⟨p9, q9, z9, h⟩ | ⟨q9, z9, h⟩
    · replace w := w.1 p9 q9 (vz_nameNumber z9 w0)
      obtain ⟨q9, z9, h⟩ := h
      obtain ⟨Q9, w0, w⟩ := w
      replace w := w q9 (vz_out z9 w0)
      obtain ⟨q9, z9, h⟩ := h
      obtain ⟨Q9, w0, w⟩ := w
      replace w := w q9 (vz_out z9 w0)
      obtain ⟨q9, z9, h⟩ := h
      obtain ⟨Q9, w0, w⟩ := w
      replace w := w q9 (vz_look z9 w0)
      obtain ⟨n9, h⟩ := h
      obtain ⟨n8, w⟩ := w
      exact vz_outMethod_L57 n9 n8 h w
    · replace w := w.2 q9 (vz_nameNumber z9 w0)
      rw [h]
      exact w
  · replace w := w.2 q9 (vz_nameNumber z9 w0)
    rw [h]
    exact w
def v_outFile_L196 (oo : MS ⊕ MS) : Nat → MS → Nat → Int32 → Prop
  | 0, _, _, _ => False
  | n196 + 1, U196, v196_1, v196_2 => (((qI U196 v196_1 4).toInt ≤ v196_2.toInt ∧ (∃ (S44 : MS), v_out U196 0 (2 : Int32) S44 ∧ (oo = .inl S44))) ∨ (¬ (qI U196 v196_1 4).toInt ≤ v196_2.toInt ∧ ((∃ (S47 : MS), v_outMethod U196 v196_1 v196_2 (.inl S47) ∧ (∃ a49 : Int32, a49 = (v196_2 + Int32.ofInt 1) ∧ ((v_outFile_L196 oo n196) S47 v196_1 a49))) ∨ (∃ u9 : MS, v_outMethod U196 v196_1 v196_2 (.inr u9) ∧ (oo = .inr u9)))))
def v_outFile_L124 (oo : MS ⊕ MS) : Nat → MS → Nat → Int32 → Prop
  | 0, _, _, _ => False
  | n124 + 1, U124, v124_1, v124_2 => (((qI U124 v124_1 3).toInt ≤ v124_2.toInt ∧ (∃ (S40 : MS), v_out U124 ((qI U124 v124_1 4).toInt64) (2 : Int32) S40 ∧ (∃ n, v_outFile_L196 oo n S40 v124_1 0))) ∨ (¬ (qI U124 v124_1 3).toInt ≤ v124_2.toInt ∧ (∃ (S51 : MS), v_out U124 (9 : Int64) (2 : Int32) S51 ∧ ((qR S51 v124_1 5 = some (qO S51 v124_1 5)) ∧ (((0 : Int) ≤ v124_2.toInt ∧ v124_2.toInt < (qN S51 (qO S51 v124_1 5) : Int)) ∧ ((qR S51 (qO S51 v124_1 5) v124_2.toInt.toNat = some (qO S51 (qO S51 v124_1 5) v124_2.toInt.toNat)) ∧ ((∃ (r59 : Int32) (S60 : MS), v_nameNumber S51 (qO S51 (qO S51 v124_1 5) v124_2.toInt.toNat) (.inl (r59, S60)) ∧ (∃ (S63 : MS), v_out S60 (r59.toInt64) (2 : Int32) S63 ∧ ((qR S63 v124_1 6 = some (qO S63 v124_1 6)) ∧ (((0 : Int) ≤ v124_2.toInt ∧ v124_2.toInt < (qN S63 (qO S63 v124_1 6) : Int)) ∧ ((qR S63 (qO S63 v124_1 6) v124_2.toInt.toNat = some (qO S63 (qO S63 v124_1 6) v124_2.toInt.toNat)) ∧ ((∃ (r71 : Int32) (S72 : MS), v_nameNumber S63 (qO S63 (qO S63 v124_1 6) v124_2.toInt.toNat) (.inl (r71, S72)) ∧ (∃ (S75 : MS), v_out S72 (r71.toInt64) (2 : Int32) S75 ∧ (∃ (S78 : MS), v_out S75 0 (2 : Int32) S78 ∧ (∃ a80 : Int32, a80 = (v124_2 + Int32.ofInt 1) ∧ ((v_outFile_L124 oo n124) S78 v124_1 a80))))) ∨ (∃ u9 : MS, v_nameNumber S63 (qO S63 (qO S63 v124_1 6) v124_2.toInt.toNat) (.inr u9) ∧ (oo = .inr u9)))))))) ∨ (∃ u9 : MS, v_nameNumber S51 (qO S51 (qO S51 v124_1 5) v124_2.toInt.toNat) (.inr u9) ∧ (oo = .inr u9)))))))))
def v_outFile_L51 (oo : MS ⊕ MS) : Nat → MS → Nat → Int32 → Prop
  | 0, _, _, _ => False
  | n51 + 1, U51, v51_1, v51_2 => (((qI U51 0 73).toInt ≤ v51_2.toInt ∧ (∃ (S12 : MS), v_out U51 (33 : Int64) (2 : Int32) S12 ∧ ((qR S12 v51_1 0 = some (qO S12 v51_1 0)) ∧ ((∃ (r17 : Int32) (S18 : MS), v_classNumber S12 (qO S12 v51_1 0) (.inl (r17, S18)) ∧ (∃ (S21 : MS), v_out S18 (r17.toInt64) (2 : Int32) S21 ∧ ((qR S21 v51_1 1 = some (qO S21 v51_1 1)) ∧ ((∃ (r26 : Int32) (S27 : MS), v_classNumber S21 (qO S21 v51_1 1) (.inl (r26, S27)) ∧ (∃ (S30 : MS), v_out S27 (r26.toInt64) (2 : Int32) S30 ∧ (∃ (S33 : MS), v_out S30 0 (2 : Int32) S33 ∧ (∃ (S36 : MS), v_out S33 ((qI S33 v51_1 3).toInt64) (2 : Int32) S36 ∧ (∃ n, v_outFile_L124 oo n S36 v51_1 0))))) ∨ (∃ u9 : MS, v_classNumber S21 (qO S21 v51_1 1) (.inr u9) ∧ (oo = .inr u9)))))) ∨ (∃ u9 : MS, v_classNumber S12 (qO S12 v51_1 0) (.inr u9) ∧ (oo = .inr u9)))))) ∨ (¬ (qI U51 0 73).toInt ≤ v51_2.toInt ∧ (∃ (S82 : MS), v_outEntry U51 v51_2 S82 ∧ (∃ a84 : Int32, a84 = (v51_2 + Int32.ofInt 1) ∧ ((v_outFile_L51 oo n51) S82 v51_1 a84)))))
def v_outFile_L17 (oo : MS ⊕ MS) : Nat → MS → Nat → Int32 → Prop
  | 0, _, _, _ => False
  | n17 + 1, U17, v17_1, v17_2 => ((8 ≤ v17_2.toInt ∧ (∃ (S8 : MS), v_out U17 ((qI U17 0 74).toInt64) (2 : Int32) S8 ∧ (∃ n, v_outFile_L51 oo n S8 v17_1 0))) ∨ (¬ 8 ≤ v17_2.toInt ∧ (d_headByte U17 v17_2 ∧ (∃ (S89 : MS), v_out U17 ((f_headByte U17 v17_2).toInt64) (1 : Int32) S89 ∧ (∃ a91 : Int32, a91 = (v17_2 + Int32.ofInt 1) ∧ ((v_outFile_L17 oo n17) S89 v17_1 a91))))))
def v_outFile (S : MS) (p1 : Nat) (oo : MS ⊕ MS) : Prop := ((∃ (S2 : MS), v_collect S p1 (.inl S2) ∧ (∃ S4 : MS, S4 = wR S2 0 47 (some p1) ∧ (∃ S5 : MS, S5 = wI S4 0 77 0 ∧ (∃ n, v_outFile_L17 oo n S5 p1 0)))) ∨ (∃ u9 : MS, v_collect S p1 (.inr u9) ∧ (oo = .inr u9)))
set_option maxRecDepth 100000 in
theorem ru_outFile_L196 {ι : Type} {P : MS ⊕ MS → Prop} {Q : MS → Prop} {E : MS → Prop} : ∀ (n : Nat) {U196 : MS} {v196_1 : Nat} {v196_2 : Int32} (i0 : ι), (∀ (i : ι) (oo : MS ⊕ MS), (∃ n8, v_outFile_L196 oo n8 U196 v196_1 v196_2) → P oo) → w_outFile_L196 Q E n U196 v196_1 v196_2 → ∃ oo, P oo ∧ oV Q E oo := by
  intro n
  induction n with
  | zero => intro U196 v196_1 v196_2 i0 K h; unfold w_outFile_L196 at h; exact h.elim
  | succ n ih =>
    intro U196 v196_1 v196_2 i0 K h
    unfold w_outFile_L196 at h
    replace K := fun (i : ι × Nat) oo (z : v_outFile_L196 oo (i.2 + 1) U196 v196_1 v196_2) => K i.1 oo ⟨i.2 + 1, z⟩
    have i00 := i0
    replace i0 : ι × Nat := (i0, 0)
    by_cases c : (qI U196 v196_1 4).toInt ≤ v196_2.toInt
    · replace h := h.1 c
      replace K := fun i oo z => K i oo (Or.inl ⟨c, z⟩)
      obtain ⟨Q9, h0, h⟩ := h
      obtain ⟨S44, z9, g9⟩ := ru_out h0
      replace h := h S44 g9
      replace K := fun i oo z => K i oo ⟨S44, z9, z⟩
      exact ⟨.inl _, K i0 _ rfl, h⟩
    · replace h := h.2 c
      replace K := fun i oo z => K i oo (Or.inr ⟨c, z⟩)
      obtain ⟨Q9, E9, h0, h⟩ := h
      obtain ⟨o9, z9, g9⟩ := ru_outMethod h0
      rcases o9 with S47 | u9
      · replace h := h.1 S47 g9
        replace K := fun i oo z => K i oo (Or.inl ⟨S47, z9, z⟩)
        obtain ⟨a49, ea49⟩ : ∃ x9 : Int32, x9 = (v196_2 + Int32.ofInt 1) := ⟨_, rfl⟩
        replace h := h a49 ea49
        replace K := fun i oo z => K i oo ⟨a49, ea49, z⟩
        exact ih i00 (fun i oo ⟨n8, z⟩ => K (i, n8) oo z) h
      · replace h := h.2 u9 g9
        replace K := fun i oo z => K i oo (Or.inr ⟨u9, z9, z⟩)
        exact ⟨.inr u9, K i0 _ rfl, h⟩
set_option maxRecDepth 100000 in
theorem ru_outFile_L124 {ι : Type} {P : MS ⊕ MS → Prop} {Q : MS → Prop} {E : MS → Prop} : ∀ (n : Nat) {U124 : MS} {v124_1 : Nat} {v124_2 : Int32} (i0 : ι), (∀ (i : ι) (oo : MS ⊕ MS), (∃ n8, v_outFile_L124 oo n8 U124 v124_1 v124_2) → P oo) → w_outFile_L124 Q E n U124 v124_1 v124_2 → ∃ oo, P oo ∧ oV Q E oo := by
  intro n
  induction n with
  | zero => intro U124 v124_1 v124_2 i0 K h; unfold w_outFile_L124 at h; exact h.elim
  | succ n ih =>
    intro U124 v124_1 v124_2 i0 K h
    unfold w_outFile_L124 at h
    replace K := fun (i : ι × Nat) oo (z : v_outFile_L124 oo (i.2 + 1) U124 v124_1 v124_2) => K i.1 oo ⟨i.2 + 1, z⟩
    have i00 := i0
    replace i0 : ι × Nat := (i0, 0)
    by_cases c : (qI U124 v124_1 3).toInt ≤ v124_2.toInt
    · replace h := h.1 c
      replace K := fun i oo z => K i oo (Or.inl ⟨c, z⟩)
      obtain ⟨Q9, h0, h⟩ := h
      obtain ⟨S40, z9, g9⟩ := ru_out h0
      replace h := h S40 g9
      replace K := fun i oo z => K i oo ⟨S40, z9, z⟩
      obtain ⟨n9, h⟩ := h
      exact ru_outFile_L196 n9 i0 K h
    · replace h := h.2 c
      replace K := fun i oo z => K i oo (Or.inr ⟨c, z⟩)
      obtain ⟨Q9, h0, h⟩ := h
      obtain ⟨S51, z9, g9⟩ := ru_out h0
      replace h := h S51 g9
      replace K := fun i oo z => K i oo ⟨S51, z9, z⟩
      obtain ⟨g1_, h⟩ := h
      replace K := fun i oo z => K i oo ⟨g1_, z⟩
      obtain ⟨g2_, h⟩ := h
      replace K := fun i oo z => K i oo ⟨g2_, z⟩
      obtain ⟨g3_, h⟩ := h
      replace K := fun i oo z => K i oo ⟨g3_, z⟩
      obtain ⟨Q9, E9, h0, h⟩ := h
      obtain ⟨o9, z9, g9⟩ := ru_nameNumber h0
      rcases o9 with ⟨r59, S60⟩ | u9
      · replace h := h.1 r59 S60 g9
        replace K := fun i oo z => K i oo (Or.inl ⟨r59, S60, z9, z⟩)
        obtain ⟨Q9, h0, h⟩ := h
        obtain ⟨S63, z9, g9⟩ := ru_out h0
        replace h := h S63 g9
        replace K := fun i oo z => K i oo ⟨S63, z9, z⟩
        obtain ⟨g4_, h⟩ := h
        replace K := fun i oo z => K i oo ⟨g4_, z⟩
        obtain ⟨g5_, h⟩ := h
        replace K := fun i oo z => K i oo ⟨g5_, z⟩
        obtain ⟨g6_, h⟩ := h
        replace K := fun i oo z => K i oo ⟨g6_, z⟩
        obtain ⟨Q9, E9, h0, h⟩ := h
        obtain ⟨o9, z9, g9⟩ := ru_nameNumber h0
        rcases o9 with ⟨r71, S72⟩ | u9
        · replace h := h.1 r71 S72 g9
          replace K := fun i oo z => K i oo (Or.inl ⟨r71, S72, z9, z⟩)
          obtain ⟨Q9, h0, h⟩ := h
          obtain ⟨S75, z9, g9⟩ := ru_out h0
          replace h := h S75 g9
          replace K := fun i oo z => K i oo ⟨S75, z9, z⟩
          obtain ⟨Q9, h0, h⟩ := h
          obtain ⟨S78, z9, g9⟩ := ru_out h0
          replace h := h S78 g9
          replace K := fun i oo z => K i oo ⟨S78, z9, z⟩
          obtain ⟨a80, ea80⟩ : ∃ x9 : Int32, x9 = (v124_2 + Int32.ofInt 1) := ⟨_, rfl⟩
          replace h := h a80 ea80
          replace K := fun i oo z => K i oo ⟨a80, ea80, z⟩
          exact ih i00 (fun i oo ⟨n8, z⟩ => K (i, n8) oo z) h
        · replace h := h.2 u9 g9
          replace K := fun i oo z => K i oo (Or.inr ⟨u9, z9, z⟩)
          exact ⟨.inr u9, K i0 _ rfl, h⟩
      · replace h := h.2 u9 g9
        replace K := fun i oo z => K i oo (Or.inr ⟨u9, z9, z⟩)
        exact ⟨.inr u9, K i0 _ rfl, h⟩
set_option maxRecDepth 100000 in
theorem ru_outFile_L51 {ι : Type} {P : MS ⊕ MS → Prop} {Q : MS → Prop} {E : MS → Prop} : ∀ (n : Nat) {U51 : MS} {v51_1 : Nat} {v51_2 : Int32} (i0 : ι), (∀ (i : ι) (oo : MS ⊕ MS), (∃ n8, v_outFile_L51 oo n8 U51 v51_1 v51_2) → P oo) → w_outFile_L51 Q E n U51 v51_1 v51_2 → ∃ oo, P oo ∧ oV Q E oo := by
  intro n
  induction n with
  | zero => intro U51 v51_1 v51_2 i0 K h; unfold w_outFile_L51 at h; exact h.elim
  | succ n ih =>
    intro U51 v51_1 v51_2 i0 K h
    unfold w_outFile_L51 at h
    replace K := fun (i : ι × Nat) oo (z : v_outFile_L51 oo (i.2 + 1) U51 v51_1 v51_2) => K i.1 oo ⟨i.2 + 1, z⟩
    have i00 := i0
    replace i0 : ι × Nat := (i0, 0)
    by_cases c : (qI U51 0 73).toInt ≤ v51_2.toInt
    · replace h := h.1 c
      replace K := fun i oo z => K i oo (Or.inl ⟨c, z⟩)
      obtain ⟨Q9, h0, h⟩ := h
      obtain ⟨S12, z9, g9⟩ := ru_out h0
      replace h := h S12 g9
      replace K := fun i oo z => K i oo ⟨S12, z9, z⟩
      obtain ⟨g7_, h⟩ := h
      replace K := fun i oo z => K i oo ⟨g7_, z⟩
      obtain ⟨Q9, E9, h0, h⟩ := h
      obtain ⟨o9, z9, g9⟩ := ru_classNumber h0
      rcases o9 with ⟨r17, S18⟩ | u9
      · replace h := h.1 r17 S18 g9
        replace K := fun i oo z => K i oo (Or.inl ⟨r17, S18, z9, z⟩)
        obtain ⟨Q9, h0, h⟩ := h
        obtain ⟨S21, z9, g9⟩ := ru_out h0
        replace h := h S21 g9
        replace K := fun i oo z => K i oo ⟨S21, z9, z⟩
        obtain ⟨g8_, h⟩ := h
        replace K := fun i oo z => K i oo ⟨g8_, z⟩
        obtain ⟨Q9, E9, h0, h⟩ := h
        obtain ⟨o9, z9, g9⟩ := ru_classNumber h0
        rcases o9 with ⟨r26, S27⟩ | u9
        · replace h := h.1 r26 S27 g9
          replace K := fun i oo z => K i oo (Or.inl ⟨r26, S27, z9, z⟩)
          obtain ⟨Q9, h0, h⟩ := h
          obtain ⟨S30, z9, g9⟩ := ru_out h0
          replace h := h S30 g9
          replace K := fun i oo z => K i oo ⟨S30, z9, z⟩
          obtain ⟨Q9, h0, h⟩ := h
          obtain ⟨S33, z9, g9⟩ := ru_out h0
          replace h := h S33 g9
          replace K := fun i oo z => K i oo ⟨S33, z9, z⟩
          obtain ⟨Q9, h0, h⟩ := h
          obtain ⟨S36, z9, g9⟩ := ru_out h0
          replace h := h S36 g9
          replace K := fun i oo z => K i oo ⟨S36, z9, z⟩
          obtain ⟨n9, h⟩ := h
          exact ru_outFile_L124 n9 i0 K h
        · replace h := h.2 u9 g9
          replace K := fun i oo z => K i oo (Or.inr ⟨u9, z9, z⟩)
          exact ⟨.inr u9, K i0 _ rfl, h⟩
      · replace h := h.2 u9 g9
        replace K := fun i oo z => K i oo (Or.inr ⟨u9, z9, z⟩)
        exact ⟨.inr u9, K i0 _ rfl, h⟩
    · replace h := h.2 c
      replace K := fun i oo z => K i oo (Or.inr ⟨c, z⟩)
      obtain ⟨Q9, h0, h⟩ := h
      obtain ⟨S82, z9, g9⟩ := ru_outEntry h0
      replace h := h S82 g9
      replace K := fun i oo z => K i oo ⟨S82, z9, z⟩
      obtain ⟨a84, ea84⟩ : ∃ x9 : Int32, x9 = (v51_2 + Int32.ofInt 1) := ⟨_, rfl⟩
      replace h := h a84 ea84
      replace K := fun i oo z => K i oo ⟨a84, ea84, z⟩
      exact ih i00 (fun i oo ⟨n8, z⟩ => K (i, n8) oo z) h
set_option maxRecDepth 100000 in
theorem ru_outFile_L17 {ι : Type} {P : MS ⊕ MS → Prop} {Q : MS → Prop} {E : MS → Prop} : ∀ (n : Nat) {U17 : MS} {v17_1 : Nat} {v17_2 : Int32} (i0 : ι), (∀ (i : ι) (oo : MS ⊕ MS), (∃ n8, v_outFile_L17 oo n8 U17 v17_1 v17_2) → P oo) → w_outFile_L17 Q E n U17 v17_1 v17_2 → ∃ oo, P oo ∧ oV Q E oo := by
  intro n
  induction n with
  | zero => intro U17 v17_1 v17_2 i0 K h; unfold w_outFile_L17 at h; exact h.elim
  | succ n ih =>
    intro U17 v17_1 v17_2 i0 K h
    unfold w_outFile_L17 at h
    replace K := fun (i : ι × Nat) oo (z : v_outFile_L17 oo (i.2 + 1) U17 v17_1 v17_2) => K i.1 oo ⟨i.2 + 1, z⟩
    have i00 := i0
    replace i0 : ι × Nat := (i0, 0)
    by_cases c : 8 ≤ v17_2.toInt
    · replace h := h.1 c
      replace K := fun i oo z => K i oo (Or.inl ⟨c, z⟩)
      obtain ⟨Q9, h0, h⟩ := h
      obtain ⟨S8, z9, g9⟩ := ru_out h0
      replace h := h S8 g9
      replace K := fun i oo z => K i oo ⟨S8, z9, z⟩
      obtain ⟨n9, h⟩ := h
      exact ru_outFile_L51 n9 i0 K h
    · replace h := h.2 c
      replace K := fun i oo z => K i oo (Or.inr ⟨c, z⟩)
      obtain ⟨g9_, h⟩ := h
      replace K := fun i oo z => K i oo ⟨g9_, z⟩
      obtain ⟨Q9, h0, h⟩ := h
      obtain ⟨S89, z9, g9⟩ := ru_out h0
      replace h := h S89 g9
      replace K := fun i oo z => K i oo ⟨S89, z9, z⟩
      obtain ⟨a91, ea91⟩ : ∃ x9 : Int32, x9 = (v17_2 + Int32.ofInt 1) := ⟨_, rfl⟩
      replace h := h a91 ea91
      replace K := fun i oo z => K i oo ⟨a91, ea91, z⟩
      exact ih i00 (fun i oo ⟨n8, z⟩ => K (i, n8) oo z) h
set_option maxRecDepth 100000 in
theorem ru_outFile {S : MS} {p1 : Nat} {Q : MS → Prop} {E : MS → Prop} (h : w_outFile S p1 Q E) : ∃ oo, v_outFile S p1 oo ∧ oV Q E oo := by
  have i0 : Unit := ()
  have K : ∀ (i : Unit) (oo : MS ⊕ MS), v_outFile S p1 oo → v_outFile S p1 oo := fun _ _ z => z
  unfold w_outFile at h
  obtain ⟨Q9, E9, h0, h⟩ := h
  obtain ⟨o9, z9, g9⟩ := ru_collect h0
  rcases o9 with S2 | u9
  · replace h := h.1 S2 g9
    replace K := fun i oo z => K i oo (Or.inl ⟨S2, z9, z⟩)
    obtain ⟨S4, eS4⟩ : ∃ x9 : MS, x9 = wR S2 0 47 (some p1) := ⟨_, rfl⟩
    replace h := h S4 eS4
    replace K := fun i oo z => K i oo ⟨S4, eS4, z⟩
    obtain ⟨S5, eS5⟩ : ∃ x9 : MS, x9 = wI S4 0 77 0 := ⟨_, rfl⟩
    replace h := h S5 eS5
    replace K := fun i oo z => K i oo ⟨S5, eS5, z⟩
    obtain ⟨n9, h⟩ := h
    exact ru_outFile_L17 n9 i0 K h
  · replace h := h.2 u9 g9
    replace K := fun i oo z => K i oo (Or.inr ⟨u9, z9, z⟩)
    exact ⟨.inr u9, K i0 _ rfl, h⟩
set_option maxRecDepth 100000 in
theorem vw_outFile_L196 {oo : MS ⊕ MS} : ∀ (n : Nat) {U196 : MS} {v196_1 : Nat} {v196_2 : Int32}, v_outFile_L196 oo n U196 v196_1 v196_2 → w_outFile_L196 (fun u => oo = .inl u) (fun u => oo = .inr u) n U196 v196_1 v196_2 := by
  intro n
  induction n with
  | zero => intro U196 v196_1 v196_2 h; unfold v_outFile_L196 at h; exact h.elim
  | succ n ih =>
    intro U196 v196_1 v196_2 h
    unfold v_outFile_L196 at h
    unfold w_outFile_L196
    rcases h with ⟨c, h⟩ | ⟨c, h⟩
    · refine ⟨fun _ => ?_, fun c2 => absurd c c2⟩
      obtain ⟨q9, z9, h⟩ := h
      refine ⟨_, vw_out z9, ?_⟩
      intro q8 d9
      subst d9
      exact h
    · refine ⟨fun c2 => absurd c2 c, fun _ => ?_⟩
      rcases h with ⟨q9, z9, h⟩ | ⟨q9, z9, h⟩
      · refine ⟨_, _, vw_outMethod z9, ?_, ?_⟩
        · intro q8 d9
          injection d9 with d9
          subst d9
          obtain ⟨v9, e9, h⟩ := h
          intro x9 d9
          have c9 : v9 = x9 := e9.trans d9.symm
          subst c9
          exact ih h
        · intro q8 d9
          exact nomatch d9
      · refine ⟨_, _, vw_outMethod z9, ?_, ?_⟩
        · intro q8 d9
          exact nomatch d9
        · intro q8 d9
          injection d9 with d9
          subst d9
          exact h
set_option maxRecDepth 100000 in
theorem vz_outFile_L196 {oo : MS ⊕ MS} {Q : MS → Prop} {E : MS → Prop} : ∀ (n m : Nat) {U196 : MS} {v196_1 : Nat} {v196_2 : Int32}, v_outFile_L196 oo n U196 v196_1 v196_2 → w_outFile_L196 Q E m U196 v196_1 v196_2 → oV Q E oo := by
  intro n
  induction n with
  | zero => intro m U196 v196_1 v196_2 h; unfold v_outFile_L196 at h; exact h.elim
  | succ n ih =>
    intro m U196 v196_1 v196_2 h w
    cases m with
    | zero => unfold w_outFile_L196 at w; exact w.elim
    | succ m =>
      unfold v_outFile_L196 at h
      unfold w_outFile_L196 at w
      rcases h with ⟨c, h⟩ | ⟨c, h⟩
      · replace w := w.1 c
        obtain ⟨q9, z9, h⟩ := h
        obtain ⟨Q9, w0, w⟩ := w
        replace w := w q9 (vz_out z9 w0)
        rw [h]
        exact w
      · replace w := w.2 c
        obtain ⟨Q9, E9, w0, w⟩ := w
        rcases h with ⟨q9, z9, h⟩ | ⟨q9, z9, h⟩
        · replace w := w.1 q9 (vz_outMethod z9 w0)
          obtain ⟨v9, e9, h⟩ := h
          replace w := w v9 e9
          exact ih m h w
        · replace w := w.2 q9 (vz_outMethod z9 w0)
          rw [h]
          exact w
set_option maxRecDepth 100000 in
theorem vw_outFile_L124 {oo : MS ⊕ MS} : ∀ (n : Nat) {U124 : MS} {v124_1 : Nat} {v124_2 : Int32}, v_outFile_L124 oo n U124 v124_1 v124_2 → w_outFile_L124 (fun u => oo = .inl u) (fun u => oo = .inr u) n U124 v124_1 v124_2 := by
  intro n
  induction n with
  | zero => intro U124 v124_1 v124_2 h; unfold v_outFile_L124 at h; exact h.elim
  | succ n ih =>
    intro U124 v124_1 v124_2 h
    unfold v_outFile_L124 at h
    unfold w_outFile_L124
    rcases h with ⟨c, h⟩ | ⟨c, h⟩
    · refine ⟨fun _ => ?_, fun c2 => absurd c c2⟩
      obtain ⟨q9, z9, h⟩ := h
      refine ⟨_, vw_out z9, ?_⟩
      intro q8 d9
      subst d9
      obtain ⟨n9, h⟩ := h
      exact ⟨n9, vw_outFile_L196 n9 h⟩
    · refine ⟨fun c2 => absurd c2 c, fun _ => ?_⟩
      obtain ⟨q9, z9, h⟩ := h
      refine ⟨_, vw_out z9, ?_⟩
      intro q8 d9
      subst d9
      obtain ⟨g9, h⟩ := h
      refine ⟨g9, ?_⟩
      obtain ⟨g9, h⟩ := h
      refine ⟨g9, ?_⟩
      obtain ⟨g9, h⟩ := h
      refine ⟨g9, ?_⟩
      rcases h with ⟨p9, q9, z9, h⟩ | ⟨q9, z9, h⟩
      · refine ⟨_, _, vw_nameNumber z9, ?_, ?_⟩
        · intro p8 q8 d9
          injection d9 with d9
          injection d9 with d8 d9
          subst d8
          subst d9
          obtain ⟨q9, z9, h⟩ := h
          refine ⟨_, vw_out z9, ?_⟩
          intro q8 d9
          subst d9
          obtain ⟨g9, h⟩ := h
          refine ⟨g9, ?_⟩
          obtain ⟨g9, h⟩ := h
          refine ⟨g9, ?_⟩
          obtain ⟨g9, h⟩ := h
          refine ⟨g9, ?_⟩
          rcases h with ⟨p9, q9, z9, h⟩ | ⟨q9, z9, h⟩
          · refine ⟨_, _, vw_nameNumber z9, ?_, ?_⟩
            · intro p8 q8 d9
              injection d9 with d9
              injection d9 with d8 d9
              subst d8
              subst d9
              obtain ⟨q9, z9, h⟩ := h
              refine ⟨_, vw_out z9, ?_⟩
              intro q8 d9
              subst d9
              obtain ⟨q9, z9, h⟩ := h
              refine ⟨_, vw_out z9, ?_⟩
              intro q8 d9
              subst d9
              obtain ⟨v9, e9, h⟩ := h
              intro x9 d9
              have c9 : v9 = x9 := e9.trans d9.symm
              subst c9
              exact ih h
            · intro q8 d9
              exact nomatch d9
          · refine ⟨_, _, vw_nameNumber z9, ?_, ?_⟩
            · intro p8 q8 d9
              exact nomatch d9
            · intro q8 d9
              injection d9 with d9
              subst d9
              exact h
        · intro q8 d9
          exact nomatch d9
      · refine ⟨_, _, vw_nameNumber z9, ?_, ?_⟩
        · intro p8 q8 d9
          exact nomatch d9
        · intro q8 d9
          injection d9 with d9
          subst d9
          exact h
set_option maxRecDepth 100000 in
theorem vz_outFile_L124 {oo : MS ⊕ MS} {Q : MS → Prop} {E : MS → Prop} : ∀ (n m : Nat) {U124 : MS} {v124_1 : Nat} {v124_2 : Int32}, v_outFile_L124 oo n U124 v124_1 v124_2 → w_outFile_L124 Q E m U124 v124_1 v124_2 → oV Q E oo := by
  intro n
  induction n with
  | zero => intro m U124 v124_1 v124_2 h; unfold v_outFile_L124 at h; exact h.elim
  | succ n ih =>
    intro m U124 v124_1 v124_2 h w
    cases m with
    | zero => unfold w_outFile_L124 at w; exact w.elim
    | succ m =>
      unfold v_outFile_L124 at h
      unfold w_outFile_L124 at w
      rcases h with ⟨c, h⟩ | ⟨c, h⟩
      · replace w := w.1 c
        obtain ⟨q9, z9, h⟩ := h
        obtain ⟨Q9, w0, w⟩ := w
        replace w := w q9 (vz_out z9 w0)
        obtain ⟨n9, h⟩ := h
        obtain ⟨n8, w⟩ := w
        exact vz_outFile_L196 n9 n8 h w
      · replace w := w.2 c
        obtain ⟨q9, z9, h⟩ := h
        obtain ⟨Q9, w0, w⟩ := w
        replace w := w q9 (vz_out z9 w0)
        replace h := h.2
        replace w := w.2
        replace h := h.2
        replace w := w.2
        replace h := h.2
        replace w := w.2
        obtain ⟨Q9, E9, w0, w⟩ := w
        rcases h with ⟨p9, q9, z9, h⟩ | ⟨q9, z9, h⟩
        · replace w := w.1 p9 q9 (vz_nameNumber z9 w0)
          obtain ⟨q9, z9, h⟩ := h
          obtain ⟨Q9, w0, w⟩ := w
          replace w := w q9 (vz_out z9 w0)
          replace h := h.2
          replace w := w.2
          replace h := h.2
          replace w := w.2
          replace h := h.2
          replace w := w.2
          obtain ⟨Q9, E9, w0, w⟩ := w
          rcases h with ⟨p9, q9, z9, h⟩ | ⟨q9, z9, h⟩
          · replace w := w.1 p9 q9 (vz_nameNumber z9 w0)
            obtain ⟨q9, z9, h⟩ := h
            obtain ⟨Q9, w0, w⟩ := w
            replace w := w q9 (vz_out z9 w0)
            obtain ⟨q9, z9, h⟩ := h
            obtain ⟨Q9, w0, w⟩ := w
            replace w := w q9 (vz_out z9 w0)
            obtain ⟨v9, e9, h⟩ := h
            replace w := w v9 e9
            exact ih m h w
          · replace w := w.2 q9 (vz_nameNumber z9 w0)
            rw [h]
            exact w
        · replace w := w.2 q9 (vz_nameNumber z9 w0)
          rw [h]
          exact w
set_option maxRecDepth 100000 in
theorem vw_outFile_L51 {oo : MS ⊕ MS} : ∀ (n : Nat) {U51 : MS} {v51_1 : Nat} {v51_2 : Int32}, v_outFile_L51 oo n U51 v51_1 v51_2 → w_outFile_L51 (fun u => oo = .inl u) (fun u => oo = .inr u) n U51 v51_1 v51_2 := by
  intro n
  induction n with
  | zero => intro U51 v51_1 v51_2 h; unfold v_outFile_L51 at h; exact h.elim
  | succ n ih =>
    intro U51 v51_1 v51_2 h
    unfold v_outFile_L51 at h
    unfold w_outFile_L51
    rcases h with ⟨c, h⟩ | ⟨c, h⟩
    · refine ⟨fun _ => ?_, fun c2 => absurd c c2⟩
      obtain ⟨q9, z9, h⟩ := h
      refine ⟨_, vw_out z9, ?_⟩
      intro q8 d9
      subst d9
      obtain ⟨g9, h⟩ := h
      refine ⟨g9, ?_⟩
      rcases h with ⟨p9, q9, z9, h⟩ | ⟨q9, z9, h⟩
      · refine ⟨_, _, vw_classNumber z9, ?_, ?_⟩
        · intro p8 q8 d9
          injection d9 with d9
          injection d9 with d8 d9
          subst d8
          subst d9
          obtain ⟨q9, z9, h⟩ := h
          refine ⟨_, vw_out z9, ?_⟩
          intro q8 d9
          subst d9
          obtain ⟨g9, h⟩ := h
          refine ⟨g9, ?_⟩
          rcases h with ⟨p9, q9, z9, h⟩ | ⟨q9, z9, h⟩
          · refine ⟨_, _, vw_classNumber z9, ?_, ?_⟩
            · intro p8 q8 d9
              injection d9 with d9
              injection d9 with d8 d9
              subst d8
              subst d9
              obtain ⟨q9, z9, h⟩ := h
              refine ⟨_, vw_out z9, ?_⟩
              intro q8 d9
              subst d9
              obtain ⟨q9, z9, h⟩ := h
              refine ⟨_, vw_out z9, ?_⟩
              intro q8 d9
              subst d9
              obtain ⟨q9, z9, h⟩ := h
              refine ⟨_, vw_out z9, ?_⟩
              intro q8 d9
              subst d9
              obtain ⟨n9, h⟩ := h
              exact ⟨n9, vw_outFile_L124 n9 h⟩
            · intro q8 d9
              exact nomatch d9
          · refine ⟨_, _, vw_classNumber z9, ?_, ?_⟩
            · intro p8 q8 d9
              exact nomatch d9
            · intro q8 d9
              injection d9 with d9
              subst d9
              exact h
        · intro q8 d9
          exact nomatch d9
      · refine ⟨_, _, vw_classNumber z9, ?_, ?_⟩
        · intro p8 q8 d9
          exact nomatch d9
        · intro q8 d9
          injection d9 with d9
          subst d9
          exact h
    · refine ⟨fun c2 => absurd c2 c, fun _ => ?_⟩
      obtain ⟨q9, z9, h⟩ := h
      refine ⟨_, vw_outEntry z9, ?_⟩
      intro q8 d9
      subst d9
      obtain ⟨v9, e9, h⟩ := h
      intro x9 d9
      have c9 : v9 = x9 := e9.trans d9.symm
      subst c9
      exact ih h
set_option maxRecDepth 100000 in
theorem vz_outFile_L51 {oo : MS ⊕ MS} {Q : MS → Prop} {E : MS → Prop} : ∀ (n m : Nat) {U51 : MS} {v51_1 : Nat} {v51_2 : Int32}, v_outFile_L51 oo n U51 v51_1 v51_2 → w_outFile_L51 Q E m U51 v51_1 v51_2 → oV Q E oo := by
  intro n
  induction n with
  | zero => intro m U51 v51_1 v51_2 h; unfold v_outFile_L51 at h; exact h.elim
  | succ n ih =>
    intro m U51 v51_1 v51_2 h w
    cases m with
    | zero => unfold w_outFile_L51 at w; exact w.elim
    | succ m =>
      unfold v_outFile_L51 at h
      unfold w_outFile_L51 at w
      rcases h with ⟨c, h⟩ | ⟨c, h⟩
      · replace w := w.1 c
        obtain ⟨q9, z9, h⟩ := h
        obtain ⟨Q9, w0, w⟩ := w
        replace w := w q9 (vz_out z9 w0)
        replace h := h.2
        replace w := w.2
        obtain ⟨Q9, E9, w0, w⟩ := w
        rcases h with ⟨p9, q9, z9, h⟩ | ⟨q9, z9, h⟩
        · replace w := w.1 p9 q9 (vz_classNumber z9 w0)
          obtain ⟨q9, z9, h⟩ := h
          obtain ⟨Q9, w0, w⟩ := w
          replace w := w q9 (vz_out z9 w0)
          replace h := h.2
          replace w := w.2
          obtain ⟨Q9, E9, w0, w⟩ := w
          rcases h with ⟨p9, q9, z9, h⟩ | ⟨q9, z9, h⟩
          · replace w := w.1 p9 q9 (vz_classNumber z9 w0)
            obtain ⟨q9, z9, h⟩ := h
            obtain ⟨Q9, w0, w⟩ := w
            replace w := w q9 (vz_out z9 w0)
            obtain ⟨q9, z9, h⟩ := h
            obtain ⟨Q9, w0, w⟩ := w
            replace w := w q9 (vz_out z9 w0)
            obtain ⟨q9, z9, h⟩ := h
            obtain ⟨Q9, w0, w⟩ := w
            replace w := w q9 (vz_out z9 w0)
            obtain ⟨n9, h⟩ := h
            obtain ⟨n8, w⟩ := w
            exact vz_outFile_L124 n9 n8 h w
          · replace w := w.2 q9 (vz_classNumber z9 w0)
            rw [h]
            exact w
        · replace w := w.2 q9 (vz_classNumber z9 w0)
          rw [h]
          exact w
      · replace w := w.2 c
        obtain ⟨q9, z9, h⟩ := h
        obtain ⟨Q9, w0, w⟩ := w
        replace w := w q9 (vz_outEntry z9 w0)
        obtain ⟨v9, e9, h⟩ := h
        replace w := w v9 e9
        exact ih m h w
set_option maxRecDepth 100000 in
theorem vw_outFile_L17 {oo : MS ⊕ MS} : ∀ (n : Nat) {U17 : MS} {v17_1 : Nat} {v17_2 : Int32}, v_outFile_L17 oo n U17 v17_1 v17_2 → w_outFile_L17 (fun u => oo = .inl u) (fun u => oo = .inr u) n U17 v17_1 v17_2 := by
  intro n
  induction n with
  | zero => intro U17 v17_1 v17_2 h; unfold v_outFile_L17 at h; exact h.elim
  | succ n ih =>
    intro U17 v17_1 v17_2 h
    unfold v_outFile_L17 at h
    unfold w_outFile_L17
    rcases h with ⟨c, h⟩ | ⟨c, h⟩
    · refine ⟨fun _ => ?_, fun c2 => absurd c c2⟩
      obtain ⟨q9, z9, h⟩ := h
      refine ⟨_, vw_out z9, ?_⟩
      intro q8 d9
      subst d9
      obtain ⟨n9, h⟩ := h
      exact ⟨n9, vw_outFile_L51 n9 h⟩
    · refine ⟨fun c2 => absurd c2 c, fun _ => ?_⟩
      obtain ⟨g9, h⟩ := h
      refine ⟨g9, ?_⟩
      obtain ⟨q9, z9, h⟩ := h
      refine ⟨_, vw_out z9, ?_⟩
      intro q8 d9
      subst d9
      obtain ⟨v9, e9, h⟩ := h
      intro x9 d9
      have c9 : v9 = x9 := e9.trans d9.symm
      subst c9
      exact ih h
set_option maxRecDepth 100000 in
theorem vz_outFile_L17 {oo : MS ⊕ MS} {Q : MS → Prop} {E : MS → Prop} : ∀ (n m : Nat) {U17 : MS} {v17_1 : Nat} {v17_2 : Int32}, v_outFile_L17 oo n U17 v17_1 v17_2 → w_outFile_L17 Q E m U17 v17_1 v17_2 → oV Q E oo := by
  intro n
  induction n with
  | zero => intro m U17 v17_1 v17_2 h; unfold v_outFile_L17 at h; exact h.elim
  | succ n ih =>
    intro m U17 v17_1 v17_2 h w
    cases m with
    | zero => unfold w_outFile_L17 at w; exact w.elim
    | succ m =>
      unfold v_outFile_L17 at h
      unfold w_outFile_L17 at w
      rcases h with ⟨c, h⟩ | ⟨c, h⟩
      · replace w := w.1 c
        obtain ⟨q9, z9, h⟩ := h
        obtain ⟨Q9, w0, w⟩ := w
        replace w := w q9 (vz_out z9 w0)
        obtain ⟨n9, h⟩ := h
        obtain ⟨n8, w⟩ := w
        exact vz_outFile_L51 n9 n8 h w
      · replace w := w.2 c
        replace h := h.2
        replace w := w.2
        obtain ⟨q9, z9, h⟩ := h
        obtain ⟨Q9, w0, w⟩ := w
        replace w := w q9 (vz_out z9 w0)
        obtain ⟨v9, e9, h⟩ := h
        replace w := w v9 e9
        exact ih m h w
set_option maxRecDepth 100000 in
theorem vw_outFile {S : MS} {p1 : Nat} {oo : MS ⊕ MS} (h : v_outFile S p1 oo) : w_outFile S p1 (fun u => oo = .inl u) (fun u => oo = .inr u) := by
  unfold v_outFile at h
  unfold w_outFile
  rcases h with ⟨q9, z9, h⟩ | ⟨q9, z9, h⟩
  · refine ⟨_, _, vw_collect z9, ?_, ?_⟩
    · intro q8 d9
      injection d9 with d9
      subst d9
      obtain ⟨v9, e9, h⟩ := h
      intro x9 d9
      have c9 : v9 = x9 := e9.trans d9.symm
      subst c9
      obtain ⟨v9, e9, h⟩ := h
      intro x9 d9
      have c9 : v9 = x9 := e9.trans d9.symm
      subst c9
      obtain ⟨n9, h⟩ := h
      exact ⟨n9, vw_outFile_L17 n9 h⟩
    · intro q8 d9
      exact nomatch d9
  · refine ⟨_, _, vw_collect z9, ?_, ?_⟩
    · intro q8 d9
      exact nomatch d9
    · intro q8 d9
      injection d9 with d9
      subst d9
      exact h
set_option maxRecDepth 100000 in
theorem vz_outFile {S : MS} {p1 : Nat} {oo : MS ⊕ MS} {Q : MS → Prop} {E : MS → Prop} (h : v_outFile S p1 oo) (w : w_outFile S p1 Q E) : oV Q E oo := by
  unfold v_outFile at h
  unfold w_outFile at w
  obtain ⟨Q9, E9, w0, w⟩ := w
  rcases h with ⟨q9, z9, h⟩ | ⟨q9, z9, h⟩
  · replace w := w.1 q9 (vz_collect z9 w0)
    obtain ⟨v9, e9, h⟩ := h
    replace w := w v9 e9
    obtain ⟨v9, e9, h⟩ := h
    replace w := w v9 e9
    obtain ⟨n9, h⟩ := h
    obtain ⟨n8, w⟩ := w
    exact vz_outFile_L17 n9 n8 h w
  · replace w := w.2 q9 (vz_collect z9 w0)
    rw [h]
    exact w
def v_entries_J131 (oo : MS ⊕ MS) (k2 : MS → Int32 → Prop) (U131 : MS) (v131_1 : Int32) (v131_4 : Int32) : Prop := (((0 : Int) ≤ v131_1.toInt ∧ v131_1.toInt < 502) ∧ ((∃ (S17 : MS), v_must U131 v131_4 (6 : Int32) (qI U131 5 v131_1.toInt.toNat) (.inl S17) ∧ (∃ a19 : Int32, a19 = (v131_1 + Int32.ofInt 1) ∧ (k2 S17 a19))) ∨ (∃ u9 : MS, v_must U131 v131_4 (6 : Int32) (qI U131 5 v131_1.toInt.toNat) (.inr u9) ∧ (oo = .inr u9))))
def v_entries_J129 (oo : MS ⊕ MS) (k2 : MS → Int32 → Prop) (U129 : MS) (t129_0 : Int32) (v129_1 : Int32) : Prop := (v_entries_J131 oo k2 U129 v129_1 t129_0)
def v_entries_J128 (oo : MS ⊕ MS) (k2 : MS → Int32 → Prop) (U128 : MS) (v128_1 : Int32) : Prop := (v_entries_J129 oo k2 U128 0 v128_1)
def v_entries_J104 (oo : MS ⊕ MS) (k2 : MS → Int32 → Prop) (U104 : MS) (v104_1 : Int32) (v104_2 : Int32) (v104_3 : Int32) : Prop := (d_isEntry U104 v104_2 (7 : Int32) ∧ (((f_isEntry U104 v104_2 (7 : Int32)).toInt = 0 ∧ (v_entries_J128 oo k2 U104 v104_1)) ∨ (¬ (f_isEntry U104 v104_2 (7 : Int32)).toInt = 0 ∧ (d_isEntry U104 v104_3 (12 : Int32) ∧ (((f_isEntry U104 v104_3 (12 : Int32)).toInt = 0 ∧ (v_entries_J128 oo k2 U104 v104_1)) ∨ (¬ (f_isEntry U104 v104_3 (12 : Int32)).toInt = 0 ∧ (v_entries_J129 oo k2 U104 1 v104_1)))))))
def v_entries_J82 (oo : MS ⊕ MS) (k2 : MS → Int32 → Prop) (U82 : MS) (v82_1 : Int32) (v82_2 : Int32) (v82_3 : Int32) (v82_4 : Int32) : Prop := (((0 : Int) ≤ v82_1.toInt ∧ v82_1.toInt < 502) ∧ (((qI U82 4 v82_1.toInt.toNat).toInt = 9 ∧ (v_entries_J104 oo k2 U82 v82_1 v82_2 v82_3)) ∨ (¬ (qI U82 4 v82_1.toInt.toNat).toInt = 9 ∧ (((0 : Int) ≤ v82_1.toInt ∧ v82_1.toInt < 502) ∧ (((qI U82 4 v82_1.toInt.toNat).toInt = 10 ∧ (v_entries_J104 oo k2 U82 v82_1 v82_2 v82_3)) ∨ (¬ (qI U82 4 v82_1.toInt.toNat).toInt = 10 ∧ (v_entries_J131 oo k2 U82 v82_1 v82_4)))))))
def v_entries_J80 (oo : MS ⊕ MS) (k2 : MS → Int32 → Prop) (U80 : MS) (t80_0 : Int32) (v80_1 : Int32) (v80_2 : Int32) (v80_3 : Int32) : Prop := (v_entries_J82 oo k2 U80 v80_1 v80_2 v80_3 t80_0)
def v_entries_J79 (oo : MS ⊕ MS) (k2 : MS → Int32 → Prop) (U79 : MS) (v79_1 : Int32) (v79_2 : Int32) (v79_3 : Int32) : Prop := (v_entries_J80 oo k2 U79 0 v79_1 v79_2 v79_3)
def v_entries_J46 (oo : MS ⊕ MS) (k2 : MS → Int32 → Prop) (U46 : MS) (v46_1 : Int32) (v46_2 : Int32) (v46_3 : Int32) (v46_4 : Int32) : Prop := (((0 : Int) ≤ v46_1.toInt ∧ v46_1.toInt < 502) ∧ (((qI U46 4 v46_1.toInt.toNat).toInt = 12 ∧ (d_isEntry U46 v46_2 (1 : Int32) ∧ (((f_isEntry U46 v46_2 (1 : Int32)).toInt = 0 ∧ (v_entries_J79 oo k2 U46 v46_1 v46_2 v46_3)) ∨ (¬ (f_isEntry U46 v46_2 (1 : Int32)).toInt = 0 ∧ (d_isEntry U46 v46_3 (1 : Int32) ∧ (((f_isEntry U46 v46_3 (1 : Int32)).toInt = 0 ∧ (v_entries_J79 oo k2 U46 v46_1 v46_2 v46_3)) ∨ (¬ (f_isEntry U46 v46_3 (1 : Int32)).toInt = 0 ∧ (v_entries_J80 oo k2 U46 1 v46_1 v46_2 v46_3)))))))) ∨ (¬ (qI U46 4 v46_1.toInt.toNat).toInt = 12 ∧ (v_entries_J82 oo k2 U46 v46_1 v46_2 v46_3 v46_4))))
def v_entries_L2 (oo : MS ⊕ MS) : Nat → MS → Int32 → Prop
  | 0, _, _ => False
  | n2 + 1, U2, v2_1 => (((qI U2 0 14).toInt ≤ v2_1.toInt ∧ (oo = .inl U2)) ∨ (¬ (qI U2 0 14).toInt ≤ v2_1.toInt ∧ (((0 : Int) ≤ v2_1.toInt ∧ v2_1.toInt < 502) ∧ (∃ a4 : Int32, a4 = (qI U2 6 v2_1.toInt.toNat) ∧ (((0 : Int) ≤ v2_1.toInt ∧ v2_1.toInt < 502) ∧ (∃ a7 : Int32, a7 = (qI U2 7 v2_1.toInt.toNat) ∧ (((0 : Int) ≤ v2_1.toInt ∧ v2_1.toInt < 502) ∧ (((qI U2 4 v2_1.toInt.toNat).toInt = 7 ∧ (d_isEntry U2 a4 (1 : Int32) ∧ (∃ a45 : Int32, a45 = (f_isEntry U2 a4 (1 : Int32)) ∧ (v_entries_J46 oo (v_entries_L2 oo n2) U2 v2_1 a4 a7 a45)))) ∨ (¬ (qI U2 4 v2_1.toInt.toNat).toInt = 7 ∧ (v_entries_J46 oo (v_entries_L2 oo n2) U2 v2_1 a4 a7 1))))))))))
def v_entries (S : MS) (oo : MS ⊕ MS) : Prop := (∃ n, v_entries_L2 oo n S 1)
set_option maxRecDepth 100000 in
theorem ru_entries_J131 {ι : Type} {P : MS ⊕ MS → Prop} {Q : MS → Prop} {E : MS → Prop} {k2 : MS → Int32 → Prop} {k2v : ι → MS ⊕ MS → MS → Int32 → Prop} {U131 : MS} {v131_1 : Int32} {v131_4 : Int32} (i0 : ι) (hk2 : ∀ (u : MS) (z0 : Int32), k2 u z0 → (∀ (i : ι) (oo : MS ⊕ MS), k2v i oo u z0 → P oo) → ∃ oo, P oo ∧ oV Q E oo) (K : ∀ (i : ι) (oo : MS ⊕ MS), v_entries_J131 oo (k2v i oo) U131 v131_1 v131_4 → P oo) (h : w_entries_J131 Q E k2 U131 v131_1 v131_4) : ∃ oo, P oo ∧ oV Q E oo := by
  unfold w_entries_J131 at h
  obtain ⟨g1_, h⟩ := h
  replace K := fun i oo z => K i oo ⟨g1_, z⟩
  obtain ⟨Q9, E9, h0, h⟩ := h
  obtain ⟨o9, z9, g9⟩ := ru_must h0
  rcases o9 with S17 | u9
  · replace h := h.1 S17 g9
    replace K := fun i oo z => K i oo (Or.inl ⟨S17, z9, z⟩)
    obtain ⟨a19, ea19⟩ : ∃ x9 : Int32, x9 = (v131_1 + Int32.ofInt 1) := ⟨_, rfl⟩
    replace h := h a19 ea19
    replace K := fun i oo z => K i oo ⟨a19, ea19, z⟩
    exact hk2 _ _ h K
  · replace h := h.2 u9 g9
    replace K := fun i oo z => K i oo (Or.inr ⟨u9, z9, z⟩)
    exact ⟨.inr u9, K i0 _ rfl, h⟩
set_option maxRecDepth 100000 in
theorem ru_entries_J129 {ι : Type} {P : MS ⊕ MS → Prop} {Q : MS → Prop} {E : MS → Prop} {k2 : MS → Int32 → Prop} {k2v : ι → MS ⊕ MS → MS → Int32 → Prop} {U129 : MS} {t129_0 : Int32} {v129_1 : Int32} (i0 : ι) (hk2 : ∀ (u : MS) (z0 : Int32), k2 u z0 → (∀ (i : ι) (oo : MS ⊕ MS), k2v i oo u z0 → P oo) → ∃ oo, P oo ∧ oV Q E oo) (K : ∀ (i : ι) (oo : MS ⊕ MS), v_entries_J129 oo (k2v i oo) U129 t129_0 v129_1 → P oo) (h : w_entries_J129 Q E k2 U129 t129_0 v129_1) : ∃ oo, P oo ∧ oV Q E oo := by
  unfold w_entries_J129 at h
  exact ru_entries_J131 i0 hk2 K h
set_option maxRecDepth 100000 in
theorem ru_entries_J128 {ι : Type} {P : MS ⊕ MS → Prop} {Q : MS → Prop} {E : MS → Prop} {k2 : MS → Int32 → Prop} {k2v : ι → MS ⊕ MS → MS → Int32 → Prop} {U128 : MS} {v128_1 : Int32} (i0 : ι) (hk2 : ∀ (u : MS) (z0 : Int32), k2 u z0 → (∀ (i : ι) (oo : MS ⊕ MS), k2v i oo u z0 → P oo) → ∃ oo, P oo ∧ oV Q E oo) (K : ∀ (i : ι) (oo : MS ⊕ MS), v_entries_J128 oo (k2v i oo) U128 v128_1 → P oo) (h : w_entries_J128 Q E k2 U128 v128_1) : ∃ oo, P oo ∧ oV Q E oo := by
  unfold w_entries_J128 at h
  exact ru_entries_J129 i0 hk2 K h
set_option maxRecDepth 100000 in
theorem ru_entries_J104 {ι : Type} {P : MS ⊕ MS → Prop} {Q : MS → Prop} {E : MS → Prop} {k2 : MS → Int32 → Prop} {k2v : ι → MS ⊕ MS → MS → Int32 → Prop} {U104 : MS} {v104_1 : Int32} {v104_2 : Int32} {v104_3 : Int32} (i0 : ι) (hk2 : ∀ (u : MS) (z0 : Int32), k2 u z0 → (∀ (i : ι) (oo : MS ⊕ MS), k2v i oo u z0 → P oo) → ∃ oo, P oo ∧ oV Q E oo) (K : ∀ (i : ι) (oo : MS ⊕ MS), v_entries_J104 oo (k2v i oo) U104 v104_1 v104_2 v104_3 → P oo) (h : w_entries_J104 Q E k2 U104 v104_1 v104_2 v104_3) : ∃ oo, P oo ∧ oV Q E oo := by
  unfold w_entries_J104 at h
  obtain ⟨g2_, h⟩ := h
  replace K := fun i oo z => K i oo ⟨g2_, z⟩
  by_cases c : (f_isEntry U104 v104_2 (7 : Int32)).toInt = 0
  · replace h := h.1 c
    replace K := fun i oo z => K i oo (Or.inl ⟨c, z⟩)
    exact ru_entries_J128 i0 hk2 K h
  · replace h := h.2 c
    replace K := fun i oo z => K i oo (Or.inr ⟨c, z⟩)
    obtain ⟨g3_, h⟩ := h
    replace K := fun i oo z => K i oo ⟨g3_, z⟩
    by_cases c : (f_isEntry U104 v104_3 (12 : Int32)).toInt = 0
    · replace h := h.1 c
      replace K := fun i oo z => K i oo (Or.inl ⟨c, z⟩)
      exact ru_entries_J128 i0 hk2 K h
    · replace h := h.2 c
      replace K := fun i oo z => K i oo (Or.inr ⟨c, z⟩)
      exact ru_entries_J129 i0 hk2 K h
set_option maxRecDepth 100000 in
theorem ru_entries_J82 {ι : Type} {P : MS ⊕ MS → Prop} {Q : MS → Prop} {E : MS → Prop} {k2 : MS → Int32 → Prop} {k2v : ι → MS ⊕ MS → MS → Int32 → Prop} {U82 : MS} {v82_1 : Int32} {v82_2 : Int32} {v82_3 : Int32} {v82_4 : Int32} (i0 : ι) (hk2 : ∀ (u : MS) (z0 : Int32), k2 u z0 → (∀ (i : ι) (oo : MS ⊕ MS), k2v i oo u z0 → P oo) → ∃ oo, P oo ∧ oV Q E oo) (K : ∀ (i : ι) (oo : MS ⊕ MS), v_entries_J82 oo (k2v i oo) U82 v82_1 v82_2 v82_3 v82_4 → P oo) (h : w_entries_J82 Q E k2 U82 v82_1 v82_2 v82_3 v82_4) : ∃ oo, P oo ∧ oV Q E oo := by
  unfold w_entries_J82 at h
  obtain ⟨g4_, h⟩ := h
  replace K := fun i oo z => K i oo ⟨g4_, z⟩
  by_cases c : (qI U82 4 v82_1.toInt.toNat).toInt = 9
  · replace h := h.1 c
    replace K := fun i oo z => K i oo (Or.inl ⟨c, z⟩)
    exact ru_entries_J104 i0 hk2 K h
  · replace h := h.2 c
    replace K := fun i oo z => K i oo (Or.inr ⟨c, z⟩)
    obtain ⟨g5_, h⟩ := h
    replace K := fun i oo z => K i oo ⟨g5_, z⟩
    by_cases c : (qI U82 4 v82_1.toInt.toNat).toInt = 10
    · replace h := h.1 c
      replace K := fun i oo z => K i oo (Or.inl ⟨c, z⟩)
      exact ru_entries_J104 i0 hk2 K h
    · replace h := h.2 c
      replace K := fun i oo z => K i oo (Or.inr ⟨c, z⟩)
      exact ru_entries_J131 i0 hk2 K h
set_option maxRecDepth 100000 in
theorem ru_entries_J80 {ι : Type} {P : MS ⊕ MS → Prop} {Q : MS → Prop} {E : MS → Prop} {k2 : MS → Int32 → Prop} {k2v : ι → MS ⊕ MS → MS → Int32 → Prop} {U80 : MS} {t80_0 : Int32} {v80_1 : Int32} {v80_2 : Int32} {v80_3 : Int32} (i0 : ι) (hk2 : ∀ (u : MS) (z0 : Int32), k2 u z0 → (∀ (i : ι) (oo : MS ⊕ MS), k2v i oo u z0 → P oo) → ∃ oo, P oo ∧ oV Q E oo) (K : ∀ (i : ι) (oo : MS ⊕ MS), v_entries_J80 oo (k2v i oo) U80 t80_0 v80_1 v80_2 v80_3 → P oo) (h : w_entries_J80 Q E k2 U80 t80_0 v80_1 v80_2 v80_3) : ∃ oo, P oo ∧ oV Q E oo := by
  unfold w_entries_J80 at h
  exact ru_entries_J82 i0 hk2 K h
set_option maxRecDepth 100000 in
theorem ru_entries_J79 {ι : Type} {P : MS ⊕ MS → Prop} {Q : MS → Prop} {E : MS → Prop} {k2 : MS → Int32 → Prop} {k2v : ι → MS ⊕ MS → MS → Int32 → Prop} {U79 : MS} {v79_1 : Int32} {v79_2 : Int32} {v79_3 : Int32} (i0 : ι) (hk2 : ∀ (u : MS) (z0 : Int32), k2 u z0 → (∀ (i : ι) (oo : MS ⊕ MS), k2v i oo u z0 → P oo) → ∃ oo, P oo ∧ oV Q E oo) (K : ∀ (i : ι) (oo : MS ⊕ MS), v_entries_J79 oo (k2v i oo) U79 v79_1 v79_2 v79_3 → P oo) (h : w_entries_J79 Q E k2 U79 v79_1 v79_2 v79_3) : ∃ oo, P oo ∧ oV Q E oo := by
  unfold w_entries_J79 at h
  exact ru_entries_J80 i0 hk2 K h
set_option maxRecDepth 100000 in
theorem ru_entries_J46 {ι : Type} {P : MS ⊕ MS → Prop} {Q : MS → Prop} {E : MS → Prop} {k2 : MS → Int32 → Prop} {k2v : ι → MS ⊕ MS → MS → Int32 → Prop} {U46 : MS} {v46_1 : Int32} {v46_2 : Int32} {v46_3 : Int32} {v46_4 : Int32} (i0 : ι) (hk2 : ∀ (u : MS) (z0 : Int32), k2 u z0 → (∀ (i : ι) (oo : MS ⊕ MS), k2v i oo u z0 → P oo) → ∃ oo, P oo ∧ oV Q E oo) (K : ∀ (i : ι) (oo : MS ⊕ MS), v_entries_J46 oo (k2v i oo) U46 v46_1 v46_2 v46_3 v46_4 → P oo) (h : w_entries_J46 Q E k2 U46 v46_1 v46_2 v46_3 v46_4) : ∃ oo, P oo ∧ oV Q E oo := by
  unfold w_entries_J46 at h
  obtain ⟨g6_, h⟩ := h
  replace K := fun i oo z => K i oo ⟨g6_, z⟩
  by_cases c : (qI U46 4 v46_1.toInt.toNat).toInt = 12
  · replace h := h.1 c
    replace K := fun i oo z => K i oo (Or.inl ⟨c, z⟩)
    obtain ⟨g7_, h⟩ := h
    replace K := fun i oo z => K i oo ⟨g7_, z⟩
    by_cases c : (f_isEntry U46 v46_2 (1 : Int32)).toInt = 0
    · replace h := h.1 c
      replace K := fun i oo z => K i oo (Or.inl ⟨c, z⟩)
      exact ru_entries_J79 i0 hk2 K h
    · replace h := h.2 c
      replace K := fun i oo z => K i oo (Or.inr ⟨c, z⟩)
      obtain ⟨g8_, h⟩ := h
      replace K := fun i oo z => K i oo ⟨g8_, z⟩
      by_cases c : (f_isEntry U46 v46_3 (1 : Int32)).toInt = 0
      · replace h := h.1 c
        replace K := fun i oo z => K i oo (Or.inl ⟨c, z⟩)
        exact ru_entries_J79 i0 hk2 K h
      · replace h := h.2 c
        replace K := fun i oo z => K i oo (Or.inr ⟨c, z⟩)
        exact ru_entries_J80 i0 hk2 K h
  · replace h := h.2 c
    replace K := fun i oo z => K i oo (Or.inr ⟨c, z⟩)
    exact ru_entries_J82 i0 hk2 K h
set_option maxRecDepth 100000 in
theorem ru_entries_L2 {ι : Type} {P : MS ⊕ MS → Prop} {Q : MS → Prop} {E : MS → Prop} : ∀ (n : Nat) {U2 : MS} {v2_1 : Int32} (i0 : ι), (∀ (i : ι) (oo : MS ⊕ MS), (∃ n8, v_entries_L2 oo n8 U2 v2_1) → P oo) → w_entries_L2 Q E n U2 v2_1 → ∃ oo, P oo ∧ oV Q E oo := by
  intro n
  induction n with
  | zero => intro U2 v2_1 i0 K h; unfold w_entries_L2 at h; exact h.elim
  | succ n ih =>
    intro U2 v2_1 i0 K h
    unfold w_entries_L2 at h
    replace K := fun (i : ι × Nat) oo (z : v_entries_L2 oo (i.2 + 1) U2 v2_1) => K i.1 oo ⟨i.2 + 1, z⟩
    have i00 := i0
    replace i0 : ι × Nat := (i0, 0)
    by_cases c : (qI U2 0 14).toInt ≤ v2_1.toInt
    · replace h := h.1 c
      replace K := fun i oo z => K i oo (Or.inl ⟨c, z⟩)
      exact ⟨.inl _, K i0 _ rfl, h⟩
    · replace h := h.2 c
      replace K := fun i oo z => K i oo (Or.inr ⟨c, z⟩)
      obtain ⟨g9_, h⟩ := h
      replace K := fun i oo z => K i oo ⟨g9_, z⟩
      obtain ⟨a4, ea4⟩ : ∃ x9 : Int32, x9 = (qI U2 6 v2_1.toInt.toNat) := ⟨_, rfl⟩
      replace h := h a4 ea4
      replace K := fun i oo z => K i oo ⟨a4, ea4, z⟩
      obtain ⟨g10_, h⟩ := h
      replace K := fun i oo z => K i oo ⟨g10_, z⟩
      obtain ⟨a7, ea7⟩ : ∃ x9 : Int32, x9 = (qI U2 7 v2_1.toInt.toNat) := ⟨_, rfl⟩
      replace h := h a7 ea7
      replace K := fun i oo z => K i oo ⟨a7, ea7, z⟩
      obtain ⟨g11_, h⟩ := h
      replace K := fun i oo z => K i oo ⟨g11_, z⟩
      by_cases c : (qI U2 4 v2_1.toInt.toNat).toInt = 7
      · replace h := h.1 c
        replace K := fun i oo z => K i oo (Or.inl ⟨c, z⟩)
        obtain ⟨g12_, h⟩ := h
        replace K := fun i oo z => K i oo ⟨g12_, z⟩
        obtain ⟨a45, ea45⟩ : ∃ x9 : Int32, x9 = (f_isEntry U2 a4 (1 : Int32)) := ⟨_, rfl⟩
        replace h := h a45 ea45
        replace K := fun i oo z => K i oo ⟨a45, ea45, z⟩
        exact ru_entries_J46 i0 (fun _ _ h K => ih i00 (fun i oo ⟨n8, z⟩ => K (i, n8) oo z) h) K h
      · replace h := h.2 c
        replace K := fun i oo z => K i oo (Or.inr ⟨c, z⟩)
        exact ru_entries_J46 i0 (fun _ _ h K => ih i00 (fun i oo ⟨n8, z⟩ => K (i, n8) oo z) h) K h
set_option maxRecDepth 100000 in
theorem ru_entries {S : MS} {Q : MS → Prop} {E : MS → Prop} (h : w_entries S Q E) : ∃ oo, v_entries S oo ∧ oV Q E oo := by
  have i0 : Unit := ()
  have K : ∀ (i : Unit) (oo : MS ⊕ MS), v_entries S oo → v_entries S oo := fun _ _ z => z
  unfold w_entries at h
  obtain ⟨n9, h⟩ := h
  exact ru_entries_L2 n9 i0 K h
set_option maxRecDepth 100000 in
theorem vw_entries_J131 {oo : MS ⊕ MS} {k2 k2v : MS → Int32 → Prop} {U131 : MS} {v131_1 : Int32} {v131_4 : Int32} (hk2 : ∀ (u : MS) (z0 : Int32), k2v u z0 → k2 u z0) (h : v_entries_J131 oo k2v U131 v131_1 v131_4) : w_entries_J131 (fun u => oo = .inl u) (fun u => oo = .inr u) k2 U131 v131_1 v131_4 := by
  unfold v_entries_J131 at h
  unfold w_entries_J131
  obtain ⟨g9, h⟩ := h
  refine ⟨g9, ?_⟩
  rcases h with ⟨q9, z9, h⟩ | ⟨q9, z9, h⟩
  · refine ⟨_, _, vw_must z9, ?_, ?_⟩
    · intro q8 d9
      injection d9 with d9
      subst d9
      obtain ⟨v9, e9, h⟩ := h
      intro x9 d9
      have c9 : v9 = x9 := e9.trans d9.symm
      subst c9
      exact hk2 _ _ h
    · intro q8 d9
      exact nomatch d9
  · refine ⟨_, _, vw_must z9, ?_, ?_⟩
    · intro q8 d9
      exact nomatch d9
    · intro q8 d9
      injection d9 with d9
      subst d9
      exact h
set_option maxRecDepth 100000 in
theorem vz_entries_J131 {oo : MS ⊕ MS} {Q : MS → Prop} {E : MS → Prop} {k2 k2v : MS → Int32 → Prop} {U131 : MS} {v131_1 : Int32} {v131_4 : Int32} (hk2 : ∀ (u : MS) (z0 : Int32), k2v u z0 → k2 u z0 → oV Q E oo) (h : v_entries_J131 oo k2v U131 v131_1 v131_4) (w : w_entries_J131 Q E k2 U131 v131_1 v131_4) : oV Q E oo := by
  unfold v_entries_J131 at h
  unfold w_entries_J131 at w
  replace h := h.2
  replace w := w.2
  obtain ⟨Q9, E9, w0, w⟩ := w
  rcases h with ⟨q9, z9, h⟩ | ⟨q9, z9, h⟩
  · replace w := w.1 q9 (vz_must z9 w0)
    obtain ⟨v9, e9, h⟩ := h
    replace w := w v9 e9
    exact hk2 _ _ h w
  · replace w := w.2 q9 (vz_must z9 w0)
    rw [h]
    exact w
set_option maxRecDepth 100000 in
theorem vw_entries_J129 {oo : MS ⊕ MS} {k2 k2v : MS → Int32 → Prop} {U129 : MS} {t129_0 : Int32} {v129_1 : Int32} (hk2 : ∀ (u : MS) (z0 : Int32), k2v u z0 → k2 u z0) (h : v_entries_J129 oo k2v U129 t129_0 v129_1) : w_entries_J129 (fun u => oo = .inl u) (fun u => oo = .inr u) k2 U129 t129_0 v129_1 := by
  unfold v_entries_J129 at h
  unfold w_entries_J129
  exact vw_entries_J131 hk2 h
set_option maxRecDepth 100000 in
theorem vz_entries_J129 {oo : MS ⊕ MS} {Q : MS → Prop} {E : MS → Prop} {k2 k2v : MS → Int32 → Prop} {U129 : MS} {t129_0 : Int32} {v129_1 : Int32} (hk2 : ∀ (u : MS) (z0 : Int32), k2v u z0 → k2 u z0 → oV Q E oo) (h : v_entries_J129 oo k2v U129 t129_0 v129_1) (w : w_entries_J129 Q E k2 U129 t129_0 v129_1) : oV Q E oo := by
  unfold v_entries_J129 at h
  unfold w_entries_J129 at w
  exact vz_entries_J131 hk2 h w
set_option maxRecDepth 100000 in
theorem vw_entries_J128 {oo : MS ⊕ MS} {k2 k2v : MS → Int32 → Prop} {U128 : MS} {v128_1 : Int32} (hk2 : ∀ (u : MS) (z0 : Int32), k2v u z0 → k2 u z0) (h : v_entries_J128 oo k2v U128 v128_1) : w_entries_J128 (fun u => oo = .inl u) (fun u => oo = .inr u) k2 U128 v128_1 := by
  unfold v_entries_J128 at h
  unfold w_entries_J128
  exact vw_entries_J129 hk2 h
set_option maxRecDepth 100000 in
theorem vz_entries_J128 {oo : MS ⊕ MS} {Q : MS → Prop} {E : MS → Prop} {k2 k2v : MS → Int32 → Prop} {U128 : MS} {v128_1 : Int32} (hk2 : ∀ (u : MS) (z0 : Int32), k2v u z0 → k2 u z0 → oV Q E oo) (h : v_entries_J128 oo k2v U128 v128_1) (w : w_entries_J128 Q E k2 U128 v128_1) : oV Q E oo := by
  unfold v_entries_J128 at h
  unfold w_entries_J128 at w
  exact vz_entries_J129 hk2 h w
set_option maxRecDepth 100000 in
theorem vw_entries_J104 {oo : MS ⊕ MS} {k2 k2v : MS → Int32 → Prop} {U104 : MS} {v104_1 : Int32} {v104_2 : Int32} {v104_3 : Int32} (hk2 : ∀ (u : MS) (z0 : Int32), k2v u z0 → k2 u z0) (h : v_entries_J104 oo k2v U104 v104_1 v104_2 v104_3) : w_entries_J104 (fun u => oo = .inl u) (fun u => oo = .inr u) k2 U104 v104_1 v104_2 v104_3 := by
  unfold v_entries_J104 at h
  unfold w_entries_J104
  obtain ⟨g9, h⟩ := h
  refine ⟨g9, ?_⟩
  rcases h with ⟨c, h⟩ | ⟨c, h⟩
  · refine ⟨fun _ => ?_, fun c2 => absurd c c2⟩
    exact vw_entries_J128 hk2 h
  · refine ⟨fun c2 => absurd c2 c, fun _ => ?_⟩
    obtain ⟨g9, h⟩ := h
    refine ⟨g9, ?_⟩
    rcases h with ⟨c, h⟩ | ⟨c, h⟩
    · refine ⟨fun _ => ?_, fun c2 => absurd c c2⟩
      exact vw_entries_J128 hk2 h
    · refine ⟨fun c2 => absurd c2 c, fun _ => ?_⟩
      exact vw_entries_J129 hk2 h
set_option maxRecDepth 100000 in
theorem vz_entries_J104 {oo : MS ⊕ MS} {Q : MS → Prop} {E : MS → Prop} {k2 k2v : MS → Int32 → Prop} {U104 : MS} {v104_1 : Int32} {v104_2 : Int32} {v104_3 : Int32} (hk2 : ∀ (u : MS) (z0 : Int32), k2v u z0 → k2 u z0 → oV Q E oo) (h : v_entries_J104 oo k2v U104 v104_1 v104_2 v104_3) (w : w_entries_J104 Q E k2 U104 v104_1 v104_2 v104_3) : oV Q E oo := by
  unfold v_entries_J104 at h
  unfold w_entries_J104 at w
  replace h := h.2
  replace w := w.2
  rcases h with ⟨c, h⟩ | ⟨c, h⟩
  · replace w := w.1 c
    exact vz_entries_J128 hk2 h w
  · replace w := w.2 c
    replace h := h.2
    replace w := w.2
    rcases h with ⟨c, h⟩ | ⟨c, h⟩
    · replace w := w.1 c
      exact vz_entries_J128 hk2 h w
    · replace w := w.2 c
      exact vz_entries_J129 hk2 h w
set_option maxRecDepth 100000 in
theorem vw_entries_J82 {oo : MS ⊕ MS} {k2 k2v : MS → Int32 → Prop} {U82 : MS} {v82_1 : Int32} {v82_2 : Int32} {v82_3 : Int32} {v82_4 : Int32} (hk2 : ∀ (u : MS) (z0 : Int32), k2v u z0 → k2 u z0) (h : v_entries_J82 oo k2v U82 v82_1 v82_2 v82_3 v82_4) : w_entries_J82 (fun u => oo = .inl u) (fun u => oo = .inr u) k2 U82 v82_1 v82_2 v82_3 v82_4 := by
  unfold v_entries_J82 at h
  unfold w_entries_J82
  obtain ⟨g9, h⟩ := h
  refine ⟨g9, ?_⟩
  rcases h with ⟨c, h⟩ | ⟨c, h⟩
  · refine ⟨fun _ => ?_, fun c2 => absurd c c2⟩
    exact vw_entries_J104 hk2 h
  · refine ⟨fun c2 => absurd c2 c, fun _ => ?_⟩
    obtain ⟨g9, h⟩ := h
    refine ⟨g9, ?_⟩
    rcases h with ⟨c, h⟩ | ⟨c, h⟩
    · refine ⟨fun _ => ?_, fun c2 => absurd c c2⟩
      exact vw_entries_J104 hk2 h
    · refine ⟨fun c2 => absurd c2 c, fun _ => ?_⟩
      exact vw_entries_J131 hk2 h
set_option maxRecDepth 100000 in
theorem vz_entries_J82 {oo : MS ⊕ MS} {Q : MS → Prop} {E : MS → Prop} {k2 k2v : MS → Int32 → Prop} {U82 : MS} {v82_1 : Int32} {v82_2 : Int32} {v82_3 : Int32} {v82_4 : Int32} (hk2 : ∀ (u : MS) (z0 : Int32), k2v u z0 → k2 u z0 → oV Q E oo) (h : v_entries_J82 oo k2v U82 v82_1 v82_2 v82_3 v82_4) (w : w_entries_J82 Q E k2 U82 v82_1 v82_2 v82_3 v82_4) : oV Q E oo := by
  unfold v_entries_J82 at h
  unfold w_entries_J82 at w
  replace h := h.2
  replace w := w.2
  rcases h with ⟨c, h⟩ | ⟨c, h⟩
  · replace w := w.1 c
    exact vz_entries_J104 hk2 h w
  · replace w := w.2 c
    replace h := h.2
    replace w := w.2
    rcases h with ⟨c, h⟩ | ⟨c, h⟩
    · replace w := w.1 c
      exact vz_entries_J104 hk2 h w
    · replace w := w.2 c
      exact vz_entries_J131 hk2 h w
set_option maxRecDepth 100000 in
theorem vw_entries_J80 {oo : MS ⊕ MS} {k2 k2v : MS → Int32 → Prop} {U80 : MS} {t80_0 : Int32} {v80_1 : Int32} {v80_2 : Int32} {v80_3 : Int32} (hk2 : ∀ (u : MS) (z0 : Int32), k2v u z0 → k2 u z0) (h : v_entries_J80 oo k2v U80 t80_0 v80_1 v80_2 v80_3) : w_entries_J80 (fun u => oo = .inl u) (fun u => oo = .inr u) k2 U80 t80_0 v80_1 v80_2 v80_3 := by
  unfold v_entries_J80 at h
  unfold w_entries_J80
  exact vw_entries_J82 hk2 h
set_option maxRecDepth 100000 in
theorem vz_entries_J80 {oo : MS ⊕ MS} {Q : MS → Prop} {E : MS → Prop} {k2 k2v : MS → Int32 → Prop} {U80 : MS} {t80_0 : Int32} {v80_1 : Int32} {v80_2 : Int32} {v80_3 : Int32} (hk2 : ∀ (u : MS) (z0 : Int32), k2v u z0 → k2 u z0 → oV Q E oo) (h : v_entries_J80 oo k2v U80 t80_0 v80_1 v80_2 v80_3) (w : w_entries_J80 Q E k2 U80 t80_0 v80_1 v80_2 v80_3) : oV Q E oo := by
  unfold v_entries_J80 at h
  unfold w_entries_J80 at w
  exact vz_entries_J82 hk2 h w
set_option maxRecDepth 100000 in
theorem vw_entries_J79 {oo : MS ⊕ MS} {k2 k2v : MS → Int32 → Prop} {U79 : MS} {v79_1 : Int32} {v79_2 : Int32} {v79_3 : Int32} (hk2 : ∀ (u : MS) (z0 : Int32), k2v u z0 → k2 u z0) (h : v_entries_J79 oo k2v U79 v79_1 v79_2 v79_3) : w_entries_J79 (fun u => oo = .inl u) (fun u => oo = .inr u) k2 U79 v79_1 v79_2 v79_3 := by
  unfold v_entries_J79 at h
  unfold w_entries_J79
  exact vw_entries_J80 hk2 h
set_option maxRecDepth 100000 in
theorem vz_entries_J79 {oo : MS ⊕ MS} {Q : MS → Prop} {E : MS → Prop} {k2 k2v : MS → Int32 → Prop} {U79 : MS} {v79_1 : Int32} {v79_2 : Int32} {v79_3 : Int32} (hk2 : ∀ (u : MS) (z0 : Int32), k2v u z0 → k2 u z0 → oV Q E oo) (h : v_entries_J79 oo k2v U79 v79_1 v79_2 v79_3) (w : w_entries_J79 Q E k2 U79 v79_1 v79_2 v79_3) : oV Q E oo := by
  unfold v_entries_J79 at h
  unfold w_entries_J79 at w
  exact vz_entries_J80 hk2 h w
set_option maxRecDepth 100000 in
theorem vw_entries_J46 {oo : MS ⊕ MS} {k2 k2v : MS → Int32 → Prop} {U46 : MS} {v46_1 : Int32} {v46_2 : Int32} {v46_3 : Int32} {v46_4 : Int32} (hk2 : ∀ (u : MS) (z0 : Int32), k2v u z0 → k2 u z0) (h : v_entries_J46 oo k2v U46 v46_1 v46_2 v46_3 v46_4) : w_entries_J46 (fun u => oo = .inl u) (fun u => oo = .inr u) k2 U46 v46_1 v46_2 v46_3 v46_4 := by
  unfold v_entries_J46 at h
  unfold w_entries_J46
  obtain ⟨g9, h⟩ := h
  refine ⟨g9, ?_⟩
  rcases h with ⟨c, h⟩ | ⟨c, h⟩
  · refine ⟨fun _ => ?_, fun c2 => absurd c c2⟩
    obtain ⟨g9, h⟩ := h
    refine ⟨g9, ?_⟩
    rcases h with ⟨c, h⟩ | ⟨c, h⟩
    · refine ⟨fun _ => ?_, fun c2 => absurd c c2⟩
      exact vw_entries_J79 hk2 h
    · refine ⟨fun c2 => absurd c2 c, fun _ => ?_⟩
      obtain ⟨g9, h⟩ := h
      refine ⟨g9, ?_⟩
      rcases h with ⟨c, h⟩ | ⟨c, h⟩
      · refine ⟨fun _ => ?_, fun c2 => absurd c c2⟩
        exact vw_entries_J79 hk2 h
      · refine ⟨fun c2 => absurd c2 c, fun _ => ?_⟩
        exact vw_entries_J80 hk2 h
  · refine ⟨fun c2 => absurd c2 c, fun _ => ?_⟩
    exact vw_entries_J82 hk2 h
set_option maxRecDepth 100000 in
theorem vz_entries_J46 {oo : MS ⊕ MS} {Q : MS → Prop} {E : MS → Prop} {k2 k2v : MS → Int32 → Prop} {U46 : MS} {v46_1 : Int32} {v46_2 : Int32} {v46_3 : Int32} {v46_4 : Int32} (hk2 : ∀ (u : MS) (z0 : Int32), k2v u z0 → k2 u z0 → oV Q E oo) (h : v_entries_J46 oo k2v U46 v46_1 v46_2 v46_3 v46_4) (w : w_entries_J46 Q E k2 U46 v46_1 v46_2 v46_3 v46_4) : oV Q E oo := by
  unfold v_entries_J46 at h
  unfold w_entries_J46 at w
  replace h := h.2
  replace w := w.2
  rcases h with ⟨c, h⟩ | ⟨c, h⟩
  · replace w := w.1 c
    replace h := h.2
    replace w := w.2
    rcases h with ⟨c, h⟩ | ⟨c, h⟩
    · replace w := w.1 c
      exact vz_entries_J79 hk2 h w
    · replace w := w.2 c
      replace h := h.2
      replace w := w.2
      rcases h with ⟨c, h⟩ | ⟨c, h⟩
      · replace w := w.1 c
        exact vz_entries_J79 hk2 h w
      · replace w := w.2 c
        exact vz_entries_J80 hk2 h w
  · replace w := w.2 c
    exact vz_entries_J82 hk2 h w
set_option maxRecDepth 100000 in
theorem vw_entries_L2 {oo : MS ⊕ MS} : ∀ (n : Nat) {U2 : MS} {v2_1 : Int32}, v_entries_L2 oo n U2 v2_1 → w_entries_L2 (fun u => oo = .inl u) (fun u => oo = .inr u) n U2 v2_1 := by
  intro n
  induction n with
  | zero => intro U2 v2_1 h; unfold v_entries_L2 at h; exact h.elim
  | succ n ih =>
    intro U2 v2_1 h
    unfold v_entries_L2 at h
    unfold w_entries_L2
    rcases h with ⟨c, h⟩ | ⟨c, h⟩
    · refine ⟨fun _ => ?_, fun c2 => absurd c c2⟩
      exact h
    · refine ⟨fun c2 => absurd c2 c, fun _ => ?_⟩
      obtain ⟨g9, h⟩ := h
      refine ⟨g9, ?_⟩
      obtain ⟨v9, e9, h⟩ := h
      intro x9 d9
      have c9 : v9 = x9 := e9.trans d9.symm
      subst c9
      obtain ⟨g9, h⟩ := h
      refine ⟨g9, ?_⟩
      obtain ⟨v9, e9, h⟩ := h
      intro x9 d9
      have c9 : v9 = x9 := e9.trans d9.symm
      subst c9
      obtain ⟨g9, h⟩ := h
      refine ⟨g9, ?_⟩
      rcases h with ⟨c, h⟩ | ⟨c, h⟩
      · refine ⟨fun _ => ?_, fun c2 => absurd c c2⟩
        obtain ⟨g9, h⟩ := h
        refine ⟨g9, ?_⟩
        obtain ⟨v9, e9, h⟩ := h
        intro x9 d9
        have c9 : v9 = x9 := e9.trans d9.symm
        subst c9
        exact vw_entries_J46 (fun _ _ h => ih h) h
      · refine ⟨fun c2 => absurd c2 c, fun _ => ?_⟩
        exact vw_entries_J46 (fun _ _ h => ih h) h
set_option maxRecDepth 100000 in
theorem vz_entries_L2 {oo : MS ⊕ MS} {Q : MS → Prop} {E : MS → Prop} : ∀ (n m : Nat) {U2 : MS} {v2_1 : Int32}, v_entries_L2 oo n U2 v2_1 → w_entries_L2 Q E m U2 v2_1 → oV Q E oo := by
  intro n
  induction n with
  | zero => intro m U2 v2_1 h; unfold v_entries_L2 at h; exact h.elim
  | succ n ih =>
    intro m U2 v2_1 h w
    cases m with
    | zero => unfold w_entries_L2 at w; exact w.elim
    | succ m =>
      unfold v_entries_L2 at h
      unfold w_entries_L2 at w
      rcases h with ⟨c, h⟩ | ⟨c, h⟩
      · replace w := w.1 c
        rw [h]
        exact w
      · replace w := w.2 c
        replace h := h.2
        replace w := w.2
        obtain ⟨v9, e9, h⟩ := h
        replace w := w v9 e9
        replace h := h.2
        replace w := w.2
        obtain ⟨v9, e9, h⟩ := h
        replace w := w v9 e9
        replace h := h.2
        replace w := w.2
        rcases h with ⟨c, h⟩ | ⟨c, h⟩
        · replace w := w.1 c
          replace h := h.2
          replace w := w.2
          obtain ⟨v9, e9, h⟩ := h
          replace w := w v9 e9
          exact vz_entries_J46 (fun _ _ h w => ih m h w) h w
        · replace w := w.2 c
          exact vz_entries_J46 (fun _ _ h w => ih m h w) h w
set_option maxRecDepth 100000 in
theorem vw_entries {S : MS} {oo : MS ⊕ MS} (h : v_entries S oo) : w_entries S (fun u => oo = .inl u) (fun u => oo = .inr u) := by
  unfold v_entries at h
  unfold w_entries
  obtain ⟨n9, h⟩ := h
  exact ⟨n9, vw_entries_L2 n9 h⟩
set_option maxRecDepth 100000 in
theorem vz_entries {S : MS} {oo : MS ⊕ MS} {Q : MS → Prop} {E : MS → Prop} (h : v_entries S oo) (w : w_entries S Q E) : oV Q E oo := by
  unfold v_entries at h
  unfold w_entries at w
  obtain ⟨n9, h⟩ := h
  obtain ⟨n8, w⟩ := w
  exact vz_entries_L2 n9 n8 h w
