def v_step_J85 (uo : MS) (U85 : MS) (v85_1 : Int32) (v85_2 : Int32) : Prop := (∃ (r29 : Int32) (S30 : MS), v_workOne U85 v85_2 r29 S30 ∧ ((r29.toInt = 0 ∧ (uo = S30)) ∨ (¬ r29.toInt = 0 ∧ (∃ (S35 : MS), v_goTo S30 (v85_1 + (1 : Int32)) S35 ∧ (uo = S35)))))
def v_step_J154 (uo : MS) (U154 : MS) (v154_2 : Int32) : Prop := (∃ (S43 : MS), v_leave U154 v154_2 S43 ∧ (uo = S43))
def v_step_J78 (uo : MS) (U78 : MS) (v78_1 : Int32) (v78_2 : Int32) (v78_3 : Int32) : Prop := ((v78_2.toInt = 148 ∧ (v_step_J85 uo U78 v78_1 v78_2)) ∨ (¬ v78_2.toInt = 148 ∧ (d_isSwitch U78 v78_2 ∧ (((f_isSwitch U78 v78_2).toInt = 0 ∧ ((v78_2.toInt = 172 ∧ (v_step_J154 uo U78 v78_2)) ∨ (¬ v78_2.toInt = 172 ∧ ((v78_2.toInt = 173 ∧ (v_step_J154 uo U78 v78_2)) ∨ (¬ v78_2.toInt = 173 ∧ ((v78_2.toInt = 176 ∧ (v_step_J154 uo U78 v78_2)) ∨ (¬ v78_2.toInt = 176 ∧ ((v78_2.toInt = 177 ∧ (v_step_J154 uo U78 v78_2)) ∨ (¬ v78_2.toInt = 177 ∧ ((v78_2.toInt = 184 ∧ (∃ (S60 : MS), v_called U78 v78_3 S60 ∧ (uo = S60))) ∨ (¬ v78_2.toInt = 184 ∧ (∃ (r51 : Int32) (S52 : MS), v_plain U78 v78_1 v78_2 v78_3 r51 S52 ∧ ((r51.toInt = 0 ∧ (uo = S52)) ∨ (¬ r51.toInt = 0 ∧ (∃ (S57 : MS), v_goTo S52 (v78_1 + (1 : Int32)) S57 ∧ (uo = S57)))))))))))))))) ∨ (¬ (f_isSwitch U78 v78_2).toInt = 0 ∧ (∃ (r63 : Int32) (S64 : MS), v_gotInt U78 r63 S64 ∧ (∃ (r67 : Int32) (S68 : MS), v_chosen S64 v78_1 r63 r67 S68 ∧ (∃ (S71 : MS), v_goTo S68 r67 S71 ∧ (uo = S71)))))))))
def v_step (S : MS) (uo : MS) : Prop := ((qR S 0 80 = some (qO S 0 80)) ∧ (((0 : Int) ≤ ((qI S 0 97) - (1 : Int32)).toInt ∧ ((qI S 0 97) - (1 : Int32)).toInt < 60) ∧ (∃ (S7 : MS), v_look S (qO S 0 80) (qI S 42 ((((qI S 0 97) - (1 : Int32)).toInt).toNat)) S7 ∧ (((0 : Int) ≤ ((qI S7 0 97) - (1 : Int32)).toInt ∧ ((qI S7 0 97) - (1 : Int32)).toInt < 60) ∧ (∃ a12 : Int32, a12 = (qI S7 43 ((((qI S7 0 97) - (1 : Int32)).toInt).toNat)) ∧ (∃ (S14 : MS), v_watch S7 a12 S14 ∧ (d_op S14 a12 ∧ (∃ a19 : Int32, a19 = (f_op S14 a12) ∧ (d_first S14 a12 ∧ (∃ a23 : Int32, a23 = (f_first S14 a12) ∧ (d_isJump S14 a19 ∧ (((f_isJump S14 a19).toInt = 0 ∧ ((a19.toInt < 96 ∧ (v_step_J78 uo S14 a12 a19 a23)) ∨ (¬ a19.toInt < 96 ∧ ((a19.toInt ≤ 131 ∧ (v_step_J85 uo S14 a12 a19)) ∨ (¬ a19.toInt ≤ 131 ∧ (v_step_J78 uo S14 a12 a19 a23)))))) ∨ (¬ (f_isJump S14 a19).toInt = 0 ∧ (∃ (S76 : MS), v_jump S14 a12 a19 a23 S76 ∧ (uo = S76)))))))))))))))
set_option maxRecDepth 100000 in
theorem ru_step_J85 {ι : Type} {P : MS → Prop} {Q : MS → Prop} {U85 : MS} {v85_1 : Int32} {v85_2 : Int32} (i0 : ι) (K : ∀ (i : ι) (uo : MS), v_step_J85 uo U85 v85_1 v85_2 → P uo) (h : w_step_J85 Q U85 v85_1 v85_2) : ∃ uo, P uo ∧ Q uo := by
  unfold w_step_J85 at h
  obtain ⟨Q9, h0, h⟩ := h
  obtain ⟨r29, S30, z9, g9⟩ := ru_workOne h0
  replace h := h r29 S30 g9
  replace K := fun i uo z => K i uo ⟨r29, S30, z9, z⟩
  by_cases c : r29.toInt = 0
  · replace h := h.1 c
    replace K := fun i uo z => K i uo (Or.inl ⟨c, z⟩)
    exact ⟨_, K i0 _ rfl, h⟩
  · replace h := h.2 c
    replace K := fun i uo z => K i uo (Or.inr ⟨c, z⟩)
    obtain ⟨Q9, h0, h⟩ := h
    obtain ⟨S35, z9, g9⟩ := ru_goTo h0
    replace h := h S35 g9
    replace K := fun i uo z => K i uo ⟨S35, z9, z⟩
    exact ⟨_, K i0 _ rfl, h⟩
set_option maxRecDepth 100000 in
theorem ru_step_J154 {ι : Type} {P : MS → Prop} {Q : MS → Prop} {U154 : MS} {v154_2 : Int32} (i0 : ι) (K : ∀ (i : ι) (uo : MS), v_step_J154 uo U154 v154_2 → P uo) (h : w_step_J154 Q U154 v154_2) : ∃ uo, P uo ∧ Q uo := by
  unfold w_step_J154 at h
  obtain ⟨Q9, h0, h⟩ := h
  obtain ⟨S43, z9, g9⟩ := ru_leave h0
  replace h := h S43 g9
  replace K := fun i uo z => K i uo ⟨S43, z9, z⟩
  exact ⟨_, K i0 _ rfl, h⟩
set_option maxRecDepth 100000 in
theorem ru_step_J78 {ι : Type} {P : MS → Prop} {Q : MS → Prop} {U78 : MS} {v78_1 : Int32} {v78_2 : Int32} {v78_3 : Int32} (i0 : ι) (K : ∀ (i : ι) (uo : MS), v_step_J78 uo U78 v78_1 v78_2 v78_3 → P uo) (h : w_step_J78 Q U78 v78_1 v78_2 v78_3) : ∃ uo, P uo ∧ Q uo := by
  unfold w_step_J78 at h
  by_cases c : v78_2.toInt = 148
  · replace h := h.1 c
    replace K := fun i uo z => K i uo (Or.inl ⟨c, z⟩)
    exact ru_step_J85 i0 K h
  · replace h := h.2 c
    replace K := fun i uo z => K i uo (Or.inr ⟨c, z⟩)
    obtain ⟨g1_, h⟩ := h
    replace K := fun i uo z => K i uo ⟨g1_, z⟩
    by_cases c : (f_isSwitch U78 v78_2).toInt = 0
    · replace h := h.1 c
      replace K := fun i uo z => K i uo (Or.inl ⟨c, z⟩)
      by_cases c : v78_2.toInt = 172
      · replace h := h.1 c
        replace K := fun i uo z => K i uo (Or.inl ⟨c, z⟩)
        exact ru_step_J154 i0 K h
      · replace h := h.2 c
        replace K := fun i uo z => K i uo (Or.inr ⟨c, z⟩)
        by_cases c : v78_2.toInt = 173
        · replace h := h.1 c
          replace K := fun i uo z => K i uo (Or.inl ⟨c, z⟩)
          exact ru_step_J154 i0 K h
        · replace h := h.2 c
          replace K := fun i uo z => K i uo (Or.inr ⟨c, z⟩)
          by_cases c : v78_2.toInt = 176
          · replace h := h.1 c
            replace K := fun i uo z => K i uo (Or.inl ⟨c, z⟩)
            exact ru_step_J154 i0 K h
          · replace h := h.2 c
            replace K := fun i uo z => K i uo (Or.inr ⟨c, z⟩)
            by_cases c : v78_2.toInt = 177
            · replace h := h.1 c
              replace K := fun i uo z => K i uo (Or.inl ⟨c, z⟩)
              exact ru_step_J154 i0 K h
            · replace h := h.2 c
              replace K := fun i uo z => K i uo (Or.inr ⟨c, z⟩)
              by_cases c : v78_2.toInt = 184
              · replace h := h.1 c
                replace K := fun i uo z => K i uo (Or.inl ⟨c, z⟩)
                obtain ⟨Q9, h0, h⟩ := h
                obtain ⟨S60, z9, g9⟩ := ru_called h0
                replace h := h S60 g9
                replace K := fun i uo z => K i uo ⟨S60, z9, z⟩
                exact ⟨_, K i0 _ rfl, h⟩
              · replace h := h.2 c
                replace K := fun i uo z => K i uo (Or.inr ⟨c, z⟩)
                obtain ⟨Q9, h0, h⟩ := h
                obtain ⟨r51, S52, z9, g9⟩ := ru_plain h0
                replace h := h r51 S52 g9
                replace K := fun i uo z => K i uo ⟨r51, S52, z9, z⟩
                by_cases c : r51.toInt = 0
                · replace h := h.1 c
                  replace K := fun i uo z => K i uo (Or.inl ⟨c, z⟩)
                  exact ⟨_, K i0 _ rfl, h⟩
                · replace h := h.2 c
                  replace K := fun i uo z => K i uo (Or.inr ⟨c, z⟩)
                  obtain ⟨Q9, h0, h⟩ := h
                  obtain ⟨S57, z9, g9⟩ := ru_goTo h0
                  replace h := h S57 g9
                  replace K := fun i uo z => K i uo ⟨S57, z9, z⟩
                  exact ⟨_, K i0 _ rfl, h⟩
    · replace h := h.2 c
      replace K := fun i uo z => K i uo (Or.inr ⟨c, z⟩)
      obtain ⟨Q9, h0, h⟩ := h
      obtain ⟨r63, S64, z9, g9⟩ := ru_gotInt h0
      replace h := h r63 S64 g9
      replace K := fun i uo z => K i uo ⟨r63, S64, z9, z⟩
      obtain ⟨Q9, h0, h⟩ := h
      obtain ⟨r67, S68, z9, g9⟩ := ru_chosen h0
      replace h := h r67 S68 g9
      replace K := fun i uo z => K i uo ⟨r67, S68, z9, z⟩
      obtain ⟨Q9, h0, h⟩ := h
      obtain ⟨S71, z9, g9⟩ := ru_goTo h0
      replace h := h S71 g9
      replace K := fun i uo z => K i uo ⟨S71, z9, z⟩
      exact ⟨_, K i0 _ rfl, h⟩
set_option maxRecDepth 100000 in
theorem ru_step {S : MS} {Q : MS → Prop} (h : w_step S Q) : ∃ uo, v_step S uo ∧ Q uo := by
  have i0 : Unit := ()
  have K : ∀ (i : Unit) (uo : MS), v_step S uo → v_step S uo := fun _ _ z => z
  unfold w_step at h
  obtain ⟨g2_, h⟩ := h
  replace K := fun i uo z => K i uo ⟨g2_, z⟩
  obtain ⟨g3_, h⟩ := h
  replace K := fun i uo z => K i uo ⟨g3_, z⟩
  obtain ⟨Q9, h0, h⟩ := h
  obtain ⟨S7, z9, g9⟩ := ru_look h0
  replace h := h S7 g9
  replace K := fun i uo z => K i uo ⟨S7, z9, z⟩
  obtain ⟨g4_, h⟩ := h
  replace K := fun i uo z => K i uo ⟨g4_, z⟩
  obtain ⟨a12, ea12⟩ : ∃ x9 : Int32, x9 = (qI S7 43 ((((qI S7 0 97) - (1 : Int32)).toInt).toNat)) := ⟨_, rfl⟩
  replace h := h a12 ea12
  replace K := fun i uo z => K i uo ⟨a12, ea12, z⟩
  obtain ⟨Q9, h0, h⟩ := h
  obtain ⟨S14, z9, g9⟩ := ru_watch h0
  replace h := h S14 g9
  replace K := fun i uo z => K i uo ⟨S14, z9, z⟩
  obtain ⟨g5_, h⟩ := h
  replace K := fun i uo z => K i uo ⟨g5_, z⟩
  obtain ⟨a19, ea19⟩ : ∃ x9 : Int32, x9 = (f_op S14 a12) := ⟨_, rfl⟩
  replace h := h a19 ea19
  replace K := fun i uo z => K i uo ⟨a19, ea19, z⟩
  obtain ⟨g6_, h⟩ := h
  replace K := fun i uo z => K i uo ⟨g6_, z⟩
  obtain ⟨a23, ea23⟩ : ∃ x9 : Int32, x9 = (f_first S14 a12) := ⟨_, rfl⟩
  replace h := h a23 ea23
  replace K := fun i uo z => K i uo ⟨a23, ea23, z⟩
  obtain ⟨g7_, h⟩ := h
  replace K := fun i uo z => K i uo ⟨g7_, z⟩
  by_cases c : (f_isJump S14 a19).toInt = 0
  · replace h := h.1 c
    replace K := fun i uo z => K i uo (Or.inl ⟨c, z⟩)
    by_cases c : a19.toInt < 96
    · replace h := h.1 c
      replace K := fun i uo z => K i uo (Or.inl ⟨c, z⟩)
      exact ru_step_J78 i0 K h
    · replace h := h.2 c
      replace K := fun i uo z => K i uo (Or.inr ⟨c, z⟩)
      by_cases c : a19.toInt ≤ 131
      · replace h := h.1 c
        replace K := fun i uo z => K i uo (Or.inl ⟨c, z⟩)
        exact ru_step_J85 i0 K h
      · replace h := h.2 c
        replace K := fun i uo z => K i uo (Or.inr ⟨c, z⟩)
        exact ru_step_J78 i0 K h
  · replace h := h.2 c
    replace K := fun i uo z => K i uo (Or.inr ⟨c, z⟩)
    obtain ⟨Q9, h0, h⟩ := h
    obtain ⟨S76, z9, g9⟩ := ru_jump h0
    replace h := h S76 g9
    replace K := fun i uo z => K i uo ⟨S76, z9, z⟩
    exact ⟨_, K i0 _ rfl, h⟩
set_option maxRecDepth 100000 in
theorem vw_step_J85 {uo : MS} {U85 : MS} {v85_1 : Int32} {v85_2 : Int32} (h : v_step_J85 uo U85 v85_1 v85_2) : w_step_J85 (fun u => u = uo) U85 v85_1 v85_2 := by
  unfold v_step_J85 at h
  unfold w_step_J85
  obtain ⟨p9, q9, z9, h⟩ := h
  refine ⟨_, vw_workOne z9, ?_⟩
  rintro p8 q8 ⟨d8, d9⟩
  subst d8
  subst d9
  rcases h with ⟨c, h⟩ | ⟨c, h⟩
  · refine ⟨fun _ => ?_, fun c2 => absurd c c2⟩
    exact h.symm
  · refine ⟨fun c2 => absurd c2 c, fun _ => ?_⟩
    obtain ⟨q9, z9, h⟩ := h
    refine ⟨_, vw_goTo z9, ?_⟩
    intro q8 d9
    subst d9
    exact h.symm
set_option maxRecDepth 100000 in
theorem vz_step_J85 {uo : MS} {Q : MS → Prop} {U85 : MS} {v85_1 : Int32} {v85_2 : Int32} (h : v_step_J85 uo U85 v85_1 v85_2) (w : w_step_J85 Q U85 v85_1 v85_2) : Q uo := by
  unfold v_step_J85 at h
  unfold w_step_J85 at w
  obtain ⟨p9, q9, z9, h⟩ := h
  obtain ⟨Q9, w0, w⟩ := w
  replace w := w p9 q9 (vz_workOne z9 w0)
  rcases h with ⟨c, h⟩ | ⟨c, h⟩
  · replace w := w.1 c
    rw [h]
    exact w
  · replace w := w.2 c
    obtain ⟨q9, z9, h⟩ := h
    obtain ⟨Q9, w0, w⟩ := w
    replace w := w q9 (vz_goTo z9 w0)
    rw [h]
    exact w
set_option maxRecDepth 100000 in
theorem vw_step_J154 {uo : MS} {U154 : MS} {v154_2 : Int32} (h : v_step_J154 uo U154 v154_2) : w_step_J154 (fun u => u = uo) U154 v154_2 := by
  unfold v_step_J154 at h
  unfold w_step_J154
  obtain ⟨q9, z9, h⟩ := h
  refine ⟨_, vw_leave z9, ?_⟩
  intro q8 d9
  subst d9
  exact h.symm
set_option maxRecDepth 100000 in
theorem vz_step_J154 {uo : MS} {Q : MS → Prop} {U154 : MS} {v154_2 : Int32} (h : v_step_J154 uo U154 v154_2) (w : w_step_J154 Q U154 v154_2) : Q uo := by
  unfold v_step_J154 at h
  unfold w_step_J154 at w
  obtain ⟨q9, z9, h⟩ := h
  obtain ⟨Q9, w0, w⟩ := w
  replace w := w q9 (vz_leave z9 w0)
  rw [h]
  exact w
set_option maxRecDepth 100000 in
theorem vw_step_J78 {uo : MS} {U78 : MS} {v78_1 : Int32} {v78_2 : Int32} {v78_3 : Int32} (h : v_step_J78 uo U78 v78_1 v78_2 v78_3) : w_step_J78 (fun u => u = uo) U78 v78_1 v78_2 v78_3 := by
  unfold v_step_J78 at h
  unfold w_step_J78
  rcases h with ⟨c, h⟩ | ⟨c, h⟩
  · refine ⟨fun _ => ?_, fun c2 => absurd c c2⟩
    exact vw_step_J85 h
  · refine ⟨fun c2 => absurd c2 c, fun _ => ?_⟩
    obtain ⟨g9, h⟩ := h
    refine ⟨g9, ?_⟩
    rcases h with ⟨c, h⟩ | ⟨c, h⟩
    · refine ⟨fun _ => ?_, fun c2 => absurd c c2⟩
      rcases h with ⟨c, h⟩ | ⟨c, h⟩
      · refine ⟨fun _ => ?_, fun c2 => absurd c c2⟩
        exact vw_step_J154 h
      · refine ⟨fun c2 => absurd c2 c, fun _ => ?_⟩
        rcases h with ⟨c, h⟩ | ⟨c, h⟩
        · refine ⟨fun _ => ?_, fun c2 => absurd c c2⟩
          exact vw_step_J154 h
        · refine ⟨fun c2 => absurd c2 c, fun _ => ?_⟩
          rcases h with ⟨c, h⟩ | ⟨c, h⟩
          · refine ⟨fun _ => ?_, fun c2 => absurd c c2⟩
            exact vw_step_J154 h
          · refine ⟨fun c2 => absurd c2 c, fun _ => ?_⟩
            rcases h with ⟨c, h⟩ | ⟨c, h⟩
            · refine ⟨fun _ => ?_, fun c2 => absurd c c2⟩
              exact vw_step_J154 h
            · refine ⟨fun c2 => absurd c2 c, fun _ => ?_⟩
              rcases h with ⟨c, h⟩ | ⟨c, h⟩
              · refine ⟨fun _ => ?_, fun c2 => absurd c c2⟩
                obtain ⟨q9, z9, h⟩ := h
                refine ⟨_, vw_called z9, ?_⟩
                intro q8 d9
                subst d9
                exact h.symm
              · refine ⟨fun c2 => absurd c2 c, fun _ => ?_⟩
                obtain ⟨p9, q9, z9, h⟩ := h
                refine ⟨_, vw_plain z9, ?_⟩
                rintro p8 q8 ⟨d8, d9⟩
                subst d8
                subst d9
                rcases h with ⟨c, h⟩ | ⟨c, h⟩
                · refine ⟨fun _ => ?_, fun c2 => absurd c c2⟩
                  exact h.symm
                · refine ⟨fun c2 => absurd c2 c, fun _ => ?_⟩
                  obtain ⟨q9, z9, h⟩ := h
                  refine ⟨_, vw_goTo z9, ?_⟩
                  intro q8 d9
                  subst d9
                  exact h.symm
    · refine ⟨fun c2 => absurd c2 c, fun _ => ?_⟩
      obtain ⟨p9, q9, z9, h⟩ := h
      refine ⟨_, vw_gotInt z9, ?_⟩
      rintro p8 q8 ⟨d8, d9⟩
      subst d8
      subst d9
      obtain ⟨p9, q9, z9, h⟩ := h
      refine ⟨_, vw_chosen z9, ?_⟩
      rintro p8 q8 ⟨d8, d9⟩
      subst d8
      subst d9
      obtain ⟨q9, z9, h⟩ := h
      refine ⟨_, vw_goTo z9, ?_⟩
      intro q8 d9
      subst d9
      exact h.symm
set_option maxRecDepth 100000 in
theorem vz_step_J78 {uo : MS} {Q : MS → Prop} {U78 : MS} {v78_1 : Int32} {v78_2 : Int32} {v78_3 : Int32} (h : v_step_J78 uo U78 v78_1 v78_2 v78_3) (w : w_step_J78 Q U78 v78_1 v78_2 v78_3) : Q uo := by
  unfold v_step_J78 at h
  unfold w_step_J78 at w
  rcases h with ⟨c, h⟩ | ⟨c, h⟩
  · replace w := w.1 c
    exact vz_step_J85 h w
  · replace w := w.2 c
    replace h := h.2
    replace w := w.2
    rcases h with ⟨c, h⟩ | ⟨c, h⟩
    · replace w := w.1 c
      rcases h with ⟨c, h⟩ | ⟨c, h⟩
      · replace w := w.1 c
        exact vz_step_J154 h w
      · replace w := w.2 c
        rcases h with ⟨c, h⟩ | ⟨c, h⟩
        · replace w := w.1 c
          exact vz_step_J154 h w
        · replace w := w.2 c
          rcases h with ⟨c, h⟩ | ⟨c, h⟩
          · replace w := w.1 c
            exact vz_step_J154 h w
          · replace w := w.2 c
            rcases h with ⟨c, h⟩ | ⟨c, h⟩
            · replace w := w.1 c
              exact vz_step_J154 h w
            · replace w := w.2 c
              rcases h with ⟨c, h⟩ | ⟨c, h⟩
              · replace w := w.1 c
                obtain ⟨q9, z9, h⟩ := h
                obtain ⟨Q9, w0, w⟩ := w
                replace w := w q9 (vz_called z9 w0)
                rw [h]
                exact w
              · replace w := w.2 c
                obtain ⟨p9, q9, z9, h⟩ := h
                obtain ⟨Q9, w0, w⟩ := w
                replace w := w p9 q9 (vz_plain z9 w0)
                rcases h with ⟨c, h⟩ | ⟨c, h⟩
                · replace w := w.1 c
                  rw [h]
                  exact w
                · replace w := w.2 c
                  obtain ⟨q9, z9, h⟩ := h
                  obtain ⟨Q9, w0, w⟩ := w
                  replace w := w q9 (vz_goTo z9 w0)
                  rw [h]
                  exact w
    · replace w := w.2 c
      obtain ⟨p9, q9, z9, h⟩ := h
      obtain ⟨Q9, w0, w⟩ := w
      replace w := w p9 q9 (vz_gotInt z9 w0)
      obtain ⟨p9, q9, z9, h⟩ := h
      obtain ⟨Q9, w0, w⟩ := w
      replace w := w p9 q9 (vz_chosen z9 w0)
      obtain ⟨q9, z9, h⟩ := h
      obtain ⟨Q9, w0, w⟩ := w
      replace w := w q9 (vz_goTo z9 w0)
      rw [h]
      exact w
set_option maxRecDepth 100000 in
theorem vw_step {S : MS} {uo : MS} (h : v_step S uo) : w_step S (fun u => u = uo) := by
  unfold v_step at h
  unfold w_step
  obtain ⟨g9, h⟩ := h
  refine ⟨g9, ?_⟩
  obtain ⟨g9, h⟩ := h
  refine ⟨g9, ?_⟩
  obtain ⟨q9, z9, h⟩ := h
  refine ⟨_, vw_look z9, ?_⟩
  intro q8 d9
  subst d9
  obtain ⟨g9, h⟩ := h
  refine ⟨g9, ?_⟩
  obtain ⟨v9, e9, h⟩ := h
  intro x9 d9
  have c9 : v9 = x9 := e9.trans d9.symm
  subst c9
  obtain ⟨q9, z9, h⟩ := h
  refine ⟨_, vw_watch z9, ?_⟩
  intro q8 d9
  subst d9
  obtain ⟨g9, h⟩ := h
  refine ⟨g9, ?_⟩
  obtain ⟨v9, e9, h⟩ := h
  intro x9 d9
  have c9 : v9 = x9 := e9.trans d9.symm
  subst c9
  obtain ⟨g9, h⟩ := h
  refine ⟨g9, ?_⟩
  obtain ⟨v9, e9, h⟩ := h
  intro x9 d9
  have c9 : v9 = x9 := e9.trans d9.symm
  subst c9
  obtain ⟨g9, h⟩ := h
  refine ⟨g9, ?_⟩
  rcases h with ⟨c, h⟩ | ⟨c, h⟩
  · refine ⟨fun _ => ?_, fun c2 => absurd c c2⟩
    rcases h with ⟨c, h⟩ | ⟨c, h⟩
    · refine ⟨fun _ => ?_, fun c2 => absurd c c2⟩
      exact vw_step_J78 h
    · refine ⟨fun c2 => absurd c2 c, fun _ => ?_⟩
      rcases h with ⟨c, h⟩ | ⟨c, h⟩
      · refine ⟨fun _ => ?_, fun c2 => absurd c c2⟩
        exact vw_step_J85 h
      · refine ⟨fun c2 => absurd c2 c, fun _ => ?_⟩
        exact vw_step_J78 h
  · refine ⟨fun c2 => absurd c2 c, fun _ => ?_⟩
    obtain ⟨q9, z9, h⟩ := h
    refine ⟨_, vw_jump z9, ?_⟩
    intro q8 d9
    subst d9
    exact h.symm
set_option maxRecDepth 100000 in
theorem vz_step {S : MS} {uo : MS} {Q : MS → Prop} (h : v_step S uo) (w : w_step S Q) : Q uo := by
  unfold v_step at h
  unfold w_step at w
  replace h := h.2
  replace w := w.2
  replace h := h.2
  replace w := w.2
  obtain ⟨q9, z9, h⟩ := h
  obtain ⟨Q9, w0, w⟩ := w
  replace w := w q9 (vz_look z9 w0)
  replace h := h.2
  replace w := w.2
  obtain ⟨v9, e9, h⟩ := h
  replace w := w v9 e9
  obtain ⟨q9, z9, h⟩ := h
  obtain ⟨Q9, w0, w⟩ := w
  replace w := w q9 (vz_watch z9 w0)
  replace h := h.2
  replace w := w.2
  obtain ⟨v9, e9, h⟩ := h
  replace w := w v9 e9
  replace h := h.2
  replace w := w.2
  obtain ⟨v9, e9, h⟩ := h
  replace w := w v9 e9
  replace h := h.2
  replace w := w.2
  rcases h with ⟨c, h⟩ | ⟨c, h⟩
  · replace w := w.1 c
    rcases h with ⟨c, h⟩ | ⟨c, h⟩
    · replace w := w.1 c
      exact vz_step_J78 h w
    · replace w := w.2 c
      rcases h with ⟨c, h⟩ | ⟨c, h⟩
      · replace w := w.1 c
        exact vz_step_J85 h w
      · replace w := w.2 c
        exact vz_step_J78 h w
  · replace w := w.2 c
    obtain ⟨q9, z9, h⟩ := h
    obtain ⟨Q9, w0, w⟩ := w
    replace w := w q9 (vz_jump z9 w0)
    rw [h]
    exact w
def v_run_J299 (ro : Int32) (uo : MS) (k165 : MS → Int32 → Int32 → Nat → Int32 → Int32 → Prop) (U299 : MS) (t299_0 : Int32) (t299_1 : Int32) (v299_2 : Int32) (v299_3 : Int32) (v299_4 : Nat) (v299_6 : Int32) : Prop := (∃ a53 : Int32, a53 = (t299_1 + t299_0) ∧ (∃ a54 : Int32, a54 = (v299_6 + Int32.ofInt 1) ∧ (k165 U299 v299_2 v299_3 v299_4 a53 a54)))
def v_run_J280 (ro : Int32) (uo : MS) (k165 : MS → Int32 → Int32 → Nat → Int32 → Int32 → Prop) (U280 : MS) (v280_2 : Int32) (v280_3 : Int32) (v280_4 : Nat) (v280_5 : Int32) (v280_6 : Int32) : Prop := (((0 : Int) ≤ v280_6.toInt ∧ v280_6.toInt < (qN U280 (v280_4 + 1) : Int)) ∧ (((cAt U280 v280_4 v280_6).toInt = 74 ∧ (v_run_J299 ro uo k165 U280 2 v280_5 v280_2 v280_3 v280_4 v280_6)) ∨ (¬ (cAt U280 v280_4 v280_6).toInt = 74 ∧ (v_run_J299 ro uo k165 U280 1 v280_5 v280_2 v280_3 v280_4 v280_6))))
def v_run_J257 (ro : Int32) (uo : MS) (k165 : MS → Int32 → Int32 → Nat → Int32 → Int32 → Prop) (U257 : MS) (t257_0 : Int32) (t257_1 : Int32) (v257_2 : Int32) (v257_3 : Int32) (v257_4 : Nat) (v257_5 : Int32) (v257_6 : Int32) : Prop := (((0 : Int) ≤ t257_1.toInt ∧ t257_1.toInt < 1440) ∧ (∃ S47 : MS, S47 = wI U257 47 t257_1.toInt.toNat (vp_nar .byte t257_0) ∧ (((0 : Int) ≤ v257_6.toInt ∧ v257_6.toInt < (qN S47 (v257_4 + 1) : Int)) ∧ (((cAt S47 v257_4 v257_6).toInt = 74 ∧ (((0 : Int) ≤ (v257_5 + (1 : Int32)).toInt ∧ (v257_5 + (1 : Int32)).toInt < 1440) ∧ (∃ S59 : MS, S59 = wI S47 47 (((v257_5 + (1 : Int32)).toInt).toNat) (vp_nar .byte (3 : Int32)) ∧ (v_run_J280 ro uo k165 S59 v257_2 v257_3 v257_4 v257_5 v257_6)))) ∨ (¬ (cAt S47 v257_4 v257_6).toInt = 74 ∧ (v_run_J280 ro uo k165 S47 v257_2 v257_3 v257_4 v257_5 v257_6))))))
def v_run_J208 (ro : Int32) (uo : MS) (k165 : MS → Int32 → Int32 → Nat → Int32 → Int32 → Prop) (U208 : MS) (t208_0 : Int64) (t208_1 : Int32) (v208_2 : Int32) (v208_3 : Int32) (v208_4 : Nat) (v208_5 : Int32) (v208_6 : Int32) : Prop := (((0 : Int) ≤ t208_1.toInt ∧ t208_1.toInt < 1440) ∧ (∃ S43 : MS, S43 = wJ U208 45 t208_1.toInt.toNat t208_0 ∧ (((0 : Int) ≤ v208_6.toInt ∧ v208_6.toInt < (qN S43 (v208_4 + 1) : Int)) ∧ (((cAt S43 v208_4 v208_6).toInt = 73 ∧ (v_run_J257 ro uo k165 S43 1 v208_5 v208_2 v208_3 v208_4 v208_5 v208_6)) ∨ (¬ (cAt S43 v208_4 v208_6).toInt = 73 ∧ (((0 : Int) ≤ v208_6.toInt ∧ v208_6.toInt < (qN S43 (v208_4 + 1) : Int)) ∧ (((cAt S43 v208_4 v208_6).toInt = 74 ∧ (v_run_J257 ro uo k165 S43 2 v208_5 v208_2 v208_3 v208_4 v208_5 v208_6)) ∨ (¬ (cAt S43 v208_4 v208_6).toInt = 74 ∧ (((0 : Int) ≤ v208_6.toInt ∧ v208_6.toInt < 8) ∧ (d_thingTag S43 (qJ S43 41 v208_6.toInt.toNat) ∧ (v_run_J257 ro uo k165 S43 (f_thingTag S43 (qJ S43 41 v208_6.toInt.toNat)) v208_5 v208_2 v208_3 v208_4 v208_5 v208_6)))))))))))
def v_run_J109 (ro : Int32) (uo : MS) (k60 : MS → Int32 → Int32 → Int32 → Nat → Int32 → Prop) (U109 : MS) (v109_1 : Int32) (v109_2 : Int32) (v109_3 : Int32) (v109_4 : Nat) (v109_5 : Int32) : Prop := (∃ a76 : Int32, a76 = (v109_5 + Int32.ofInt 1) ∧ (k60 U109 v109_1 v109_2 v109_3 v109_4 a76))
def v_run_L308 (ro : Int32) (uo : MS) : Nat → MS → Int32 → Prop
  | 0, _, _ => False
  | n308 + 1, U308, v308_2 => ((0 ≤ (qI U308 0 98).toInt ∧ (((qI U308 0 98).toInt ≤ 0 ∧ (ro = (qI U308 0 98) ∧ uo = U308)) ∨ (¬ (qI U308 0 98).toInt ≤ 0 ∧ (∃ S31 : MS, S31 = wJ U308 0 101 0 ∧ (ro = (qI S31 0 98) ∧ uo = S31))))) ∨ (¬ 0 ≤ (qI U308 0 98).toInt ∧ (((qI U308 0 100).toInt = v308_2.toInt ∧ (∃ S38 : MS, S38 = wI U308 0 98 2 ∧ ((v_run_L308 ro uo n308) S38 v308_2))) ∨ (¬ (qI U308 0 100).toInt = v308_2.toInt ∧ (∃ S34 : MS, S34 = wI U308 0 100 ((qI U308 0 100) + (1 : Int32)) ∧ (∃ (S36 : MS), v_step S34 S36 ∧ ((v_run_L308 ro uo n308) S36 v308_2)))))))
def v_run_L165 (ro : Int32) (uo : MS) : Nat → MS → Int32 → Int32 → Nat → Int32 → Int32 → Prop
  | 0, _, _, _, _, _, _ => False
  | n165 + 1, U165, v165_2, v165_3, v165_4, v165_5, v165_6 => ((v165_3.toInt ≤ v165_6.toInt ∧ (∃ n, v_run_L308 ro uo n U165 v165_2)) ∨ (¬ v165_3.toInt ≤ v165_6.toInt ∧ (((0 : Int) ≤ v165_6.toInt ∧ v165_6.toInt < (qN U165 (v165_4 + 1) : Int)) ∧ (((cAt U165 v165_4 v165_6).toInt = 73 ∧ (((0 : Int) ≤ v165_6.toInt ∧ v165_6.toInt < 8) ∧ (v_run_J208 ro uo (v_run_L165 ro uo n165) U165 (((qJ U165 41 v165_6.toInt.toNat).toInt32).toInt64) v165_5 v165_2 v165_3 v165_4 v165_5 v165_6))) ∨ (¬ (cAt U165 v165_4 v165_6).toInt = 73 ∧ (((0 : Int) ≤ v165_6.toInt ∧ v165_6.toInt < 8) ∧ (v_run_J208 ro uo (v_run_L165 ro uo n165) U165 (qJ U165 41 v165_6.toInt.toNat) v165_5 v165_2 v165_3 v165_4 v165_5 v165_6)))))))
def v_run_L60 (ro : Int32) (uo : MS) : Nat → MS → Int32 → Int32 → Int32 → Nat → Int32 → Prop
  | 0, _, _, _, _, _, _ => False
  | n60 + 1, U60, v60_1, v60_2, v60_3, v60_4, v60_5 => ((v60_3.toInt ≤ v60_5.toInt ∧ ((v60_2.toInt < 0 ∧ (ro = (-3 : Int32) ∧ uo = U60)) ∨ (¬ v60_2.toInt < 0 ∧ ((v60_2.toInt ≤ 50000 ∧ (∃ S21 : MS, S21 = wI U60 0 97 0 ∧ (∃ S22 : MS, S22 = wI S21 0 98 (-1) ∧ (∃ S23 : MS, S23 = wI S22 0 102 (-1) ∧ (∃ S24 : MS, S24 = wJ S23 0 101 0 ∧ (∃ S25 : MS, S25 = wI S24 0 100 0 ∧ (∃ (S27 : MS), v_enter S25 v60_1 S27 ∧ (∃ n, v_run_L165 ro uo n S27 v60_2 v60_3 v60_4 0 0)))))))) ∨ (¬ v60_2.toInt ≤ 50000 ∧ (ro = (-3 : Int32) ∧ uo = U60)))))) ∨ (¬ v60_3.toInt ≤ v60_5.toInt ∧ (((0 : Int) ≤ v60_5.toInt ∧ v60_5.toInt < (qN U60 (v60_4 + 1) : Int)) ∧ (((cAt U60 v60_4 v60_5).toInt = 65 ∧ (((0 : Int) ≤ v60_5.toInt ∧ v60_5.toInt < 8) ∧ (((lg_cmp (qJ U60 41 v60_5.toInt.toNat) 0).toInt < 0 ∧ (ro = (-2 : Int32) ∧ uo = U60)) ∨ (¬ (lg_cmp (qJ U60 41 v60_5.toInt.toNat) 0).toInt < 0 ∧ (((0 : Int) ≤ v60_5.toInt ∧ v60_5.toInt < 8) ∧ (((lg_cmp (qJ U60 41 v60_5.toInt.toNat) ((qI U60 0 85).toInt64)).toInt ≤ 0 ∧ (v_run_J109 ro uo (v_run_L60 ro uo n60) U60 v60_1 v60_2 v60_3 v60_4 v60_5)) ∨ (¬ (lg_cmp (qJ U60 41 v60_5.toInt.toNat) ((qI U60 0 85).toInt64)).toInt ≤ 0 ∧ (ro = (-2 : Int32) ∧ uo = U60)))))))) ∨ (¬ (cAt U60 v60_4 v60_5).toInt = 65 ∧ (v_run_J109 ro uo (v_run_L60 ro uo n60) U60 v60_1 v60_2 v60_3 v60_4 v60_5))))))
def v_run (S : MS) (x1 : Int32) (x2 : Int32) (ro : Int32) (uo : MS) : Prop := (∃ a1 : Int32, a1 = (qI S 0 88) ∧ (∃ S2 : MS, S2 = wI S 0 88 0 ∧ (((qR S2 0 80) = none ∧ (ro = (-1 : Int32) ∧ uo = S2)) ∨ (¬ (qR S2 0 80) = none ∧ ((x1.toInt < 0 ∧ (ro = (-1 : Int32) ∧ uo = S2)) ∨ (¬ x1.toInt < 0 ∧ ((qR S2 0 80 = some (qO S2 0 80)) ∧ ((x1.toInt < (qI S2 (qO S2 0 80) 4).toInt ∧ ((qR S2 0 80 = some (qO S2 0 80)) ∧ ((qR S2 (qO S2 0 80) 10 = some (qO S2 (qO S2 0 80) 10)) ∧ (((0 : Int) ≤ x1.toInt ∧ x1.toInt < (qN S2 (qO S2 (qO S2 0 80) 10) : Int)) ∧ ((qR S2 (qO S2 (qO S2 0 80) 10) x1.toInt.toNat = some (qO S2 (qO S2 (qO S2 0 80) 10) x1.toInt.toNat)) ∧ ((a1.toInt = (Int32.ofNat (qN S2 ((qO S2 (qO S2 (qO S2 0 80) 10) x1.toInt.toNat) + 1))).toInt ∧ (∃ n, v_run_L60 ro uo n S2 x1 x2 a1 (qO S2 (qO S2 (qO S2 0 80) 10) x1.toInt.toNat) 0)) ∨ (¬ a1.toInt = (Int32.ofNat (qN S2 ((qO S2 (qO S2 (qO S2 0 80) 10) x1.toInt.toNat) + 1))).toInt ∧ (ro = (-2 : Int32) ∧ uo = S2)))))))) ∨ (¬ x1.toInt < (qI S2 (qO S2 0 80) 4).toInt ∧ (ro = (-1 : Int32) ∧ uo = S2))))))))))
set_option maxRecDepth 100000 in
theorem ru_run_J299 {ι : Type} {P : Int32 → MS → Prop} {Q : Int32 → MS → Prop} {k165 : MS → Int32 → Int32 → Nat → Int32 → Int32 → Prop} {k165v : ι → Int32 → MS → MS → Int32 → Int32 → Nat → Int32 → Int32 → Prop} {U299 : MS} {t299_0 : Int32} {t299_1 : Int32} {v299_2 : Int32} {v299_3 : Int32} {v299_4 : Nat} {v299_6 : Int32} (i0 : ι) (hk165 : ∀ (u : MS) (z0 : Int32) (z1 : Int32) (z2 : Nat) (z3 : Int32) (z4 : Int32), k165 u z0 z1 z2 z3 z4 → (∀ (i : ι) (ro : Int32) (uo : MS), k165v i ro uo u z0 z1 z2 z3 z4 → P ro uo) → ∃ ro uo, P ro uo ∧ Q ro uo) (K : ∀ (i : ι) (ro : Int32) (uo : MS), v_run_J299 ro uo (k165v i ro uo) U299 t299_0 t299_1 v299_2 v299_3 v299_4 v299_6 → P ro uo) (h : w_run_J299 Q k165 U299 t299_0 t299_1 v299_2 v299_3 v299_4 v299_6) : ∃ ro uo, P ro uo ∧ Q ro uo := by
  unfold w_run_J299 at h
  obtain ⟨a53, ea53⟩ : ∃ x9 : Int32, x9 = (t299_1 + t299_0) := ⟨_, rfl⟩
  replace h := h a53 ea53
  replace K := fun i ro uo z => K i ro uo ⟨a53, ea53, z⟩
  obtain ⟨a54, ea54⟩ : ∃ x9 : Int32, x9 = (v299_6 + Int32.ofInt 1) := ⟨_, rfl⟩
  replace h := h a54 ea54
  replace K := fun i ro uo z => K i ro uo ⟨a54, ea54, z⟩
  exact hk165 _ _ _ _ _ _ h K
set_option maxRecDepth 100000 in
theorem ru_run_J280 {ι : Type} {P : Int32 → MS → Prop} {Q : Int32 → MS → Prop} {k165 : MS → Int32 → Int32 → Nat → Int32 → Int32 → Prop} {k165v : ι → Int32 → MS → MS → Int32 → Int32 → Nat → Int32 → Int32 → Prop} {U280 : MS} {v280_2 : Int32} {v280_3 : Int32} {v280_4 : Nat} {v280_5 : Int32} {v280_6 : Int32} (i0 : ι) (hk165 : ∀ (u : MS) (z0 : Int32) (z1 : Int32) (z2 : Nat) (z3 : Int32) (z4 : Int32), k165 u z0 z1 z2 z3 z4 → (∀ (i : ι) (ro : Int32) (uo : MS), k165v i ro uo u z0 z1 z2 z3 z4 → P ro uo) → ∃ ro uo, P ro uo ∧ Q ro uo) (K : ∀ (i : ι) (ro : Int32) (uo : MS), v_run_J280 ro uo (k165v i ro uo) U280 v280_2 v280_3 v280_4 v280_5 v280_6 → P ro uo) (h : w_run_J280 Q k165 U280 v280_2 v280_3 v280_4 v280_5 v280_6) : ∃ ro uo, P ro uo ∧ Q ro uo := by
  unfold w_run_J280 at h
  obtain ⟨g1_, h⟩ := h
  replace K := fun i ro uo z => K i ro uo ⟨g1_, z⟩
  by_cases c : (cAt U280 v280_4 v280_6).toInt = 74
  · replace h := h.1 c
    replace K := fun i ro uo z => K i ro uo (Or.inl ⟨c, z⟩)
    exact ru_run_J299 i0 hk165 K h
  · replace h := h.2 c
    replace K := fun i ro uo z => K i ro uo (Or.inr ⟨c, z⟩)
    exact ru_run_J299 i0 hk165 K h
set_option maxRecDepth 100000 in
theorem ru_run_J257 {ι : Type} {P : Int32 → MS → Prop} {Q : Int32 → MS → Prop} {k165 : MS → Int32 → Int32 → Nat → Int32 → Int32 → Prop} {k165v : ι → Int32 → MS → MS → Int32 → Int32 → Nat → Int32 → Int32 → Prop} {U257 : MS} {t257_0 : Int32} {t257_1 : Int32} {v257_2 : Int32} {v257_3 : Int32} {v257_4 : Nat} {v257_5 : Int32} {v257_6 : Int32} (i0 : ι) (hk165 : ∀ (u : MS) (z0 : Int32) (z1 : Int32) (z2 : Nat) (z3 : Int32) (z4 : Int32), k165 u z0 z1 z2 z3 z4 → (∀ (i : ι) (ro : Int32) (uo : MS), k165v i ro uo u z0 z1 z2 z3 z4 → P ro uo) → ∃ ro uo, P ro uo ∧ Q ro uo) (K : ∀ (i : ι) (ro : Int32) (uo : MS), v_run_J257 ro uo (k165v i ro uo) U257 t257_0 t257_1 v257_2 v257_3 v257_4 v257_5 v257_6 → P ro uo) (h : w_run_J257 Q k165 U257 t257_0 t257_1 v257_2 v257_3 v257_4 v257_5 v257_6) : ∃ ro uo, P ro uo ∧ Q ro uo := by
  unfold w_run_J257 at h
  obtain ⟨g2_, h⟩ := h
  replace K := fun i ro uo z => K i ro uo ⟨g2_, z⟩
  obtain ⟨S47, eS47⟩ : ∃ x9 : MS, x9 = wI U257 47 t257_1.toInt.toNat (vp_nar .byte t257_0) := ⟨_, rfl⟩
  replace h := h S47 eS47
  replace K := fun i ro uo z => K i ro uo ⟨S47, eS47, z⟩
  obtain ⟨g3_, h⟩ := h
  replace K := fun i ro uo z => K i ro uo ⟨g3_, z⟩
  by_cases c : (cAt S47 v257_4 v257_6).toInt = 74
  · replace h := h.1 c
    replace K := fun i ro uo z => K i ro uo (Or.inl ⟨c, z⟩)
    obtain ⟨g4_, h⟩ := h
    replace K := fun i ro uo z => K i ro uo ⟨g4_, z⟩
    obtain ⟨S59, eS59⟩ : ∃ x9 : MS, x9 = wI S47 47 (((v257_5 + (1 : Int32)).toInt).toNat) (vp_nar .byte (3 : Int32)) := ⟨_, rfl⟩
    replace h := h S59 eS59
    replace K := fun i ro uo z => K i ro uo ⟨S59, eS59, z⟩
    exact ru_run_J280 i0 hk165 K h
  · replace h := h.2 c
    replace K := fun i ro uo z => K i ro uo (Or.inr ⟨c, z⟩)
    exact ru_run_J280 i0 hk165 K h
set_option maxRecDepth 100000 in
theorem ru_run_J208 {ι : Type} {P : Int32 → MS → Prop} {Q : Int32 → MS → Prop} {k165 : MS → Int32 → Int32 → Nat → Int32 → Int32 → Prop} {k165v : ι → Int32 → MS → MS → Int32 → Int32 → Nat → Int32 → Int32 → Prop} {U208 : MS} {t208_0 : Int64} {t208_1 : Int32} {v208_2 : Int32} {v208_3 : Int32} {v208_4 : Nat} {v208_5 : Int32} {v208_6 : Int32} (i0 : ι) (hk165 : ∀ (u : MS) (z0 : Int32) (z1 : Int32) (z2 : Nat) (z3 : Int32) (z4 : Int32), k165 u z0 z1 z2 z3 z4 → (∀ (i : ι) (ro : Int32) (uo : MS), k165v i ro uo u z0 z1 z2 z3 z4 → P ro uo) → ∃ ro uo, P ro uo ∧ Q ro uo) (K : ∀ (i : ι) (ro : Int32) (uo : MS), v_run_J208 ro uo (k165v i ro uo) U208 t208_0 t208_1 v208_2 v208_3 v208_4 v208_5 v208_6 → P ro uo) (h : w_run_J208 Q k165 U208 t208_0 t208_1 v208_2 v208_3 v208_4 v208_5 v208_6) : ∃ ro uo, P ro uo ∧ Q ro uo := by
  unfold w_run_J208 at h
  obtain ⟨g5_, h⟩ := h
  replace K := fun i ro uo z => K i ro uo ⟨g5_, z⟩
  obtain ⟨S43, eS43⟩ : ∃ x9 : MS, x9 = wJ U208 45 t208_1.toInt.toNat t208_0 := ⟨_, rfl⟩
  replace h := h S43 eS43
  replace K := fun i ro uo z => K i ro uo ⟨S43, eS43, z⟩
  obtain ⟨g6_, h⟩ := h
  replace K := fun i ro uo z => K i ro uo ⟨g6_, z⟩
  by_cases c : (cAt S43 v208_4 v208_6).toInt = 73
  · replace h := h.1 c
    replace K := fun i ro uo z => K i ro uo (Or.inl ⟨c, z⟩)
    exact ru_run_J257 i0 hk165 K h
  · replace h := h.2 c
    replace K := fun i ro uo z => K i ro uo (Or.inr ⟨c, z⟩)
    obtain ⟨g7_, h⟩ := h
    replace K := fun i ro uo z => K i ro uo ⟨g7_, z⟩
    by_cases c : (cAt S43 v208_4 v208_6).toInt = 74
    · replace h := h.1 c
      replace K := fun i ro uo z => K i ro uo (Or.inl ⟨c, z⟩)
      exact ru_run_J257 i0 hk165 K h
    · replace h := h.2 c
      replace K := fun i ro uo z => K i ro uo (Or.inr ⟨c, z⟩)
      obtain ⟨g8_, h⟩ := h
      replace K := fun i ro uo z => K i ro uo ⟨g8_, z⟩
      obtain ⟨g9_, h⟩ := h
      replace K := fun i ro uo z => K i ro uo ⟨g9_, z⟩
      exact ru_run_J257 i0 hk165 K h
set_option maxRecDepth 100000 in
theorem ru_run_J109 {ι : Type} {P : Int32 → MS → Prop} {Q : Int32 → MS → Prop} {k60 : MS → Int32 → Int32 → Int32 → Nat → Int32 → Prop} {k60v : ι → Int32 → MS → MS → Int32 → Int32 → Int32 → Nat → Int32 → Prop} {U109 : MS} {v109_1 : Int32} {v109_2 : Int32} {v109_3 : Int32} {v109_4 : Nat} {v109_5 : Int32} (i0 : ι) (hk60 : ∀ (u : MS) (z0 : Int32) (z1 : Int32) (z2 : Int32) (z3 : Nat) (z4 : Int32), k60 u z0 z1 z2 z3 z4 → (∀ (i : ι) (ro : Int32) (uo : MS), k60v i ro uo u z0 z1 z2 z3 z4 → P ro uo) → ∃ ro uo, P ro uo ∧ Q ro uo) (K : ∀ (i : ι) (ro : Int32) (uo : MS), v_run_J109 ro uo (k60v i ro uo) U109 v109_1 v109_2 v109_3 v109_4 v109_5 → P ro uo) (h : w_run_J109 Q k60 U109 v109_1 v109_2 v109_3 v109_4 v109_5) : ∃ ro uo, P ro uo ∧ Q ro uo := by
  unfold w_run_J109 at h
  obtain ⟨a76, ea76⟩ : ∃ x9 : Int32, x9 = (v109_5 + Int32.ofInt 1) := ⟨_, rfl⟩
  replace h := h a76 ea76
  replace K := fun i ro uo z => K i ro uo ⟨a76, ea76, z⟩
  exact hk60 _ _ _ _ _ _ h K
set_option maxRecDepth 100000 in
theorem ru_run_L308 {ι : Type} {P : Int32 → MS → Prop} {Q : Int32 → MS → Prop} : ∀ (n : Nat) {U308 : MS} {v308_2 : Int32} (i0 : ι), (∀ (i : ι) (ro : Int32) (uo : MS), (∃ n8, v_run_L308 ro uo n8 U308 v308_2) → P ro uo) → w_run_L308 Q n U308 v308_2 → ∃ ro uo, P ro uo ∧ Q ro uo := by
  intro n
  induction n with
  | zero => intro U308 v308_2 i0 K h; unfold w_run_L308 at h; exact h.elim
  | succ n ih =>
    intro U308 v308_2 i0 K h
    unfold w_run_L308 at h
    replace K := fun (i : ι × Nat) ro uo (z : v_run_L308 ro uo (i.2 + 1) U308 v308_2) => K i.1 ro uo ⟨i.2 + 1, z⟩
    have i00 := i0
    replace i0 : ι × Nat := (i0, 0)
    by_cases c : 0 ≤ (qI U308 0 98).toInt
    · replace h := h.1 c
      replace K := fun i ro uo z => K i ro uo (Or.inl ⟨c, z⟩)
      by_cases c : (qI U308 0 98).toInt ≤ 0
      · replace h := h.1 c
        replace K := fun i ro uo z => K i ro uo (Or.inl ⟨c, z⟩)
        exact ⟨_, _, K i0 _ _ ⟨rfl, rfl⟩, h⟩
      · replace h := h.2 c
        replace K := fun i ro uo z => K i ro uo (Or.inr ⟨c, z⟩)
        obtain ⟨S31, eS31⟩ : ∃ x9 : MS, x9 = wJ U308 0 101 0 := ⟨_, rfl⟩
        replace h := h S31 eS31
        replace K := fun i ro uo z => K i ro uo ⟨S31, eS31, z⟩
        exact ⟨_, _, K i0 _ _ ⟨rfl, rfl⟩, h⟩
    · replace h := h.2 c
      replace K := fun i ro uo z => K i ro uo (Or.inr ⟨c, z⟩)
      by_cases c : (qI U308 0 100).toInt = v308_2.toInt
      · replace h := h.1 c
        replace K := fun i ro uo z => K i ro uo (Or.inl ⟨c, z⟩)
        obtain ⟨S38, eS38⟩ : ∃ x9 : MS, x9 = wI U308 0 98 2 := ⟨_, rfl⟩
        replace h := h S38 eS38
        replace K := fun i ro uo z => K i ro uo ⟨S38, eS38, z⟩
        exact ih i00 (fun i ro uo ⟨n8, z⟩ => K (i, n8) ro uo z) h
      · replace h := h.2 c
        replace K := fun i ro uo z => K i ro uo (Or.inr ⟨c, z⟩)
        obtain ⟨S34, eS34⟩ : ∃ x9 : MS, x9 = wI U308 0 100 ((qI U308 0 100) + (1 : Int32)) := ⟨_, rfl⟩
        replace h := h S34 eS34
        replace K := fun i ro uo z => K i ro uo ⟨S34, eS34, z⟩
        obtain ⟨Q9, h0, h⟩ := h
        obtain ⟨S36, z9, g9⟩ := ru_step h0
        replace h := h S36 g9
        replace K := fun i ro uo z => K i ro uo ⟨S36, z9, z⟩
        exact ih i00 (fun i ro uo ⟨n8, z⟩ => K (i, n8) ro uo z) h
set_option maxRecDepth 100000 in
theorem ru_run_L165 {ι : Type} {P : Int32 → MS → Prop} {Q : Int32 → MS → Prop} : ∀ (n : Nat) {U165 : MS} {v165_2 : Int32} {v165_3 : Int32} {v165_4 : Nat} {v165_5 : Int32} {v165_6 : Int32} (i0 : ι), (∀ (i : ι) (ro : Int32) (uo : MS), (∃ n8, v_run_L165 ro uo n8 U165 v165_2 v165_3 v165_4 v165_5 v165_6) → P ro uo) → w_run_L165 Q n U165 v165_2 v165_3 v165_4 v165_5 v165_6 → ∃ ro uo, P ro uo ∧ Q ro uo := by
  intro n
  induction n with
  | zero => intro U165 v165_2 v165_3 v165_4 v165_5 v165_6 i0 K h; unfold w_run_L165 at h; exact h.elim
  | succ n ih =>
    intro U165 v165_2 v165_3 v165_4 v165_5 v165_6 i0 K h
    unfold w_run_L165 at h
    replace K := fun (i : ι × Nat) ro uo (z : v_run_L165 ro uo (i.2 + 1) U165 v165_2 v165_3 v165_4 v165_5 v165_6) => K i.1 ro uo ⟨i.2 + 1, z⟩
    have i00 := i0
    replace i0 : ι × Nat := (i0, 0)
    by_cases c : v165_3.toInt ≤ v165_6.toInt
    · replace h := h.1 c
      replace K := fun i ro uo z => K i ro uo (Or.inl ⟨c, z⟩)
      obtain ⟨n9, h⟩ := h
      exact ru_run_L308 n9 i0 K h
    · replace h := h.2 c
      replace K := fun i ro uo z => K i ro uo (Or.inr ⟨c, z⟩)
      obtain ⟨g10_, h⟩ := h
      replace K := fun i ro uo z => K i ro uo ⟨g10_, z⟩
      by_cases c : (cAt U165 v165_4 v165_6).toInt = 73
      · replace h := h.1 c
        replace K := fun i ro uo z => K i ro uo (Or.inl ⟨c, z⟩)
        obtain ⟨g11_, h⟩ := h
        replace K := fun i ro uo z => K i ro uo ⟨g11_, z⟩
        exact ru_run_J208 i0 (fun _ _ _ _ _ _ h K => ih i00 (fun i ro uo ⟨n8, z⟩ => K (i, n8) ro uo z) h) K h
      · replace h := h.2 c
        replace K := fun i ro uo z => K i ro uo (Or.inr ⟨c, z⟩)
        obtain ⟨g12_, h⟩ := h
        replace K := fun i ro uo z => K i ro uo ⟨g12_, z⟩
        exact ru_run_J208 i0 (fun _ _ _ _ _ _ h K => ih i00 (fun i ro uo ⟨n8, z⟩ => K (i, n8) ro uo z) h) K h
set_option maxRecDepth 100000 in
theorem ru_run_L60 {ι : Type} {P : Int32 → MS → Prop} {Q : Int32 → MS → Prop} : ∀ (n : Nat) {U60 : MS} {v60_1 : Int32} {v60_2 : Int32} {v60_3 : Int32} {v60_4 : Nat} {v60_5 : Int32} (i0 : ι), (∀ (i : ι) (ro : Int32) (uo : MS), (∃ n8, v_run_L60 ro uo n8 U60 v60_1 v60_2 v60_3 v60_4 v60_5) → P ro uo) → w_run_L60 Q n U60 v60_1 v60_2 v60_3 v60_4 v60_5 → ∃ ro uo, P ro uo ∧ Q ro uo := by
  intro n
  induction n with
  | zero => intro U60 v60_1 v60_2 v60_3 v60_4 v60_5 i0 K h; unfold w_run_L60 at h; exact h.elim
  | succ n ih =>
    intro U60 v60_1 v60_2 v60_3 v60_4 v60_5 i0 K h
    unfold w_run_L60 at h
    replace K := fun (i : ι × Nat) ro uo (z : v_run_L60 ro uo (i.2 + 1) U60 v60_1 v60_2 v60_3 v60_4 v60_5) => K i.1 ro uo ⟨i.2 + 1, z⟩
    have i00 := i0
    replace i0 : ι × Nat := (i0, 0)
    by_cases c : v60_3.toInt ≤ v60_5.toInt
    · replace h := h.1 c
      replace K := fun i ro uo z => K i ro uo (Or.inl ⟨c, z⟩)
      by_cases c : v60_2.toInt < 0
      · replace h := h.1 c
        replace K := fun i ro uo z => K i ro uo (Or.inl ⟨c, z⟩)
        exact ⟨_, _, K i0 _ _ ⟨rfl, rfl⟩, h⟩
      · replace h := h.2 c
        replace K := fun i ro uo z => K i ro uo (Or.inr ⟨c, z⟩)
        by_cases c : v60_2.toInt ≤ 50000
        · replace h := h.1 c
          replace K := fun i ro uo z => K i ro uo (Or.inl ⟨c, z⟩)
          obtain ⟨S21, eS21⟩ : ∃ x9 : MS, x9 = wI U60 0 97 0 := ⟨_, rfl⟩
          replace h := h S21 eS21
          replace K := fun i ro uo z => K i ro uo ⟨S21, eS21, z⟩
          obtain ⟨S22, eS22⟩ : ∃ x9 : MS, x9 = wI S21 0 98 (-1) := ⟨_, rfl⟩
          replace h := h S22 eS22
          replace K := fun i ro uo z => K i ro uo ⟨S22, eS22, z⟩
          obtain ⟨S23, eS23⟩ : ∃ x9 : MS, x9 = wI S22 0 102 (-1) := ⟨_, rfl⟩
          replace h := h S23 eS23
          replace K := fun i ro uo z => K i ro uo ⟨S23, eS23, z⟩
          obtain ⟨S24, eS24⟩ : ∃ x9 : MS, x9 = wJ S23 0 101 0 := ⟨_, rfl⟩
          replace h := h S24 eS24
          replace K := fun i ro uo z => K i ro uo ⟨S24, eS24, z⟩
          obtain ⟨S25, eS25⟩ : ∃ x9 : MS, x9 = wI S24 0 100 0 := ⟨_, rfl⟩
          replace h := h S25 eS25
          replace K := fun i ro uo z => K i ro uo ⟨S25, eS25, z⟩
          obtain ⟨Q9, h0, h⟩ := h
          obtain ⟨S27, z9, g9⟩ := ru_enter h0
          replace h := h S27 g9
          replace K := fun i ro uo z => K i ro uo ⟨S27, z9, z⟩
          obtain ⟨n9, h⟩ := h
          exact ru_run_L165 n9 i0 K h
        · replace h := h.2 c
          replace K := fun i ro uo z => K i ro uo (Or.inr ⟨c, z⟩)
          exact ⟨_, _, K i0 _ _ ⟨rfl, rfl⟩, h⟩
    · replace h := h.2 c
      replace K := fun i ro uo z => K i ro uo (Or.inr ⟨c, z⟩)
      obtain ⟨g13_, h⟩ := h
      replace K := fun i ro uo z => K i ro uo ⟨g13_, z⟩
      by_cases c : (cAt U60 v60_4 v60_5).toInt = 65
      · replace h := h.1 c
        replace K := fun i ro uo z => K i ro uo (Or.inl ⟨c, z⟩)
        obtain ⟨g14_, h⟩ := h
        replace K := fun i ro uo z => K i ro uo ⟨g14_, z⟩
        by_cases c : (lg_cmp (qJ U60 41 v60_5.toInt.toNat) 0).toInt < 0
        · replace h := h.1 c
          replace K := fun i ro uo z => K i ro uo (Or.inl ⟨c, z⟩)
          exact ⟨_, _, K i0 _ _ ⟨rfl, rfl⟩, h⟩
        · replace h := h.2 c
          replace K := fun i ro uo z => K i ro uo (Or.inr ⟨c, z⟩)
          obtain ⟨g15_, h⟩ := h
          replace K := fun i ro uo z => K i ro uo ⟨g15_, z⟩
          by_cases c : (lg_cmp (qJ U60 41 v60_5.toInt.toNat) ((qI U60 0 85).toInt64)).toInt ≤ 0
          · replace h := h.1 c
            replace K := fun i ro uo z => K i ro uo (Or.inl ⟨c, z⟩)
            exact ru_run_J109 i0 (fun _ _ _ _ _ _ h K => ih i00 (fun i ro uo ⟨n8, z⟩ => K (i, n8) ro uo z) h) K h
          · replace h := h.2 c
            replace K := fun i ro uo z => K i ro uo (Or.inr ⟨c, z⟩)
            exact ⟨_, _, K i0 _ _ ⟨rfl, rfl⟩, h⟩
      · replace h := h.2 c
        replace K := fun i ro uo z => K i ro uo (Or.inr ⟨c, z⟩)
        exact ru_run_J109 i0 (fun _ _ _ _ _ _ h K => ih i00 (fun i ro uo ⟨n8, z⟩ => K (i, n8) ro uo z) h) K h
set_option maxRecDepth 100000 in
theorem ru_run {S : MS} {x1 : Int32} {x2 : Int32} {Q : Int32 → MS → Prop} (h : w_run S x1 x2 Q) : ∃ ro uo, v_run S x1 x2 ro uo ∧ Q ro uo := by
  have i0 : Unit := ()
  have K : ∀ (i : Unit) (ro : Int32) (uo : MS), v_run S x1 x2 ro uo → v_run S x1 x2 ro uo := fun _ _ _ z => z
  unfold w_run at h
  obtain ⟨a1, ea1⟩ : ∃ x9 : Int32, x9 = (qI S 0 88) := ⟨_, rfl⟩
  replace h := h a1 ea1
  replace K := fun i ro uo z => K i ro uo ⟨a1, ea1, z⟩
  obtain ⟨S2, eS2⟩ : ∃ x9 : MS, x9 = wI S 0 88 0 := ⟨_, rfl⟩
  replace h := h S2 eS2
  replace K := fun i ro uo z => K i ro uo ⟨S2, eS2, z⟩
  by_cases c : (qR S2 0 80) = none
  · replace h := h.1 c
    replace K := fun i ro uo z => K i ro uo (Or.inl ⟨c, z⟩)
    exact ⟨_, _, K i0 _ _ ⟨rfl, rfl⟩, h⟩
  · replace h := h.2 c
    replace K := fun i ro uo z => K i ro uo (Or.inr ⟨c, z⟩)
    by_cases c : x1.toInt < 0
    · replace h := h.1 c
      replace K := fun i ro uo z => K i ro uo (Or.inl ⟨c, z⟩)
      exact ⟨_, _, K i0 _ _ ⟨rfl, rfl⟩, h⟩
    · replace h := h.2 c
      replace K := fun i ro uo z => K i ro uo (Or.inr ⟨c, z⟩)
      obtain ⟨g16_, h⟩ := h
      replace K := fun i ro uo z => K i ro uo ⟨g16_, z⟩
      by_cases c : x1.toInt < (qI S2 (qO S2 0 80) 4).toInt
      · replace h := h.1 c
        replace K := fun i ro uo z => K i ro uo (Or.inl ⟨c, z⟩)
        obtain ⟨g17_, h⟩ := h
        replace K := fun i ro uo z => K i ro uo ⟨g17_, z⟩
        obtain ⟨g18_, h⟩ := h
        replace K := fun i ro uo z => K i ro uo ⟨g18_, z⟩
        obtain ⟨g19_, h⟩ := h
        replace K := fun i ro uo z => K i ro uo ⟨g19_, z⟩
        obtain ⟨g20_, h⟩ := h
        replace K := fun i ro uo z => K i ro uo ⟨g20_, z⟩
        by_cases c : a1.toInt = (Int32.ofNat (qN S2 ((qO S2 (qO S2 (qO S2 0 80) 10) x1.toInt.toNat) + 1))).toInt
        · replace h := h.1 c
          replace K := fun i ro uo z => K i ro uo (Or.inl ⟨c, z⟩)
          obtain ⟨n9, h⟩ := h
          exact ru_run_L60 n9 i0 K h
        · replace h := h.2 c
          replace K := fun i ro uo z => K i ro uo (Or.inr ⟨c, z⟩)
          exact ⟨_, _, K i0 _ _ ⟨rfl, rfl⟩, h⟩
      · replace h := h.2 c
        replace K := fun i ro uo z => K i ro uo (Or.inr ⟨c, z⟩)
        exact ⟨_, _, K i0 _ _ ⟨rfl, rfl⟩, h⟩
set_option maxRecDepth 100000 in
theorem vw_run_J299 {ro : Int32} {uo : MS} {k165 k165v : MS → Int32 → Int32 → Nat → Int32 → Int32 → Prop} {U299 : MS} {t299_0 : Int32} {t299_1 : Int32} {v299_2 : Int32} {v299_3 : Int32} {v299_4 : Nat} {v299_6 : Int32} (hk165 : ∀ (u : MS) (z0 : Int32) (z1 : Int32) (z2 : Nat) (z3 : Int32) (z4 : Int32), k165v u z0 z1 z2 z3 z4 → k165 u z0 z1 z2 z3 z4) (h : v_run_J299 ro uo k165v U299 t299_0 t299_1 v299_2 v299_3 v299_4 v299_6) : w_run_J299 (fun r u => r = ro ∧ u = uo) k165 U299 t299_0 t299_1 v299_2 v299_3 v299_4 v299_6 := by
  unfold v_run_J299 at h
  unfold w_run_J299
  obtain ⟨v9, e9, h⟩ := h
  intro x9 d9
  have c9 : v9 = x9 := e9.trans d9.symm
  subst c9
  obtain ⟨v9, e9, h⟩ := h
  intro x9 d9
  have c9 : v9 = x9 := e9.trans d9.symm
  subst c9
  exact hk165 _ _ _ _ _ _ h
set_option maxRecDepth 100000 in
theorem vz_run_J299 {ro : Int32} {uo : MS} {Q : Int32 → MS → Prop} {k165 k165v : MS → Int32 → Int32 → Nat → Int32 → Int32 → Prop} {U299 : MS} {t299_0 : Int32} {t299_1 : Int32} {v299_2 : Int32} {v299_3 : Int32} {v299_4 : Nat} {v299_6 : Int32} (hk165 : ∀ (u : MS) (z0 : Int32) (z1 : Int32) (z2 : Nat) (z3 : Int32) (z4 : Int32), k165v u z0 z1 z2 z3 z4 → k165 u z0 z1 z2 z3 z4 → Q ro uo) (h : v_run_J299 ro uo k165v U299 t299_0 t299_1 v299_2 v299_3 v299_4 v299_6) (w : w_run_J299 Q k165 U299 t299_0 t299_1 v299_2 v299_3 v299_4 v299_6) : Q ro uo := by
  unfold v_run_J299 at h
  unfold w_run_J299 at w
  obtain ⟨v9, e9, h⟩ := h
  replace w := w v9 e9
  obtain ⟨v9, e9, h⟩ := h
  replace w := w v9 e9
  exact hk165 _ _ _ _ _ _ h w
set_option maxRecDepth 100000 in
theorem vw_run_J280 {ro : Int32} {uo : MS} {k165 k165v : MS → Int32 → Int32 → Nat → Int32 → Int32 → Prop} {U280 : MS} {v280_2 : Int32} {v280_3 : Int32} {v280_4 : Nat} {v280_5 : Int32} {v280_6 : Int32} (hk165 : ∀ (u : MS) (z0 : Int32) (z1 : Int32) (z2 : Nat) (z3 : Int32) (z4 : Int32), k165v u z0 z1 z2 z3 z4 → k165 u z0 z1 z2 z3 z4) (h : v_run_J280 ro uo k165v U280 v280_2 v280_3 v280_4 v280_5 v280_6) : w_run_J280 (fun r u => r = ro ∧ u = uo) k165 U280 v280_2 v280_3 v280_4 v280_5 v280_6 := by
  unfold v_run_J280 at h
  unfold w_run_J280
  obtain ⟨g9, h⟩ := h
  refine ⟨g9, ?_⟩
  rcases h with ⟨c, h⟩ | ⟨c, h⟩
  · refine ⟨fun _ => ?_, fun c2 => absurd c c2⟩
    exact vw_run_J299 hk165 h
  · refine ⟨fun c2 => absurd c2 c, fun _ => ?_⟩
    exact vw_run_J299 hk165 h
set_option maxRecDepth 100000 in
theorem vz_run_J280 {ro : Int32} {uo : MS} {Q : Int32 → MS → Prop} {k165 k165v : MS → Int32 → Int32 → Nat → Int32 → Int32 → Prop} {U280 : MS} {v280_2 : Int32} {v280_3 : Int32} {v280_4 : Nat} {v280_5 : Int32} {v280_6 : Int32} (hk165 : ∀ (u : MS) (z0 : Int32) (z1 : Int32) (z2 : Nat) (z3 : Int32) (z4 : Int32), k165v u z0 z1 z2 z3 z4 → k165 u z0 z1 z2 z3 z4 → Q ro uo) (h : v_run_J280 ro uo k165v U280 v280_2 v280_3 v280_4 v280_5 v280_6) (w : w_run_J280 Q k165 U280 v280_2 v280_3 v280_4 v280_5 v280_6) : Q ro uo := by
  unfold v_run_J280 at h
  unfold w_run_J280 at w
  replace h := h.2
  replace w := w.2
  rcases h with ⟨c, h⟩ | ⟨c, h⟩
  · replace w := w.1 c
    exact vz_run_J299 hk165 h w
  · replace w := w.2 c
    exact vz_run_J299 hk165 h w
set_option maxRecDepth 100000 in
theorem vw_run_J257 {ro : Int32} {uo : MS} {k165 k165v : MS → Int32 → Int32 → Nat → Int32 → Int32 → Prop} {U257 : MS} {t257_0 : Int32} {t257_1 : Int32} {v257_2 : Int32} {v257_3 : Int32} {v257_4 : Nat} {v257_5 : Int32} {v257_6 : Int32} (hk165 : ∀ (u : MS) (z0 : Int32) (z1 : Int32) (z2 : Nat) (z3 : Int32) (z4 : Int32), k165v u z0 z1 z2 z3 z4 → k165 u z0 z1 z2 z3 z4) (h : v_run_J257 ro uo k165v U257 t257_0 t257_1 v257_2 v257_3 v257_4 v257_5 v257_6) : w_run_J257 (fun r u => r = ro ∧ u = uo) k165 U257 t257_0 t257_1 v257_2 v257_3 v257_4 v257_5 v257_6 := by
  unfold v_run_J257 at h
  unfold w_run_J257
  obtain ⟨g9, h⟩ := h
  refine ⟨g9, ?_⟩
  obtain ⟨v9, e9, h⟩ := h
  intro x9 d9
  have c9 : v9 = x9 := e9.trans d9.symm
  subst c9
  obtain ⟨g9, h⟩ := h
  refine ⟨g9, ?_⟩
  rcases h with ⟨c, h⟩ | ⟨c, h⟩
  · refine ⟨fun _ => ?_, fun c2 => absurd c c2⟩
    obtain ⟨g9, h⟩ := h
    refine ⟨g9, ?_⟩
    obtain ⟨v9, e9, h⟩ := h
    intro x9 d9
    have c9 : v9 = x9 := e9.trans d9.symm
    subst c9
    exact vw_run_J280 hk165 h
  · refine ⟨fun c2 => absurd c2 c, fun _ => ?_⟩
    exact vw_run_J280 hk165 h
set_option maxRecDepth 100000 in
theorem vz_run_J257 {ro : Int32} {uo : MS} {Q : Int32 → MS → Prop} {k165 k165v : MS → Int32 → Int32 → Nat → Int32 → Int32 → Prop} {U257 : MS} {t257_0 : Int32} {t257_1 : Int32} {v257_2 : Int32} {v257_3 : Int32} {v257_4 : Nat} {v257_5 : Int32} {v257_6 : Int32} (hk165 : ∀ (u : MS) (z0 : Int32) (z1 : Int32) (z2 : Nat) (z3 : Int32) (z4 : Int32), k165v u z0 z1 z2 z3 z4 → k165 u z0 z1 z2 z3 z4 → Q ro uo) (h : v_run_J257 ro uo k165v U257 t257_0 t257_1 v257_2 v257_3 v257_4 v257_5 v257_6) (w : w_run_J257 Q k165 U257 t257_0 t257_1 v257_2 v257_3 v257_4 v257_5 v257_6) : Q ro uo := by
  unfold v_run_J257 at h
  unfold w_run_J257 at w
  replace h := h.2
  replace w := w.2
  obtain ⟨v9, e9, h⟩ := h
  replace w := w v9 e9
  replace h := h.2
  replace w := w.2
  rcases h with ⟨c, h⟩ | ⟨c, h⟩
  · replace w := w.1 c
    replace h := h.2
    replace w := w.2
    obtain ⟨v9, e9, h⟩ := h
    replace w := w v9 e9
    exact vz_run_J280 hk165 h w
  · replace w := w.2 c
    exact vz_run_J280 hk165 h w
set_option maxRecDepth 100000 in
theorem vw_run_J208 {ro : Int32} {uo : MS} {k165 k165v : MS → Int32 → Int32 → Nat → Int32 → Int32 → Prop} {U208 : MS} {t208_0 : Int64} {t208_1 : Int32} {v208_2 : Int32} {v208_3 : Int32} {v208_4 : Nat} {v208_5 : Int32} {v208_6 : Int32} (hk165 : ∀ (u : MS) (z0 : Int32) (z1 : Int32) (z2 : Nat) (z3 : Int32) (z4 : Int32), k165v u z0 z1 z2 z3 z4 → k165 u z0 z1 z2 z3 z4) (h : v_run_J208 ro uo k165v U208 t208_0 t208_1 v208_2 v208_3 v208_4 v208_5 v208_6) : w_run_J208 (fun r u => r = ro ∧ u = uo) k165 U208 t208_0 t208_1 v208_2 v208_3 v208_4 v208_5 v208_6 := by
  unfold v_run_J208 at h
  unfold w_run_J208
  obtain ⟨g9, h⟩ := h
  refine ⟨g9, ?_⟩
  obtain ⟨v9, e9, h⟩ := h
  intro x9 d9
  have c9 : v9 = x9 := e9.trans d9.symm
  subst c9
  obtain ⟨g9, h⟩ := h
  refine ⟨g9, ?_⟩
  rcases h with ⟨c, h⟩ | ⟨c, h⟩
  · refine ⟨fun _ => ?_, fun c2 => absurd c c2⟩
    exact vw_run_J257 hk165 h
  · refine ⟨fun c2 => absurd c2 c, fun _ => ?_⟩
    obtain ⟨g9, h⟩ := h
    refine ⟨g9, ?_⟩
    rcases h with ⟨c, h⟩ | ⟨c, h⟩
    · refine ⟨fun _ => ?_, fun c2 => absurd c c2⟩
      exact vw_run_J257 hk165 h
    · refine ⟨fun c2 => absurd c2 c, fun _ => ?_⟩
      obtain ⟨g9, h⟩ := h
      refine ⟨g9, ?_⟩
      obtain ⟨g9, h⟩ := h
      refine ⟨g9, ?_⟩
      exact vw_run_J257 hk165 h
set_option maxRecDepth 100000 in
theorem vz_run_J208 {ro : Int32} {uo : MS} {Q : Int32 → MS → Prop} {k165 k165v : MS → Int32 → Int32 → Nat → Int32 → Int32 → Prop} {U208 : MS} {t208_0 : Int64} {t208_1 : Int32} {v208_2 : Int32} {v208_3 : Int32} {v208_4 : Nat} {v208_5 : Int32} {v208_6 : Int32} (hk165 : ∀ (u : MS) (z0 : Int32) (z1 : Int32) (z2 : Nat) (z3 : Int32) (z4 : Int32), k165v u z0 z1 z2 z3 z4 → k165 u z0 z1 z2 z3 z4 → Q ro uo) (h : v_run_J208 ro uo k165v U208 t208_0 t208_1 v208_2 v208_3 v208_4 v208_5 v208_6) (w : w_run_J208 Q k165 U208 t208_0 t208_1 v208_2 v208_3 v208_4 v208_5 v208_6) : Q ro uo := by
  unfold v_run_J208 at h
  unfold w_run_J208 at w
  replace h := h.2
  replace w := w.2
  obtain ⟨v9, e9, h⟩ := h
  replace w := w v9 e9
  replace h := h.2
  replace w := w.2
  rcases h with ⟨c, h⟩ | ⟨c, h⟩
  · replace w := w.1 c
    exact vz_run_J257 hk165 h w
  · replace w := w.2 c
    replace h := h.2
    replace w := w.2
    rcases h with ⟨c, h⟩ | ⟨c, h⟩
    · replace w := w.1 c
      exact vz_run_J257 hk165 h w
    · replace w := w.2 c
      replace h := h.2
      replace w := w.2
      replace h := h.2
      replace w := w.2
      exact vz_run_J257 hk165 h w
set_option maxRecDepth 100000 in
theorem vw_run_J109 {ro : Int32} {uo : MS} {k60 k60v : MS → Int32 → Int32 → Int32 → Nat → Int32 → Prop} {U109 : MS} {v109_1 : Int32} {v109_2 : Int32} {v109_3 : Int32} {v109_4 : Nat} {v109_5 : Int32} (hk60 : ∀ (u : MS) (z0 : Int32) (z1 : Int32) (z2 : Int32) (z3 : Nat) (z4 : Int32), k60v u z0 z1 z2 z3 z4 → k60 u z0 z1 z2 z3 z4) (h : v_run_J109 ro uo k60v U109 v109_1 v109_2 v109_3 v109_4 v109_5) : w_run_J109 (fun r u => r = ro ∧ u = uo) k60 U109 v109_1 v109_2 v109_3 v109_4 v109_5 := by
  unfold v_run_J109 at h
  unfold w_run_J109
  obtain ⟨v9, e9, h⟩ := h
  intro x9 d9
  have c9 : v9 = x9 := e9.trans d9.symm
  subst c9
  exact hk60 _ _ _ _ _ _ h
set_option maxRecDepth 100000 in
theorem vz_run_J109 {ro : Int32} {uo : MS} {Q : Int32 → MS → Prop} {k60 k60v : MS → Int32 → Int32 → Int32 → Nat → Int32 → Prop} {U109 : MS} {v109_1 : Int32} {v109_2 : Int32} {v109_3 : Int32} {v109_4 : Nat} {v109_5 : Int32} (hk60 : ∀ (u : MS) (z0 : Int32) (z1 : Int32) (z2 : Int32) (z3 : Nat) (z4 : Int32), k60v u z0 z1 z2 z3 z4 → k60 u z0 z1 z2 z3 z4 → Q ro uo) (h : v_run_J109 ro uo k60v U109 v109_1 v109_2 v109_3 v109_4 v109_5) (w : w_run_J109 Q k60 U109 v109_1 v109_2 v109_3 v109_4 v109_5) : Q ro uo := by
  unfold v_run_J109 at h
  unfold w_run_J109 at w
  obtain ⟨v9, e9, h⟩ := h
  replace w := w v9 e9
  exact hk60 _ _ _ _ _ _ h w
set_option maxRecDepth 100000 in
theorem vw_run_L308 {ro : Int32} {uo : MS} : ∀ (n : Nat) {U308 : MS} {v308_2 : Int32}, v_run_L308 ro uo n U308 v308_2 → w_run_L308 (fun r u => r = ro ∧ u = uo) n U308 v308_2 := by
  intro n
  induction n with
  | zero => intro U308 v308_2 h; unfold v_run_L308 at h; exact h.elim
  | succ n ih =>
    intro U308 v308_2 h
    unfold v_run_L308 at h
    unfold w_run_L308
    rcases h with ⟨c, h⟩ | ⟨c, h⟩
    · refine ⟨fun _ => ?_, fun c2 => absurd c c2⟩
      rcases h with ⟨c, h⟩ | ⟨c, h⟩
      · refine ⟨fun _ => ?_, fun c2 => absurd c c2⟩
        exact ⟨h.1.symm, h.2.symm⟩
      · refine ⟨fun c2 => absurd c2 c, fun _ => ?_⟩
        obtain ⟨v9, e9, h⟩ := h
        intro x9 d9
        have c9 : v9 = x9 := e9.trans d9.symm
        subst c9
        exact ⟨h.1.symm, h.2.symm⟩
    · refine ⟨fun c2 => absurd c2 c, fun _ => ?_⟩
      rcases h with ⟨c, h⟩ | ⟨c, h⟩
      · refine ⟨fun _ => ?_, fun c2 => absurd c c2⟩
        obtain ⟨v9, e9, h⟩ := h
        intro x9 d9
        have c9 : v9 = x9 := e9.trans d9.symm
        subst c9
        exact ih h
      · refine ⟨fun c2 => absurd c2 c, fun _ => ?_⟩
        obtain ⟨v9, e9, h⟩ := h
        intro x9 d9
        have c9 : v9 = x9 := e9.trans d9.symm
        subst c9
        obtain ⟨q9, z9, h⟩ := h
        refine ⟨_, vw_step z9, ?_⟩
        intro q8 d9
        subst d9
        exact ih h
set_option maxRecDepth 100000 in
theorem vz_run_L308 {ro : Int32} {uo : MS} {Q : Int32 → MS → Prop} : ∀ (n m : Nat) {U308 : MS} {v308_2 : Int32}, v_run_L308 ro uo n U308 v308_2 → w_run_L308 Q m U308 v308_2 → Q ro uo := by
  intro n
  induction n with
  | zero => intro m U308 v308_2 h; unfold v_run_L308 at h; exact h.elim
  | succ n ih =>
    intro m U308 v308_2 h w
    cases m with
    | zero => unfold w_run_L308 at w; exact w.elim
    | succ m =>
      unfold v_run_L308 at h
      unfold w_run_L308 at w
      rcases h with ⟨c, h⟩ | ⟨c, h⟩
      · replace w := w.1 c
        rcases h with ⟨c, h⟩ | ⟨c, h⟩
        · replace w := w.1 c
          rw [h.1, h.2]
          exact w
        · replace w := w.2 c
          obtain ⟨v9, e9, h⟩ := h
          replace w := w v9 e9
          rw [h.1, h.2]
          exact w
      · replace w := w.2 c
        rcases h with ⟨c, h⟩ | ⟨c, h⟩
        · replace w := w.1 c
          obtain ⟨v9, e9, h⟩ := h
          replace w := w v9 e9
          exact ih m h w
        · replace w := w.2 c
          obtain ⟨v9, e9, h⟩ := h
          replace w := w v9 e9
          obtain ⟨q9, z9, h⟩ := h
          obtain ⟨Q9, w0, w⟩ := w
          replace w := w q9 (vz_step z9 w0)
          exact ih m h w
set_option maxRecDepth 100000 in
theorem vw_run_L165 {ro : Int32} {uo : MS} : ∀ (n : Nat) {U165 : MS} {v165_2 : Int32} {v165_3 : Int32} {v165_4 : Nat} {v165_5 : Int32} {v165_6 : Int32}, v_run_L165 ro uo n U165 v165_2 v165_3 v165_4 v165_5 v165_6 → w_run_L165 (fun r u => r = ro ∧ u = uo) n U165 v165_2 v165_3 v165_4 v165_5 v165_6 := by
  intro n
  induction n with
  | zero => intro U165 v165_2 v165_3 v165_4 v165_5 v165_6 h; unfold v_run_L165 at h; exact h.elim
  | succ n ih =>
    intro U165 v165_2 v165_3 v165_4 v165_5 v165_6 h
    unfold v_run_L165 at h
    unfold w_run_L165
    rcases h with ⟨c, h⟩ | ⟨c, h⟩
    · refine ⟨fun _ => ?_, fun c2 => absurd c c2⟩
      obtain ⟨n9, h⟩ := h
      exact ⟨n9, vw_run_L308 n9 h⟩
    · refine ⟨fun c2 => absurd c2 c, fun _ => ?_⟩
      obtain ⟨g9, h⟩ := h
      refine ⟨g9, ?_⟩
      rcases h with ⟨c, h⟩ | ⟨c, h⟩
      · refine ⟨fun _ => ?_, fun c2 => absurd c c2⟩
        obtain ⟨g9, h⟩ := h
        refine ⟨g9, ?_⟩
        exact vw_run_J208 (fun _ _ _ _ _ _ h => ih h) h
      · refine ⟨fun c2 => absurd c2 c, fun _ => ?_⟩
        obtain ⟨g9, h⟩ := h
        refine ⟨g9, ?_⟩
        exact vw_run_J208 (fun _ _ _ _ _ _ h => ih h) h
set_option maxRecDepth 100000 in
theorem vz_run_L165 {ro : Int32} {uo : MS} {Q : Int32 → MS → Prop} : ∀ (n m : Nat) {U165 : MS} {v165_2 : Int32} {v165_3 : Int32} {v165_4 : Nat} {v165_5 : Int32} {v165_6 : Int32}, v_run_L165 ro uo n U165 v165_2 v165_3 v165_4 v165_5 v165_6 → w_run_L165 Q m U165 v165_2 v165_3 v165_4 v165_5 v165_6 → Q ro uo := by
  intro n
  induction n with
  | zero => intro m U165 v165_2 v165_3 v165_4 v165_5 v165_6 h; unfold v_run_L165 at h; exact h.elim
  | succ n ih =>
    intro m U165 v165_2 v165_3 v165_4 v165_5 v165_6 h w
    cases m with
    | zero => unfold w_run_L165 at w; exact w.elim
    | succ m =>
      unfold v_run_L165 at h
      unfold w_run_L165 at w
      rcases h with ⟨c, h⟩ | ⟨c, h⟩
      · replace w := w.1 c
        obtain ⟨n9, h⟩ := h
        obtain ⟨n8, w⟩ := w
        exact vz_run_L308 n9 n8 h w
      · replace w := w.2 c
        replace h := h.2
        replace w := w.2
        rcases h with ⟨c, h⟩ | ⟨c, h⟩
        · replace w := w.1 c
          replace h := h.2
          replace w := w.2
          exact vz_run_J208 (fun _ _ _ _ _ _ h w => ih m h w) h w
        · replace w := w.2 c
          replace h := h.2
          replace w := w.2
          exact vz_run_J208 (fun _ _ _ _ _ _ h w => ih m h w) h w
set_option maxRecDepth 100000 in
theorem vw_run_L60 {ro : Int32} {uo : MS} : ∀ (n : Nat) {U60 : MS} {v60_1 : Int32} {v60_2 : Int32} {v60_3 : Int32} {v60_4 : Nat} {v60_5 : Int32}, v_run_L60 ro uo n U60 v60_1 v60_2 v60_3 v60_4 v60_5 → w_run_L60 (fun r u => r = ro ∧ u = uo) n U60 v60_1 v60_2 v60_3 v60_4 v60_5 := by
  intro n
  induction n with
  | zero => intro U60 v60_1 v60_2 v60_3 v60_4 v60_5 h; unfold v_run_L60 at h; exact h.elim
  | succ n ih =>
    intro U60 v60_1 v60_2 v60_3 v60_4 v60_5 h
    unfold v_run_L60 at h
    unfold w_run_L60
    rcases h with ⟨c, h⟩ | ⟨c, h⟩
    · refine ⟨fun _ => ?_, fun c2 => absurd c c2⟩
      rcases h with ⟨c, h⟩ | ⟨c, h⟩
      · refine ⟨fun _ => ?_, fun c2 => absurd c c2⟩
        exact ⟨h.1.symm, h.2.symm⟩
      · refine ⟨fun c2 => absurd c2 c, fun _ => ?_⟩
        rcases h with ⟨c, h⟩ | ⟨c, h⟩
        · refine ⟨fun _ => ?_, fun c2 => absurd c c2⟩
          obtain ⟨v9, e9, h⟩ := h
          intro x9 d9
          have c9 : v9 = x9 := e9.trans d9.symm
          subst c9
          obtain ⟨v9, e9, h⟩ := h
          intro x9 d9
          have c9 : v9 = x9 := e9.trans d9.symm
          subst c9
          obtain ⟨v9, e9, h⟩ := h
          intro x9 d9
          have c9 : v9 = x9 := e9.trans d9.symm
          subst c9
          obtain ⟨v9, e9, h⟩ := h
          intro x9 d9
          have c9 : v9 = x9 := e9.trans d9.symm
          subst c9
          obtain ⟨v9, e9, h⟩ := h
          intro x9 d9
          have c9 : v9 = x9 := e9.trans d9.symm
          subst c9
          obtain ⟨q9, z9, h⟩ := h
          refine ⟨_, vw_enter z9, ?_⟩
          intro q8 d9
          subst d9
          obtain ⟨n9, h⟩ := h
          exact ⟨n9, vw_run_L165 n9 h⟩
        · refine ⟨fun c2 => absurd c2 c, fun _ => ?_⟩
          exact ⟨h.1.symm, h.2.symm⟩
    · refine ⟨fun c2 => absurd c2 c, fun _ => ?_⟩
      obtain ⟨g9, h⟩ := h
      refine ⟨g9, ?_⟩
      rcases h with ⟨c, h⟩ | ⟨c, h⟩
      · refine ⟨fun _ => ?_, fun c2 => absurd c c2⟩
        obtain ⟨g9, h⟩ := h
        refine ⟨g9, ?_⟩
        rcases h with ⟨c, h⟩ | ⟨c, h⟩
        · refine ⟨fun _ => ?_, fun c2 => absurd c c2⟩
          exact ⟨h.1.symm, h.2.symm⟩
        · refine ⟨fun c2 => absurd c2 c, fun _ => ?_⟩
          obtain ⟨g9, h⟩ := h
          refine ⟨g9, ?_⟩
          rcases h with ⟨c, h⟩ | ⟨c, h⟩
          · refine ⟨fun _ => ?_, fun c2 => absurd c c2⟩
            exact vw_run_J109 (fun _ _ _ _ _ _ h => ih h) h
          · refine ⟨fun c2 => absurd c2 c, fun _ => ?_⟩
            exact ⟨h.1.symm, h.2.symm⟩
      · refine ⟨fun c2 => absurd c2 c, fun _ => ?_⟩
        exact vw_run_J109 (fun _ _ _ _ _ _ h => ih h) h
set_option maxRecDepth 100000 in
theorem vz_run_L60 {ro : Int32} {uo : MS} {Q : Int32 → MS → Prop} : ∀ (n m : Nat) {U60 : MS} {v60_1 : Int32} {v60_2 : Int32} {v60_3 : Int32} {v60_4 : Nat} {v60_5 : Int32}, v_run_L60 ro uo n U60 v60_1 v60_2 v60_3 v60_4 v60_5 → w_run_L60 Q m U60 v60_1 v60_2 v60_3 v60_4 v60_5 → Q ro uo := by
  intro n
  induction n with
  | zero => intro m U60 v60_1 v60_2 v60_3 v60_4 v60_5 h; unfold v_run_L60 at h; exact h.elim
  | succ n ih =>
    intro m U60 v60_1 v60_2 v60_3 v60_4 v60_5 h w
    cases m with
    | zero => unfold w_run_L60 at w; exact w.elim
    | succ m =>
      unfold v_run_L60 at h
      unfold w_run_L60 at w
      rcases h with ⟨c, h⟩ | ⟨c, h⟩
      · replace w := w.1 c
        rcases h with ⟨c, h⟩ | ⟨c, h⟩
        · replace w := w.1 c
          rw [h.1, h.2]
          exact w
        · replace w := w.2 c
          rcases h with ⟨c, h⟩ | ⟨c, h⟩
          · replace w := w.1 c
            obtain ⟨v9, e9, h⟩ := h
            replace w := w v9 e9
            obtain ⟨v9, e9, h⟩ := h
            replace w := w v9 e9
            obtain ⟨v9, e9, h⟩ := h
            replace w := w v9 e9
            obtain ⟨v9, e9, h⟩ := h
            replace w := w v9 e9
            obtain ⟨v9, e9, h⟩ := h
            replace w := w v9 e9
            obtain ⟨q9, z9, h⟩ := h
            obtain ⟨Q9, w0, w⟩ := w
            replace w := w q9 (vz_enter z9 w0)
            obtain ⟨n9, h⟩ := h
            obtain ⟨n8, w⟩ := w
            exact vz_run_L165 n9 n8 h w
          · replace w := w.2 c
            rw [h.1, h.2]
            exact w
      · replace w := w.2 c
        replace h := h.2
        replace w := w.2
        rcases h with ⟨c, h⟩ | ⟨c, h⟩
        · replace w := w.1 c
          replace h := h.2
          replace w := w.2
          rcases h with ⟨c, h⟩ | ⟨c, h⟩
          · replace w := w.1 c
            rw [h.1, h.2]
            exact w
          · replace w := w.2 c
            replace h := h.2
            replace w := w.2
            rcases h with ⟨c, h⟩ | ⟨c, h⟩
            · replace w := w.1 c
              exact vz_run_J109 (fun _ _ _ _ _ _ h w => ih m h w) h w
            · replace w := w.2 c
              rw [h.1, h.2]
              exact w
        · replace w := w.2 c
          exact vz_run_J109 (fun _ _ _ _ _ _ h w => ih m h w) h w
set_option maxRecDepth 100000 in
theorem vw_run {S : MS} {x1 : Int32} {x2 : Int32} {ro : Int32} {uo : MS} (h : v_run S x1 x2 ro uo) : w_run S x1 x2 (fun r u => r = ro ∧ u = uo) := by
  unfold v_run at h
  unfold w_run
  obtain ⟨v9, e9, h⟩ := h
  intro x9 d9
  have c9 : v9 = x9 := e9.trans d9.symm
  subst c9
  obtain ⟨v9, e9, h⟩ := h
  intro x9 d9
  have c9 : v9 = x9 := e9.trans d9.symm
  subst c9
  rcases h with ⟨c, h⟩ | ⟨c, h⟩
  · refine ⟨fun _ => ?_, fun c2 => absurd c c2⟩
    exact ⟨h.1.symm, h.2.symm⟩
  · refine ⟨fun c2 => absurd c2 c, fun _ => ?_⟩
    rcases h with ⟨c, h⟩ | ⟨c, h⟩
    · refine ⟨fun _ => ?_, fun c2 => absurd c c2⟩
      exact ⟨h.1.symm, h.2.symm⟩
    · refine ⟨fun c2 => absurd c2 c, fun _ => ?_⟩
      obtain ⟨g9, h⟩ := h
      refine ⟨g9, ?_⟩
      rcases h with ⟨c, h⟩ | ⟨c, h⟩
      · refine ⟨fun _ => ?_, fun c2 => absurd c c2⟩
        obtain ⟨g9, h⟩ := h
        refine ⟨g9, ?_⟩
        obtain ⟨g9, h⟩ := h
        refine ⟨g9, ?_⟩
        obtain ⟨g9, h⟩ := h
        refine ⟨g9, ?_⟩
        obtain ⟨g9, h⟩ := h
        refine ⟨g9, ?_⟩
        rcases h with ⟨c, h⟩ | ⟨c, h⟩
        · refine ⟨fun _ => ?_, fun c2 => absurd c c2⟩
          obtain ⟨n9, h⟩ := h
          exact ⟨n9, vw_run_L60 n9 h⟩
        · refine ⟨fun c2 => absurd c2 c, fun _ => ?_⟩
          exact ⟨h.1.symm, h.2.symm⟩
      · refine ⟨fun c2 => absurd c2 c, fun _ => ?_⟩
        exact ⟨h.1.symm, h.2.symm⟩
set_option maxRecDepth 100000 in
theorem vz_run {S : MS} {x1 : Int32} {x2 : Int32} {ro : Int32} {uo : MS} {Q : Int32 → MS → Prop} (h : v_run S x1 x2 ro uo) (w : w_run S x1 x2 Q) : Q ro uo := by
  unfold v_run at h
  unfold w_run at w
  obtain ⟨v9, e9, h⟩ := h
  replace w := w v9 e9
  obtain ⟨v9, e9, h⟩ := h
  replace w := w v9 e9
  rcases h with ⟨c, h⟩ | ⟨c, h⟩
  · replace w := w.1 c
    rw [h.1, h.2]
    exact w
  · replace w := w.2 c
    rcases h with ⟨c, h⟩ | ⟨c, h⟩
    · replace w := w.1 c
      rw [h.1, h.2]
      exact w
    · replace w := w.2 c
      replace h := h.2
      replace w := w.2
      rcases h with ⟨c, h⟩ | ⟨c, h⟩
      · replace w := w.1 c
        replace h := h.2
        replace w := w.2
        replace h := h.2
        replace w := w.2
        replace h := h.2
        replace w := w.2
        replace h := h.2
        replace w := w.2
        rcases h with ⟨c, h⟩ | ⟨c, h⟩
        · replace w := w.1 c
          obtain ⟨n9, h⟩ := h
          obtain ⟨n8, w⟩ := w
          exact vz_run_L60 n9 n8 h w
        · replace w := w.2 c
          rw [h.1, h.2]
          exact w
      · replace w := w.2 c
        rw [h.1, h.2]
        exact w
def v_size (S : MS) (x1 : Int32) (x2 : Int32) (ro : Int32) (uo : MS) : Prop := (∃ (b5 : Option Nat) (S3 : MS), v_fileAt S x1 b5 S3 ∧ ((b5 = none ∧ (ro = (-1 : Int32) ∧ uo = S3)) ∨ (¬ b5 = none ∧ ((x2.toInt = 0 ∧ (ro = (qI S3 ((b5).getD 0) 3) ∧ uo = S3)) ∨ (¬ x2.toInt = 0 ∧ ((x2.toInt = 1 ∧ (ro = (qI S3 ((b5).getD 0) 4) ∧ uo = S3)) ∨ (¬ x2.toInt = 1 ∧ ((x2.toInt = 2 ∧ (ro = (qI S3 ((b5).getD 0) 2) ∧ uo = S3)) ∨ (¬ x2.toInt = 2 ∧ ((x2.toInt = 3 ∧ ((qR S3 ((b5).getD 0) 18 = some (qO S3 ((b5).getD 0) 18)) ∧ (ro = ((Int32.ofNat (qN S3 (qO S3 ((b5).getD 0) 18))) / (3 : Int32)) ∧ uo = S3))) ∨ (¬ x2.toInt = 3 ∧ (ro = (-1 : Int32) ∧ uo = S3))))))))))))
set_option maxRecDepth 100000 in
theorem ru_size {S : MS} {x1 : Int32} {x2 : Int32} {Q : Int32 → MS → Prop} (h : w_size S x1 x2 Q) : ∃ ro uo, v_size S x1 x2 ro uo ∧ Q ro uo := by
  have i0 : Unit := ()
  have K : ∀ (i : Unit) (ro : Int32) (uo : MS), v_size S x1 x2 ro uo → v_size S x1 x2 ro uo := fun _ _ _ z => z
  unfold w_size at h
  obtain ⟨Q9, h0, h⟩ := h
  obtain ⟨b5, S3, z9, g9⟩ := ru_fileAt h0
  replace h := h b5 S3 g9
  replace K := fun i ro uo z => K i ro uo ⟨b5, S3, z9, z⟩
  by_cases c : b5 = none
  · replace h := h.1 c
    replace K := fun i ro uo z => K i ro uo (Or.inl ⟨c, z⟩)
    exact ⟨_, _, K i0 _ _ ⟨rfl, rfl⟩, h⟩
  · replace h := h.2 c
    replace K := fun i ro uo z => K i ro uo (Or.inr ⟨c, z⟩)
    by_cases c : x2.toInt = 0
    · replace h := h.1 c
      replace K := fun i ro uo z => K i ro uo (Or.inl ⟨c, z⟩)
      exact ⟨_, _, K i0 _ _ ⟨rfl, rfl⟩, h⟩
    · replace h := h.2 c
      replace K := fun i ro uo z => K i ro uo (Or.inr ⟨c, z⟩)
      by_cases c : x2.toInt = 1
      · replace h := h.1 c
        replace K := fun i ro uo z => K i ro uo (Or.inl ⟨c, z⟩)
        exact ⟨_, _, K i0 _ _ ⟨rfl, rfl⟩, h⟩
      · replace h := h.2 c
        replace K := fun i ro uo z => K i ro uo (Or.inr ⟨c, z⟩)
        by_cases c : x2.toInt = 2
        · replace h := h.1 c
          replace K := fun i ro uo z => K i ro uo (Or.inl ⟨c, z⟩)
          exact ⟨_, _, K i0 _ _ ⟨rfl, rfl⟩, h⟩
        · replace h := h.2 c
          replace K := fun i ro uo z => K i ro uo (Or.inr ⟨c, z⟩)
          by_cases c : x2.toInt = 3
          · replace h := h.1 c
            replace K := fun i ro uo z => K i ro uo (Or.inl ⟨c, z⟩)
            obtain ⟨g1_, h⟩ := h
            replace K := fun i ro uo z => K i ro uo ⟨g1_, z⟩
            exact ⟨_, _, K i0 _ _ ⟨rfl, rfl⟩, h⟩
          · replace h := h.2 c
            replace K := fun i ro uo z => K i ro uo (Or.inr ⟨c, z⟩)
            exact ⟨_, _, K i0 _ _ ⟨rfl, rfl⟩, h⟩
set_option maxRecDepth 100000 in
theorem vw_size {S : MS} {x1 : Int32} {x2 : Int32} {ro : Int32} {uo : MS} (h : v_size S x1 x2 ro uo) : w_size S x1 x2 (fun r u => r = ro ∧ u = uo) := by
  unfold v_size at h
  unfold w_size
  obtain ⟨p9, q9, z9, h⟩ := h
  refine ⟨_, vw_fileAt z9, ?_⟩
  rintro p8 q8 ⟨d8, d9⟩
  subst d8
  subst d9
  rcases h with ⟨c, h⟩ | ⟨c, h⟩
  · refine ⟨fun _ => ?_, fun c2 => absurd c c2⟩
    exact ⟨h.1.symm, h.2.symm⟩
  · refine ⟨fun c2 => absurd c2 c, fun _ => ?_⟩
    rcases h with ⟨c, h⟩ | ⟨c, h⟩
    · refine ⟨fun _ => ?_, fun c2 => absurd c c2⟩
      exact ⟨h.1.symm, h.2.symm⟩
    · refine ⟨fun c2 => absurd c2 c, fun _ => ?_⟩
      rcases h with ⟨c, h⟩ | ⟨c, h⟩
      · refine ⟨fun _ => ?_, fun c2 => absurd c c2⟩
        exact ⟨h.1.symm, h.2.symm⟩
      · refine ⟨fun c2 => absurd c2 c, fun _ => ?_⟩
        rcases h with ⟨c, h⟩ | ⟨c, h⟩
        · refine ⟨fun _ => ?_, fun c2 => absurd c c2⟩
          exact ⟨h.1.symm, h.2.symm⟩
        · refine ⟨fun c2 => absurd c2 c, fun _ => ?_⟩
          rcases h with ⟨c, h⟩ | ⟨c, h⟩
          · refine ⟨fun _ => ?_, fun c2 => absurd c c2⟩
            obtain ⟨g9, h⟩ := h
            refine ⟨g9, ?_⟩
            exact ⟨h.1.symm, h.2.symm⟩
          · refine ⟨fun c2 => absurd c2 c, fun _ => ?_⟩
            exact ⟨h.1.symm, h.2.symm⟩
set_option maxRecDepth 100000 in
theorem vz_size {S : MS} {x1 : Int32} {x2 : Int32} {ro : Int32} {uo : MS} {Q : Int32 → MS → Prop} (h : v_size S x1 x2 ro uo) (w : w_size S x1 x2 Q) : Q ro uo := by
  unfold v_size at h
  unfold w_size at w
  obtain ⟨p9, q9, z9, h⟩ := h
  obtain ⟨Q9, w0, w⟩ := w
  replace w := w p9 q9 (vz_fileAt z9 w0)
  rcases h with ⟨c, h⟩ | ⟨c, h⟩
  · replace w := w.1 c
    rw [h.1, h.2]
    exact w
  · replace w := w.2 c
    rcases h with ⟨c, h⟩ | ⟨c, h⟩
    · replace w := w.1 c
      rw [h.1, h.2]
      exact w
    · replace w := w.2 c
      rcases h with ⟨c, h⟩ | ⟨c, h⟩
      · replace w := w.1 c
        rw [h.1, h.2]
        exact w
      · replace w := w.2 c
        rcases h with ⟨c, h⟩ | ⟨c, h⟩
        · replace w := w.1 c
          rw [h.1, h.2]
          exact w
        · replace w := w.2 c
          rcases h with ⟨c, h⟩ | ⟨c, h⟩
          · replace w := w.1 c
            replace h := h.2
            replace w := w.2
            rw [h.1, h.2]
            exact w
          · replace w := w.2 c
            rw [h.1, h.2]
            exact w
def v_stage_L43 (ro : Int32) (uo : MS) : Nat → MS → Int32 → Prop
  | 0, _, _ => False
  | n43 + 1, U43, v43_2 => ((20000 ≤ v43_2.toInt ∧ (∃ S12 : MS, S12 = wI U43 0 85 0 ∧ (∃ S13 : MS, S13 = wI S12 0 86 0 ∧ (ro = (1 : Int32) ∧ uo = S13)))) ∨ (¬ 20000 ≤ v43_2.toInt ∧ (((0 : Int) ≤ v43_2.toInt ∧ v43_2.toInt < 20000) ∧ (∃ S15 : MS, S15 = wI U43 38 v43_2.toInt.toNat (0 : Int32) ∧ (∃ a16 : Int32, a16 = (v43_2 + Int32.ofInt 1) ∧ ((v_stage_L43 ro uo n43) S15 a16))))))
def v_stage_L22 (ro : Int32) (uo : MS) : Nat → MS → Int32 → Prop
  | 0, _, _ => False
  | n22 + 1, U22, v22_2 => ((24 ≤ v22_2.toInt ∧ (∃ n, v_stage_L43 ro uo n U22 0)) ∨ (¬ 24 ≤ v22_2.toInt ∧ (((0 : Int) ≤ v22_2.toInt ∧ v22_2.toInt < 24) ∧ (∃ S18 : MS, S18 = wJ U22 37 v22_2.toInt.toNat 0 ∧ (∃ a19 : Int32, a19 = (v22_2 + Int32.ofInt 1) ∧ ((v_stage_L22 ro uo n22) S18 a19))))))
def v_stage (S : MS) (x1 : Int32) (ro : Int32) (uo : MS) : Prop := (∃ (r2 : Int32) (S3 : MS), v_isRight S x1 r2 S3 ∧ ((r2.toInt = 0 ∧ (ro = (0 : Int32) ∧ uo = S3)) ∨ (¬ r2.toInt = 0 ∧ (((0 : Int) ≤ x1.toInt ∧ x1.toInt < 12) ∧ ((qR S3 1 x1.toInt.toNat = some (qO S3 1 x1.toInt.toNat)) ∧ (∃ S9 : MS, S9 = wR S3 0 80 (some (qO S3 1 x1.toInt.toNat)) ∧ (∃ n, v_stage_L22 ro uo n S9 0)))))))
set_option maxRecDepth 100000 in
theorem ru_stage_L43 {ι : Type} {P : Int32 → MS → Prop} {Q : Int32 → MS → Prop} : ∀ (n : Nat) {U43 : MS} {v43_2 : Int32} (i0 : ι), (∀ (i : ι) (ro : Int32) (uo : MS), (∃ n8, v_stage_L43 ro uo n8 U43 v43_2) → P ro uo) → w_stage_L43 Q n U43 v43_2 → ∃ ro uo, P ro uo ∧ Q ro uo := by
  intro n
  induction n with
  | zero => intro U43 v43_2 i0 K h; unfold w_stage_L43 at h; exact h.elim
  | succ n ih =>
    intro U43 v43_2 i0 K h
    unfold w_stage_L43 at h
    replace K := fun (i : ι × Nat) ro uo (z : v_stage_L43 ro uo (i.2 + 1) U43 v43_2) => K i.1 ro uo ⟨i.2 + 1, z⟩
    have i00 := i0
    replace i0 : ι × Nat := (i0, 0)
    by_cases c : 20000 ≤ v43_2.toInt
    · replace h := h.1 c
      replace K := fun i ro uo z => K i ro uo (Or.inl ⟨c, z⟩)
      obtain ⟨S12, eS12⟩ : ∃ x9 : MS, x9 = wI U43 0 85 0 := ⟨_, rfl⟩
      replace h := h S12 eS12
      replace K := fun i ro uo z => K i ro uo ⟨S12, eS12, z⟩
      obtain ⟨S13, eS13⟩ : ∃ x9 : MS, x9 = wI S12 0 86 0 := ⟨_, rfl⟩
      replace h := h S13 eS13
      replace K := fun i ro uo z => K i ro uo ⟨S13, eS13, z⟩
      exact ⟨_, _, K i0 _ _ ⟨rfl, rfl⟩, h⟩
    · replace h := h.2 c
      replace K := fun i ro uo z => K i ro uo (Or.inr ⟨c, z⟩)
      obtain ⟨g1_, h⟩ := h
      replace K := fun i ro uo z => K i ro uo ⟨g1_, z⟩
      obtain ⟨S15, eS15⟩ : ∃ x9 : MS, x9 = wI U43 38 v43_2.toInt.toNat (0 : Int32) := ⟨_, rfl⟩
      replace h := h S15 eS15
      replace K := fun i ro uo z => K i ro uo ⟨S15, eS15, z⟩
      obtain ⟨a16, ea16⟩ : ∃ x9 : Int32, x9 = (v43_2 + Int32.ofInt 1) := ⟨_, rfl⟩
      replace h := h a16 ea16
      replace K := fun i ro uo z => K i ro uo ⟨a16, ea16, z⟩
      exact ih i00 (fun i ro uo ⟨n8, z⟩ => K (i, n8) ro uo z) h
set_option maxRecDepth 100000 in
theorem ru_stage_L22 {ι : Type} {P : Int32 → MS → Prop} {Q : Int32 → MS → Prop} : ∀ (n : Nat) {U22 : MS} {v22_2 : Int32} (i0 : ι), (∀ (i : ι) (ro : Int32) (uo : MS), (∃ n8, v_stage_L22 ro uo n8 U22 v22_2) → P ro uo) → w_stage_L22 Q n U22 v22_2 → ∃ ro uo, P ro uo ∧ Q ro uo := by
  intro n
  induction n with
  | zero => intro U22 v22_2 i0 K h; unfold w_stage_L22 at h; exact h.elim
  | succ n ih =>
    intro U22 v22_2 i0 K h
    unfold w_stage_L22 at h
    replace K := fun (i : ι × Nat) ro uo (z : v_stage_L22 ro uo (i.2 + 1) U22 v22_2) => K i.1 ro uo ⟨i.2 + 1, z⟩
    have i00 := i0
    replace i0 : ι × Nat := (i0, 0)
    by_cases c : 24 ≤ v22_2.toInt
    · replace h := h.1 c
      replace K := fun i ro uo z => K i ro uo (Or.inl ⟨c, z⟩)
      obtain ⟨n9, h⟩ := h
      exact ru_stage_L43 n9 i0 K h
    · replace h := h.2 c
      replace K := fun i ro uo z => K i ro uo (Or.inr ⟨c, z⟩)
      obtain ⟨g2_, h⟩ := h
      replace K := fun i ro uo z => K i ro uo ⟨g2_, z⟩
      obtain ⟨S18, eS18⟩ : ∃ x9 : MS, x9 = wJ U22 37 v22_2.toInt.toNat 0 := ⟨_, rfl⟩
      replace h := h S18 eS18
      replace K := fun i ro uo z => K i ro uo ⟨S18, eS18, z⟩
      obtain ⟨a19, ea19⟩ : ∃ x9 : Int32, x9 = (v22_2 + Int32.ofInt 1) := ⟨_, rfl⟩
      replace h := h a19 ea19
      replace K := fun i ro uo z => K i ro uo ⟨a19, ea19, z⟩
      exact ih i00 (fun i ro uo ⟨n8, z⟩ => K (i, n8) ro uo z) h
set_option maxRecDepth 100000 in
theorem ru_stage {S : MS} {x1 : Int32} {Q : Int32 → MS → Prop} (h : w_stage S x1 Q) : ∃ ro uo, v_stage S x1 ro uo ∧ Q ro uo := by
  have i0 : Unit := ()
  have K : ∀ (i : Unit) (ro : Int32) (uo : MS), v_stage S x1 ro uo → v_stage S x1 ro uo := fun _ _ _ z => z
  unfold w_stage at h
  obtain ⟨Q9, h0, h⟩ := h
  obtain ⟨r2, S3, z9, g9⟩ := ru_isRight h0
  replace h := h r2 S3 g9
  replace K := fun i ro uo z => K i ro uo ⟨r2, S3, z9, z⟩
  by_cases c : r2.toInt = 0
  · replace h := h.1 c
    replace K := fun i ro uo z => K i ro uo (Or.inl ⟨c, z⟩)
    exact ⟨_, _, K i0 _ _ ⟨rfl, rfl⟩, h⟩
  · replace h := h.2 c
    replace K := fun i ro uo z => K i ro uo (Or.inr ⟨c, z⟩)
    obtain ⟨g3_, h⟩ := h
    replace K := fun i ro uo z => K i ro uo ⟨g3_, z⟩
    obtain ⟨g4_, h⟩ := h
    replace K := fun i ro uo z => K i ro uo ⟨g4_, z⟩
    obtain ⟨S9, eS9⟩ : ∃ x9 : MS, x9 = wR S3 0 80 (some (qO S3 1 x1.toInt.toNat)) := ⟨_, rfl⟩
    replace h := h S9 eS9
    replace K := fun i ro uo z => K i ro uo ⟨S9, eS9, z⟩
    obtain ⟨n9, h⟩ := h
    exact ru_stage_L22 n9 i0 K h
set_option maxRecDepth 100000 in
theorem vw_stage_L43 {ro : Int32} {uo : MS} : ∀ (n : Nat) {U43 : MS} {v43_2 : Int32}, v_stage_L43 ro uo n U43 v43_2 → w_stage_L43 (fun r u => r = ro ∧ u = uo) n U43 v43_2 := by
  intro n
  induction n with
  | zero => intro U43 v43_2 h; unfold v_stage_L43 at h; exact h.elim
  | succ n ih =>
    intro U43 v43_2 h
    unfold v_stage_L43 at h
    unfold w_stage_L43
    rcases h with ⟨c, h⟩ | ⟨c, h⟩
    · refine ⟨fun _ => ?_, fun c2 => absurd c c2⟩
      obtain ⟨v9, e9, h⟩ := h
      intro x9 d9
      have c9 : v9 = x9 := e9.trans d9.symm
      subst c9
      obtain ⟨v9, e9, h⟩ := h
      intro x9 d9
      have c9 : v9 = x9 := e9.trans d9.symm
      subst c9
      exact ⟨h.1.symm, h.2.symm⟩
    · refine ⟨fun c2 => absurd c2 c, fun _ => ?_⟩
      obtain ⟨g9, h⟩ := h
      refine ⟨g9, ?_⟩
      obtain ⟨v9, e9, h⟩ := h
      intro x9 d9
      have c9 : v9 = x9 := e9.trans d9.symm
      subst c9
      obtain ⟨v9, e9, h⟩ := h
      intro x9 d9
      have c9 : v9 = x9 := e9.trans d9.symm
      subst c9
      exact ih h
set_option maxRecDepth 100000 in
theorem vz_stage_L43 {ro : Int32} {uo : MS} {Q : Int32 → MS → Prop} : ∀ (n m : Nat) {U43 : MS} {v43_2 : Int32}, v_stage_L43 ro uo n U43 v43_2 → w_stage_L43 Q m U43 v43_2 → Q ro uo := by
  intro n
  induction n with
  | zero => intro m U43 v43_2 h; unfold v_stage_L43 at h; exact h.elim
  | succ n ih =>
    intro m U43 v43_2 h w
    cases m with
    | zero => unfold w_stage_L43 at w; exact w.elim
    | succ m =>
      unfold v_stage_L43 at h
      unfold w_stage_L43 at w
      rcases h with ⟨c, h⟩ | ⟨c, h⟩
      · replace w := w.1 c
        obtain ⟨v9, e9, h⟩ := h
        replace w := w v9 e9
        obtain ⟨v9, e9, h⟩ := h
        replace w := w v9 e9
        rw [h.1, h.2]
        exact w
      · replace w := w.2 c
        replace h := h.2
        replace w := w.2
        obtain ⟨v9, e9, h⟩ := h
        replace w := w v9 e9
        obtain ⟨v9, e9, h⟩ := h
        replace w := w v9 e9
        exact ih m h w
set_option maxRecDepth 100000 in
theorem vw_stage_L22 {ro : Int32} {uo : MS} : ∀ (n : Nat) {U22 : MS} {v22_2 : Int32}, v_stage_L22 ro uo n U22 v22_2 → w_stage_L22 (fun r u => r = ro ∧ u = uo) n U22 v22_2 := by
  intro n
  induction n with
  | zero => intro U22 v22_2 h; unfold v_stage_L22 at h; exact h.elim
  | succ n ih =>
    intro U22 v22_2 h
    unfold v_stage_L22 at h
    unfold w_stage_L22
    rcases h with ⟨c, h⟩ | ⟨c, h⟩
    · refine ⟨fun _ => ?_, fun c2 => absurd c c2⟩
      obtain ⟨n9, h⟩ := h
      exact ⟨n9, vw_stage_L43 n9 h⟩
    · refine ⟨fun c2 => absurd c2 c, fun _ => ?_⟩
      obtain ⟨g9, h⟩ := h
      refine ⟨g9, ?_⟩
      obtain ⟨v9, e9, h⟩ := h
      intro x9 d9
      have c9 : v9 = x9 := e9.trans d9.symm
      subst c9
      obtain ⟨v9, e9, h⟩ := h
      intro x9 d9
      have c9 : v9 = x9 := e9.trans d9.symm
      subst c9
      exact ih h
set_option maxRecDepth 100000 in
theorem vz_stage_L22 {ro : Int32} {uo : MS} {Q : Int32 → MS → Prop} : ∀ (n m : Nat) {U22 : MS} {v22_2 : Int32}, v_stage_L22 ro uo n U22 v22_2 → w_stage_L22 Q m U22 v22_2 → Q ro uo := by
  intro n
  induction n with
  | zero => intro m U22 v22_2 h; unfold v_stage_L22 at h; exact h.elim
  | succ n ih =>
    intro m U22 v22_2 h w
    cases m with
    | zero => unfold w_stage_L22 at w; exact w.elim
    | succ m =>
      unfold v_stage_L22 at h
      unfold w_stage_L22 at w
      rcases h with ⟨c, h⟩ | ⟨c, h⟩
      · replace w := w.1 c
        obtain ⟨n9, h⟩ := h
        obtain ⟨n8, w⟩ := w
        exact vz_stage_L43 n9 n8 h w
      · replace w := w.2 c
        replace h := h.2
        replace w := w.2
        obtain ⟨v9, e9, h⟩ := h
        replace w := w v9 e9
        obtain ⟨v9, e9, h⟩ := h
        replace w := w v9 e9
        exact ih m h w
set_option maxRecDepth 100000 in
theorem vw_stage {S : MS} {x1 : Int32} {ro : Int32} {uo : MS} (h : v_stage S x1 ro uo) : w_stage S x1 (fun r u => r = ro ∧ u = uo) := by
  unfold v_stage at h
  unfold w_stage
  obtain ⟨p9, q9, z9, h⟩ := h
  refine ⟨_, vw_isRight z9, ?_⟩
  rintro p8 q8 ⟨d8, d9⟩
  subst d8
  subst d9
  rcases h with ⟨c, h⟩ | ⟨c, h⟩
  · refine ⟨fun _ => ?_, fun c2 => absurd c c2⟩
    exact ⟨h.1.symm, h.2.symm⟩
  · refine ⟨fun c2 => absurd c2 c, fun _ => ?_⟩
    obtain ⟨g9, h⟩ := h
    refine ⟨g9, ?_⟩
    obtain ⟨g9, h⟩ := h
    refine ⟨g9, ?_⟩
    obtain ⟨v9, e9, h⟩ := h
    intro x9 d9
    have c9 : v9 = x9 := e9.trans d9.symm
    subst c9
    obtain ⟨n9, h⟩ := h
    exact ⟨n9, vw_stage_L22 n9 h⟩
set_option maxRecDepth 100000 in
theorem vz_stage {S : MS} {x1 : Int32} {ro : Int32} {uo : MS} {Q : Int32 → MS → Prop} (h : v_stage S x1 ro uo) (w : w_stage S x1 Q) : Q ro uo := by
  unfold v_stage at h
  unfold w_stage at w
  obtain ⟨p9, q9, z9, h⟩ := h
  obtain ⟨Q9, w0, w⟩ := w
  replace w := w p9 q9 (vz_isRight z9 w0)
  rcases h with ⟨c, h⟩ | ⟨c, h⟩
  · replace w := w.1 c
    rw [h.1, h.2]
    exact w
  · replace w := w.2 c
    replace h := h.2
    replace w := w.2
    replace h := h.2
    replace w := w.2
    obtain ⟨v9, e9, h⟩ := h
    replace w := w v9 e9
    obtain ⟨n9, h⟩ := h
    obtain ⟨n8, w⟩ := w
    exact vz_stage_L22 n9 n8 h w
def v_verify_L71 (ro : Int32) (uo : MS) (k34 : MS → Nat → Int32 → Prop) : Nat → MS → Nat → Int32 → Int32 → Prop
  | 0, _, _, _, _ => False
  | n71 + 1, U71, v71_2, v71_3, v71_5 => (((qI U71 0 52).toInt ≤ v71_5.toInt ∧ (∃ a29 : Int32, a29 = (v71_3 + Int32.ofInt 1) ∧ (k34 U71 v71_2 a29))) ∨ (¬ (qI U71 0 52).toInt ≤ v71_5.toInt ∧ ((qR U71 v71_2 14 = some (qO U71 v71_2 14)) ∧ (((0 : Int) ≤ v71_3.toInt ∧ v71_3.toInt < (qN U71 (qO U71 v71_2 14) : Int)) ∧ (∃ (S37 : MS), v_keep U71 ((4 : Int32) * ((qI U71 (qO U71 v71_2 14) v71_3.toInt.toNat) + v71_5)) v71_5 S37 ∧ (∃ a39 : Int32, a39 = (v71_5 + Int32.ofInt 1) ∧ ((v_verify_L71 ro uo k34 n71) S37 v71_2 v71_3 a39)))))))
def v_verify_L34 (ro : Int32) (uo : MS) : Nat → MS → Nat → Int32 → Prop
  | 0, _, _, _ => False
  | n34 + 1, U34, v34_2, v34_3 => (((qI U34 v34_2 4).toInt ≤ v34_3.toInt ∧ ((qR U34 v34_2 18 = some (qO U34 v34_2 18)) ∧ (∃ (b20 : Nat) (S17 : MS), v_firstInts U34 27 ((4 : Int32) * ((Int32.ofNat (qN U34 (qO U34 v34_2 18))) / (3 : Int32))) b20 S17 ∧ (∃ S21 : MS, S21 = wR S17 v34_2 22 (some b20) ∧ (∃ S22 : MS, S22 = wI S21 v34_2 21 1 ∧ (ro = (0 : Int32) ∧ uo = S22)))))) ∨ (¬ (qI U34 v34_2 4).toInt ≤ v34_3.toInt ∧ (∃ (r24 : Int32) (S25 : MS), v_firstFault U34 v34_2 v34_3 r24 S25 ∧ ((r24.toInt < 0 ∧ (∃ n, v_verify_L71 ro uo (v_verify_L34 ro uo n34) n S25 v34_2 v34_3 0)) ∨ (¬ r24.toInt < 0 ∧ (∃ S40 : MS, S40 = wI S25 0 64 v34_3 ∧ (∃ S41 : MS, S41 = wI S40 0 65 r24 ∧ (ro = (1 : Int32) ∧ uo = S41))))))))
def v_verify (S : MS) (x1 : Int32) (ro : Int32) (uo : MS) : Prop := (∃ S1 : MS, S1 = wI S 0 64 (-1) ∧ (∃ S2 : MS, S2 = wI S1 0 65 (-1) ∧ (∃ (b7 : Option Nat) (S5 : MS), v_fileAt S2 x1 b7 S5 ∧ ((b7 = none ∧ (ro = (-1 : Int32) ∧ uo = S5)) ∨ (¬ b7 = none ∧ (((qI S5 ((b7).getD 0) 21).toInt = 1 ∧ (ro = (0 : Int32) ∧ uo = S5)) ∨ (¬ (qI S5 ((b7).getD 0) 21).toInt = 1 ∧ (∃ n, v_verify_L34 ro uo n S5 ((b7).getD 0) 0))))))))
set_option maxRecDepth 100000 in
theorem ru_verify_L71 {ι : Type} {P : Int32 → MS → Prop} {Q : Int32 → MS → Prop} {k34 : MS → Nat → Int32 → Prop} {k34v : ι → Int32 → MS → MS → Nat → Int32 → Prop} : ∀ (n : Nat) {U71 : MS} {v71_2 : Nat} {v71_3 : Int32} {v71_5 : Int32} (i0 : ι) (hk34 : ∀ (u : MS) (z0 : Nat) (z1 : Int32), k34 u z0 z1 → (∀ (i : ι) (ro : Int32) (uo : MS), k34v i ro uo u z0 z1 → P ro uo) → ∃ ro uo, P ro uo ∧ Q ro uo), (∀ (i : ι) (ro : Int32) (uo : MS), (∃ n8, v_verify_L71 ro uo (k34v i ro uo) n8 U71 v71_2 v71_3 v71_5) → P ro uo) → w_verify_L71 Q k34 n U71 v71_2 v71_3 v71_5 → ∃ ro uo, P ro uo ∧ Q ro uo := by
  intro n
  induction n with
  | zero => intro U71 v71_2 v71_3 v71_5 i0 hk34 K h; unfold w_verify_L71 at h; exact h.elim
  | succ n ih =>
    intro U71 v71_2 v71_3 v71_5 i0 hk34 K h
    unfold w_verify_L71 at h
    replace K := fun (i : ι × Nat) ro uo (z : v_verify_L71 ro uo (k34v i.1 ro uo) (i.2 + 1) U71 v71_2 v71_3 v71_5) => K i.1 ro uo ⟨i.2 + 1, z⟩
    have i00 := i0
    replace i0 : ι × Nat := (i0, 0)
    by_cases c : (qI U71 0 52).toInt ≤ v71_5.toInt
    · replace h := h.1 c
      replace K := fun i ro uo z => K i ro uo (Or.inl ⟨c, z⟩)
      obtain ⟨a29, ea29⟩ : ∃ x9 : Int32, x9 = (v71_3 + Int32.ofInt 1) := ⟨_, rfl⟩
      replace h := h a29 ea29
      replace K := fun i ro uo z => K i ro uo ⟨a29, ea29, z⟩
      exact hk34 _ _ _ h (fun i ro uo z => K (i, 0) ro uo z)
    · replace h := h.2 c
      replace K := fun i ro uo z => K i ro uo (Or.inr ⟨c, z⟩)
      obtain ⟨g1_, h⟩ := h
      replace K := fun i ro uo z => K i ro uo ⟨g1_, z⟩
      obtain ⟨g2_, h⟩ := h
      replace K := fun i ro uo z => K i ro uo ⟨g2_, z⟩
      obtain ⟨Q9, h0, h⟩ := h
      obtain ⟨S37, z9, g9⟩ := ru_keep h0
      replace h := h S37 g9
      replace K := fun i ro uo z => K i ro uo ⟨S37, z9, z⟩
      obtain ⟨a39, ea39⟩ : ∃ x9 : Int32, x9 = (v71_5 + Int32.ofInt 1) := ⟨_, rfl⟩
      replace h := h a39 ea39
      replace K := fun i ro uo z => K i ro uo ⟨a39, ea39, z⟩
      exact ih i00 hk34 (fun i ro uo ⟨n8, z⟩ => K (i, n8) ro uo z) h
set_option maxRecDepth 100000 in
theorem ru_verify_L34 {ι : Type} {P : Int32 → MS → Prop} {Q : Int32 → MS → Prop} : ∀ (n : Nat) {U34 : MS} {v34_2 : Nat} {v34_3 : Int32} (i0 : ι), (∀ (i : ι) (ro : Int32) (uo : MS), (∃ n8, v_verify_L34 ro uo n8 U34 v34_2 v34_3) → P ro uo) → w_verify_L34 Q n U34 v34_2 v34_3 → ∃ ro uo, P ro uo ∧ Q ro uo := by
  intro n
  induction n with
  | zero => intro U34 v34_2 v34_3 i0 K h; unfold w_verify_L34 at h; exact h.elim
  | succ n ih =>
    intro U34 v34_2 v34_3 i0 K h
    unfold w_verify_L34 at h
    replace K := fun (i : ι × Nat) ro uo (z : v_verify_L34 ro uo (i.2 + 1) U34 v34_2 v34_3) => K i.1 ro uo ⟨i.2 + 1, z⟩
    have i00 := i0
    replace i0 : ι × Nat := (i0, 0)
    by_cases c : (qI U34 v34_2 4).toInt ≤ v34_3.toInt
    · replace h := h.1 c
      replace K := fun i ro uo z => K i ro uo (Or.inl ⟨c, z⟩)
      obtain ⟨g3_, h⟩ := h
      replace K := fun i ro uo z => K i ro uo ⟨g3_, z⟩
      obtain ⟨Q9, h0, h⟩ := h
      obtain ⟨b20, S17, z9, g9⟩ := ru_firstInts h0
      replace h := h b20 S17 g9
      replace K := fun i ro uo z => K i ro uo ⟨b20, S17, z9, z⟩
      obtain ⟨S21, eS21⟩ : ∃ x9 : MS, x9 = wR S17 v34_2 22 (some b20) := ⟨_, rfl⟩
      replace h := h S21 eS21
      replace K := fun i ro uo z => K i ro uo ⟨S21, eS21, z⟩
      obtain ⟨S22, eS22⟩ : ∃ x9 : MS, x9 = wI S21 v34_2 21 1 := ⟨_, rfl⟩
      replace h := h S22 eS22
      replace K := fun i ro uo z => K i ro uo ⟨S22, eS22, z⟩
      exact ⟨_, _, K i0 _ _ ⟨rfl, rfl⟩, h⟩
    · replace h := h.2 c
      replace K := fun i ro uo z => K i ro uo (Or.inr ⟨c, z⟩)
      obtain ⟨Q9, h0, h⟩ := h
      obtain ⟨r24, S25, z9, g9⟩ := ru_firstFault h0
      replace h := h r24 S25 g9
      replace K := fun i ro uo z => K i ro uo ⟨r24, S25, z9, z⟩
      by_cases c : r24.toInt < 0
      · replace h := h.1 c
        replace K := fun i ro uo z => K i ro uo (Or.inl ⟨c, z⟩)
        obtain ⟨n9, h⟩ := h
        exact ru_verify_L71 n9 i0 (fun _ _ _ h K => ih i00 (fun i ro uo ⟨n8, z⟩ => K (i, n8) ro uo z) h) K h
      · replace h := h.2 c
        replace K := fun i ro uo z => K i ro uo (Or.inr ⟨c, z⟩)
        obtain ⟨S40, eS40⟩ : ∃ x9 : MS, x9 = wI S25 0 64 v34_3 := ⟨_, rfl⟩
        replace h := h S40 eS40
        replace K := fun i ro uo z => K i ro uo ⟨S40, eS40, z⟩
        obtain ⟨S41, eS41⟩ : ∃ x9 : MS, x9 = wI S40 0 65 r24 := ⟨_, rfl⟩
        replace h := h S41 eS41
        replace K := fun i ro uo z => K i ro uo ⟨S41, eS41, z⟩
        exact ⟨_, _, K i0 _ _ ⟨rfl, rfl⟩, h⟩
set_option maxRecDepth 100000 in
theorem ru_verify {S : MS} {x1 : Int32} {Q : Int32 → MS → Prop} (h : w_verify S x1 Q) : ∃ ro uo, v_verify S x1 ro uo ∧ Q ro uo := by
  have i0 : Unit := ()
  have K : ∀ (i : Unit) (ro : Int32) (uo : MS), v_verify S x1 ro uo → v_verify S x1 ro uo := fun _ _ _ z => z
  unfold w_verify at h
  obtain ⟨S1, eS1⟩ : ∃ x9 : MS, x9 = wI S 0 64 (-1) := ⟨_, rfl⟩
  replace h := h S1 eS1
  replace K := fun i ro uo z => K i ro uo ⟨S1, eS1, z⟩
  obtain ⟨S2, eS2⟩ : ∃ x9 : MS, x9 = wI S1 0 65 (-1) := ⟨_, rfl⟩
  replace h := h S2 eS2
  replace K := fun i ro uo z => K i ro uo ⟨S2, eS2, z⟩
  obtain ⟨Q9, h0, h⟩ := h
  obtain ⟨b7, S5, z9, g9⟩ := ru_fileAt h0
  replace h := h b7 S5 g9
  replace K := fun i ro uo z => K i ro uo ⟨b7, S5, z9, z⟩
  by_cases c : b7 = none
  · replace h := h.1 c
    replace K := fun i ro uo z => K i ro uo (Or.inl ⟨c, z⟩)
    exact ⟨_, _, K i0 _ _ ⟨rfl, rfl⟩, h⟩
  · replace h := h.2 c
    replace K := fun i ro uo z => K i ro uo (Or.inr ⟨c, z⟩)
    by_cases c : (qI S5 ((b7).getD 0) 21).toInt = 1
    · replace h := h.1 c
      replace K := fun i ro uo z => K i ro uo (Or.inl ⟨c, z⟩)
      exact ⟨_, _, K i0 _ _ ⟨rfl, rfl⟩, h⟩
    · replace h := h.2 c
      replace K := fun i ro uo z => K i ro uo (Or.inr ⟨c, z⟩)
      obtain ⟨n9, h⟩ := h
      exact ru_verify_L34 n9 i0 K h
set_option maxRecDepth 100000 in
theorem vw_verify_L71 {ro : Int32} {uo : MS} {k34 k34v : MS → Nat → Int32 → Prop} : ∀ (n : Nat) {U71 : MS} {v71_2 : Nat} {v71_3 : Int32} {v71_5 : Int32} (hk34 : ∀ (u : MS) (z0 : Nat) (z1 : Int32), k34v u z0 z1 → k34 u z0 z1), v_verify_L71 ro uo k34v n U71 v71_2 v71_3 v71_5 → w_verify_L71 (fun r u => r = ro ∧ u = uo) k34 n U71 v71_2 v71_3 v71_5 := by
  intro n
  induction n with
  | zero => intro U71 v71_2 v71_3 v71_5 hk34 h; unfold v_verify_L71 at h; exact h.elim
  | succ n ih =>
    intro U71 v71_2 v71_3 v71_5 hk34 h
    unfold v_verify_L71 at h
    unfold w_verify_L71
    rcases h with ⟨c, h⟩ | ⟨c, h⟩
    · refine ⟨fun _ => ?_, fun c2 => absurd c c2⟩
      obtain ⟨v9, e9, h⟩ := h
      intro x9 d9
      have c9 : v9 = x9 := e9.trans d9.symm
      subst c9
      exact hk34 _ _ _ h
    · refine ⟨fun c2 => absurd c2 c, fun _ => ?_⟩
      obtain ⟨g9, h⟩ := h
      refine ⟨g9, ?_⟩
      obtain ⟨g9, h⟩ := h
      refine ⟨g9, ?_⟩
      obtain ⟨q9, z9, h⟩ := h
      refine ⟨_, vw_keep z9, ?_⟩
      intro q8 d9
      subst d9
      obtain ⟨v9, e9, h⟩ := h
      intro x9 d9
      have c9 : v9 = x9 := e9.trans d9.symm
      subst c9
      exact ih hk34 h
set_option maxRecDepth 100000 in
theorem vz_verify_L71 {ro : Int32} {uo : MS} {Q : Int32 → MS → Prop} {k34 k34v : MS → Nat → Int32 → Prop} : ∀ (n m : Nat) {U71 : MS} {v71_2 : Nat} {v71_3 : Int32} {v71_5 : Int32} (hk34 : ∀ (u : MS) (z0 : Nat) (z1 : Int32), k34v u z0 z1 → k34 u z0 z1 → Q ro uo), v_verify_L71 ro uo k34v n U71 v71_2 v71_3 v71_5 → w_verify_L71 Q k34 m U71 v71_2 v71_3 v71_5 → Q ro uo := by
  intro n
  induction n with
  | zero => intro m U71 v71_2 v71_3 v71_5 hk34 h; unfold v_verify_L71 at h; exact h.elim
  | succ n ih =>
    intro m U71 v71_2 v71_3 v71_5 hk34 h w
    cases m with
    | zero => unfold w_verify_L71 at w; exact w.elim
    | succ m =>
      unfold v_verify_L71 at h
      unfold w_verify_L71 at w
      rcases h with ⟨c, h⟩ | ⟨c, h⟩
      · replace w := w.1 c
        obtain ⟨v9, e9, h⟩ := h
        replace w := w v9 e9
        exact hk34 _ _ _ h w
      · replace w := w.2 c
        replace h := h.2
        replace w := w.2
        replace h := h.2
        replace w := w.2
        obtain ⟨q9, z9, h⟩ := h
        obtain ⟨Q9, w0, w⟩ := w
        replace w := w q9 (vz_keep z9 w0)
        obtain ⟨v9, e9, h⟩ := h
        replace w := w v9 e9
        exact ih m hk34 h w
set_option maxRecDepth 100000 in
theorem vw_verify_L34 {ro : Int32} {uo : MS} : ∀ (n : Nat) {U34 : MS} {v34_2 : Nat} {v34_3 : Int32}, v_verify_L34 ro uo n U34 v34_2 v34_3 → w_verify_L34 (fun r u => r = ro ∧ u = uo) n U34 v34_2 v34_3 := by
  intro n
  induction n with
  | zero => intro U34 v34_2 v34_3 h; unfold v_verify_L34 at h; exact h.elim
  | succ n ih =>
    intro U34 v34_2 v34_3 h
    unfold v_verify_L34 at h
    unfold w_verify_L34
    rcases h with ⟨c, h⟩ | ⟨c, h⟩
    · refine ⟨fun _ => ?_, fun c2 => absurd c c2⟩
      obtain ⟨g9, h⟩ := h
      refine ⟨g9, ?_⟩
      obtain ⟨p9, q9, z9, h⟩ := h
      refine ⟨_, vw_firstInts z9, ?_⟩
      rintro p8 q8 ⟨d8, d9⟩
      subst d8
      subst d9
      obtain ⟨v9, e9, h⟩ := h
      intro x9 d9
      have c9 : v9 = x9 := e9.trans d9.symm
      subst c9
      obtain ⟨v9, e9, h⟩ := h
      intro x9 d9
      have c9 : v9 = x9 := e9.trans d9.symm
      subst c9
      exact ⟨h.1.symm, h.2.symm⟩
    · refine ⟨fun c2 => absurd c2 c, fun _ => ?_⟩
      obtain ⟨p9, q9, z9, h⟩ := h
      refine ⟨_, vw_firstFault z9, ?_⟩
      rintro p8 q8 ⟨d8, d9⟩
      subst d8
      subst d9
      rcases h with ⟨c, h⟩ | ⟨c, h⟩
      · refine ⟨fun _ => ?_, fun c2 => absurd c c2⟩
        obtain ⟨n9, h⟩ := h
        exact ⟨n9, vw_verify_L71 n9 (fun _ _ _ h => ih h) h⟩
      · refine ⟨fun c2 => absurd c2 c, fun _ => ?_⟩
        obtain ⟨v9, e9, h⟩ := h
        intro x9 d9
        have c9 : v9 = x9 := e9.trans d9.symm
        subst c9
        obtain ⟨v9, e9, h⟩ := h
        intro x9 d9
        have c9 : v9 = x9 := e9.trans d9.symm
        subst c9
        exact ⟨h.1.symm, h.2.symm⟩
set_option maxRecDepth 100000 in
theorem vz_verify_L34 {ro : Int32} {uo : MS} {Q : Int32 → MS → Prop} : ∀ (n m : Nat) {U34 : MS} {v34_2 : Nat} {v34_3 : Int32}, v_verify_L34 ro uo n U34 v34_2 v34_3 → w_verify_L34 Q m U34 v34_2 v34_3 → Q ro uo := by
  intro n
  induction n with
  | zero => intro m U34 v34_2 v34_3 h; unfold v_verify_L34 at h; exact h.elim
  | succ n ih =>
    intro m U34 v34_2 v34_3 h w
    cases m with
    | zero => unfold w_verify_L34 at w; exact w.elim
    | succ m =>
      unfold v_verify_L34 at h
      unfold w_verify_L34 at w
      rcases h with ⟨c, h⟩ | ⟨c, h⟩
      · replace w := w.1 c
        replace h := h.2
        replace w := w.2
        obtain ⟨p9, q9, z9, h⟩ := h
        obtain ⟨Q9, w0, w⟩ := w
        replace w := w p9 q9 (vz_firstInts z9 w0)
        obtain ⟨v9, e9, h⟩ := h
        replace w := w v9 e9
        obtain ⟨v9, e9, h⟩ := h
        replace w := w v9 e9
        rw [h.1, h.2]
        exact w
      · replace w := w.2 c
        obtain ⟨p9, q9, z9, h⟩ := h
        obtain ⟨Q9, w0, w⟩ := w
        replace w := w p9 q9 (vz_firstFault z9 w0)
        rcases h with ⟨c, h⟩ | ⟨c, h⟩
        · replace w := w.1 c
          obtain ⟨n9, h⟩ := h
          obtain ⟨n8, w⟩ := w
          exact vz_verify_L71 n9 n8 (fun _ _ _ h w => ih m h w) h w
        · replace w := w.2 c
          obtain ⟨v9, e9, h⟩ := h
          replace w := w v9 e9
          obtain ⟨v9, e9, h⟩ := h
          replace w := w v9 e9
          rw [h.1, h.2]
          exact w
set_option maxRecDepth 100000 in
theorem vw_verify {S : MS} {x1 : Int32} {ro : Int32} {uo : MS} (h : v_verify S x1 ro uo) : w_verify S x1 (fun r u => r = ro ∧ u = uo) := by
  unfold v_verify at h
  unfold w_verify
  obtain ⟨v9, e9, h⟩ := h
  intro x9 d9
  have c9 : v9 = x9 := e9.trans d9.symm
  subst c9
  obtain ⟨v9, e9, h⟩ := h
  intro x9 d9
  have c9 : v9 = x9 := e9.trans d9.symm
  subst c9
  obtain ⟨p9, q9, z9, h⟩ := h
  refine ⟨_, vw_fileAt z9, ?_⟩
  rintro p8 q8 ⟨d8, d9⟩
  subst d8
  subst d9
  rcases h with ⟨c, h⟩ | ⟨c, h⟩
  · refine ⟨fun _ => ?_, fun c2 => absurd c c2⟩
    exact ⟨h.1.symm, h.2.symm⟩
  · refine ⟨fun c2 => absurd c2 c, fun _ => ?_⟩
    rcases h with ⟨c, h⟩ | ⟨c, h⟩
    · refine ⟨fun _ => ?_, fun c2 => absurd c c2⟩
      exact ⟨h.1.symm, h.2.symm⟩
    · refine ⟨fun c2 => absurd c2 c, fun _ => ?_⟩
      obtain ⟨n9, h⟩ := h
      exact ⟨n9, vw_verify_L34 n9 h⟩
set_option maxRecDepth 100000 in
theorem vz_verify {S : MS} {x1 : Int32} {ro : Int32} {uo : MS} {Q : Int32 → MS → Prop} (h : v_verify S x1 ro uo) (w : w_verify S x1 Q) : Q ro uo := by
  unfold v_verify at h
  unfold w_verify at w
  obtain ⟨v9, e9, h⟩ := h
  replace w := w v9 e9
  obtain ⟨v9, e9, h⟩ := h
  replace w := w v9 e9
  obtain ⟨p9, q9, z9, h⟩ := h
  obtain ⟨Q9, w0, w⟩ := w
  replace w := w p9 q9 (vz_fileAt z9 w0)
  rcases h with ⟨c, h⟩ | ⟨c, h⟩
  · replace w := w.1 c
    rw [h.1, h.2]
    exact w
  · replace w := w.2 c
    rcases h with ⟨c, h⟩ | ⟨c, h⟩
    · replace w := w.1 c
      rw [h.1, h.2]
      exact w
    · replace w := w.2 c
      obtain ⟨n9, h⟩ := h
      obtain ⟨n8, w⟩ := w
      exact vz_verify_L34 n9 n8 h w
def v_write (S : MS) (x1 : Int32) (oo : (Int32 × MS) ⊕ MS) : Prop := (∃ (r2 : Int32) (S3 : MS), v_isRight S x1 r2 S3 ∧ ((r2.toInt = 0 ∧ (oo = .inl ((-1 : Int32), S3))) ∨ (¬ r2.toInt = 0 ∧ (((0 : Int) ≤ x1.toInt ∧ x1.toInt < 12) ∧ ((qR S3 1 x1.toInt.toNat = some (qO S3 1 x1.toInt.toNat)) ∧ ((∃ (S10 : MS), v_outFile S3 (qO S3 1 x1.toInt.toNat) (.inl S10) ∧ ((qR S10 0 76 = some (qO S10 0 76)) ∧ ((qR S10 0 75 = some (qO S10 0 75)) ∧ (∃ S16 : MS, S16 = wR S10 0 76 (some (qO S10 0 75)) ∧ (∃ S17 : MS, S17 = wR S16 0 75 (some (qO S10 0 76)) ∧ (∃ S18 : MS, S18 = wI S17 0 78 (qI S17 0 77) ∧ (oo = .inl ((qI S18 0 78), S18)))))))) ∨ (∃ u9 : MS, v_outFile S3 (qO S3 1 x1.toInt.toNat) (.inr u9) ∧ (oo = .inr u9))))))))
set_option maxRecDepth 100000 in
theorem ru_write {S : MS} {x1 : Int32} {Q : Int32 → MS → Prop} {E : MS → Prop} (h : w_write S x1 Q E) : ∃ oo, v_write S x1 oo ∧ oQ Q E oo := by
  have i0 : Unit := ()
  have K : ∀ (i : Unit) (oo : (Int32 × MS) ⊕ MS), v_write S x1 oo → v_write S x1 oo := fun _ _ z => z
  unfold w_write at h
  obtain ⟨Q9, h0, h⟩ := h
  obtain ⟨r2, S3, z9, g9⟩ := ru_isRight h0
  replace h := h r2 S3 g9
  replace K := fun i oo z => K i oo ⟨r2, S3, z9, z⟩
  by_cases c : r2.toInt = 0
  · replace h := h.1 c
    replace K := fun i oo z => K i oo (Or.inl ⟨c, z⟩)
    exact ⟨.inl (_, _), K i0 _ rfl, h⟩
  · replace h := h.2 c
    replace K := fun i oo z => K i oo (Or.inr ⟨c, z⟩)
    obtain ⟨g1_, h⟩ := h
    replace K := fun i oo z => K i oo ⟨g1_, z⟩
    obtain ⟨g2_, h⟩ := h
    replace K := fun i oo z => K i oo ⟨g2_, z⟩
    obtain ⟨Q9, E9, h0, h⟩ := h
    obtain ⟨o9, z9, g9⟩ := ru_outFile h0
    rcases o9 with S10 | u9
    · replace h := h.1 S10 g9
      replace K := fun i oo z => K i oo (Or.inl ⟨S10, z9, z⟩)
      obtain ⟨g3_, h⟩ := h
      replace K := fun i oo z => K i oo ⟨g3_, z⟩
      obtain ⟨g4_, h⟩ := h
      replace K := fun i oo z => K i oo ⟨g4_, z⟩
      obtain ⟨S16, eS16⟩ : ∃ x9 : MS, x9 = wR S10 0 76 (some (qO S10 0 75)) := ⟨_, rfl⟩
      replace h := h S16 eS16
      replace K := fun i oo z => K i oo ⟨S16, eS16, z⟩
      obtain ⟨S17, eS17⟩ : ∃ x9 : MS, x9 = wR S16 0 75 (some (qO S10 0 76)) := ⟨_, rfl⟩
      replace h := h S17 eS17
      replace K := fun i oo z => K i oo ⟨S17, eS17, z⟩
      obtain ⟨S18, eS18⟩ : ∃ x9 : MS, x9 = wI S17 0 78 (qI S17 0 77) := ⟨_, rfl⟩
      replace h := h S18 eS18
      replace K := fun i oo z => K i oo ⟨S18, eS18, z⟩
      exact ⟨.inl (_, _), K i0 _ rfl, h⟩
    · replace h := h.2 u9 g9
      replace K := fun i oo z => K i oo (Or.inr ⟨u9, z9, z⟩)
      exact ⟨.inr u9, K i0 _ rfl, h⟩
set_option maxRecDepth 100000 in
theorem vw_write {S : MS} {x1 : Int32} {oo : (Int32 × MS) ⊕ MS} (h : v_write S x1 oo) : w_write S x1 (fun r u => oo = .inl (r, u)) (fun u => oo = .inr u) := by
  unfold v_write at h
  unfold w_write
  obtain ⟨p9, q9, z9, h⟩ := h
  refine ⟨_, vw_isRight z9, ?_⟩
  rintro p8 q8 ⟨d8, d9⟩
  subst d8
  subst d9
  rcases h with ⟨c, h⟩ | ⟨c, h⟩
  · refine ⟨fun _ => ?_, fun c2 => absurd c c2⟩
    exact h
  · refine ⟨fun c2 => absurd c2 c, fun _ => ?_⟩
    obtain ⟨g9, h⟩ := h
    refine ⟨g9, ?_⟩
    obtain ⟨g9, h⟩ := h
    refine ⟨g9, ?_⟩
    rcases h with ⟨q9, z9, h⟩ | ⟨q9, z9, h⟩
    · refine ⟨_, _, vw_outFile z9, ?_, ?_⟩
      · intro q8 d9
        injection d9 with d9
        subst d9
        obtain ⟨g9, h⟩ := h
        refine ⟨g9, ?_⟩
        obtain ⟨g9, h⟩ := h
        refine ⟨g9, ?_⟩
        obtain ⟨v9, e9, h⟩ := h
        intro x9 d9
        have c9 : v9 = x9 := e9.trans d9.symm
        subst c9
        obtain ⟨v9, e9, h⟩ := h
        intro x9 d9
        have c9 : v9 = x9 := e9.trans d9.symm
        subst c9
        obtain ⟨v9, e9, h⟩ := h
        intro x9 d9
        have c9 : v9 = x9 := e9.trans d9.symm
        subst c9
        exact h
      · intro q8 d9
        exact nomatch d9
    · refine ⟨_, _, vw_outFile z9, ?_, ?_⟩
      · intro q8 d9
        exact nomatch d9
      · intro q8 d9
        injection d9 with d9
        subst d9
        exact h
set_option maxRecDepth 100000 in
theorem vz_write {S : MS} {x1 : Int32} {oo : (Int32 × MS) ⊕ MS} {Q : Int32 → MS → Prop} {E : MS → Prop} (h : v_write S x1 oo) (w : w_write S x1 Q E) : oQ Q E oo := by
  unfold v_write at h
  unfold w_write at w
  obtain ⟨p9, q9, z9, h⟩ := h
  obtain ⟨Q9, w0, w⟩ := w
  replace w := w p9 q9 (vz_isRight z9 w0)
  rcases h with ⟨c, h⟩ | ⟨c, h⟩
  · replace w := w.1 c
    rw [h]
    exact w
  · replace w := w.2 c
    replace h := h.2
    replace w := w.2
    replace h := h.2
    replace w := w.2
    obtain ⟨Q9, E9, w0, w⟩ := w
    rcases h with ⟨q9, z9, h⟩ | ⟨q9, z9, h⟩
    · replace w := w.1 q9 (vz_outFile z9 w0)
      replace h := h.2
      replace w := w.2
      replace h := h.2
      replace w := w.2
      obtain ⟨v9, e9, h⟩ := h
      replace w := w v9 e9
      obtain ⟨v9, e9, h⟩ := h
      replace w := w v9 e9
      obtain ⟨v9, e9, h⟩ := h
      replace w := w v9 e9
      rw [h]
      exact w
    · replace w := w.2 q9 (vz_outFile z9 w0)
      rw [h]
      exact w
