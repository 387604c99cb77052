def v_X2_headHolds_J89 (ro : Int32) (uo : MS) (U89 : MS) (v89_1 : Int32) : Prop := (wfC U89 ∧ (∃ (r15 : Int32) (S16 : MS), vX7_breaks U89 (13 : Int32) (v89_1 + (2 : Int32)) r15 S16 ∧ wfC S16 ∧ shy U89 S16 ∧ (ro = r15 ∧ uo = S16)))
def v_X2_headHolds_J149 (ro : Int32) (uo : MS) (U149 : MS) (v149_1 : Int32) : Prop := (wfC U149 ∧ (∃ (r34 : Int32) (S35 : MS), vX7_breaks U149 (13 : Int32) (v149_1 + (4 : Int32)) r34 S35 ∧ wfC S35 ∧ shy U149 S35 ∧ (ro = r34 ∧ uo = S35)))
def vX2_headHolds (S : MS) (x1 : Int32) (x2 : Int32) (x3 : Int32) (ro : Int32) (uo : MS) : Prop := (((x1 + (2 : Int32)).toInt ≤ x2.toInt ∧ (d_X7_u2 S x1 ∧ (((fX7_u2 S x1).toInt ≤ 24 ∧ (((x1 + (4 : Int32)).toInt ≤ x2.toInt ∧ (d_X7_u2 S (x1 + (2 : Int32)) ∧ ((24 < (fX7_u2 S (x1 + (2 : Int32))).toInt ∧ (v_X2_headHolds_J89 ro uo S x1)) ∨ (¬ 24 < (fX7_u2 S (x1 + (2 : Int32))).toInt ∧ (d_X7_u2 S (x1 + (2 : Int32)) ∧ ((x3.toInt ≤ (fX7_u2 S (x1 + (2 : Int32))).toInt ∧ (((x1 + (8 : Int32)).toInt ≤ x2.toInt ∧ (d_X7_u4 S (x1 + (4 : Int32)) ∧ (∃ a30 : Int64, a30 = (fX7_u4 S (x1 + (4 : Int32))) ∧ (((lg_cmp a30 1).toInt < 0 ∧ (v_X2_headHolds_J149 ro uo S x1)) ∨ (¬ (lg_cmp a30 1).toInt < 0 ∧ (((lg_cmp a30 (1200 : Int64)).toInt ≤ 0 ∧ (∃ (r43 : Int32) (S44 : MS), vX2_catchesHold S ((x1 + (8 : Int32)) + (a30.toInt32)) x2 r43 S44 ∧ wfC S44 ∧ shy S S44 ∧ (ro = r43 ∧ uo = S44))) ∨ (¬ (lg_cmp a30 (1200 : Int64)).toInt ≤ 0 ∧ (v_X2_headHolds_J149 ro uo S x1)))))))) ∨ (¬ (x1 + (8 : Int32)).toInt ≤ x2.toInt ∧ (∃ (r47 : Int32) (S48 : MS), vX7_breaks S (14 : Int32) x2 r47 S48 ∧ wfC S48 ∧ shy S S48 ∧ (ro = r47 ∧ uo = S48))))) ∨ (¬ x3.toInt ≤ (fX7_u2 S (x1 + (2 : Int32))).toInt ∧ (v_X2_headHolds_J89 ro uo S x1)))))))) ∨ (¬ (x1 + (4 : Int32)).toInt ≤ x2.toInt ∧ (∃ (r51 : Int32) (S52 : MS), vX7_breaks S (14 : Int32) x2 r51 S52 ∧ wfC S52 ∧ shy S S52 ∧ (ro = r51 ∧ uo = S52))))) ∨ (¬ (fX7_u2 S x1).toInt ≤ 24 ∧ (∃ (r55 : Int32) (S56 : MS), vX7_breaks S (13 : Int32) x1 r55 S56 ∧ wfC S56 ∧ shy S S56 ∧ (ro = r55 ∧ uo = S56)))))) ∨ (¬ (x1 + (2 : Int32)).toInt ≤ x2.toInt ∧ (∃ (r59 : Int32) (S60 : MS), vX7_breaks S (14 : Int32) x2 r59 S60 ∧ wfC S60 ∧ shy S S60 ∧ (ro = r59 ∧ uo = S60))))
set_option maxRecDepth 100000 in
theorem ru_X2_headHolds_J89 {ι : Type} {P Q : Int32 → MS → Prop} {U89 : MS} {v89_1 : Int32} (i0 : ι) (K : ∀ (i : ι) (ro : Int32) (uo : MS), v_X2_headHolds_J89 ro uo U89 v89_1 → P ro uo) (h : w_X2_headHolds_J89 Q U89 v89_1) : w_X2_headHolds_J89 (fun r u => Q r u ∧ P r u) U89 v89_1 := by
  unfold w_X2_headHolds_J89 at h ⊢
  intro y1_
  replace h := h y1_
  replace K := fun i ro uo z => K i ro uo ⟨y1_, z⟩
  obtain ⟨Q9, h0, h⟩ := h
  refine ⟨_, ruX7_breaks h0, ?_⟩
  intro r15 S16 q2_ y3_ y4_
  replace h := h r15 S16 q2_.1 y3_ y4_
  replace K := fun i ro uo z => K i ro uo ⟨r15, S16, q2_.2, y3_, y4_, z⟩
  exact ⟨h, K i0 _ _ ⟨rfl, rfl⟩⟩
set_option maxRecDepth 100000 in
theorem ru_X2_headHolds_J149 {ι : Type} {P Q : Int32 → MS → Prop} {U149 : MS} {v149_1 : Int32} (i0 : ι) (K : ∀ (i : ι) (ro : Int32) (uo : MS), v_X2_headHolds_J149 ro uo U149 v149_1 → P ro uo) (h : w_X2_headHolds_J149 Q U149 v149_1) : w_X2_headHolds_J149 (fun r u => Q r u ∧ P r u) U149 v149_1 := by
  unfold w_X2_headHolds_J149 at h ⊢
  intro y5_
  replace h := h y5_
  replace K := fun i ro uo z => K i ro uo ⟨y5_, z⟩
  obtain ⟨Q9, h0, h⟩ := h
  refine ⟨_, ruX7_breaks h0, ?_⟩
  intro r34 S35 q6_ y7_ y8_
  replace h := h r34 S35 q6_.1 y7_ y8_
  replace K := fun i ro uo z => K i ro uo ⟨r34, S35, q6_.2, y7_, y8_, z⟩
  exact ⟨h, K i0 _ _ ⟨rfl, rfl⟩⟩
set_option maxRecDepth 100000 in
theorem ruX2_headHolds {S : MS} {x1 : Int32} {x2 : Int32} {x3 : Int32} {Q : Int32 → MS → Prop} (h : wX2_headHolds S x1 x2 x3 Q) : wX2_headHolds S x1 x2 x3 (fun r u => Q r u ∧ vX2_headHolds S x1 x2 x3 r u) := by
  have i0 : Unit := ()
  have K : ∀ (i : Unit) (ro : Int32) (uo : MS), vX2_headHolds S x1 x2 x3 ro uo → vX2_headHolds S x1 x2 x3 ro uo := fun _ _ _ z => z
  unfold wX2_headHolds at h ⊢
  refine ⟨fun c => ?_, fun c => ?_⟩
  · replace h := h.1 c
    replace K := fun i ro uo z => K i ro uo (Or.inl ⟨c, z⟩)
    obtain ⟨g9_, h⟩ := h
    refine ⟨g9_, ?_⟩
    replace K := fun i ro uo z => K i ro uo ⟨g9_, z⟩
    refine ⟨fun c => ?_, fun c => ?_⟩
    · replace h := h.1 c
      replace K := fun i ro uo z => K i ro uo (Or.inl ⟨c, z⟩)
      refine ⟨fun c => ?_, fun c => ?_⟩
      · replace h := h.1 c
        replace K := fun i ro uo z => K i ro uo (Or.inl ⟨c, z⟩)
        obtain ⟨g10_, h⟩ := h
        refine ⟨g10_, ?_⟩
        replace K := fun i ro uo z => K i ro uo ⟨g10_, z⟩
        refine ⟨fun c => ?_, fun c => ?_⟩
        · replace h := h.1 c
          replace K := fun i ro uo z => K i ro uo (Or.inl ⟨c, z⟩)
          exact ru_X2_headHolds_J89 i0 K h
        · replace h := h.2 c
          replace K := fun i ro uo z => K i ro uo (Or.inr ⟨c, z⟩)
          obtain ⟨g11_, h⟩ := h
          refine ⟨g11_, ?_⟩
          replace K := fun i ro uo z => K i ro uo ⟨g11_, z⟩
          refine ⟨fun c => ?_, fun c => ?_⟩
          · replace h := h.1 c
            replace K := fun i ro uo z => K i ro uo (Or.inl ⟨c, z⟩)
            refine ⟨fun c => ?_, fun c => ?_⟩
            · replace h := h.1 c
              replace K := fun i ro uo z => K i ro uo (Or.inl ⟨c, z⟩)
              obtain ⟨g12_, h⟩ := h
              refine ⟨g12_, ?_⟩
              replace K := fun i ro uo z => K i ro uo ⟨g12_, z⟩
              intro a30 ea30 
              replace h := h a30 ea30 
              replace K := fun i ro uo z => K i ro uo ⟨a30, ea30, z⟩
              refine ⟨fun c => ?_, fun c => ?_⟩
              · replace h := h.1 c
                replace K := fun i ro uo z => K i ro uo (Or.inl ⟨c, z⟩)
                exact ru_X2_headHolds_J149 i0 K h
              · replace h := h.2 c
                replace K := fun i ro uo z => K i ro uo (Or.inr ⟨c, z⟩)
                refine ⟨fun c => ?_, fun c => ?_⟩
                · replace h := h.1 c
                  replace K := fun i ro uo z => K i ro uo (Or.inl ⟨c, z⟩)
                  obtain ⟨Q9, h0, h⟩ := h
                  refine ⟨_, ruX2_catchesHold h0, ?_⟩
                  intro r43 S44 q13_ y14_ y15_
                  replace h := h r43 S44 q13_.1 y14_ y15_
                  replace K := fun i ro uo z => K i ro uo ⟨r43, S44, q13_.2, y14_, y15_, z⟩
                  exact ⟨h, K i0 _ _ ⟨rfl, rfl⟩⟩
                · replace h := h.2 c
                  replace K := fun i ro uo z => K i ro uo (Or.inr ⟨c, z⟩)
                  exact ru_X2_headHolds_J149 i0 K h
            · replace h := h.2 c
              replace K := fun i ro uo z => K i ro uo (Or.inr ⟨c, z⟩)
              obtain ⟨Q9, h0, h⟩ := h
              refine ⟨_, ruX7_breaks h0, ?_⟩
              intro r47 S48 q16_ y17_ y18_
              replace h := h r47 S48 q16_.1 y17_ y18_
              replace K := fun i ro uo z => K i ro uo ⟨r47, S48, q16_.2, y17_, y18_, z⟩
              exact ⟨h, K i0 _ _ ⟨rfl, rfl⟩⟩
          · replace h := h.2 c
            replace K := fun i ro uo z => K i ro uo (Or.inr ⟨c, z⟩)
            exact ru_X2_headHolds_J89 i0 K h
      · replace h := h.2 c
        replace K := fun i ro uo z => K i ro uo (Or.inr ⟨c, z⟩)
        obtain ⟨Q9, h0, h⟩ := h
        refine ⟨_, ruX7_breaks h0, ?_⟩
        intro r51 S52 q19_ y20_ y21_
        replace h := h r51 S52 q19_.1 y20_ y21_
        replace K := fun i ro uo z => K i ro uo ⟨r51, S52, q19_.2, y20_, y21_, z⟩
        exact ⟨h, K i0 _ _ ⟨rfl, rfl⟩⟩
    · replace h := h.2 c
      replace K := fun i ro uo z => K i ro uo (Or.inr ⟨c, z⟩)
      obtain ⟨Q9, h0, h⟩ := h
      refine ⟨_, ruX7_breaks h0, ?_⟩
      intro r55 S56 q22_ y23_ y24_
      replace h := h r55 S56 q22_.1 y23_ y24_
      replace K := fun i ro uo z => K i ro uo ⟨r55, S56, q22_.2, y23_, y24_, z⟩
      exact ⟨h, K i0 _ _ ⟨rfl, rfl⟩⟩
  · replace h := h.2 c
    replace K := fun i ro uo z => K i ro uo (Or.inr ⟨c, z⟩)
    obtain ⟨Q9, h0, h⟩ := h
    refine ⟨_, ruX7_breaks h0, ?_⟩
    intro r59 S60 q25_ y26_ y27_
    replace h := h r59 S60 q25_.1 y26_ y27_
    replace K := fun i ro uo z => K i ro uo ⟨r59, S60, q25_.2, y26_, y27_, z⟩
    exact ⟨h, K i0 _ _ ⟨rfl, rfl⟩⟩
set_option maxRecDepth 100000 in
theorem vw_X2_headHolds_J89 {ro : Int32} {uo : MS} {U89 : MS} {v89_1 : Int32} (h : v_X2_headHolds_J89 ro uo U89 v89_1) : w_X2_headHolds_J89 (fun r u => r = ro ∧ u = uo) U89 v89_1 := by
  unfold v_X2_headHolds_J89 at h
  unfold w_X2_headHolds_J89
  intro _
  replace h := h.2
  obtain ⟨p9, q9, z9, h⟩ := h
  refine ⟨_, vwX7_breaks z9, ?_⟩
  rintro p8 q8 ⟨d8, d9⟩ _ _
  subst d8
  subst d9
  replace h := h.2.2
  exact ⟨h.1.symm, h.2.symm⟩
set_option maxRecDepth 100000 in
theorem vp_X2_headHolds_J89 {ro : Int32} {uo : MS} {P : Int32 → MS → Prop} {U89 : MS} {v89_1 : Int32} (h : v_X2_headHolds_J89 ro uo U89 v89_1) (w : w_X2_headHolds_J89 P U89 v89_1) : P ro uo := by
  unfold v_X2_headHolds_J89 at h
  unfold w_X2_headHolds_J89 at w
  obtain ⟨y1_, h⟩ := h
  replace w := w y1_
  obtain ⟨p9, q9, z9, y2_, y3_, h⟩ := h
  obtain ⟨Q9, w0, w⟩ := w
  replace w := w p9 q9 (vpX7_breaks z9 w0) y2_ y3_
  rw [h.1, h.2]
  exact w
set_option maxRecDepth 100000 in
theorem vw_X2_headHolds_J149 {ro : Int32} {uo : MS} {U149 : MS} {v149_1 : Int32} (h : v_X2_headHolds_J149 ro uo U149 v149_1) : w_X2_headHolds_J149 (fun r u => r = ro ∧ u = uo) U149 v149_1 := by
  unfold v_X2_headHolds_J149 at h
  unfold w_X2_headHolds_J149
  intro _
  replace h := h.2
  obtain ⟨p9, q9, z9, h⟩ := h
  refine ⟨_, vwX7_breaks z9, ?_⟩
  rintro p8 q8 ⟨d8, d9⟩ _ _
  subst d8
  subst d9
  replace h := h.2.2
  exact ⟨h.1.symm, h.2.symm⟩
set_option maxRecDepth 100000 in
theorem vp_X2_headHolds_J149 {ro : Int32} {uo : MS} {P : Int32 → MS → Prop} {U149 : MS} {v149_1 : Int32} (h : v_X2_headHolds_J149 ro uo U149 v149_1) (w : w_X2_headHolds_J149 P U149 v149_1) : P ro uo := by
  unfold v_X2_headHolds_J149 at h
  unfold w_X2_headHolds_J149 at w
  obtain ⟨y4_, h⟩ := h
  replace w := w y4_
  obtain ⟨p9, q9, z9, y5_, y6_, h⟩ := h
  obtain ⟨Q9, w0, w⟩ := w
  replace w := w p9 q9 (vpX7_breaks z9 w0) y5_ y6_
  rw [h.1, h.2]
  exact w
set_option maxRecDepth 100000 in
theorem vwX2_headHolds {S : MS} {x1 : Int32} {x2 : Int32} {x3 : Int32} {ro : Int32} {uo : MS} (h : vX2_headHolds S x1 x2 x3 ro uo) : wX2_headHolds S x1 x2 x3 (fun r u => r = ro ∧ u = uo) := by
  unfold vX2_headHolds at h
  unfold wX2_headHolds
  rcases h with ⟨c, h⟩ | ⟨c, h⟩
  · refine ⟨fun _ => ?_, fun c2 => absurd c c2⟩
    obtain ⟨g9, h⟩ := h
    refine ⟨g9, ?_⟩
    rcases h with ⟨c, h⟩ | ⟨c, h⟩
    · refine ⟨fun _ => ?_, fun c2 => absurd c c2⟩
      rcases h with ⟨c, h⟩ | ⟨c, h⟩
      · refine ⟨fun _ => ?_, fun c2 => absurd c c2⟩
        obtain ⟨g9, h⟩ := h
        refine ⟨g9, ?_⟩
        rcases h with ⟨c, h⟩ | ⟨c, h⟩
        · refine ⟨fun _ => ?_, fun c2 => absurd c c2⟩
          exact vw_X2_headHolds_J89 h
        · refine ⟨fun c2 => absurd c2 c, fun _ => ?_⟩
          obtain ⟨g9, h⟩ := h
          refine ⟨g9, ?_⟩
          rcases h with ⟨c, h⟩ | ⟨c, h⟩
          · refine ⟨fun _ => ?_, fun c2 => absurd c c2⟩
            rcases h with ⟨c, h⟩ | ⟨c, h⟩
            · refine ⟨fun _ => ?_, fun c2 => absurd c c2⟩
              obtain ⟨g9, h⟩ := h
              refine ⟨g9, ?_⟩
              obtain ⟨v9, e9, h⟩ := h
              intro x9 d9 
              have c9 : v9 = x9 := e9.trans d9.symm
              subst c9
              rcases h with ⟨c, h⟩ | ⟨c, h⟩
              · refine ⟨fun _ => ?_, fun c2 => absurd c c2⟩
                exact vw_X2_headHolds_J149 h
              · refine ⟨fun c2 => absurd c2 c, fun _ => ?_⟩
                rcases h with ⟨c, h⟩ | ⟨c, h⟩
                · refine ⟨fun _ => ?_, fun c2 => absurd c c2⟩
                  obtain ⟨p9, q9, z9, h⟩ := h
                  refine ⟨_, vwX2_catchesHold z9, ?_⟩
                  rintro p8 q8 ⟨d8, d9⟩ _ _
                  subst d8
                  subst d9
                  replace h := h.2.2
                  exact ⟨h.1.symm, h.2.symm⟩
                · refine ⟨fun c2 => absurd c2 c, fun _ => ?_⟩
                  exact vw_X2_headHolds_J149 h
            · refine ⟨fun c2 => absurd c2 c, fun _ => ?_⟩
              obtain ⟨p9, q9, z9, h⟩ := h
              refine ⟨_, vwX7_breaks z9, ?_⟩
              rintro p8 q8 ⟨d8, d9⟩ _ _
              subst d8
              subst d9
              replace h := h.2.2
              exact ⟨h.1.symm, h.2.symm⟩
          · refine ⟨fun c2 => absurd c2 c, fun _ => ?_⟩
            exact vw_X2_headHolds_J89 h
      · refine ⟨fun c2 => absurd c2 c, fun _ => ?_⟩
        obtain ⟨p9, q9, z9, h⟩ := h
        refine ⟨_, vwX7_breaks z9, ?_⟩
        rintro p8 q8 ⟨d8, d9⟩ _ _
        subst d8
        subst d9
        replace h := h.2.2
        exact ⟨h.1.symm, h.2.symm⟩
    · refine ⟨fun c2 => absurd c2 c, fun _ => ?_⟩
      obtain ⟨p9, q9, z9, h⟩ := h
      refine ⟨_, vwX7_breaks z9, ?_⟩
      rintro p8 q8 ⟨d8, d9⟩ _ _
      subst d8
      subst d9
      replace h := h.2.2
      exact ⟨h.1.symm, h.2.symm⟩
  · refine ⟨fun c2 => absurd c2 c, fun _ => ?_⟩
    obtain ⟨p9, q9, z9, h⟩ := h
    refine ⟨_, vwX7_breaks z9, ?_⟩
    rintro p8 q8 ⟨d8, d9⟩ _ _
    subst d8
    subst d9
    replace h := h.2.2
    exact ⟨h.1.symm, h.2.symm⟩
set_option maxRecDepth 100000 in
theorem vpX2_headHolds {S : MS} {x1 : Int32} {x2 : Int32} {x3 : Int32} {ro : Int32} {uo : MS} {P : Int32 → MS → Prop} (h : vX2_headHolds S x1 x2 x3 ro uo) (w : wX2_headHolds S x1 x2 x3 P) : P ro uo := by
  unfold vX2_headHolds at h
  unfold wX2_headHolds at w
  rcases h with ⟨c, h⟩ | ⟨c, h⟩
  · replace w := w.1 c
    replace h := h.2
    replace w := w.2
    rcases h with ⟨c, h⟩ | ⟨c, h⟩
    · replace w := w.1 c
      rcases h with ⟨c, h⟩ | ⟨c, h⟩
      · replace w := w.1 c
        replace h := h.2
        replace w := w.2
        rcases h with ⟨c, h⟩ | ⟨c, h⟩
        · replace w := w.1 c
          exact vp_X2_headHolds_J89 h w
        · replace w := w.2 c
          replace h := h.2
          replace w := w.2
          rcases h with ⟨c, h⟩ | ⟨c, h⟩
          · replace w := w.1 c
            rcases h with ⟨c, h⟩ | ⟨c, h⟩
            · replace w := w.1 c
              replace h := h.2
              replace w := w.2
              obtain ⟨v9, e9, h⟩ := h
              replace w := w v9 e9 
              rcases h with ⟨c, h⟩ | ⟨c, h⟩
              · replace w := w.1 c
                exact vp_X2_headHolds_J149 h w
              · replace w := w.2 c
                rcases h with ⟨c, h⟩ | ⟨c, h⟩
                · replace w := w.1 c
                  obtain ⟨p9, q9, z9, y7_, y8_, h⟩ := h
                  obtain ⟨Q9, w0, w⟩ := w
                  replace w := w p9 q9 (vpX2_catchesHold z9 w0) y7_ y8_
                  rw [h.1, h.2]
                  exact w
                · replace w := w.2 c
                  exact vp_X2_headHolds_J149 h w
            · replace w := w.2 c
              obtain ⟨p9, q9, z9, y9_, y10_, h⟩ := h
              obtain ⟨Q9, w0, w⟩ := w
              replace w := w p9 q9 (vpX7_breaks z9 w0) y9_ y10_
              rw [h.1, h.2]
              exact w
          · replace w := w.2 c
            exact vp_X2_headHolds_J89 h w
      · replace w := w.2 c
        obtain ⟨p9, q9, z9, y11_, y12_, h⟩ := h
        obtain ⟨Q9, w0, w⟩ := w
        replace w := w p9 q9 (vpX7_breaks z9 w0) y11_ y12_
        rw [h.1, h.2]
        exact w
    · replace w := w.2 c
      obtain ⟨p9, q9, z9, y13_, y14_, h⟩ := h
      obtain ⟨Q9, w0, w⟩ := w
      replace w := w p9 q9 (vpX7_breaks z9 w0) y13_ y14_
      rw [h.1, h.2]
      exact w
  · replace w := w.2 c
    obtain ⟨p9, q9, z9, y15_, y16_, h⟩ := h
    obtain ⟨Q9, w0, w⟩ := w
    replace w := w p9 q9 (vpX7_breaks z9 w0) y15_ y16_
    rw [h.1, h.2]
    exact w
def v_X2_lengthAt_J110 (ro : Int32) (uo : MS) (U110 : MS) (v110_1 : Int32) (v110_2 : Int32) : Prop := (wfC U110 ∧ (((v110_1 + v110_2).toInt ≤ (qI U110 8 2).toInt ∧ (ro = v110_2 ∧ uo = U110)) ∨ (¬ (v110_1 + v110_2).toInt ≤ (qI U110 8 2).toInt ∧ (ro = (0 : Int32) ∧ uo = U110))))
def v_X2_lengthAt_J97 (ro : Int32) (uo : MS) (U97 : MS) (t97_0 : Int32) (v97_1 : Int32) : Prop := (wfC U97 ∧ (v_X2_lengthAt_J110 ro uo U97 v97_1 t97_0))
def vX2_lengthAt (S : MS) (x1 : Int32) (ro : Int32) (uo : MS) : Prop := (d_X2_u1 S x1 ∧ (∃ a4 : Int32, a4 = (fX2_u1 S x1) ∧ ((a4.toInt = 170 ∧ (d_X2_tableLength S x1 ∧ (∃ a10 : Int32, a10 = (fX2_tableLength S x1) ∧ (v_X2_lengthAt_J110 ro uo S x1 a10)))) ∨ (¬ a4.toInt = 170 ∧ ((a4.toInt = 171 ∧ (∃ (r12 : Int32) (S13 : MS), vX2_lookupLength S x1 r12 S13 ∧ wfC S13 ∧ shy S S13 ∧ (v_X2_lengthAt_J110 ro uo S13 x1 r12))) ∨ (¬ a4.toInt = 171 ∧ ((a4.toInt = 188 ∧ (d_X2_u1 S (x1 + (1 : Int32)) ∧ (∃ a19 : Int32, a19 = (fX2_u1 S (x1 + (1 : Int32))) ∧ ((a19.toInt = 10 ∧ (v_X2_lengthAt_J97 ro uo S 2 x1)) ∨ (¬ a19.toInt = 10 ∧ (v_X2_lengthAt_J97 ro uo S 0 x1)))))) ∨ (¬ a4.toInt = 188 ∧ ((a4.toInt = 196 ∧ (d_X2_u1 S (x1 + (1 : Int32)) ∧ (∃ a25 : Int32, a25 = (fX2_u1 S (x1 + (1 : Int32))) ∧ (d_X2_wideLength S a25 ∧ (∃ a29 : Int32, a29 = (fX2_wideLength S a25) ∧ (v_X2_lengthAt_J110 ro uo S x1 a29)))))) ∨ (¬ a4.toInt = 196 ∧ (d_X2_u1 S x1 ∧ (∃ a33 : Int32, a33 = (fX2_u1 S x1) ∧ (d_X6_lengthOf S a33 ∧ (∃ a37 : Int32, a37 = (fX6_lengthOf S a33) ∧ (v_X2_lengthAt_J110 ro uo S x1 a37)))))))))))))))
set_option maxRecDepth 100000 in
theorem ru_X2_lengthAt_J110 {ι : Type} {P Q : Int32 → MS → Prop} {U110 : MS} {v110_1 : Int32} {v110_2 : Int32} (i0 : ι) (K : ∀ (i : ι) (ro : Int32) (uo : MS), v_X2_lengthAt_J110 ro uo U110 v110_1 v110_2 → P ro uo) (h : w_X2_lengthAt_J110 Q U110 v110_1 v110_2) : w_X2_lengthAt_J110 (fun r u => Q r u ∧ P r u) U110 v110_1 v110_2 := by
  unfold w_X2_lengthAt_J110 at h ⊢
  intro y1_
  replace h := h y1_
  replace K := fun i ro uo z => K i ro uo ⟨y1_, z⟩
  refine ⟨fun c => ?_, fun c => ?_⟩
  · replace h := h.1 c
    replace K := fun i ro uo z => K i ro uo (Or.inl ⟨c, z⟩)
    exact ⟨h, K i0 _ _ ⟨rfl, rfl⟩⟩
  · replace h := h.2 c
    replace K := fun i ro uo z => K i ro uo (Or.inr ⟨c, z⟩)
    exact ⟨h, K i0 _ _ ⟨rfl, rfl⟩⟩
set_option maxRecDepth 100000 in
theorem ru_X2_lengthAt_J97 {ι : Type} {P Q : Int32 → MS → Prop} {U97 : MS} {t97_0 : Int32} {v97_1 : Int32} (i0 : ι) (K : ∀ (i : ι) (ro : Int32) (uo : MS), v_X2_lengthAt_J97 ro uo U97 t97_0 v97_1 → P ro uo) (h : w_X2_lengthAt_J97 Q U97 t97_0 v97_1) : w_X2_lengthAt_J97 (fun r u => Q r u ∧ P r u) U97 t97_0 v97_1 := by
  unfold w_X2_lengthAt_J97 at h ⊢
  intro y2_
  replace h := h y2_
  replace K := fun i ro uo z => K i ro uo ⟨y2_, z⟩
  exact ru_X2_lengthAt_J110 i0 K h
set_option maxRecDepth 100000 in
theorem ruX2_lengthAt {S : MS} {x1 : Int32} {Q : Int32 → MS → Prop} (h : wX2_lengthAt S x1 Q) : wX2_lengthAt S x1 (fun r u => Q r u ∧ vX2_lengthAt S x1 r u) := by
  have i0 : Unit := ()
  have K : ∀ (i : Unit) (ro : Int32) (uo : MS), vX2_lengthAt S x1 ro uo → vX2_lengthAt S x1 ro uo := fun _ _ _ z => z
  unfold wX2_lengthAt at h ⊢
  obtain ⟨g3_, h⟩ := h
  refine ⟨g3_, ?_⟩
  replace K := fun i ro uo z => K i ro uo ⟨g3_, z⟩
  intro a4 ea4 
  replace h := h a4 ea4 
  replace K := fun i ro uo z => K i ro uo ⟨a4, ea4, z⟩
  refine ⟨fun c => ?_, fun c => ?_⟩
  · replace h := h.1 c
    replace K := fun i ro uo z => K i ro uo (Or.inl ⟨c, z⟩)
    obtain ⟨g4_, h⟩ := h
    refine ⟨g4_, ?_⟩
    replace K := fun i ro uo z => K i ro uo ⟨g4_, z⟩
    intro a10 ea10 
    replace h := h a10 ea10 
    replace K := fun i ro uo z => K i ro uo ⟨a10, ea10, z⟩
    exact ru_X2_lengthAt_J110 i0 K h
  · replace h := h.2 c
    replace K := fun i ro uo z => K i ro uo (Or.inr ⟨c, z⟩)
    refine ⟨fun c => ?_, fun c => ?_⟩
    · replace h := h.1 c
      replace K := fun i ro uo z => K i ro uo (Or.inl ⟨c, z⟩)
      obtain ⟨Q9, h0, h⟩ := h
      refine ⟨_, ruX2_lookupLength h0, ?_⟩
      intro r12 S13 q5_ y6_ y7_
      replace h := h r12 S13 q5_.1 y6_ y7_
      replace K := fun i ro uo z => K i ro uo ⟨r12, S13, q5_.2, y6_, y7_, z⟩
      exact ru_X2_lengthAt_J110 i0 K h
    · replace h := h.2 c
      replace K := fun i ro uo z => K i ro uo (Or.inr ⟨c, z⟩)
      refine ⟨fun c => ?_, fun c => ?_⟩
      · replace h := h.1 c
        replace K := fun i ro uo z => K i ro uo (Or.inl ⟨c, z⟩)
        obtain ⟨g8_, h⟩ := h
        refine ⟨g8_, ?_⟩
        replace K := fun i ro uo z => K i ro uo ⟨g8_, z⟩
        intro a19 ea19 
        replace h := h a19 ea19 
        replace K := fun i ro uo z => K i ro uo ⟨a19, ea19, z⟩
        refine ⟨fun c => ?_, fun c => ?_⟩
        · replace h := h.1 c
          replace K := fun i ro uo z => K i ro uo (Or.inl ⟨c, z⟩)
          exact ru_X2_lengthAt_J97 i0 K h
        · replace h := h.2 c
          replace K := fun i ro uo z => K i ro uo (Or.inr ⟨c, z⟩)
          exact ru_X2_lengthAt_J97 i0 K h
      · replace h := h.2 c
        replace K := fun i ro uo z => K i ro uo (Or.inr ⟨c, z⟩)
        refine ⟨fun c => ?_, fun c => ?_⟩
        · replace h := h.1 c
          replace K := fun i ro uo z => K i ro uo (Or.inl ⟨c, z⟩)
          obtain ⟨g9_, h⟩ := h
          refine ⟨g9_, ?_⟩
          replace K := fun i ro uo z => K i ro uo ⟨g9_, z⟩
          intro a25 ea25 
          replace h := h a25 ea25 
          replace K := fun i ro uo z => K i ro uo ⟨a25, ea25, z⟩
          obtain ⟨g10_, h⟩ := h
          refine ⟨g10_, ?_⟩
          replace K := fun i ro uo z => K i ro uo ⟨g10_, z⟩
          intro a29 ea29 
          replace h := h a29 ea29 
          replace K := fun i ro uo z => K i ro uo ⟨a29, ea29, z⟩
          exact ru_X2_lengthAt_J110 i0 K h
        · replace h := h.2 c
          replace K := fun i ro uo z => K i ro uo (Or.inr ⟨c, z⟩)
          obtain ⟨g11_, h⟩ := h
          refine ⟨g11_, ?_⟩
          replace K := fun i ro uo z => K i ro uo ⟨g11_, z⟩
          intro a33 ea33 
          replace h := h a33 ea33 
          replace K := fun i ro uo z => K i ro uo ⟨a33, ea33, z⟩
          obtain ⟨g12_, h⟩ := h
          refine ⟨g12_, ?_⟩
          replace K := fun i ro uo z => K i ro uo ⟨g12_, z⟩
          intro a37 ea37 
          replace h := h a37 ea37 
          replace K := fun i ro uo z => K i ro uo ⟨a37, ea37, z⟩
          exact ru_X2_lengthAt_J110 i0 K h
set_option maxRecDepth 100000 in
theorem vw_X2_lengthAt_J110 {ro : Int32} {uo : MS} {U110 : MS} {v110_1 : Int32} {v110_2 : Int32} (h : v_X2_lengthAt_J110 ro uo U110 v110_1 v110_2) : w_X2_lengthAt_J110 (fun r u => r = ro ∧ u = uo) U110 v110_1 v110_2 := by
  unfold v_X2_lengthAt_J110 at h
  unfold w_X2_lengthAt_J110
  intro _
  replace h := h.2
  rcases h with ⟨c, h⟩ | ⟨c, h⟩
  · refine ⟨fun _ => ?_, fun c2 => absurd c c2⟩
    exact ⟨h.1.symm, h.2.symm⟩
  · refine ⟨fun c2 => absurd c2 c, fun _ => ?_⟩
    exact ⟨h.1.symm, h.2.symm⟩
set_option maxRecDepth 100000 in
theorem vp_X2_lengthAt_J110 {ro : Int32} {uo : MS} {P : Int32 → MS → Prop} {U110 : MS} {v110_1 : Int32} {v110_2 : Int32} (h : v_X2_lengthAt_J110 ro uo U110 v110_1 v110_2) (w : w_X2_lengthAt_J110 P U110 v110_1 v110_2) : P ro uo := by
  unfold v_X2_lengthAt_J110 at h
  unfold w_X2_lengthAt_J110 at w
  obtain ⟨y1_, h⟩ := h
  replace w := w y1_
  rcases h with ⟨c, h⟩ | ⟨c, h⟩
  · replace w := w.1 c
    rw [h.1, h.2]
    exact w
  · replace w := w.2 c
    rw [h.1, h.2]
    exact w
set_option maxRecDepth 100000 in
theorem vw_X2_lengthAt_J97 {ro : Int32} {uo : MS} {U97 : MS} {t97_0 : Int32} {v97_1 : Int32} (h : v_X2_lengthAt_J97 ro uo U97 t97_0 v97_1) : w_X2_lengthAt_J97 (fun r u => r = ro ∧ u = uo) U97 t97_0 v97_1 := by
  unfold v_X2_lengthAt_J97 at h
  unfold w_X2_lengthAt_J97
  intro _
  replace h := h.2
  exact vw_X2_lengthAt_J110 h
set_option maxRecDepth 100000 in
theorem vp_X2_lengthAt_J97 {ro : Int32} {uo : MS} {P : Int32 → MS → Prop} {U97 : MS} {t97_0 : Int32} {v97_1 : Int32} (h : v_X2_lengthAt_J97 ro uo U97 t97_0 v97_1) (w : w_X2_lengthAt_J97 P U97 t97_0 v97_1) : P ro uo := by
  unfold v_X2_lengthAt_J97 at h
  unfold w_X2_lengthAt_J97 at w
  obtain ⟨y2_, h⟩ := h
  replace w := w y2_
  exact vp_X2_lengthAt_J110 h w
set_option maxRecDepth 100000 in
theorem vwX2_lengthAt {S : MS} {x1 : Int32} {ro : Int32} {uo : MS} (h : vX2_lengthAt S x1 ro uo) : wX2_lengthAt S x1 (fun r u => r = ro ∧ u = uo) := by
  unfold vX2_lengthAt at h
  unfold wX2_lengthAt
  obtain ⟨g9, h⟩ := h
  refine ⟨g9, ?_⟩
  obtain ⟨v9, e9, h⟩ := h
  intro x9 d9 
  have c9 : v9 = x9 := e9.trans d9.symm
  subst c9
  rcases h with ⟨c, h⟩ | ⟨c, h⟩
  · refine ⟨fun _ => ?_, fun c2 => absurd c c2⟩
    obtain ⟨g9, h⟩ := h
    refine ⟨g9, ?_⟩
    obtain ⟨v9, e9, h⟩ := h
    intro x9 d9 
    have c9 : v9 = x9 := e9.trans d9.symm
    subst c9
    exact vw_X2_lengthAt_J110 h
  · refine ⟨fun c2 => absurd c2 c, fun _ => ?_⟩
    rcases h with ⟨c, h⟩ | ⟨c, h⟩
    · refine ⟨fun _ => ?_, fun c2 => absurd c c2⟩
      obtain ⟨p9, q9, z9, h⟩ := h
      refine ⟨_, vwX2_lookupLength z9, ?_⟩
      rintro p8 q8 ⟨d8, d9⟩ _ _
      subst d8
      subst d9
      replace h := h.2.2
      exact vw_X2_lengthAt_J110 h
    · refine ⟨fun c2 => absurd c2 c, fun _ => ?_⟩
      rcases h with ⟨c, h⟩ | ⟨c, h⟩
      · refine ⟨fun _ => ?_, fun c2 => absurd c c2⟩
        obtain ⟨g9, h⟩ := h
        refine ⟨g9, ?_⟩
        obtain ⟨v9, e9, h⟩ := h
        intro x9 d9 
        have c9 : v9 = x9 := e9.trans d9.symm
        subst c9
        rcases h with ⟨c, h⟩ | ⟨c, h⟩
        · refine ⟨fun _ => ?_, fun c2 => absurd c c2⟩
          exact vw_X2_lengthAt_J97 h
        · refine ⟨fun c2 => absurd c2 c, fun _ => ?_⟩
          exact vw_X2_lengthAt_J97 h
      · refine ⟨fun c2 => absurd c2 c, fun _ => ?_⟩
        rcases h with ⟨c, h⟩ | ⟨c, h⟩
        · refine ⟨fun _ => ?_, fun c2 => absurd c c2⟩
          obtain ⟨g9, h⟩ := h
          refine ⟨g9, ?_⟩
          obtain ⟨v9, e9, h⟩ := h
          intro x9 d9 
          have c9 : v9 = x9 := e9.trans d9.symm
          subst c9
          obtain ⟨g9, h⟩ := h
          refine ⟨g9, ?_⟩
          obtain ⟨v9, e9, h⟩ := h
          intro x9 d9 
          have c9 : v9 = x9 := e9.trans d9.symm
          subst c9
          exact vw_X2_lengthAt_J110 h
        · refine ⟨fun c2 => absurd c2 c, fun _ => ?_⟩
          obtain ⟨g9, h⟩ := h
          refine ⟨g9, ?_⟩
          obtain ⟨v9, e9, h⟩ := h
          intro x9 d9 
          have c9 : v9 = x9 := e9.trans d9.symm
          subst c9
          obtain ⟨g9, h⟩ := h
          refine ⟨g9, ?_⟩
          obtain ⟨v9, e9, h⟩ := h
          intro x9 d9 
          have c9 : v9 = x9 := e9.trans d9.symm
          subst c9
          exact vw_X2_lengthAt_J110 h
set_option maxRecDepth 100000 in
theorem vpX2_lengthAt {S : MS} {x1 : Int32} {ro : Int32} {uo : MS} {P : Int32 → MS → Prop} (h : vX2_lengthAt S x1 ro uo) (w : wX2_lengthAt S x1 P) : P ro uo := by
  unfold vX2_lengthAt at h
  unfold wX2_lengthAt at w
  replace h := h.2
  replace w := w.2
  obtain ⟨v9, e9, h⟩ := h
  replace w := w v9 e9 
  rcases h with ⟨c, h⟩ | ⟨c, h⟩
  · replace w := w.1 c
    replace h := h.2
    replace w := w.2
    obtain ⟨v9, e9, h⟩ := h
    replace w := w v9 e9 
    exact vp_X2_lengthAt_J110 h w
  · replace w := w.2 c
    rcases h with ⟨c, h⟩ | ⟨c, h⟩
    · replace w := w.1 c
      obtain ⟨p9, q9, z9, y3_, y4_, h⟩ := h
      obtain ⟨Q9, w0, w⟩ := w
      replace w := w p9 q9 (vpX2_lookupLength z9 w0) y3_ y4_
      exact vp_X2_lengthAt_J110 h w
    · replace w := w.2 c
      rcases h with ⟨c, h⟩ | ⟨c, h⟩
      · replace w := w.1 c
        replace h := h.2
        replace w := w.2
        obtain ⟨v9, e9, h⟩ := h
        replace w := w v9 e9 
        rcases h with ⟨c, h⟩ | ⟨c, h⟩
        · replace w := w.1 c
          exact vp_X2_lengthAt_J97 h w
        · replace w := w.2 c
          exact vp_X2_lengthAt_J97 h w
      · replace w := w.2 c
        rcases h with ⟨c, h⟩ | ⟨c, h⟩
        · replace w := w.1 c
          replace h := h.2
          replace w := w.2
          obtain ⟨v9, e9, h⟩ := h
          replace w := w v9 e9 
          replace h := h.2
          replace w := w.2
          obtain ⟨v9, e9, h⟩ := h
          replace w := w v9 e9 
          exact vp_X2_lengthAt_J110 h w
        · replace w := w.2 c
          replace h := h.2
          replace w := w.2
          obtain ⟨v9, e9, h⟩ := h
          replace w := w v9 e9 
          replace h := h.2
          replace w := w.2
          obtain ⟨v9, e9, h⟩ := h
          replace w := w v9 e9 
          exact vp_X2_lengthAt_J110 h w
def v_X2_decode_J57 (uo : MS) (U57 : MS) (v57_2 : Int32) : Prop := (wfC U57 ∧ (∃ (S10 : MS), vX2_set U57 (9 : Int32) ((v57_2 - (9 : Int32)).toInt64) S10 ∧ wfC S10 ∧ shy U57 S10 ∧ (uo = S10)))
def v_X2_decode_J247 (uo : MS) (U247 : MS) (v247_1 : Int32) : Prop := (wfC U247 ∧ (∃ (S30 : MS), vX2_decodeLocal U247 v247_1 S30 ∧ wfC S30 ∧ shy U247 S30 ∧ (uo = S30)))
def v_X2_decode_J45 (uo : MS) (U45 : MS) (v45_1 : Int32) (v45_2 : Int32) : Prop := (wfC U45 ∧ ((v45_2.toInt = 9 ∧ (v_X2_decode_J57 uo U45 v45_2)) ∨ (¬ v45_2.toInt = 9 ∧ ((v45_2.toInt = 10 ∧ (v_X2_decode_J57 uo U45 v45_2)) ∨ (¬ v45_2.toInt = 10 ∧ ((v45_2.toInt = 16 ∧ (d_X2_u1 U45 (v45_1 + (1 : Int32)) ∧ (∃ (S82 : MS), vX2_set U45 (17 : Int32) (((fX2_u1 U45 (v45_1 + (1 : Int32))).toInt8.toInt32).toInt64) S82 ∧ wfC S82 ∧ shy U45 S82 ∧ (uo = S82)))) ∨ (¬ v45_2.toInt = 16 ∧ ((v45_2.toInt = 17 ∧ (d_X2_u2 U45 (v45_1 + (1 : Int32)) ∧ (∃ (S75 : MS), vX2_set U45 (17 : Int32) (((fX2_u2 U45 (v45_1 + (1 : Int32))).toInt16.toInt32).toInt64) S75 ∧ wfC S75 ∧ shy U45 S75 ∧ (uo = S75)))) ∨ (¬ v45_2.toInt = 17 ∧ ((v45_2.toInt = 18 ∧ (d_X2_u1 U45 (v45_1 + (1 : Int32)) ∧ (∃ (S68 : MS), vX2_set U45 (19 : Int32) ((fX2_u1 U45 (v45_1 + (1 : Int32))).toInt64) S68 ∧ wfC S68 ∧ shy U45 S68 ∧ (uo = S68)))) ∨ (¬ v45_2.toInt = 18 ∧ ((v45_2.toInt = 200 ∧ (d_X2_s4 U45 (v45_1 + (1 : Int32)) ∧ (∃ (S61 : MS), vX2_set U45 (167 : Int32) ((v45_1.toInt64) + ((fX2_s4 U45 (v45_1 + (1 : Int32))).toInt64)) S61 ∧ wfC S61 ∧ shy U45 S61 ∧ (uo = S61)))) ∨ (¬ v45_2.toInt = 200 ∧ (d_X6_isJump U45 v45_2 ∧ (((fX6_isJump U45 v45_2).toInt = 0 ∧ (d_X6_isSwitch U45 v45_2 ∧ (((fX6_isSwitch U45 v45_2).toInt = 0 ∧ (d_X6_lengthOf U45 v45_2 ∧ (((fX6_lengthOf U45 v45_2).toInt = 3 ∧ ((v45_2.toInt = 132 ∧ (v_X2_decode_J247 uo U45 v45_1)) ∨ (¬ v45_2.toInt = 132 ∧ (d_X2_u2 U45 (v45_1 + (1 : Int32)) ∧ (∃ (S39 : MS), vX2_set U45 v45_2 ((fX2_u2 U45 (v45_1 + (1 : Int32))).toInt64) S39 ∧ wfC S39 ∧ shy U45 S39 ∧ (uo = S39)))))) ∨ (¬ (fX6_lengthOf U45 v45_2).toInt = 3 ∧ (v_X2_decode_J247 uo U45 v45_1))))) ∨ (¬ (fX6_isSwitch U45 v45_2).toInt = 0 ∧ (d_X2_numbersOf U45 v45_1 ∧ (∃ (S45 : MS), vX2_set U45 v45_2 ((fX2_numbersOf U45 v45_1).toInt64) S45 ∧ wfC S45 ∧ shy U45 S45 ∧ (uo = S45))))))) ∨ (¬ (fX6_isJump U45 v45_2).toInt = 0 ∧ (d_X2_u2 U45 (v45_1 + (1 : Int32)) ∧ (∃ (S53 : MS), vX2_set U45 v45_2 ((v45_1 + ((fX2_u2 U45 (v45_1 + (1 : Int32))).toInt16.toInt32)).toInt64) S53 ∧ wfC S53 ∧ shy U45 S53 ∧ (uo = S53)))))))))))))))))))
def vX2_decode (S : MS) (x1 : Int32) (uo : MS) : Prop := (d_X2_u1 S x1 ∧ (∃ a4 : Int32, a4 = (fX2_u1 S x1) ∧ (∃ S5 : MS, S5 = wI S 8 11 x1 ∧ qT S 8 = 42 ∧ wfC S5 ∧ (∃ S6 : MS, S6 = wI S5 8 9 a4 ∧ qT S5 8 = 42 ∧ wfC S6 ∧ (∃ S7 : MS, S7 = wJ S6 8 10 0 ∧ qT S6 8 = 42 ∧ wfC S7 ∧ ((a4.toInt < 2 ∧ (v_X2_decode_J45 uo S7 x1 a4)) ∨ (¬ a4.toInt < 2 ∧ ((8 < a4.toInt ∧ (v_X2_decode_J45 uo S7 x1 a4)) ∨ (¬ 8 < a4.toInt ∧ (∃ (S88 : MS), vX2_set S7 (17 : Int32) ((a4 - (3 : Int32)).toInt64) S88 ∧ wfC S88 ∧ shy S7 S88 ∧ (uo = S88)))))))))))
set_option maxRecDepth 100000 in
theorem ru_X2_decode_J57 {ι : Type} {P Q : MS → Prop} {U57 : MS} {v57_2 : Int32} (i0 : ι) (K : ∀ (i : ι) (uo : MS), v_X2_decode_J57 uo U57 v57_2 → P uo) (h : w_X2_decode_J57 Q U57 v57_2) : w_X2_decode_J57 (fun u => Q u ∧ P u) U57 v57_2 := by
  unfold w_X2_decode_J57 at h ⊢
  intro y1_
  replace h := h y1_
  replace K := fun i uo z => K i uo ⟨y1_, z⟩
  obtain ⟨Q9, h0, h⟩ := h
  refine ⟨_, ruX2_set h0, ?_⟩
  intro S10 q2_ y3_ y4_
  replace h := h S10 q2_.1 y3_ y4_
  replace K := fun i uo z => K i uo ⟨S10, q2_.2, y3_, y4_, z⟩
  exact ⟨h, K i0 _ rfl⟩
set_option maxRecDepth 100000 in
theorem ru_X2_decode_J247 {ι : Type} {P Q : MS → Prop} {U247 : MS} {v247_1 : Int32} (i0 : ι) (K : ∀ (i : ι) (uo : MS), v_X2_decode_J247 uo U247 v247_1 → P uo) (h : w_X2_decode_J247 Q U247 v247_1) : w_X2_decode_J247 (fun u => Q u ∧ P u) U247 v247_1 := by
  unfold w_X2_decode_J247 at h ⊢
  intro y5_
  replace h := h y5_
  replace K := fun i uo z => K i uo ⟨y5_, z⟩
  obtain ⟨Q9, h0, h⟩ := h
  refine ⟨_, ruX2_decodeLocal h0, ?_⟩
  intro S30 q6_ y7_ y8_
  replace h := h S30 q6_.1 y7_ y8_
  replace K := fun i uo z => K i uo ⟨S30, q6_.2, y7_, y8_, z⟩
  exact ⟨h, K i0 _ rfl⟩
set_option maxRecDepth 100000 in
theorem ru_X2_decode_J45 {ι : Type} {P Q : MS → Prop} {U45 : MS} {v45_1 : Int32} {v45_2 : Int32} (i0 : ι) (K : ∀ (i : ι) (uo : MS), v_X2_decode_J45 uo U45 v45_1 v45_2 → P uo) (h : w_X2_decode_J45 Q U45 v45_1 v45_2) : w_X2_decode_J45 (fun u => Q u ∧ P u) U45 v45_1 v45_2 := by
  unfold w_X2_decode_J45 at h ⊢
  intro y9_
  replace h := h y9_
  replace K := fun i uo z => K i uo ⟨y9_, z⟩
  refine ⟨fun c => ?_, fun c => ?_⟩
  · replace h := h.1 c
    replace K := fun i uo z => K i uo (Or.inl ⟨c, z⟩)
    exact ru_X2_decode_J57 i0 K h
  · replace h := h.2 c
    replace K := fun i uo z => K i uo (Or.inr ⟨c, z⟩)
    refine ⟨fun c => ?_, fun c => ?_⟩
    · replace h := h.1 c
      replace K := fun i uo z => K i uo (Or.inl ⟨c, z⟩)
      exact ru_X2_decode_J57 i0 K h
    · replace h := h.2 c
      replace K := fun i uo z => K i uo (Or.inr ⟨c, z⟩)
      refine ⟨fun c => ?_, fun c => ?_⟩
      · replace h := h.1 c
        replace K := fun i uo z => K i uo (Or.inl ⟨c, z⟩)
        obtain ⟨g10_, h⟩ := h
        refine ⟨g10_, ?_⟩
        replace K := fun i uo z => K i uo ⟨g10_, z⟩
        obtain ⟨Q9, h0, h⟩ := h
        refine ⟨_, ruX2_set h0, ?_⟩
        intro S82 q11_ y12_ y13_
        replace h := h S82 q11_.1 y12_ y13_
        replace K := fun i uo z => K i uo ⟨S82, q11_.2, y12_, y13_, z⟩
        exact ⟨h, K i0 _ rfl⟩
      · replace h := h.2 c
        replace K := fun i uo z => K i uo (Or.inr ⟨c, z⟩)
        refine ⟨fun c => ?_, fun c => ?_⟩
        · replace h := h.1 c
          replace K := fun i uo z => K i uo (Or.inl ⟨c, z⟩)
          obtain ⟨g14_, h⟩ := h
          refine ⟨g14_, ?_⟩
          replace K := fun i uo z => K i uo ⟨g14_, z⟩
          obtain ⟨Q9, h0, h⟩ := h
          refine ⟨_, ruX2_set h0, ?_⟩
          intro S75 q15_ y16_ y17_
          replace h := h S75 q15_.1 y16_ y17_
          replace K := fun i uo z => K i uo ⟨S75, q15_.2, y16_, y17_, z⟩
          exact ⟨h, K i0 _ rfl⟩
        · replace h := h.2 c
          replace K := fun i uo z => K i uo (Or.inr ⟨c, z⟩)
          refine ⟨fun c => ?_, fun c => ?_⟩
          · replace h := h.1 c
            replace K := fun i uo z => K i uo (Or.inl ⟨c, z⟩)
            obtain ⟨g18_, h⟩ := h
            refine ⟨g18_, ?_⟩
            replace K := fun i uo z => K i uo ⟨g18_, z⟩
            obtain ⟨Q9, h0, h⟩ := h
            refine ⟨_, ruX2_set h0, ?_⟩
            intro S68 q19_ y20_ y21_
            replace h := h S68 q19_.1 y20_ y21_
            replace K := fun i uo z => K i uo ⟨S68, q19_.2, y20_, y21_, z⟩
            exact ⟨h, K i0 _ rfl⟩
          · replace h := h.2 c
            replace K := fun i uo z => K i uo (Or.inr ⟨c, z⟩)
            refine ⟨fun c => ?_, fun c => ?_⟩
            · replace h := h.1 c
              replace K := fun i uo z => K i uo (Or.inl ⟨c, z⟩)
              obtain ⟨g22_, h⟩ := h
              refine ⟨g22_, ?_⟩
              replace K := fun i uo z => K i uo ⟨g22_, z⟩
              obtain ⟨Q9, h0, h⟩ := h
              refine ⟨_, ruX2_set h0, ?_⟩
              intro S61 q23_ y24_ y25_
              replace h := h S61 q23_.1 y24_ y25_
              replace K := fun i uo z => K i uo ⟨S61, q23_.2, y24_, y25_, z⟩
              exact ⟨h, K i0 _ rfl⟩
            · replace h := h.2 c
              replace K := fun i uo z => K i uo (Or.inr ⟨c, z⟩)
              obtain ⟨g26_, h⟩ := h
              refine ⟨g26_, ?_⟩
              replace K := fun i uo z => K i uo ⟨g26_, z⟩
              refine ⟨fun c => ?_, fun c => ?_⟩
              · replace h := h.1 c
                replace K := fun i uo z => K i uo (Or.inl ⟨c, z⟩)
                obtain ⟨g27_, h⟩ := h
                refine ⟨g27_, ?_⟩
                replace K := fun i uo z => K i uo ⟨g27_, z⟩
                refine ⟨fun c => ?_, fun c => ?_⟩
                · replace h := h.1 c
                  replace K := fun i uo z => K i uo (Or.inl ⟨c, z⟩)
                  obtain ⟨g28_, h⟩ := h
                  refine ⟨g28_, ?_⟩
                  replace K := fun i uo z => K i uo ⟨g28_, z⟩
                  refine ⟨fun c => ?_, fun c => ?_⟩
                  · replace h := h.1 c
                    replace K := fun i uo z => K i uo (Or.inl ⟨c, z⟩)
                    refine ⟨fun c => ?_, fun c => ?_⟩
                    · replace h := h.1 c
                      replace K := fun i uo z => K i uo (Or.inl ⟨c, z⟩)
                      exact ru_X2_decode_J247 i0 K h
                    · replace h := h.2 c
                      replace K := fun i uo z => K i uo (Or.inr ⟨c, z⟩)
                      obtain ⟨g29_, h⟩ := h
                      refine ⟨g29_, ?_⟩
                      replace K := fun i uo z => K i uo ⟨g29_, z⟩
                      obtain ⟨Q9, h0, h⟩ := h
                      refine ⟨_, ruX2_set h0, ?_⟩
                      intro S39 q30_ y31_ y32_
                      replace h := h S39 q30_.1 y31_ y32_
                      replace K := fun i uo z => K i uo ⟨S39, q30_.2, y31_, y32_, z⟩
                      exact ⟨h, K i0 _ rfl⟩
                  · replace h := h.2 c
                    replace K := fun i uo z => K i uo (Or.inr ⟨c, z⟩)
                    exact ru_X2_decode_J247 i0 K h
                · replace h := h.2 c
                  replace K := fun i uo z => K i uo (Or.inr ⟨c, z⟩)
                  obtain ⟨g33_, h⟩ := h
                  refine ⟨g33_, ?_⟩
                  replace K := fun i uo z => K i uo ⟨g33_, z⟩
                  obtain ⟨Q9, h0, h⟩ := h
                  refine ⟨_, ruX2_set h0, ?_⟩
                  intro S45 q34_ y35_ y36_
                  replace h := h S45 q34_.1 y35_ y36_
                  replace K := fun i uo z => K i uo ⟨S45, q34_.2, y35_, y36_, z⟩
                  exact ⟨h, K i0 _ rfl⟩
              · replace h := h.2 c
                replace K := fun i uo z => K i uo (Or.inr ⟨c, z⟩)
                obtain ⟨g37_, h⟩ := h
                refine ⟨g37_, ?_⟩
                replace K := fun i uo z => K i uo ⟨g37_, z⟩
                obtain ⟨Q9, h0, h⟩ := h
                refine ⟨_, ruX2_set h0, ?_⟩
                intro S53 q38_ y39_ y40_
                replace h := h S53 q38_.1 y39_ y40_
                replace K := fun i uo z => K i uo ⟨S53, q38_.2, y39_, y40_, z⟩
                exact ⟨h, K i0 _ rfl⟩
set_option maxRecDepth 100000 in
theorem ruX2_decode {S : MS} {x1 : Int32} {Q : MS → Prop} (h : wX2_decode S x1 Q) : wX2_decode S x1 (fun u => Q u ∧ vX2_decode S x1 u) := by
  have i0 : Unit := ()
  have K : ∀ (i : Unit) (uo : MS), vX2_decode S x1 uo → vX2_decode S x1 uo := fun _ _ z => z
  unfold wX2_decode at h ⊢
  obtain ⟨g41_, h⟩ := h
  refine ⟨g41_, ?_⟩
  replace K := fun i uo z => K i uo ⟨g41_, z⟩
  intro a4 ea4 
  replace h := h a4 ea4 
  replace K := fun i uo z => K i uo ⟨a4, ea4, z⟩
  intro S5 eS5 y42_ y43_
  replace h := h S5 eS5 y42_ y43_
  replace K := fun i uo z => K i uo ⟨S5, eS5, y42_, y43_, z⟩
  intro S6 eS6 y44_ y45_
  replace h := h S6 eS6 y44_ y45_
  replace K := fun i uo z => K i uo ⟨S6, eS6, y44_, y45_, z⟩
  intro S7 eS7 y46_ y47_
  replace h := h S7 eS7 y46_ y47_
  replace K := fun i uo z => K i uo ⟨S7, eS7, y46_, y47_, z⟩
  refine ⟨fun c => ?_, fun c => ?_⟩
  · replace h := h.1 c
    replace K := fun i uo z => K i uo (Or.inl ⟨c, z⟩)
    exact ru_X2_decode_J45 i0 K h
  · replace h := h.2 c
    replace K := fun i uo z => K i uo (Or.inr ⟨c, z⟩)
    refine ⟨fun c => ?_, fun c => ?_⟩
    · replace h := h.1 c
      replace K := fun i uo z => K i uo (Or.inl ⟨c, z⟩)
      exact ru_X2_decode_J45 i0 K h
    · replace h := h.2 c
      replace K := fun i uo z => K i uo (Or.inr ⟨c, z⟩)
      obtain ⟨Q9, h0, h⟩ := h
      refine ⟨_, ruX2_set h0, ?_⟩
      intro S88 q48_ y49_ y50_
      replace h := h S88 q48_.1 y49_ y50_
      replace K := fun i uo z => K i uo ⟨S88, q48_.2, y49_, y50_, z⟩
      exact ⟨h, K i0 _ rfl⟩
set_option maxRecDepth 100000 in
theorem vw_X2_decode_J57 {uo : MS} {U57 : MS} {v57_2 : Int32} (h : v_X2_decode_J57 uo U57 v57_2) : w_X2_decode_J57 (fun u => u = uo) U57 v57_2 := by
  unfold v_X2_decode_J57 at h
  unfold w_X2_decode_J57
  intro _
  replace h := h.2
  obtain ⟨q9, z9, h⟩ := h
  refine ⟨_, vwX2_set z9, ?_⟩
  intro q8 d9 _ _
  subst d9
  replace h := h.2.2
  exact h.symm
set_option maxRecDepth 100000 in
theorem vp_X2_decode_J57 {uo : MS} {P : MS → Prop} {U57 : MS} {v57_2 : Int32} (h : v_X2_decode_J57 uo U57 v57_2) (w : w_X2_decode_J57 P U57 v57_2) : P uo := by
  unfold v_X2_decode_J57 at h
  unfold w_X2_decode_J57 at w
  obtain ⟨y1_, h⟩ := h
  replace w := w y1_
  obtain ⟨q9, z9, y2_, y3_, h⟩ := h
  obtain ⟨Q9, w0, w⟩ := w
  replace w := w q9 (vpX2_set z9 w0) y2_ y3_
  rw [h]
  exact w
set_option maxRecDepth 100000 in
theorem vw_X2_decode_J247 {uo : MS} {U247 : MS} {v247_1 : Int32} (h : v_X2_decode_J247 uo U247 v247_1) : w_X2_decode_J247 (fun u => u = uo) U247 v247_1 := by
  unfold v_X2_decode_J247 at h
  unfold w_X2_decode_J247
  intro _
  replace h := h.2
  obtain ⟨q9, z9, h⟩ := h
  refine ⟨_, vwX2_decodeLocal z9, ?_⟩
  intro q8 d9 _ _
  subst d9
  replace h := h.2.2
  exact h.symm
set_option maxRecDepth 100000 in
theorem vp_X2_decode_J247 {uo : MS} {P : MS → Prop} {U247 : MS} {v247_1 : Int32} (h : v_X2_decode_J247 uo U247 v247_1) (w : w_X2_decode_J247 P U247 v247_1) : P uo := by
  unfold v_X2_decode_J247 at h
  unfold w_X2_decode_J247 at w
  obtain ⟨y4_, h⟩ := h
  replace w := w y4_
  obtain ⟨q9, z9, y5_, y6_, h⟩ := h
  obtain ⟨Q9, w0, w⟩ := w
  replace w := w q9 (vpX2_decodeLocal z9 w0) y5_ y6_
  rw [h]
  exact w
set_option maxRecDepth 100000 in
theorem vw_X2_decode_J45 {uo : MS} {U45 : MS} {v45_1 : Int32} {v45_2 : Int32} (h : v_X2_decode_J45 uo U45 v45_1 v45_2) : w_X2_decode_J45 (fun u => u = uo) U45 v45_1 v45_2 := by
  unfold v_X2_decode_J45 at h
  unfold w_X2_decode_J45
  intro _
  replace h := h.2
  rcases h with ⟨c, h⟩ | ⟨c, h⟩
  · refine ⟨fun _ => ?_, fun c2 => absurd c c2⟩
    exact vw_X2_decode_J57 h
  · refine ⟨fun c2 => absurd c2 c, fun _ => ?_⟩
    rcases h with ⟨c, h⟩ | ⟨c, h⟩
    · refine ⟨fun _ => ?_, fun c2 => absurd c c2⟩
      exact vw_X2_decode_J57 h
    · refine ⟨fun c2 => absurd c2 c, fun _ => ?_⟩
      rcases h with ⟨c, h⟩ | ⟨c, h⟩
      · refine ⟨fun _ => ?_, fun c2 => absurd c c2⟩
        obtain ⟨g9, h⟩ := h
        refine ⟨g9, ?_⟩
        obtain ⟨q9, z9, h⟩ := h
        refine ⟨_, vwX2_set z9, ?_⟩
        intro q8 d9 _ _
        subst d9
        replace h := h.2.2
        exact h.symm
      · refine ⟨fun c2 => absurd c2 c, fun _ => ?_⟩
        rcases h with ⟨c, h⟩ | ⟨c, h⟩
        · refine ⟨fun _ => ?_, fun c2 => absurd c c2⟩
          obtain ⟨g9, h⟩ := h
          refine ⟨g9, ?_⟩
          obtain ⟨q9, z9, h⟩ := h
          refine ⟨_, vwX2_set z9, ?_⟩
          intro q8 d9 _ _
          subst d9
          replace h := h.2.2
          exact h.symm
        · refine ⟨fun c2 => absurd c2 c, fun _ => ?_⟩
          rcases h with ⟨c, h⟩ | ⟨c, h⟩
          · refine ⟨fun _ => ?_, fun c2 => absurd c c2⟩
            obtain ⟨g9, h⟩ := h
            refine ⟨g9, ?_⟩
            obtain ⟨q9, z9, h⟩ := h
            refine ⟨_, vwX2_set z9, ?_⟩
            intro q8 d9 _ _
            subst d9
            replace h := h.2.2
            exact h.symm
          · refine ⟨fun c2 => absurd c2 c, fun _ => ?_⟩
            rcases h with ⟨c, h⟩ | ⟨c, h⟩
            · refine ⟨fun _ => ?_, fun c2 => absurd c c2⟩
              obtain ⟨g9, h⟩ := h
              refine ⟨g9, ?_⟩
              obtain ⟨q9, z9, h⟩ := h
              refine ⟨_, vwX2_set z9, ?_⟩
              intro q8 d9 _ _
              subst d9
              replace h := h.2.2
              exact h.symm
            · refine ⟨fun c2 => absurd c2 c, fun _ => ?_⟩
              obtain ⟨g9, h⟩ := h
              refine ⟨g9, ?_⟩
              rcases h with ⟨c, h⟩ | ⟨c, h⟩
              · refine ⟨fun _ => ?_, fun c2 => absurd c c2⟩
                obtain ⟨g9, h⟩ := h
                refine ⟨g9, ?_⟩
                rcases h with ⟨c, h⟩ | ⟨c, h⟩
                · refine ⟨fun _ => ?_, fun c2 => absurd c c2⟩
                  obtain ⟨g9, h⟩ := h
                  refine ⟨g9, ?_⟩
                  rcases h with ⟨c, h⟩ | ⟨c, h⟩
                  · refine ⟨fun _ => ?_, fun c2 => absurd c c2⟩
                    rcases h with ⟨c, h⟩ | ⟨c, h⟩
                    · refine ⟨fun _ => ?_, fun c2 => absurd c c2⟩
                      exact vw_X2_decode_J247 h
                    · refine ⟨fun c2 => absurd c2 c, fun _ => ?_⟩
                      obtain ⟨g9, h⟩ := h
                      refine ⟨g9, ?_⟩
                      obtain ⟨q9, z9, h⟩ := h
                      refine ⟨_, vwX2_set z9, ?_⟩
                      intro q8 d9 _ _
                      subst d9
                      replace h := h.2.2
                      exact h.symm
                  · refine ⟨fun c2 => absurd c2 c, fun _ => ?_⟩
                    exact vw_X2_decode_J247 h
                · refine ⟨fun c2 => absurd c2 c, fun _ => ?_⟩
                  obtain ⟨g9, h⟩ := h
                  refine ⟨g9, ?_⟩
                  obtain ⟨q9, z9, h⟩ := h
                  refine ⟨_, vwX2_set z9, ?_⟩
                  intro q8 d9 _ _
                  subst d9
                  replace h := h.2.2
                  exact h.symm
              · refine ⟨fun c2 => absurd c2 c, fun _ => ?_⟩
                obtain ⟨g9, h⟩ := h
                refine ⟨g9, ?_⟩
                obtain ⟨q9, z9, h⟩ := h
                refine ⟨_, vwX2_set z9, ?_⟩
                intro q8 d9 _ _
                subst d9
                replace h := h.2.2
                exact h.symm
set_option maxRecDepth 100000 in
theorem vp_X2_decode_J45 {uo : MS} {P : MS → Prop} {U45 : MS} {v45_1 : Int32} {v45_2 : Int32} (h : v_X2_decode_J45 uo U45 v45_1 v45_2) (w : w_X2_decode_J45 P U45 v45_1 v45_2) : P uo := by
  unfold v_X2_decode_J45 at h
  unfold w_X2_decode_J45 at w
  obtain ⟨y7_, h⟩ := h
  replace w := w y7_
  rcases h with ⟨c, h⟩ | ⟨c, h⟩
  · replace w := w.1 c
    exact vp_X2_decode_J57 h w
  · replace w := w.2 c
    rcases h with ⟨c, h⟩ | ⟨c, h⟩
    · replace w := w.1 c
      exact vp_X2_decode_J57 h w
    · replace w := w.2 c
      rcases h with ⟨c, h⟩ | ⟨c, h⟩
      · replace w := w.1 c
        replace h := h.2
        replace w := w.2
        obtain ⟨q9, z9, y8_, y9_, h⟩ := h
        obtain ⟨Q9, w0, w⟩ := w
        replace w := w q9 (vpX2_set z9 w0) y8_ y9_
        rw [h]
        exact w
      · replace w := w.2 c
        rcases h with ⟨c, h⟩ | ⟨c, h⟩
        · replace w := w.1 c
          replace h := h.2
          replace w := w.2
          obtain ⟨q9, z9, y10_, y11_, h⟩ := h
          obtain ⟨Q9, w0, w⟩ := w
          replace w := w q9 (vpX2_set z9 w0) y10_ y11_
          rw [h]
          exact w
        · replace w := w.2 c
          rcases h with ⟨c, h⟩ | ⟨c, h⟩
          · replace w := w.1 c
            replace h := h.2
            replace w := w.2
            obtain ⟨q9, z9, y12_, y13_, h⟩ := h
            obtain ⟨Q9, w0, w⟩ := w
            replace w := w q9 (vpX2_set z9 w0) y12_ y13_
            rw [h]
            exact w
          · replace w := w.2 c
            rcases h with ⟨c, h⟩ | ⟨c, h⟩
            · replace w := w.1 c
              replace h := h.2
              replace w := w.2
              obtain ⟨q9, z9, y14_, y15_, h⟩ := h
              obtain ⟨Q9, w0, w⟩ := w
              replace w := w q9 (vpX2_set z9 w0) y14_ y15_
              rw [h]
              exact w
            · replace w := w.2 c
              replace h := h.2
              replace w := w.2
              rcases h with ⟨c, h⟩ | ⟨c, h⟩
              · replace w := w.1 c
                replace h := h.2
                replace w := w.2
                rcases h with ⟨c, h⟩ | ⟨c, h⟩
                · replace w := w.1 c
                  replace h := h.2
                  replace w := w.2
                  rcases h with ⟨c, h⟩ | ⟨c, h⟩
                  · replace w := w.1 c
                    rcases h with ⟨c, h⟩ | ⟨c, h⟩
                    · replace w := w.1 c
                      exact vp_X2_decode_J247 h w
                    · replace w := w.2 c
                      replace h := h.2
                      replace w := w.2
                      obtain ⟨q9, z9, y16_, y17_, h⟩ := h
                      obtain ⟨Q9, w0, w⟩ := w
                      replace w := w q9 (vpX2_set z9 w0) y16_ y17_
                      rw [h]
                      exact w
                  · replace w := w.2 c
                    exact vp_X2_decode_J247 h w
                · replace w := w.2 c
                  replace h := h.2
                  replace w := w.2
                  obtain ⟨q9, z9, y18_, y19_, h⟩ := h
                  obtain ⟨Q9, w0, w⟩ := w
                  replace w := w q9 (vpX2_set z9 w0) y18_ y19_
                  rw [h]
                  exact w
              · replace w := w.2 c
                replace h := h.2
                replace w := w.2
                obtain ⟨q9, z9, y20_, y21_, h⟩ := h
                obtain ⟨Q9, w0, w⟩ := w
                replace w := w q9 (vpX2_set z9 w0) y20_ y21_
                rw [h]
                exact w
set_option maxRecDepth 100000 in
theorem vwX2_decode {S : MS} {x1 : Int32} {uo : MS} (h : vX2_decode S x1 uo) : wX2_decode S x1 (fun u => u = uo) := by
  unfold vX2_decode at h
  unfold wX2_decode
  obtain ⟨g9, h⟩ := h
  refine ⟨g9, ?_⟩
  obtain ⟨v9, e9, h⟩ := h
  intro x9 d9 
  have c9 : v9 = x9 := e9.trans d9.symm
  subst c9
  obtain ⟨v9, e9, h⟩ := h
  intro x9 d9 _ _
  have c9 : v9 = x9 := e9.trans d9.symm
  subst c9
  replace h := h.2.2
  obtain ⟨v9, e9, h⟩ := h
  intro x9 d9 _ _
  have c9 : v9 = x9 := e9.trans d9.symm
  subst c9
  replace h := h.2.2
  obtain ⟨v9, e9, h⟩ := h
  intro x9 d9 _ _
  have c9 : v9 = x9 := e9.trans d9.symm
  subst c9
  replace h := h.2.2
  rcases h with ⟨c, h⟩ | ⟨c, h⟩
  · refine ⟨fun _ => ?_, fun c2 => absurd c c2⟩
    exact vw_X2_decode_J45 h
  · refine ⟨fun c2 => absurd c2 c, fun _ => ?_⟩
    rcases h with ⟨c, h⟩ | ⟨c, h⟩
    · refine ⟨fun _ => ?_, fun c2 => absurd c c2⟩
      exact vw_X2_decode_J45 h
    · refine ⟨fun c2 => absurd c2 c, fun _ => ?_⟩
      obtain ⟨q9, z9, h⟩ := h
      refine ⟨_, vwX2_set z9, ?_⟩
      intro q8 d9 _ _
      subst d9
      replace h := h.2.2
      exact h.symm
set_option maxRecDepth 100000 in
theorem vpX2_decode {S : MS} {x1 : Int32} {uo : MS} {P : MS → Prop} (h : vX2_decode S x1 uo) (w : wX2_decode S x1 P) : P uo := by
  unfold vX2_decode at h
  unfold wX2_decode at w
  replace h := h.2
  replace w := w.2
  obtain ⟨v9, e9, h⟩ := h
  replace w := w v9 e9 
  obtain ⟨v9, e9, y22_, y23_, h⟩ := h
  replace w := w v9 e9 y22_ y23_
  obtain ⟨v9, e9, y24_, y25_, h⟩ := h
  replace w := w v9 e9 y24_ y25_
  obtain ⟨v9, e9, y26_, y27_, h⟩ := h
  replace w := w v9 e9 y26_ y27_
  rcases h with ⟨c, h⟩ | ⟨c, h⟩
  · replace w := w.1 c
    exact vp_X2_decode_J45 h w
  · replace w := w.2 c
    rcases h with ⟨c, h⟩ | ⟨c, h⟩
    · replace w := w.1 c
      exact vp_X2_decode_J45 h w
    · replace w := w.2 c
      obtain ⟨q9, z9, y28_, y29_, h⟩ := h
      obtain ⟨Q9, w0, w⟩ := w
      replace w := w q9 (vpX2_set z9 w0) y28_ y29_
      rw [h]
      exact w
def v_X2_numberInstructions_J67 (uo : MS) (U67 : MS) : Prop := (wfC U67 ∧ (((qI U67 8 2).toInt < 0 ∧ (uo = U67)) ∨ (¬ (qI U67 8 2).toInt < 0 ∧ ((1201 ≤ (qI U67 8 2).toInt ∧ (uo = U67)) ∨ (¬ 1201 ≤ (qI U67 8 2).toInt ∧ (((0 : Int) ≤ (qI U67 8 2).toInt ∧ (qI U67 8 2).toInt < 1201) ∧ (∃ S8 : MS, S8 = wI U67 15 (((qI U67 8 2).toInt).toNat) (qI U67 8 8) ∧ qT U67 15 = 201 ∧ wfC S8 ∧ (uo = S8))))))))
def v_X2_numberInstructions_L15 (uo : MS) : Nat → MS → Int32 → Prop
  | 0, _, _ => False
  | n15 + 1, U15, v15_1 => (wfC U15 ∧ (((qI U15 8 2).toInt ≤ v15_1.toInt ∧ (v_X2_numberInstructions_J67 uo U15)) ∨ (¬ (qI U15 8 2).toInt ≤ v15_1.toInt ∧ ((1201 ≤ v15_1.toInt ∧ (v_X2_numberInstructions_J67 uo U15)) ∨ (¬ 1201 ≤ v15_1.toInt ∧ (((0 : Int) ≤ v15_1.toInt ∧ v15_1.toInt < 1201) ∧ (∃ S12 : MS, S12 = wI U15 15 v15_1.toInt.toNat (qI U15 8 8) ∧ qT U15 15 = 201 ∧ wfC S12 ∧ (∃ S14 : MS, S14 = wI S12 8 8 ((qI S12 8 8) + (1 : Int32)) ∧ qT S12 8 = 42 ∧ wfC S14 ∧ (∃ (r16 : Int32) (S17 : MS), vX2_lengthAt S14 v15_1 r16 S17 ∧ wfC S17 ∧ shy S14 S17 ∧ (∃ a21 : Int32, a21 = (v15_1 + (if (1 : Int32) < r16 then r16 else (1 : Int32))) ∧ ((v_X2_numberInstructions_L15 uo n15) S17 a21)))))))))))
def vX2_numberInstructions (S : MS) (uo : MS) : Prop := (qT S 15 = 201 ∧ (∃ (S2 : MS), vJ7_fill_53178 S 15 (-1 : Int32) S2 ∧ wfC S2 ∧ shy S S2 ∧ (∃ S4 : MS, S4 = wI S2 8 8 (0 : Int32) ∧ qT S2 8 = 42 ∧ wfC S4 ∧ (∃ n, v_X2_numberInstructions_L15 uo n S4 0))))
set_option maxRecDepth 100000 in
theorem ru_X2_numberInstructions_J67 {ι : Type} {P Q : MS → Prop} {U67 : MS} (i0 : ι) (K : ∀ (i : ι) (uo : MS), v_X2_numberInstructions_J67 uo U67 → P uo) (h : w_X2_numberInstructions_J67 Q U67) : w_X2_numberInstructions_J67 (fun u => Q u ∧ P u) U67 := by
  unfold w_X2_numberInstructions_J67 at h ⊢
  intro y1_
  replace h := h y1_
  replace K := fun i uo z => K i uo ⟨y1_, z⟩
  refine ⟨fun c => ?_, fun c => ?_⟩
  · replace h := h.1 c
    replace K := fun i uo z => K i uo (Or.inl ⟨c, z⟩)
    exact ⟨h, K i0 _ rfl⟩
  · replace h := h.2 c
    replace K := fun i uo z => K i uo (Or.inr ⟨c, z⟩)
    refine ⟨fun c => ?_, fun c => ?_⟩
    · replace h := h.1 c
      replace K := fun i uo z => K i uo (Or.inl ⟨c, z⟩)
      exact ⟨h, K i0 _ rfl⟩
    · replace h := h.2 c
      replace K := fun i uo z => K i uo (Or.inr ⟨c, z⟩)
      obtain ⟨g2_, h⟩ := h
      refine ⟨g2_, ?_⟩
      replace K := fun i uo z => K i uo ⟨g2_, z⟩
      intro S8 eS8 y3_ y4_
      replace h := h S8 eS8 y3_ y4_
      replace K := fun i uo z => K i uo ⟨S8, eS8, y3_, y4_, z⟩
      exact ⟨h, K i0 _ rfl⟩
set_option maxRecDepth 100000 in
theorem ru_X2_numberInstructions_L15 {ι : Type} {P Q : MS → Prop} : ∀ (n : Nat) {U15 : MS} {v15_1 : Int32} (i0 : ι), (∀ (i : ι) (uo : MS), (∃ n8, v_X2_numberInstructions_L15 uo n8 U15 v15_1) → P uo) → w_X2_numberInstructions_L15 Q n U15 v15_1 → w_X2_numberInstructions_L15 (fun u => Q u ∧ P u) n U15 v15_1 := by
  intro n
  induction n with
  | zero => intro U15 v15_1 i0 K h; unfold w_X2_numberInstructions_L15 at h; exact h.elim
  | succ n ih =>
    intro U15 v15_1 i0 K h
    unfold w_X2_numberInstructions_L15 at h ⊢
    replace K := fun (i : ι × Nat) uo (z : v_X2_numberInstructions_L15 uo (i.2 + 1) U15 v15_1) => K i.1 uo ⟨i.2 + 1, z⟩
    have i00 := i0
    replace i0 : ι × Nat := (i0, 0)
    intro y5_
    replace h := h y5_
    replace K := fun i uo z => K i uo ⟨y5_, z⟩
    refine ⟨fun c => ?_, fun c => ?_⟩
    · replace h := h.1 c
      replace K := fun i uo z => K i uo (Or.inl ⟨c, z⟩)
      exact ru_X2_numberInstructions_J67 i0 K h
    · replace h := h.2 c
      replace K := fun i uo z => K i uo (Or.inr ⟨c, z⟩)
      refine ⟨fun c => ?_, fun c => ?_⟩
      · replace h := h.1 c
        replace K := fun i uo z => K i uo (Or.inl ⟨c, z⟩)
        exact ru_X2_numberInstructions_J67 i0 K h
      · replace h := h.2 c
        replace K := fun i uo z => K i uo (Or.inr ⟨c, z⟩)
        obtain ⟨g6_, h⟩ := h
        refine ⟨g6_, ?_⟩
        replace K := fun i uo z => K i uo ⟨g6_, z⟩
        intro S12 eS12 y7_ y8_
        replace h := h S12 eS12 y7_ y8_
        replace K := fun i uo z => K i uo ⟨S12, eS12, y7_, y8_, z⟩
        intro S14 eS14 y9_ y10_
        replace h := h S14 eS14 y9_ y10_
        replace K := fun i uo z => K i uo ⟨S14, eS14, y9_, y10_, z⟩
        obtain ⟨Q9, h0, h⟩ := h
        refine ⟨_, ruX2_lengthAt h0, ?_⟩
        intro r16 S17 q11_ y12_ y13_
        replace h := h r16 S17 q11_.1 y12_ y13_
        replace K := fun i uo z => K i uo ⟨r16, S17, q11_.2, y12_, y13_, z⟩
        intro a21 ea21 
        replace h := h a21 ea21 
        replace K := fun i uo z => K i uo ⟨a21, ea21, z⟩
        exact ih i00 (fun i uo ⟨n8, z⟩ => K (i, n8) uo z) h
set_option maxRecDepth 100000 in
theorem ruX2_numberInstructions {S : MS} {Q : MS → Prop} (h : wX2_numberInstructions S Q) : wX2_numberInstructions S (fun u => Q u ∧ vX2_numberInstructions S u) := by
  have i0 : Unit := ()
  have K : ∀ (i : Unit) (uo : MS), vX2_numberInstructions S uo → vX2_numberInstructions S uo := fun _ _ z => z
  unfold wX2_numberInstructions at h ⊢
  intro y14_
  replace h := h y14_
  replace K := fun i uo z => K i uo ⟨y14_, z⟩
  obtain ⟨Q9, h0, h⟩ := h
  refine ⟨_, ruJ7_fill_53178 h0, ?_⟩
  intro S2 q15_ y16_ y17_
  replace h := h S2 q15_.1 y16_ y17_
  replace K := fun i uo z => K i uo ⟨S2, q15_.2, y16_, y17_, z⟩
  intro S4 eS4 y18_ y19_
  replace h := h S4 eS4 y18_ y19_
  replace K := fun i uo z => K i uo ⟨S4, eS4, y18_, y19_, z⟩
  obtain ⟨n9, h⟩ := h
  exact ⟨n9, ru_X2_numberInstructions_L15 n9 i0 K h⟩
set_option maxRecDepth 100000 in
theorem vw_X2_numberInstructions_J67 {uo : MS} {U67 : MS} (h : v_X2_numberInstructions_J67 uo U67) : w_X2_numberInstructions_J67 (fun u => u = uo) U67 := by
  unfold v_X2_numberInstructions_J67 at h
  unfold w_X2_numberInstructions_J67
  intro _
  replace h := h.2
  rcases h with ⟨c, h⟩ | ⟨c, h⟩
  · refine ⟨fun _ => ?_, fun c2 => absurd c c2⟩
    exact h.symm
  · refine ⟨fun c2 => absurd c2 c, fun _ => ?_⟩
    rcases h with ⟨c, h⟩ | ⟨c, h⟩
    · refine ⟨fun _ => ?_, fun c2 => absurd c c2⟩
      exact h.symm
    · refine ⟨fun c2 => absurd c2 c, fun _ => ?_⟩
      obtain ⟨g9, h⟩ := h
      refine ⟨g9, ?_⟩
      obtain ⟨v9, e9, h⟩ := h
      intro x9 d9 _ _
      have c9 : v9 = x9 := e9.trans d9.symm
      subst c9
      replace h := h.2.2
      exact h.symm
set_option maxRecDepth 100000 in
theorem vp_X2_numberInstructions_J67 {uo : MS} {P : MS → Prop} {U67 : MS} (h : v_X2_numberInstructions_J67 uo U67) (w : w_X2_numberInstructions_J67 P U67) : P uo := by
  unfold v_X2_numberInstructions_J67 at h
  unfold w_X2_numberInstructions_J67 at w
  obtain ⟨y1_, h⟩ := h
  replace w := w y1_
  rcases h with ⟨c, h⟩ | ⟨c, h⟩
  · replace w := w.1 c
    rw [h]
    exact w
  · replace w := w.2 c
    rcases h with ⟨c, h⟩ | ⟨c, h⟩
    · replace w := w.1 c
      rw [h]
      exact w
    · replace w := w.2 c
      replace h := h.2
      replace w := w.2
      obtain ⟨v9, e9, y2_, y3_, h⟩ := h
      replace w := w v9 e9 y2_ y3_
      rw [h]
      exact w
set_option maxRecDepth 100000 in
theorem vw_X2_numberInstructions_L15 {uo : MS} : ∀ (n : Nat) {U15 : MS} {v15_1 : Int32}, v_X2_numberInstructions_L15 uo n U15 v15_1 → w_X2_numberInstructions_L15 (fun u => u = uo) n U15 v15_1 := by
  intro n
  induction n with
  | zero => intro U15 v15_1 h; unfold v_X2_numberInstructions_L15 at h; exact h.elim
  | succ n ih =>
    intro U15 v15_1 h
    unfold v_X2_numberInstructions_L15 at h
    unfold w_X2_numberInstructions_L15
    intro _
    replace h := h.2
    rcases h with ⟨c, h⟩ | ⟨c, h⟩
    · refine ⟨fun _ => ?_, fun c2 => absurd c c2⟩
      exact vw_X2_numberInstructions_J67 h
    · refine ⟨fun c2 => absurd c2 c, fun _ => ?_⟩
      rcases h with ⟨c, h⟩ | ⟨c, h⟩
      · refine ⟨fun _ => ?_, fun c2 => absurd c c2⟩
        exact vw_X2_numberInstructions_J67 h
      · refine ⟨fun c2 => absurd c2 c, fun _ => ?_⟩
        obtain ⟨g9, h⟩ := h
        refine ⟨g9, ?_⟩
        obtain ⟨v9, e9, h⟩ := h
        intro x9 d9 _ _
        have c9 : v9 = x9 := e9.trans d9.symm
        subst c9
        replace h := h.2.2
        obtain ⟨v9, e9, h⟩ := h
        intro x9 d9 _ _
        have c9 : v9 = x9 := e9.trans d9.symm
        subst c9
        replace h := h.2.2
        obtain ⟨p9, q9, z9, h⟩ := h
        refine ⟨_, vwX2_lengthAt z9, ?_⟩
        rintro p8 q8 ⟨d8, d9⟩ _ _
        subst d8
        subst d9
        replace h := h.2.2
        obtain ⟨v9, e9, h⟩ := h
        intro x9 d9 
        have c9 : v9 = x9 := e9.trans d9.symm
        subst c9
        exact ih h
set_option maxRecDepth 100000 in
theorem vp_X2_numberInstructions_L15 {uo : MS} {P : MS → Prop} : ∀ (n m : Nat) {U15 : MS} {v15_1 : Int32}, v_X2_numberInstructions_L15 uo n U15 v15_1 → w_X2_numberInstructions_L15 P m U15 v15_1 → P uo := by
  intro n
  induction n with
  | zero => intro m U15 v15_1 h; unfold v_X2_numberInstructions_L15 at h; exact h.elim
  | succ n ih =>
    intro m U15 v15_1 h w
    cases m with
    | zero => unfold w_X2_numberInstructions_L15 at w; exact w.elim
    | succ m =>
      unfold v_X2_numberInstructions_L15 at h
      unfold w_X2_numberInstructions_L15 at w
      obtain ⟨y4_, h⟩ := h
      replace w := w y4_
      rcases h with ⟨c, h⟩ | ⟨c, h⟩
      · replace w := w.1 c
        exact vp_X2_numberInstructions_J67 h w
      · replace w := w.2 c
        rcases h with ⟨c, h⟩ | ⟨c, h⟩
        · replace w := w.1 c
          exact vp_X2_numberInstructions_J67 h w
        · replace w := w.2 c
          replace h := h.2
          replace w := w.2
          obtain ⟨v9, e9, y5_, y6_, h⟩ := h
          replace w := w v9 e9 y5_ y6_
          obtain ⟨v9, e9, y7_, y8_, h⟩ := h
          replace w := w v9 e9 y7_ y8_
          obtain ⟨p9, q9, z9, y9_, y10_, h⟩ := h
          obtain ⟨Q9, w0, w⟩ := w
          replace w := w p9 q9 (vpX2_lengthAt z9 w0) y9_ y10_
          obtain ⟨v9, e9, h⟩ := h
          replace w := w v9 e9 
          exact ih m h w
set_option maxRecDepth 100000 in
theorem vwX2_numberInstructions {S : MS} {uo : MS} (h : vX2_numberInstructions S uo) : wX2_numberInstructions S (fun u => u = uo) := by
  unfold vX2_numberInstructions at h
  unfold wX2_numberInstructions
  intro _
  replace h := h.2
  obtain ⟨q9, z9, h⟩ := h
  refine ⟨_, vwJ7_fill_53178 z9, ?_⟩
  intro q8 d9 _ _
  subst d9
  replace h := h.2.2
  obtain ⟨v9, e9, h⟩ := h
  intro x9 d9 _ _
  have c9 : v9 = x9 := e9.trans d9.symm
  subst c9
  replace h := h.2.2
  obtain ⟨n9, h⟩ := h
  exact ⟨n9, vw_X2_numberInstructions_L15 n9 h⟩
set_option maxRecDepth 100000 in
theorem vpX2_numberInstructions {S : MS} {uo : MS} {P : MS → Prop} (h : vX2_numberInstructions S uo) (w : wX2_numberInstructions S P) : P uo := by
  unfold vX2_numberInstructions at h
  unfold wX2_numberInstructions at w
  obtain ⟨y11_, h⟩ := h
  replace w := w y11_
  obtain ⟨q9, z9, y12_, y13_, h⟩ := h
  obtain ⟨Q9, w0, w⟩ := w
  replace w := w q9 (vpJ7_fill_53178 z9 w0) y12_ y13_
  obtain ⟨v9, e9, y14_, y15_, h⟩ := h
  replace w := w v9 e9 y14_ y15_
  obtain ⟨n9, h⟩ := h
  obtain ⟨n8, w⟩ := w
  exact vp_X2_numberInstructions_L15 n9 n8 h w
def v_X2_pointsWell_J172 (ro : Int32) (uo : MS) (U172 : MS) : Prop := (wfC U172 ∧ (∃ (r14 : Int32) (S15 : MS), vX2_memberOf U172 ((qJ U172 8 10).toInt32) (9 : Int32) r14 S15 ∧ wfC S15 ∧ shy U172 S15 ∧ ((r14.toInt < 0 ∧ (ro = (0 : Int32) ∧ uo = S15)) ∨ (¬ r14.toInt < 0 ∧ (ro = (1 : Int32) ∧ uo = S15)))))
def vX2_pointsWell (S : MS) (ro : Int32) (uo : MS) : Prop := (d_X6_isJump S (qI S 8 9) ∧ (((fX6_isJump S (qI S 8 9)).toInt = 0 ∧ (d_X6_isSwitch S (qI S 8 9) ∧ (((fX6_isSwitch S (qI S 8 9)).toInt = 0 ∧ (d_X6_usesLocal S (qI S 8 9) ∧ (((fX6_usesLocal S (qI S 8 9)).toInt = 0 ∧ (((qI S 8 9).toInt = 19 ∧ (d_X7_tagOf S ((qJ S 8 10).toInt32) ∧ (((fX7_tagOf S ((qJ S 8 10).toInt32)).toInt = 3 ∧ (ro = (1 : Int32) ∧ uo = S)) ∨ (¬ (fX7_tagOf S ((qJ S 8 10).toInt32)).toInt = 3 ∧ (ro = (0 : Int32) ∧ uo = S))))) ∨ (¬ (qI S 8 9).toInt = 19 ∧ (((qI S 8 9).toInt = 20 ∧ (d_X7_tagOf S ((qJ S 8 10).toInt32) ∧ (((fX7_tagOf S ((qJ S 8 10).toInt32)).toInt = 5 ∧ (ro = (1 : Int32) ∧ uo = S)) ∨ (¬ (fX7_tagOf S ((qJ S 8 10).toInt32)).toInt = 5 ∧ (ro = (0 : Int32) ∧ uo = S))))) ∨ (¬ (qI S 8 9).toInt = 20 ∧ (((qI S 8 9).toInt = 178 ∧ (v_X2_pointsWell_J172 ro uo S)) ∨ (¬ (qI S 8 9).toInt = 178 ∧ (((qI S 8 9).toInt = 179 ∧ (v_X2_pointsWell_J172 ro uo S)) ∨ (¬ (qI S 8 9).toInt = 179 ∧ (((qI S 8 9).toInt = 184 ∧ (∃ (r27 : Int32) (S28 : MS), vX2_memberOf S ((qJ S 8 10).toInt32) (10 : Int32) r27 S28 ∧ wfC S28 ∧ shy S S28 ∧ ((r27.toInt < 0 ∧ (ro = (0 : Int32) ∧ uo = S28)) ∨ (¬ r27.toInt < 0 ∧ (ro = (1 : Int32) ∧ uo = S28))))) ∨ (¬ (qI S 8 9).toInt = 184 ∧ (ro = (1 : Int32) ∧ uo = S)))))))))))) ∨ (¬ (fX6_usesLocal S (qI S 8 9)).toInt = 0 ∧ (d_X6_localWidth S (qI S 8 9) ∧ (((qI S 8 4).toInt < ((((qJ S 8 10).toInt32) &&& (255 : Int32)) + (fX6_localWidth S (qI S 8 9))).toInt ∧ (ro = (0 : Int32) ∧ uo = S)) ∨ (¬ (qI S 8 4).toInt < ((((qJ S 8 10).toInt32) &&& (255 : Int32)) + (fX6_localWidth S (qI S 8 9))).toInt ∧ (ro = (1 : Int32) ∧ uo = S)))))))) ∨ (¬ (fX6_isSwitch S (qI S 8 9)).toInt = 0 ∧ (∃ (r38 : Int32) (S39 : MS), vX2_targetsHold S r38 S39 ∧ wfC S39 ∧ shy S S39 ∧ (ro = r38 ∧ uo = S39)))))) ∨ (¬ (fX6_isJump S (qI S 8 9)).toInt = 0 ∧ (d_X2_isInstruction S (qJ S 8 10) ∧ (ro = (fX2_isInstruction S (qJ S 8 10)) ∧ uo = S)))))
set_option maxRecDepth 100000 in
theorem ru_X2_pointsWell_J172 {ι : Type} {P Q : Int32 → MS → Prop} {U172 : MS} (i0 : ι) (K : ∀ (i : ι) (ro : Int32) (uo : MS), v_X2_pointsWell_J172 ro uo U172 → P ro uo) (h : w_X2_pointsWell_J172 Q U172) : w_X2_pointsWell_J172 (fun r u => Q r u ∧ P r u) U172 := by
  unfold w_X2_pointsWell_J172 at h ⊢
  intro y1_
  replace h := h y1_
  replace K := fun i ro uo z => K i ro uo ⟨y1_, z⟩
  obtain ⟨Q9, h0, h⟩ := h
  refine ⟨_, ruX2_memberOf h0, ?_⟩
  intro r14 S15 q2_ y3_ y4_
  replace h := h r14 S15 q2_.1 y3_ y4_
  replace K := fun i ro uo z => K i ro uo ⟨r14, S15, q2_.2, y3_, y4_, z⟩
  refine ⟨fun c => ?_, fun c => ?_⟩
  · replace h := h.1 c
    replace K := fun i ro uo z => K i ro uo (Or.inl ⟨c, z⟩)
    exact ⟨h, K i0 _ _ ⟨rfl, rfl⟩⟩
  · replace h := h.2 c
    replace K := fun i ro uo z => K i ro uo (Or.inr ⟨c, z⟩)
    exact ⟨h, K i0 _ _ ⟨rfl, rfl⟩⟩
set_option maxRecDepth 100000 in
theorem ruX2_pointsWell {S : MS} {Q : Int32 → MS → Prop} (h : wX2_pointsWell S Q) : wX2_pointsWell S (fun r u => Q r u ∧ vX2_pointsWell S r u) := by
  have i0 : Unit := ()
  have K : ∀ (i : Unit) (ro : Int32) (uo : MS), vX2_pointsWell S ro uo → vX2_pointsWell S ro uo := fun _ _ _ z => z
  unfold wX2_pointsWell at h ⊢
  obtain ⟨g5_, h⟩ := h
  refine ⟨g5_, ?_⟩
  replace K := fun i ro uo z => K i ro uo ⟨g5_, z⟩
  refine ⟨fun c => ?_, fun c => ?_⟩
  · replace h := h.1 c
    replace K := fun i ro uo z => K i ro uo (Or.inl ⟨c, z⟩)
    obtain ⟨g6_, h⟩ := h
    refine ⟨g6_, ?_⟩
    replace K := fun i ro uo z => K i ro uo ⟨g6_, z⟩
    refine ⟨fun c => ?_, fun c => ?_⟩
    · replace h := h.1 c
      replace K := fun i ro uo z => K i ro uo (Or.inl ⟨c, z⟩)
      obtain ⟨g7_, h⟩ := h
      refine ⟨g7_, ?_⟩
      replace K := fun i ro uo z => K i ro uo ⟨g7_, z⟩
      refine ⟨fun c => ?_, fun c => ?_⟩
      · replace h := h.1 c
        replace K := fun i ro uo z => K i ro uo (Or.inl ⟨c, z⟩)
        refine ⟨fun c => ?_, fun c => ?_⟩
        · replace h := h.1 c
          replace K := fun i ro uo z => K i ro uo (Or.inl ⟨c, z⟩)
          obtain ⟨g8_, h⟩ := h
          refine ⟨g8_, ?_⟩
          replace K := fun i ro uo z => K i ro uo ⟨g8_, z⟩
          refine ⟨fun c => ?_, fun c => ?_⟩
          · replace h := h.1 c
            replace K := fun i ro uo z => K i ro uo (Or.inl ⟨c, z⟩)
            exact ⟨h, K i0 _ _ ⟨rfl, rfl⟩⟩
          · replace h := h.2 c
            replace K := fun i ro uo z => K i ro uo (Or.inr ⟨c, z⟩)
            exact ⟨h, K i0 _ _ ⟨rfl, rfl⟩⟩
        · replace h := h.2 c
          replace K := fun i ro uo z => K i ro uo (Or.inr ⟨c, z⟩)
          refine ⟨fun c => ?_, fun c => ?_⟩
          · replace h := h.1 c
            replace K := fun i ro uo z => K i ro uo (Or.inl ⟨c, z⟩)
            obtain ⟨g9_, h⟩ := h
            refine ⟨g9_, ?_⟩
            replace K := fun i ro uo z => K i ro uo ⟨g9_, z⟩
            refine ⟨fun c => ?_, fun c => ?_⟩
            · replace h := h.1 c
              replace K := fun i ro uo z => K i ro uo (Or.inl ⟨c, z⟩)
              exact ⟨h, K i0 _ _ ⟨rfl, rfl⟩⟩
            · replace h := h.2 c
              replace K := fun i ro uo z => K i ro uo (Or.inr ⟨c, z⟩)
              exact ⟨h, K i0 _ _ ⟨rfl, rfl⟩⟩
          · replace h := h.2 c
            replace K := fun i ro uo z => K i ro uo (Or.inr ⟨c, z⟩)
            refine ⟨fun c => ?_, fun c => ?_⟩
            · replace h := h.1 c
              replace K := fun i ro uo z => K i ro uo (Or.inl ⟨c, z⟩)
              exact ru_X2_pointsWell_J172 i0 K h
            · replace h := h.2 c
              replace K := fun i ro uo z => K i ro uo (Or.inr ⟨c, z⟩)
              refine ⟨fun c => ?_, fun c => ?_⟩
              · replace h := h.1 c
                replace K := fun i ro uo z => K i ro uo (Or.inl ⟨c, z⟩)
                exact ru_X2_pointsWell_J172 i0 K h
              · replace h := h.2 c
                replace K := fun i ro uo z => K i ro uo (Or.inr ⟨c, z⟩)
                refine ⟨fun c => ?_, fun c => ?_⟩
                · replace h := h.1 c
                  replace K := fun i ro uo z => K i ro uo (Or.inl ⟨c, z⟩)
                  obtain ⟨Q9, h0, h⟩ := h
                  refine ⟨_, ruX2_memberOf h0, ?_⟩
                  intro r27 S28 q10_ y11_ y12_
                  replace h := h r27 S28 q10_.1 y11_ y12_
                  replace K := fun i ro uo z => K i ro uo ⟨r27, S28, q10_.2, y11_, y12_, z⟩
                  refine ⟨fun c => ?_, fun c => ?_⟩
                  · replace h := h.1 c
                    replace K := fun i ro uo z => K i ro uo (Or.inl ⟨c, z⟩)
                    exact ⟨h, K i0 _ _ ⟨rfl, rfl⟩⟩
                  · replace h := h.2 c
                    replace K := fun i ro uo z => K i ro uo (Or.inr ⟨c, z⟩)
                    exact ⟨h, K i0 _ _ ⟨rfl, rfl⟩⟩
                · replace h := h.2 c
                  replace K := fun i ro uo z => K i ro uo (Or.inr ⟨c, z⟩)
                  exact ⟨h, K i0 _ _ ⟨rfl, rfl⟩⟩
      · replace h := h.2 c
        replace K := fun i ro uo z => K i ro uo (Or.inr ⟨c, z⟩)
        obtain ⟨g13_, h⟩ := h
        refine ⟨g13_, ?_⟩
        replace K := fun i ro uo z => K i ro uo ⟨g13_, z⟩
        refine ⟨fun c => ?_, fun c => ?_⟩
        · replace h := h.1 c
          replace K := fun i ro uo z => K i ro uo (Or.inl ⟨c, z⟩)
          exact ⟨h, K i0 _ _ ⟨rfl, rfl⟩⟩
        · replace h := h.2 c
          replace K := fun i ro uo z => K i ro uo (Or.inr ⟨c, z⟩)
          exact ⟨h, K i0 _ _ ⟨rfl, rfl⟩⟩
    · replace h := h.2 c
      replace K := fun i ro uo z => K i ro uo (Or.inr ⟨c, z⟩)
      obtain ⟨Q9, h0, h⟩ := h
      refine ⟨_, ruX2_targetsHold h0, ?_⟩
      intro r38 S39 q14_ y15_ y16_
      replace h := h r38 S39 q14_.1 y15_ y16_
      replace K := fun i ro uo z => K i ro uo ⟨r38, S39, q14_.2, y15_, y16_, z⟩
      exact ⟨h, K i0 _ _ ⟨rfl, rfl⟩⟩
  · replace h := h.2 c
    replace K := fun i ro uo z => K i ro uo (Or.inr ⟨c, z⟩)
    obtain ⟨g17_, h⟩ := h
    refine ⟨g17_, ?_⟩
    replace K := fun i ro uo z => K i ro uo ⟨g17_, z⟩
    exact ⟨h, K i0 _ _ ⟨rfl, rfl⟩⟩
set_option maxRecDepth 100000 in
theorem vw_X2_pointsWell_J172 {ro : Int32} {uo : MS} {U172 : MS} (h : v_X2_pointsWell_J172 ro uo U172) : w_X2_pointsWell_J172 (fun r u => r = ro ∧ u = uo) U172 := by
  unfold v_X2_pointsWell_J172 at h
  unfold w_X2_pointsWell_J172
  intro _
  replace h := h.2
  obtain ⟨p9, q9, z9, h⟩ := h
  refine ⟨_, vwX2_memberOf z9, ?_⟩
  rintro p8 q8 ⟨d8, d9⟩ _ _
  subst d8
  subst d9
  replace h := h.2.2
  rcases h with ⟨c, h⟩ | ⟨c, h⟩
  · refine ⟨fun _ => ?_, fun c2 => absurd c c2⟩
    exact ⟨h.1.symm, h.2.symm⟩
  · refine ⟨fun c2 => absurd c2 c, fun _ => ?_⟩
    exact ⟨h.1.symm, h.2.symm⟩
set_option maxRecDepth 100000 in
theorem vp_X2_pointsWell_J172 {ro : Int32} {uo : MS} {P : Int32 → MS → Prop} {U172 : MS} (h : v_X2_pointsWell_J172 ro uo U172) (w : w_X2_pointsWell_J172 P U172) : P ro uo := by
  unfold v_X2_pointsWell_J172 at h
  unfold w_X2_pointsWell_J172 at w
  obtain ⟨y1_, h⟩ := h
  replace w := w y1_
  obtain ⟨p9, q9, z9, y2_, y3_, h⟩ := h
  obtain ⟨Q9, w0, w⟩ := w
  replace w := w p9 q9 (vpX2_memberOf z9 w0) y2_ y3_
  rcases h with ⟨c, h⟩ | ⟨c, h⟩
  · replace w := w.1 c
    rw [h.1, h.2]
    exact w
  · replace w := w.2 c
    rw [h.1, h.2]
    exact w
set_option maxRecDepth 100000 in
theorem vwX2_pointsWell {S : MS} {ro : Int32} {uo : MS} (h : vX2_pointsWell S ro uo) : wX2_pointsWell S (fun r u => r = ro ∧ u = uo) := by
  unfold vX2_pointsWell at h
  unfold wX2_pointsWell
  obtain ⟨g9, h⟩ := h
  refine ⟨g9, ?_⟩
  rcases h with ⟨c, h⟩ | ⟨c, h⟩
  · refine ⟨fun _ => ?_, fun c2 => absurd c c2⟩
    obtain ⟨g9, h⟩ := h
    refine ⟨g9, ?_⟩
    rcases h with ⟨c, h⟩ | ⟨c, h⟩
    · refine ⟨fun _ => ?_, fun c2 => absurd c c2⟩
      obtain ⟨g9, h⟩ := h
      refine ⟨g9, ?_⟩
      rcases h with ⟨c, h⟩ | ⟨c, h⟩
      · refine ⟨fun _ => ?_, fun c2 => absurd c c2⟩
        rcases h with ⟨c, h⟩ | ⟨c, h⟩
        · refine ⟨fun _ => ?_, fun c2 => absurd c c2⟩
          obtain ⟨g9, h⟩ := h
          refine ⟨g9, ?_⟩
          rcases h with ⟨c, h⟩ | ⟨c, h⟩
          · refine ⟨fun _ => ?_, fun c2 => absurd c c2⟩
            exact ⟨h.1.symm, h.2.symm⟩
          · refine ⟨fun c2 => absurd c2 c, fun _ => ?_⟩
            exact ⟨h.1.symm, h.2.symm⟩
        · refine ⟨fun c2 => absurd c2 c, fun _ => ?_⟩
          rcases h with ⟨c, h⟩ | ⟨c, h⟩
          · refine ⟨fun _ => ?_, fun c2 => absurd c c2⟩
            obtain ⟨g9, h⟩ := h
            refine ⟨g9, ?_⟩
            rcases h with ⟨c, h⟩ | ⟨c, h⟩
            · refine ⟨fun _ => ?_, fun c2 => absurd c c2⟩
              exact ⟨h.1.symm, h.2.symm⟩
            · refine ⟨fun c2 => absurd c2 c, fun _ => ?_⟩
              exact ⟨h.1.symm, h.2.symm⟩
          · refine ⟨fun c2 => absurd c2 c, fun _ => ?_⟩
            rcases h with ⟨c, h⟩ | ⟨c, h⟩
            · refine ⟨fun _ => ?_, fun c2 => absurd c c2⟩
              exact vw_X2_pointsWell_J172 h
            · refine ⟨fun c2 => absurd c2 c, fun _ => ?_⟩
              rcases h with ⟨c, h⟩ | ⟨c, h⟩
              · refine ⟨fun _ => ?_, fun c2 => absurd c c2⟩
                exact vw_X2_pointsWell_J172 h
              · refine ⟨fun c2 => absurd c2 c, fun _ => ?_⟩
                rcases h with ⟨c, h⟩ | ⟨c, h⟩
                · refine ⟨fun _ => ?_, fun c2 => absurd c c2⟩
                  obtain ⟨p9, q9, z9, h⟩ := h
                  refine ⟨_, vwX2_memberOf z9, ?_⟩
                  rintro p8 q8 ⟨d8, d9⟩ _ _
                  subst d8
                  subst d9
                  replace h := h.2.2
                  rcases h with ⟨c, h⟩ | ⟨c, h⟩
                  · refine ⟨fun _ => ?_, fun c2 => absurd c c2⟩
                    exact ⟨h.1.symm, h.2.symm⟩
                  · refine ⟨fun c2 => absurd c2 c, fun _ => ?_⟩
                    exact ⟨h.1.symm, h.2.symm⟩
                · refine ⟨fun c2 => absurd c2 c, fun _ => ?_⟩
                  exact ⟨h.1.symm, h.2.symm⟩
      · refine ⟨fun c2 => absurd c2 c, fun _ => ?_⟩
        obtain ⟨g9, h⟩ := h
        refine ⟨g9, ?_⟩
        rcases h with ⟨c, h⟩ | ⟨c, h⟩
        · refine ⟨fun _ => ?_, fun c2 => absurd c c2⟩
          exact ⟨h.1.symm, h.2.symm⟩
        · refine ⟨fun c2 => absurd c2 c, fun _ => ?_⟩
          exact ⟨h.1.symm, h.2.symm⟩
    · refine ⟨fun c2 => absurd c2 c, fun _ => ?_⟩
      obtain ⟨p9, q9, z9, h⟩ := h
      refine ⟨_, vwX2_targetsHold z9, ?_⟩
      rintro p8 q8 ⟨d8, d9⟩ _ _
      subst d8
      subst d9
      replace h := h.2.2
      exact ⟨h.1.symm, h.2.symm⟩
  · refine ⟨fun c2 => absurd c2 c, fun _ => ?_⟩
    obtain ⟨g9, h⟩ := h
    refine ⟨g9, ?_⟩
    exact ⟨h.1.symm, h.2.symm⟩
set_option maxRecDepth 100000 in
theorem vpX2_pointsWell {S : MS} {ro : Int32} {uo : MS} {P : Int32 → MS → Prop} (h : vX2_pointsWell S ro uo) (w : wX2_pointsWell S P) : P ro uo := by
  unfold vX2_pointsWell at h
  unfold wX2_pointsWell at w
  replace h := h.2
  replace w := w.2
  rcases h with ⟨c, h⟩ | ⟨c, h⟩
  · replace w := w.1 c
    replace h := h.2
    replace w := w.2
    rcases h with ⟨c, h⟩ | ⟨c, h⟩
    · replace w := w.1 c
      replace h := h.2
      replace w := w.2
      rcases h with ⟨c, h⟩ | ⟨c, h⟩
      · replace w := w.1 c
        rcases h with ⟨c, h⟩ | ⟨c, h⟩
        · replace w := w.1 c
          replace h := h.2
          replace w := w.2
          rcases h with ⟨c, h⟩ | ⟨c, h⟩
          · replace w := w.1 c
            rw [h.1, h.2]
            exact w
          · replace w := w.2 c
            rw [h.1, h.2]
            exact w
        · replace w := w.2 c
          rcases h with ⟨c, h⟩ | ⟨c, h⟩
          · replace w := w.1 c
            replace h := h.2
            replace w := w.2
            rcases h with ⟨c, h⟩ | ⟨c, h⟩
            · replace w := w.1 c
              rw [h.1, h.2]
              exact w
            · replace w := w.2 c
              rw [h.1, h.2]
              exact w
          · replace w := w.2 c
            rcases h with ⟨c, h⟩ | ⟨c, h⟩
            · replace w := w.1 c
              exact vp_X2_pointsWell_J172 h w
            · replace w := w.2 c
              rcases h with ⟨c, h⟩ | ⟨c, h⟩
              · replace w := w.1 c
                exact vp_X2_pointsWell_J172 h w
              · replace w := w.2 c
                rcases h with ⟨c, h⟩ | ⟨c, h⟩
                · replace w := w.1 c
                  obtain ⟨p9, q9, z9, y4_, y5_, h⟩ := h
                  obtain ⟨Q9, w0, w⟩ := w
                  replace w := w p9 q9 (vpX2_memberOf z9 w0) y4_ y5_
                  rcases h with ⟨c, h⟩ | ⟨c, h⟩
                  · replace w := w.1 c
                    rw [h.1, h.2]
                    exact w
                  · replace w := w.2 c
                    rw [h.1, h.2]
                    exact w
                · replace w := w.2 c
                  rw [h.1, h.2]
                  exact w
      · replace w := w.2 c
        replace h := h.2
        replace w := w.2
        rcases h with ⟨c, h⟩ | ⟨c, h⟩
        · replace w := w.1 c
          rw [h.1, h.2]
          exact w
        · replace w := w.2 c
          rw [h.1, h.2]
          exact w
    · replace w := w.2 c
      obtain ⟨p9, q9, z9, y6_, y7_, h⟩ := h
      obtain ⟨Q9, w0, w⟩ := w
      replace w := w p9 q9 (vpX2_targetsHold z9 w0) y6_ y7_
      rw [h.1, h.2]
      exact w
  · replace w := w.2 c
    replace h := h.2
    replace w := w.2
    rw [h.1, h.2]
    exact w
def v_X2_catchHolds_J84 (ro : Int32) (uo : MS) (U84 : MS) : Prop := (wfC U84 ∧ (ro = (0 : Int32) ∧ uo = U84))
def vX2_catchHolds (S : MS) (x1 : Int32) (ro : Int32) (uo : MS) : Prop := (d_X7_u2 S x1 ∧ (∃ a4 : Int32, a4 = (fX7_u2 S x1) ∧ (d_X7_u2 S (x1 + (2 : Int32)) ∧ (∃ a9 : Int32, a9 = (fX7_u2 S (x1 + (2 : Int32))) ∧ (d_X2_isInstruction S (a4.toInt64) ∧ (∃ a13 : Int32, a13 = (fX2_isInstruction S (a4.toInt64)) ∧ ((a13.toInt = 0 ∧ (v_X2_catchHolds_J84 ro uo S)) ∨ (¬ a13.toInt = 0 ∧ (d_X2_numberOf S (a9.toInt64) ∧ (∃ a18 : Int32, a18 = (fX2_numberOf S (a9.toInt64)) ∧ ((a18.toInt < 0 ∧ (v_X2_catchHolds_J84 ro uo S)) ∨ (¬ a18.toInt < 0 ∧ ((a9.toInt ≤ a4.toInt ∧ (v_X2_catchHolds_J84 ro uo S)) ∨ (¬ a9.toInt ≤ a4.toInt ∧ (d_X7_u2 S (x1 + (4 : Int32)) ∧ (∃ a25 : Int32, a25 = (fX7_u2 S (x1 + (4 : Int32))) ∧ (d_X2_isInstruction S (a25.toInt64) ∧ (∃ a29 : Int32, a29 = (fX2_isInstruction S (a25.toInt64)) ∧ ((a29.toInt = 0 ∧ (v_X2_catchHolds_J84 ro uo S)) ∨ (¬ a29.toInt = 0 ∧ (d_X7_u2 S (x1 + (6 : Int32)) ∧ (∃ a35 : Int32, a35 = (fX7_u2 S (x1 + (6 : Int32))) ∧ (∃ (r37 : Int32) (S38 : MS), vX2_errorOf S a35 r37 S38 ∧ wfC S38 ∧ shy S S38 ∧ ((r37.toInt < (-1) ∧ (v_X2_catchHolds_J84 ro uo S38)) ∨ (¬ r37.toInt < (-1) ∧ (ro = (1 : Int32) ∧ uo = S38))))))))))))))))))))))))))
set_option maxRecDepth 100000 in
theorem ru_X2_catchHolds_J84 {ι : Type} {P Q : Int32 → MS → Prop} {U84 : MS} (i0 : ι) (K : ∀ (i : ι) (ro : Int32) (uo : MS), v_X2_catchHolds_J84 ro uo U84 → P ro uo) (h : w_X2_catchHolds_J84 Q U84) : w_X2_catchHolds_J84 (fun r u => Q r u ∧ P r u) U84 := by
  unfold w_X2_catchHolds_J84 at h ⊢
  intro y1_
  replace h := h y1_
  replace K := fun i ro uo z => K i ro uo ⟨y1_, z⟩
  exact ⟨h, K i0 _ _ ⟨rfl, rfl⟩⟩
set_option maxRecDepth 100000 in
theorem ruX2_catchHolds {S : MS} {x1 : Int32} {Q : Int32 → MS → Prop} (h : wX2_catchHolds S x1 Q) : wX2_catchHolds S x1 (fun r u => Q r u ∧ vX2_catchHolds S x1 r u) := by
  have i0 : Unit := ()
  have K : ∀ (i : Unit) (ro : Int32) (uo : MS), vX2_catchHolds S x1 ro uo → vX2_catchHolds S x1 ro uo := fun _ _ _ z => z
  unfold wX2_catchHolds at h ⊢
  obtain ⟨g2_, h⟩ := h
  refine ⟨g2_, ?_⟩
  replace K := fun i ro uo z => K i ro uo ⟨g2_, z⟩
  intro a4 ea4 
  replace h := h a4 ea4 
  replace K := fun i ro uo z => K i ro uo ⟨a4, ea4, z⟩
  obtain ⟨g3_, h⟩ := h
  refine ⟨g3_, ?_⟩
  replace K := fun i ro uo z => K i ro uo ⟨g3_, z⟩
  intro a9 ea9 
  replace h := h a9 ea9 
  replace K := fun i ro uo z => K i ro uo ⟨a9, ea9, z⟩
  obtain ⟨g4_, h⟩ := h
  refine ⟨g4_, ?_⟩
  replace K := fun i ro uo z => K i ro uo ⟨g4_, z⟩
  intro a13 ea13 
  replace h := h a13 ea13 
  replace K := fun i ro uo z => K i ro uo ⟨a13, ea13, z⟩
  refine ⟨fun c => ?_, fun c => ?_⟩
  · replace h := h.1 c
    replace K := fun i ro uo z => K i ro uo (Or.inl ⟨c, z⟩)
    exact ru_X2_catchHolds_J84 i0 K h
  · replace h := h.2 c
    replace K := fun i ro uo z => K i ro uo (Or.inr ⟨c, z⟩)
    obtain ⟨g5_, h⟩ := h
    refine ⟨g5_, ?_⟩
    replace K := fun i ro uo z => K i ro uo ⟨g5_, z⟩
    intro a18 ea18 
    replace h := h a18 ea18 
    replace K := fun i ro uo z => K i ro uo ⟨a18, ea18, z⟩
    refine ⟨fun c => ?_, fun c => ?_⟩
    · replace h := h.1 c
      replace K := fun i ro uo z => K i ro uo (Or.inl ⟨c, z⟩)
      exact ru_X2_catchHolds_J84 i0 K h
    · replace h := h.2 c
      replace K := fun i ro uo z => K i ro uo (Or.inr ⟨c, z⟩)
      refine ⟨fun c => ?_, fun c => ?_⟩
      · replace h := h.1 c
        replace K := fun i ro uo z => K i ro uo (Or.inl ⟨c, z⟩)
        exact ru_X2_catchHolds_J84 i0 K h
      · replace h := h.2 c
        replace K := fun i ro uo z => K i ro uo (Or.inr ⟨c, z⟩)
        obtain ⟨g6_, h⟩ := h
        refine ⟨g6_, ?_⟩
        replace K := fun i ro uo z => K i ro uo ⟨g6_, z⟩
        intro a25 ea25 
        replace h := h a25 ea25 
        replace K := fun i ro uo z => K i ro uo ⟨a25, ea25, z⟩
        obtain ⟨g7_, h⟩ := h
        refine ⟨g7_, ?_⟩
        replace K := fun i ro uo z => K i ro uo ⟨g7_, z⟩
        intro a29 ea29 
        replace h := h a29 ea29 
        replace K := fun i ro uo z => K i ro uo ⟨a29, ea29, z⟩
        refine ⟨fun c => ?_, fun c => ?_⟩
        · replace h := h.1 c
          replace K := fun i ro uo z => K i ro uo (Or.inl ⟨c, z⟩)
          exact ru_X2_catchHolds_J84 i0 K h
        · replace h := h.2 c
          replace K := fun i ro uo z => K i ro uo (Or.inr ⟨c, z⟩)
          obtain ⟨g8_, h⟩ := h
          refine ⟨g8_, ?_⟩
          replace K := fun i ro uo z => K i ro uo ⟨g8_, z⟩
          intro a35 ea35 
          replace h := h a35 ea35 
          replace K := fun i ro uo z => K i ro uo ⟨a35, ea35, z⟩
          obtain ⟨Q9, h0, h⟩ := h
          refine ⟨_, ruX2_errorOf h0, ?_⟩
          intro r37 S38 q9_ y10_ y11_
          replace h := h r37 S38 q9_.1 y10_ y11_
          replace K := fun i ro uo z => K i ro uo ⟨r37, S38, q9_.2, y10_, y11_, z⟩
          refine ⟨fun c => ?_, fun c => ?_⟩
          · replace h := h.1 c
            replace K := fun i ro uo z => K i ro uo (Or.inl ⟨c, z⟩)
            exact ru_X2_catchHolds_J84 i0 K h
          · replace h := h.2 c
            replace K := fun i ro uo z => K i ro uo (Or.inr ⟨c, z⟩)
            exact ⟨h, K i0 _ _ ⟨rfl, rfl⟩⟩
set_option maxRecDepth 100000 in
theorem vw_X2_catchHolds_J84 {ro : Int32} {uo : MS} {U84 : MS} (h : v_X2_catchHolds_J84 ro uo U84) : w_X2_catchHolds_J84 (fun r u => r = ro ∧ u = uo) U84 := by
  unfold v_X2_catchHolds_J84 at h
  unfold w_X2_catchHolds_J84
  intro _
  replace h := h.2
  exact ⟨h.1.symm, h.2.symm⟩
set_option maxRecDepth 100000 in
theorem vp_X2_catchHolds_J84 {ro : Int32} {uo : MS} {P : Int32 → MS → Prop} {U84 : MS} (h : v_X2_catchHolds_J84 ro uo U84) (w : w_X2_catchHolds_J84 P U84) : P ro uo := by
  unfold v_X2_catchHolds_J84 at h
  unfold w_X2_catchHolds_J84 at w
  obtain ⟨y1_, h⟩ := h
  replace w := w y1_
  rw [h.1, h.2]
  exact w
set_option maxRecDepth 100000 in
theorem vwX2_catchHolds {S : MS} {x1 : Int32} {ro : Int32} {uo : MS} (h : vX2_catchHolds S x1 ro uo) : wX2_catchHolds S x1 (fun r u => r = ro ∧ u = uo) := by
  unfold vX2_catchHolds at h
  unfold wX2_catchHolds
  obtain ⟨g9, h⟩ := h
  refine ⟨g9, ?_⟩
  obtain ⟨v9, e9, h⟩ := h
  intro x9 d9 
  have c9 : v9 = x9 := e9.trans d9.symm
  subst c9
  obtain ⟨g9, h⟩ := h
  refine ⟨g9, ?_⟩
  obtain ⟨v9, e9, h⟩ := h
  intro x9 d9 
  have c9 : v9 = x9 := e9.trans d9.symm
  subst c9
  obtain ⟨g9, h⟩ := h
  refine ⟨g9, ?_⟩
  obtain ⟨v9, e9, h⟩ := h
  intro x9 d9 
  have c9 : v9 = x9 := e9.trans d9.symm
  subst c9
  rcases h with ⟨c, h⟩ | ⟨c, h⟩
  · refine ⟨fun _ => ?_, fun c2 => absurd c c2⟩
    exact vw_X2_catchHolds_J84 h
  · refine ⟨fun c2 => absurd c2 c, fun _ => ?_⟩
    obtain ⟨g9, h⟩ := h
    refine ⟨g9, ?_⟩
    obtain ⟨v9, e9, h⟩ := h
    intro x9 d9 
    have c9 : v9 = x9 := e9.trans d9.symm
    subst c9
    rcases h with ⟨c, h⟩ | ⟨c, h⟩
    · refine ⟨fun _ => ?_, fun c2 => absurd c c2⟩
      exact vw_X2_catchHolds_J84 h
    · refine ⟨fun c2 => absurd c2 c, fun _ => ?_⟩
      rcases h with ⟨c, h⟩ | ⟨c, h⟩
      · refine ⟨fun _ => ?_, fun c2 => absurd c c2⟩
        exact vw_X2_catchHolds_J84 h
      · refine ⟨fun c2 => absurd c2 c, fun _ => ?_⟩
        obtain ⟨g9, h⟩ := h
        refine ⟨g9, ?_⟩
        obtain ⟨v9, e9, h⟩ := h
        intro x9 d9 
        have c9 : v9 = x9 := e9.trans d9.symm
        subst c9
        obtain ⟨g9, h⟩ := h
        refine ⟨g9, ?_⟩
        obtain ⟨v9, e9, h⟩ := h
        intro x9 d9 
        have c9 : v9 = x9 := e9.trans d9.symm
        subst c9
        rcases h with ⟨c, h⟩ | ⟨c, h⟩
        · refine ⟨fun _ => ?_, fun c2 => absurd c c2⟩
          exact vw_X2_catchHolds_J84 h
        · refine ⟨fun c2 => absurd c2 c, fun _ => ?_⟩
          obtain ⟨g9, h⟩ := h
          refine ⟨g9, ?_⟩
          obtain ⟨v9, e9, h⟩ := h
          intro x9 d9 
          have c9 : v9 = x9 := e9.trans d9.symm
          subst c9
          obtain ⟨p9, q9, z9, h⟩ := h
          refine ⟨_, vwX2_errorOf z9, ?_⟩
          rintro p8 q8 ⟨d8, d9⟩ _ _
          subst d8
          subst d9
          replace h := h.2.2
          rcases h with ⟨c, h⟩ | ⟨c, h⟩
          · refine ⟨fun _ => ?_, fun c2 => absurd c c2⟩
            exact vw_X2_catchHolds_J84 h
          · refine ⟨fun c2 => absurd c2 c, fun _ => ?_⟩
            exact ⟨h.1.symm, h.2.symm⟩
set_option maxRecDepth 100000 in
theorem vpX2_catchHolds {S : MS} {x1 : Int32} {ro : Int32} {uo : MS} {P : Int32 → MS → Prop} (h : vX2_catchHolds S x1 ro uo) (w : wX2_catchHolds S x1 P) : P ro uo := by
  unfold vX2_catchHolds at h
  unfold wX2_catchHolds at w
  replace h := h.2
  replace w := w.2
  obtain ⟨v9, e9, h⟩ := h
  replace w := w v9 e9 
  replace h := h.2
  replace w := w.2
  obtain ⟨v9, e9, h⟩ := h
  replace w := w v9 e9 
  replace h := h.2
  replace w := w.2
  obtain ⟨v9, e9, h⟩ := h
  replace w := w v9 e9 
  rcases h with ⟨c, h⟩ | ⟨c, h⟩
  · replace w := w.1 c
    exact vp_X2_catchHolds_J84 h w
  · replace w := w.2 c
    replace h := h.2
    replace w := w.2
    obtain ⟨v9, e9, h⟩ := h
    replace w := w v9 e9 
    rcases h with ⟨c, h⟩ | ⟨c, h⟩
    · replace w := w.1 c
      exact vp_X2_catchHolds_J84 h w
    · replace w := w.2 c
      rcases h with ⟨c, h⟩ | ⟨c, h⟩
      · replace w := w.1 c
        exact vp_X2_catchHolds_J84 h w
      · replace w := w.2 c
        replace h := h.2
        replace w := w.2
        obtain ⟨v9, e9, h⟩ := h
        replace w := w v9 e9 
        replace h := h.2
        replace w := w.2
        obtain ⟨v9, e9, h⟩ := h
        replace w := w v9 e9 
        rcases h with ⟨c, h⟩ | ⟨c, h⟩
        · replace w := w.1 c
          exact vp_X2_catchHolds_J84 h w
        · replace w := w.2 c
          replace h := h.2
          replace w := w.2
          obtain ⟨v9, e9, h⟩ := h
          replace w := w v9 e9 
          obtain ⟨p9, q9, z9, y2_, y3_, h⟩ := h
          obtain ⟨Q9, w0, w⟩ := w
          replace w := w p9 q9 (vpX2_errorOf z9 w0) y2_ y3_
          rcases h with ⟨c, h⟩ | ⟨c, h⟩
          · replace w := w.1 c
            exact vp_X2_catchHolds_J84 h w
          · replace w := w.2 c
            rw [h.1, h.2]
            exact w
def v_X2_build_L200 (ro : Nat) (uo : MS) : Nat → MS → Nat → Int32 → Prop
  | 0, _, _, _ => False
  | n200 + 1, U200, v200_1, v200_2 => (wfC U200 ∧ qT U200 v200_1 = 49 ∧ ((qR U200 v200_1 13 = some (qO U200 v200_1 13)) ∧ (((qN U200 (qO U200 v200_1 13) : Int) ≤ v200_2.toInt ∧ (ro = v200_1 ∧ uo = U200)) ∨ (¬ (qN U200 (qO U200 v200_1 13) : Int) ≤ v200_2.toInt ∧ (∃ a55 : Int32, a55 = ((qI U200 9 7) + v200_2) ∧ ((qR U200 v200_1 9 = some (qO U200 v200_1 9)) ∧ (d_X7_nameOf U200 a55 ∧ (∃ a61 : Int32, a61 = (fX7_nameOf U200 a55) ∧ (d_X7_entryAt U200 a61 ∧ (∃ a65 : Int32, a65 = (fX7_entryAt U200 a61) ∧ (((0 : Int) ≤ v200_2.toInt ∧ v200_2.toInt < (qN U200 (qO U200 v200_1 9) : Int)) ∧ (∃ S67 : MS, S67 = wI U200 (qO U200 v200_1 9) v200_2.toInt.toNat a65 ∧ qT U200 (qO U200 v200_1 9) = 234 ∧ wfC S67 ∧ ((qR S67 v200_1 10 = some (qO S67 v200_1 10)) ∧ (d_X7_typeOf S67 a55 ∧ (∃ a73 : Int32, a73 = (fX7_typeOf S67 a55) ∧ (d_X7_entryAt S67 a73 ∧ (∃ a77 : Int32, a77 = (fX7_entryAt S67 a73) ∧ (((0 : Int) ≤ v200_2.toInt ∧ v200_2.toInt < (qN S67 (qO S67 v200_1 10) : Int)) ∧ (∃ S79 : MS, S79 = wI S67 (qO S67 v200_1 10) v200_2.toInt.toNat a77 ∧ qT S67 (qO S67 v200_1 10) = 235 ∧ wfC S79 ∧ (d_X7_typeOf S79 a55 ∧ (∃ a83 : Int32, a83 = (fX7_typeOf S79 a55) ∧ (∃ (r85 : Int32) (S86 : MS), vX7_isMethodType S79 a83 r85 S86 ∧ wfC S86 ∧ shy S79 S86 ∧ ((qR S86 v200_1 11 = some (qO S86 v200_1 11)) ∧ (((0 : Int) ≤ v200_2.toInt ∧ v200_2.toInt < (qN S86 (qO S86 v200_1 11) : Int)) ∧ (∃ S91 : MS, S91 = wI S86 (qO S86 v200_1 11) v200_2.toInt.toNat (qI S86 9 12) ∧ qT S86 (qO S86 v200_1 11) = 236 ∧ wfC S91 ∧ ((qR S91 v200_1 12 = some (qO S91 v200_1 12)) ∧ (((0 : Int) ≤ v200_2.toInt ∧ v200_2.toInt < (qN S91 (qO S91 v200_1 12) : Int)) ∧ (∃ S95 : MS, S95 = wI S91 (qO S91 v200_1 12) v200_2.toInt.toNat (qI S91 9 14) ∧ qT S91 (qO S91 v200_1 12) = 237 ∧ wfC S95 ∧ (∃ a96 : Int32, a96 = (v200_2 + Int32.ofInt 1) ∧ ((v_X2_build_L200 ro uo n200) S95 v200_1 a96))))))))))))))))))))))))))))))
def v_X2_build_L120 (ro : Nat) (uo : MS) : Nat → MS → Nat → Int32 → Prop
  | 0, _, _, _ => False
  | n120 + 1, U120, v120_1, v120_2 => (wfC U120 ∧ qT U120 v120_1 = 49 ∧ ((qR U120 v120_1 5 = some (qO U120 v120_1 5)) ∧ (((qN U120 (qO U120 v120_1 5) : Int) ≤ v120_2.toInt ∧ (∃ n, v_X2_build_L200 ro uo n U120 v120_1 0)) ∨ (¬ (qN U120 (qO U120 v120_1 5) : Int) ≤ v120_2.toInt ∧ ((qR U120 v120_1 5 = some (qO U120 v120_1 5)) ∧ (d_X7_nameOf U120 v120_2 ∧ (∃ a102 : Int32, a102 = (fX7_nameOf U120 v120_2) ∧ (d_X7_entryAt U120 a102 ∧ (∃ a106 : Int32, a106 = (fX7_entryAt U120 a102) ∧ (((0 : Int) ≤ v120_2.toInt ∧ v120_2.toInt < (qN U120 (qO U120 v120_1 5) : Int)) ∧ (∃ S108 : MS, S108 = wI U120 (qO U120 v120_1 5) v120_2.toInt.toNat a106 ∧ qT U120 (qO U120 v120_1 5) = 231 ∧ wfC S108 ∧ ((qR S108 v120_1 6 = some (qO S108 v120_1 6)) ∧ (d_X7_typeOf S108 v120_2 ∧ (∃ a114 : Int32, a114 = (fX7_typeOf S108 v120_2) ∧ (d_X7_entryAt S108 a114 ∧ (∃ a118 : Int32, a118 = (fX7_entryAt S108 a114) ∧ (((0 : Int) ≤ v120_2.toInt ∧ v120_2.toInt < (qN S108 (qO S108 v120_1 6) : Int)) ∧ (∃ S120 : MS, S120 = wI S108 (qO S108 v120_1 6) v120_2.toInt.toNat a118 ∧ qT S108 (qO S108 v120_1 6) = 232 ∧ wfC S120 ∧ ((qR S120 v120_1 7 = some (qO S120 v120_1 7)) ∧ (d_X7_typeOf S120 v120_2 ∧ (∃ a126 : Int32, a126 = (fX7_typeOf S120 v120_2) ∧ (d_X7_kindOfType S120 a126 ∧ (∃ a130 : Int32, a130 = (fX7_kindOfType S120 a126) ∧ (((0 : Int) ≤ v120_2.toInt ∧ v120_2.toInt < (qN S120 (qO S120 v120_1 7) : Int)) ∧ (∃ S132 : MS, S132 = wI S120 (qO S120 v120_1 7) v120_2.toInt.toNat a130 ∧ qT S120 (qO S120 v120_1 7) = 233 ∧ wfC S132 ∧ (∃ a133 : Int32, a133 = (v120_2 + Int32.ofInt 1) ∧ ((v_X2_build_L120 ro uo n120) S132 v120_1 a133)))))))))))))))))))))))))))
def vX2_build (S : MS) (ro : Nat) (uo : MS) : Prop := ((qn S + 1 ≤ KCC ∧ qu S + 18 ≤ KSC) ∧ (∃ S4 : MS, S4 = wN S 49 0 18 ∧ wfC S4 ∧ (qT S4 (qO S4 9 0) = 101 ∧ (∃ (b12 : Nat) (S9 : MS), vJ7_copyOf_9075b S4 105 (qO S4 9 0) (qI S4 9 1) b12 S9 ∧ wfC S9 ∧ shx S4 S9 ∧ qT S9 b12 = 105 ∧ (qT S9 (qn S) = 49 ∧ qT S9 b12 = 105 ∧ (∃ (S14 : MS), vX10_init S9 (qn S) b12 (qI S9 9 7) (qI S9 9 8) S14 ∧ wfC S14 ∧ shx S9 S14 ∧ (∃ S17 : MS, S17 = wI S14 (qn S) 1 (qI S14 9 5) ∧ qT S14 (qn S) = 49 ∧ wfC S17 ∧ (d_X7_u2 S17 ((qI S17 9 6) + (2 : Int32)) ∧ (∃ a22 : Int32, a22 = (fX7_u2 S17 ((qI S17 9 6) + (2 : Int32))) ∧ (d_X7_firstOf S17 a22 ∧ (∃ a26 : Int32, a26 = (fX7_firstOf S17 a22) ∧ (d_X7_entryAt S17 a26 ∧ (∃ a30 : Int32, a30 = (fX7_entryAt S17 a26) ∧ (∃ S31 : MS, S31 = wI S17 (qn S) 2 a30 ∧ qT S17 (qn S) = 49 ∧ wfC S31 ∧ (d_X7_u2 S31 ((qI S31 9 6) + (4 : Int32)) ∧ (∃ a36 : Int32, a36 = (fX7_u2 S31 ((qI S31 9 6) + (4 : Int32))) ∧ (d_X7_firstOf S31 a36 ∧ (∃ a40 : Int32, a40 = (fX7_firstOf S31 a36) ∧ (d_X7_entryAt S31 a40 ∧ (∃ a44 : Int32, a44 = (fX7_entryAt S31 a40) ∧ (∃ S45 : MS, S45 = wI S31 (qn S) 3 a44 ∧ qT S31 (qn S) = 49 ∧ wfC S45 ∧ (∃ n, v_X2_build_L120 ro uo n S45 (qn S) 0))))))))))))))))))))))
set_option maxRecDepth 100000 in
theorem ru_X2_build_L200 {ι : Type} {P Q : Nat → MS → Prop} : ∀ (n : Nat) {U200 : MS} {v200_1 : Nat} {v200_2 : Int32} (i0 : ι), (∀ (i : ι) (ro : Nat) (uo : MS), (∃ n8, v_X2_build_L200 ro uo n8 U200 v200_1 v200_2) → P ro uo) → w_X2_build_L200 Q n U200 v200_1 v200_2 → w_X2_build_L200 (fun r u => Q r u ∧ P r u) n U200 v200_1 v200_2 := by
  intro n
  induction n with
  | zero => intro U200 v200_1 v200_2 i0 K h; unfold w_X2_build_L200 at h; exact h.elim
  | succ n ih =>
    intro U200 v200_1 v200_2 i0 K h
    unfold w_X2_build_L200 at h ⊢
    replace K := fun (i : ι × Nat) ro uo (z : v_X2_build_L200 ro uo (i.2 + 1) U200 v200_1 v200_2) => K i.1 ro uo ⟨i.2 + 1, z⟩
    have i00 := i0
    replace i0 : ι × Nat := (i0, 0)
    intro y1_ y2_
    replace h := h y1_ y2_
    replace K := fun i ro uo z => K i ro uo ⟨y1_, y2_, z⟩
    obtain ⟨g3_, h⟩ := h
    refine ⟨g3_, ?_⟩
    replace K := fun i ro uo z => K i ro uo ⟨g3_, z⟩
    refine ⟨fun c => ?_, fun c => ?_⟩
    · replace h := h.1 c
      replace K := fun i ro uo z => K i ro uo (Or.inl ⟨c, z⟩)
      exact ⟨h, K i0 _ _ ⟨rfl, rfl⟩⟩
    · replace h := h.2 c
      replace K := fun i ro uo z => K i ro uo (Or.inr ⟨c, z⟩)
      intro a55 ea55 
      replace h := h a55 ea55 
      replace K := fun i ro uo z => K i ro uo ⟨a55, ea55, z⟩
      obtain ⟨g4_, h⟩ := h
      refine ⟨g4_, ?_⟩
      replace K := fun i ro uo z => K i ro uo ⟨g4_, z⟩
      obtain ⟨g5_, h⟩ := h
      refine ⟨g5_, ?_⟩
      replace K := fun i ro uo z => K i ro uo ⟨g5_, z⟩
      intro a61 ea61 
      replace h := h a61 ea61 
      replace K := fun i ro uo z => K i ro uo ⟨a61, ea61, z⟩
      obtain ⟨g6_, h⟩ := h
      refine ⟨g6_, ?_⟩
      replace K := fun i ro uo z => K i ro uo ⟨g6_, z⟩
      intro a65 ea65 
      replace h := h a65 ea65 
      replace K := fun i ro uo z => K i ro uo ⟨a65, ea65, z⟩
      obtain ⟨g7_, h⟩ := h
      refine ⟨g7_, ?_⟩
      replace K := fun i ro uo z => K i ro uo ⟨g7_, z⟩
      intro S67 eS67 y8_ y9_
      replace h := h S67 eS67 y8_ y9_
      replace K := fun i ro uo z => K i ro uo ⟨S67, eS67, y8_, y9_, z⟩
      obtain ⟨g10_, h⟩ := h
      refine ⟨g10_, ?_⟩
      replace K := fun i ro uo z => K i ro uo ⟨g10_, z⟩
      obtain ⟨g11_, h⟩ := h
      refine ⟨g11_, ?_⟩
      replace K := fun i ro uo z => K i ro uo ⟨g11_, z⟩
      intro a73 ea73 
      replace h := h a73 ea73 
      replace K := fun i ro uo z => K i ro uo ⟨a73, ea73, z⟩
      obtain ⟨g12_, h⟩ := h
      refine ⟨g12_, ?_⟩
      replace K := fun i ro uo z => K i ro uo ⟨g12_, z⟩
      intro a77 ea77 
      replace h := h a77 ea77 
      replace K := fun i ro uo z => K i ro uo ⟨a77, ea77, z⟩
      obtain ⟨g13_, h⟩ := h
      refine ⟨g13_, ?_⟩
      replace K := fun i ro uo z => K i ro uo ⟨g13_, z⟩
      intro S79 eS79 y14_ y15_
      replace h := h S79 eS79 y14_ y15_
      replace K := fun i ro uo z => K i ro uo ⟨S79, eS79, y14_, y15_, z⟩
      obtain ⟨g16_, h⟩ := h
      refine ⟨g16_, ?_⟩
      replace K := fun i ro uo z => K i ro uo ⟨g16_, z⟩
      intro a83 ea83 
      replace h := h a83 ea83 
      replace K := fun i ro uo z => K i ro uo ⟨a83, ea83, z⟩
      obtain ⟨Q9, h0, h⟩ := h
      refine ⟨_, ruX7_isMethodType h0, ?_⟩
      intro r85 S86 q17_ y18_ y19_
      replace h := h r85 S86 q17_.1 y18_ y19_
      replace K := fun i ro uo z => K i ro uo ⟨r85, S86, q17_.2, y18_, y19_, z⟩
      obtain ⟨g20_, h⟩ := h
      refine ⟨g20_, ?_⟩
      replace K := fun i ro uo z => K i ro uo ⟨g20_, z⟩
      obtain ⟨g21_, h⟩ := h
      refine ⟨g21_, ?_⟩
      replace K := fun i ro uo z => K i ro uo ⟨g21_, z⟩
      intro S91 eS91 y22_ y23_
      replace h := h S91 eS91 y22_ y23_
      replace K := fun i ro uo z => K i ro uo ⟨S91, eS91, y22_, y23_, z⟩
      obtain ⟨g24_, h⟩ := h
      refine ⟨g24_, ?_⟩
      replace K := fun i ro uo z => K i ro uo ⟨g24_, z⟩
      obtain ⟨g25_, h⟩ := h
      refine ⟨g25_, ?_⟩
      replace K := fun i ro uo z => K i ro uo ⟨g25_, z⟩
      intro S95 eS95 y26_ y27_
      replace h := h S95 eS95 y26_ y27_
      replace K := fun i ro uo z => K i ro uo ⟨S95, eS95, y26_, y27_, z⟩
      intro a96 ea96 
      replace h := h a96 ea96 
      replace K := fun i ro uo z => K i ro uo ⟨a96, ea96, z⟩
      exact ih i00 (fun i ro uo ⟨n8, z⟩ => K (i, n8) ro uo z) h
set_option maxRecDepth 100000 in
theorem ru_X2_build_L120 {ι : Type} {P Q : Nat → MS → Prop} : ∀ (n : Nat) {U120 : MS} {v120_1 : Nat} {v120_2 : Int32} (i0 : ι), (∀ (i : ι) (ro : Nat) (uo : MS), (∃ n8, v_X2_build_L120 ro uo n8 U120 v120_1 v120_2) → P ro uo) → w_X2_build_L120 Q n U120 v120_1 v120_2 → w_X2_build_L120 (fun r u => Q r u ∧ P r u) n U120 v120_1 v120_2 := by
  intro n
  induction n with
  | zero => intro U120 v120_1 v120_2 i0 K h; unfold w_X2_build_L120 at h; exact h.elim
  | succ n ih =>
    intro U120 v120_1 v120_2 i0 K h
    unfold w_X2_build_L120 at h ⊢
    replace K := fun (i : ι × Nat) ro uo (z : v_X2_build_L120 ro uo (i.2 + 1) U120 v120_1 v120_2) => K i.1 ro uo ⟨i.2 + 1, z⟩
    have i00 := i0
    replace i0 : ι × Nat := (i0, 0)
    intro y28_ y29_
    replace h := h y28_ y29_
    replace K := fun i ro uo z => K i ro uo ⟨y28_, y29_, z⟩
    obtain ⟨g30_, h⟩ := h
    refine ⟨g30_, ?_⟩
    replace K := fun i ro uo z => K i ro uo ⟨g30_, z⟩
    refine ⟨fun c => ?_, fun c => ?_⟩
    · replace h := h.1 c
      replace K := fun i ro uo z => K i ro uo (Or.inl ⟨c, z⟩)
      obtain ⟨n9, h⟩ := h
      exact ⟨n9, ru_X2_build_L200 n9 i0 K h⟩
    · replace h := h.2 c
      replace K := fun i ro uo z => K i ro uo (Or.inr ⟨c, z⟩)
      obtain ⟨g31_, h⟩ := h
      refine ⟨g31_, ?_⟩
      replace K := fun i ro uo z => K i ro uo ⟨g31_, z⟩
      obtain ⟨g32_, h⟩ := h
      refine ⟨g32_, ?_⟩
      replace K := fun i ro uo z => K i ro uo ⟨g32_, z⟩
      intro a102 ea102 
      replace h := h a102 ea102 
      replace K := fun i ro uo z => K i ro uo ⟨a102, ea102, z⟩
      obtain ⟨g33_, h⟩ := h
      refine ⟨g33_, ?_⟩
      replace K := fun i ro uo z => K i ro uo ⟨g33_, z⟩
      intro a106 ea106 
      replace h := h a106 ea106 
      replace K := fun i ro uo z => K i ro uo ⟨a106, ea106, z⟩
      obtain ⟨g34_, h⟩ := h
      refine ⟨g34_, ?_⟩
      replace K := fun i ro uo z => K i ro uo ⟨g34_, z⟩
      intro S108 eS108 y35_ y36_
      replace h := h S108 eS108 y35_ y36_
      replace K := fun i ro uo z => K i ro uo ⟨S108, eS108, y35_, y36_, z⟩
      obtain ⟨g37_, h⟩ := h
      refine ⟨g37_, ?_⟩
      replace K := fun i ro uo z => K i ro uo ⟨g37_, z⟩
      obtain ⟨g38_, h⟩ := h
      refine ⟨g38_, ?_⟩
      replace K := fun i ro uo z => K i ro uo ⟨g38_, z⟩
      intro a114 ea114 
      replace h := h a114 ea114 
      replace K := fun i ro uo z => K i ro uo ⟨a114, ea114, z⟩
      obtain ⟨g39_, h⟩ := h
      refine ⟨g39_, ?_⟩
      replace K := fun i ro uo z => K i ro uo ⟨g39_, z⟩
      intro a118 ea118 
      replace h := h a118 ea118 
      replace K := fun i ro uo z => K i ro uo ⟨a118, ea118, z⟩
      obtain ⟨g40_, h⟩ := h
      refine ⟨g40_, ?_⟩
      replace K := fun i ro uo z => K i ro uo ⟨g40_, z⟩
      intro S120 eS120 y41_ y42_
      replace h := h S120 eS120 y41_ y42_
      replace K := fun i ro uo z => K i ro uo ⟨S120, eS120, y41_, y42_, z⟩
      obtain ⟨g43_, h⟩ := h
      refine ⟨g43_, ?_⟩
      replace K := fun i ro uo z => K i ro uo ⟨g43_, z⟩
      obtain ⟨g44_, h⟩ := h
      refine ⟨g44_, ?_⟩
      replace K := fun i ro uo z => K i ro uo ⟨g44_, z⟩
      intro a126 ea126 
      replace h := h a126 ea126 
      replace K := fun i ro uo z => K i ro uo ⟨a126, ea126, z⟩
      obtain ⟨g45_, h⟩ := h
      refine ⟨g45_, ?_⟩
      replace K := fun i ro uo z => K i ro uo ⟨g45_, z⟩
      intro a130 ea130 
      replace h := h a130 ea130 
      replace K := fun i ro uo z => K i ro uo ⟨a130, ea130, z⟩
      obtain ⟨g46_, h⟩ := h
      refine ⟨g46_, ?_⟩
      replace K := fun i ro uo z => K i ro uo ⟨g46_, z⟩
      intro S132 eS132 y47_ y48_
      replace h := h S132 eS132 y47_ y48_
      replace K := fun i ro uo z => K i ro uo ⟨S132, eS132, y47_, y48_, z⟩
      intro a133 ea133 
      replace h := h a133 ea133 
      replace K := fun i ro uo z => K i ro uo ⟨a133, ea133, z⟩
      exact ih i00 (fun i ro uo ⟨n8, z⟩ => K (i, n8) ro uo z) h
set_option maxRecDepth 100000 in
theorem ruX2_build {S : MS} {Q : Nat → MS → Prop} (h : wX2_build S Q) : wX2_build S (fun r u => Q r u ∧ vX2_build S r u) := by
  have i0 : Unit := ()
  have K : ∀ (i : Unit) (ro : Nat) (uo : MS), vX2_build S ro uo → vX2_build S ro uo := fun _ _ _ z => z
  unfold wX2_build at h ⊢
  obtain ⟨g49_, h⟩ := h
  refine ⟨g49_, ?_⟩
  replace K := fun i ro uo z => K i ro uo ⟨g49_, z⟩
  intro S4 eS4 y50_
  replace h := h S4 eS4 y50_
  replace K := fun i ro uo z => K i ro uo ⟨S4, eS4, y50_, z⟩
  intro y51_
  replace h := h y51_
  replace K := fun i ro uo z => K i ro uo ⟨y51_, z⟩
  obtain ⟨Q9, h0, h⟩ := h
  refine ⟨_, ruJ7_copyOf_9075b h0, ?_⟩
  intro b12 S9 q52_ y53_ y54_ y55_
  replace h := h b12 S9 q52_.1 y53_ y54_ y55_
  replace K := fun i ro uo z => K i ro uo ⟨b12, S9, q52_.2, y53_, y54_, y55_, z⟩
  intro y56_ y57_
  replace h := h y56_ y57_
  replace K := fun i ro uo z => K i ro uo ⟨y56_, y57_, z⟩
  obtain ⟨Q9, h0, h⟩ := h
  refine ⟨_, ruX10_init h0, ?_⟩
  intro S14 q58_ y59_ y60_
  replace h := h S14 q58_.1 y59_ y60_
  replace K := fun i ro uo z => K i ro uo ⟨S14, q58_.2, y59_, y60_, z⟩
  intro S17 eS17 y61_ y62_
  replace h := h S17 eS17 y61_ y62_
  replace K := fun i ro uo z => K i ro uo ⟨S17, eS17, y61_, y62_, z⟩
  obtain ⟨g63_, h⟩ := h
  refine ⟨g63_, ?_⟩
  replace K := fun i ro uo z => K i ro uo ⟨g63_, z⟩
  intro a22 ea22 
  replace h := h a22 ea22 
  replace K := fun i ro uo z => K i ro uo ⟨a22, ea22, z⟩
  obtain ⟨g64_, h⟩ := h
  refine ⟨g64_, ?_⟩
  replace K := fun i ro uo z => K i ro uo ⟨g64_, z⟩
  intro a26 ea26 
  replace h := h a26 ea26 
  replace K := fun i ro uo z => K i ro uo ⟨a26, ea26, z⟩
  obtain ⟨g65_, h⟩ := h
  refine ⟨g65_, ?_⟩
  replace K := fun i ro uo z => K i ro uo ⟨g65_, z⟩
  intro a30 ea30 
  replace h := h a30 ea30 
  replace K := fun i ro uo z => K i ro uo ⟨a30, ea30, z⟩
  intro S31 eS31 y66_ y67_
  replace h := h S31 eS31 y66_ y67_
  replace K := fun i ro uo z => K i ro uo ⟨S31, eS31, y66_, y67_, z⟩
  obtain ⟨g68_, h⟩ := h
  refine ⟨g68_, ?_⟩
  replace K := fun i ro uo z => K i ro uo ⟨g68_, z⟩
  intro a36 ea36 
  replace h := h a36 ea36 
  replace K := fun i ro uo z => K i ro uo ⟨a36, ea36, z⟩
  obtain ⟨g69_, h⟩ := h
  refine ⟨g69_, ?_⟩
  replace K := fun i ro uo z => K i ro uo ⟨g69_, z⟩
  intro a40 ea40 
  replace h := h a40 ea40 
  replace K := fun i ro uo z => K i ro uo ⟨a40, ea40, z⟩
  obtain ⟨g70_, h⟩ := h
  refine ⟨g70_, ?_⟩
  replace K := fun i ro uo z => K i ro uo ⟨g70_, z⟩
  intro a44 ea44 
  replace h := h a44 ea44 
  replace K := fun i ro uo z => K i ro uo ⟨a44, ea44, z⟩
  intro S45 eS45 y71_ y72_
  replace h := h S45 eS45 y71_ y72_
  replace K := fun i ro uo z => K i ro uo ⟨S45, eS45, y71_, y72_, z⟩
  obtain ⟨n9, h⟩ := h
  exact ⟨n9, ru_X2_build_L120 n9 i0 K h⟩
set_option maxRecDepth 100000 in
theorem vw_X2_build_L200 {ro : Nat} {uo : MS} : ∀ (n : Nat) {U200 : MS} {v200_1 : Nat} {v200_2 : Int32}, v_X2_build_L200 ro uo n U200 v200_1 v200_2 → w_X2_build_L200 (fun r u => r = ro ∧ u = uo) n U200 v200_1 v200_2 := by
  intro n
  induction n with
  | zero => intro U200 v200_1 v200_2 h; unfold v_X2_build_L200 at h; exact h.elim
  | succ n ih =>
    intro U200 v200_1 v200_2 h
    unfold v_X2_build_L200 at h
    unfold w_X2_build_L200
    intro _ _
    replace h := h.2.2
    obtain ⟨g9, h⟩ := h
    refine ⟨g9, ?_⟩
    rcases h with ⟨c, h⟩ | ⟨c, h⟩
    · refine ⟨fun _ => ?_, fun c2 => absurd c c2⟩
      exact ⟨h.1.symm, h.2.symm⟩
    · refine ⟨fun c2 => absurd c2 c, fun _ => ?_⟩
      obtain ⟨v9, e9, h⟩ := h
      intro x9 d9 
      have c9 : v9 = x9 := e9.trans d9.symm
      subst c9
      obtain ⟨g9, h⟩ := h
      refine ⟨g9, ?_⟩
      obtain ⟨g9, h⟩ := h
      refine ⟨g9, ?_⟩
      obtain ⟨v9, e9, h⟩ := h
      intro x9 d9 
      have c9 : v9 = x9 := e9.trans d9.symm
      subst c9
      obtain ⟨g9, h⟩ := h
      refine ⟨g9, ?_⟩
      obtain ⟨v9, e9, h⟩ := h
      intro x9 d9 
      have c9 : v9 = x9 := e9.trans d9.symm
      subst c9
      obtain ⟨g9, h⟩ := h
      refine ⟨g9, ?_⟩
      obtain ⟨v9, e9, h⟩ := h
      intro x9 d9 _ _
      have c9 : v9 = x9 := e9.trans d9.symm
      subst c9
      replace h := h.2.2
      obtain ⟨g9, h⟩ := h
      refine ⟨g9, ?_⟩
      obtain ⟨g9, h⟩ := h
      refine ⟨g9, ?_⟩
      obtain ⟨v9, e9, h⟩ := h
      intro x9 d9 
      have c9 : v9 = x9 := e9.trans d9.symm
      subst c9
      obtain ⟨g9, h⟩ := h
      refine ⟨g9, ?_⟩
      obtain ⟨v9, e9, h⟩ := h
      intro x9 d9 
      have c9 : v9 = x9 := e9.trans d9.symm
      subst c9
      obtain ⟨g9, h⟩ := h
      refine ⟨g9, ?_⟩
      obtain ⟨v9, e9, h⟩ := h
      intro x9 d9 _ _
      have c9 : v9 = x9 := e9.trans d9.symm
      subst c9
      replace h := h.2.2
      obtain ⟨g9, h⟩ := h
      refine ⟨g9, ?_⟩
      obtain ⟨v9, e9, h⟩ := h
      intro x9 d9 
      have c9 : v9 = x9 := e9.trans d9.symm
      subst c9
      obtain ⟨p9, q9, z9, h⟩ := h
      refine ⟨_, vwX7_isMethodType z9, ?_⟩
      rintro p8 q8 ⟨d8, d9⟩ _ _
      subst d8
      subst d9
      replace h := h.2.2
      obtain ⟨g9, h⟩ := h
      refine ⟨g9, ?_⟩
      obtain ⟨g9, h⟩ := h
      refine ⟨g9, ?_⟩
      obtain ⟨v9, e9, h⟩ := h
      intro x9 d9 _ _
      have c9 : v9 = x9 := e9.trans d9.symm
      subst c9
      replace h := h.2.2
      obtain ⟨g9, h⟩ := h
      refine ⟨g9, ?_⟩
      obtain ⟨g9, h⟩ := h
      refine ⟨g9, ?_⟩
      obtain ⟨v9, e9, h⟩ := h
      intro x9 d9 _ _
      have c9 : v9 = x9 := e9.trans d9.symm
      subst c9
      replace h := h.2.2
      obtain ⟨v9, e9, h⟩ := h
      intro x9 d9 
      have c9 : v9 = x9 := e9.trans d9.symm
      subst c9
      exact ih h
set_option maxRecDepth 100000 in
theorem vp_X2_build_L200 {ro : Nat} {uo : MS} {P : Nat → MS → Prop} : ∀ (n m : Nat) {U200 : MS} {v200_1 : Nat} {v200_2 : Int32}, v_X2_build_L200 ro uo n U200 v200_1 v200_2 → w_X2_build_L200 P m U200 v200_1 v200_2 → P ro uo := by
  intro n
  induction n with
  | zero => intro m U200 v200_1 v200_2 h; unfold v_X2_build_L200 at h; exact h.elim
  | succ n ih =>
    intro m U200 v200_1 v200_2 h w
    cases m with
    | zero => unfold w_X2_build_L200 at w; exact w.elim
    | succ m =>
      unfold v_X2_build_L200 at h
      unfold w_X2_build_L200 at w
      obtain ⟨y1_, y2_, h⟩ := h
      replace w := w y1_ y2_
      replace h := h.2
      replace w := w.2
      rcases h with ⟨c, h⟩ | ⟨c, h⟩
      · replace w := w.1 c
        rw [h.1, h.2]
        exact w
      · replace w := w.2 c
        obtain ⟨v9, e9, h⟩ := h
        replace w := w v9 e9 
        replace h := h.2
        replace w := w.2
        replace h := h.2
        replace w := w.2
        obtain ⟨v9, e9, h⟩ := h
        replace w := w v9 e9 
        replace h := h.2
        replace w := w.2
        obtain ⟨v9, e9, h⟩ := h
        replace w := w v9 e9 
        replace h := h.2
        replace w := w.2
        obtain ⟨v9, e9, y3_, y4_, h⟩ := h
        replace w := w v9 e9 y3_ y4_
        replace h := h.2
        replace w := w.2
        replace h := h.2
        replace w := w.2
        obtain ⟨v9, e9, h⟩ := h
        replace w := w v9 e9 
        replace h := h.2
        replace w := w.2
        obtain ⟨v9, e9, h⟩ := h
        replace w := w v9 e9 
        replace h := h.2
        replace w := w.2
        obtain ⟨v9, e9, y5_, y6_, h⟩ := h
        replace w := w v9 e9 y5_ y6_
        replace h := h.2
        replace w := w.2
        obtain ⟨v9, e9, h⟩ := h
        replace w := w v9 e9 
        obtain ⟨p9, q9, z9, y7_, y8_, h⟩ := h
        obtain ⟨Q9, w0, w⟩ := w
        replace w := w p9 q9 (vpX7_isMethodType z9 w0) y7_ y8_
        replace h := h.2
        replace w := w.2
        replace h := h.2
        replace w := w.2
        obtain ⟨v9, e9, y9_, y10_, h⟩ := h
        replace w := w v9 e9 y9_ y10_
        replace h := h.2
        replace w := w.2
        replace h := h.2
        replace w := w.2
        obtain ⟨v9, e9, y11_, y12_, h⟩ := h
        replace w := w v9 e9 y11_ y12_
        obtain ⟨v9, e9, h⟩ := h
        replace w := w v9 e9 
        exact ih m h w
set_option maxRecDepth 100000 in
theorem vw_X2_build_L120 {ro : Nat} {uo : MS} : ∀ (n : Nat) {U120 : MS} {v120_1 : Nat} {v120_2 : Int32}, v_X2_build_L120 ro uo n U120 v120_1 v120_2 → w_X2_build_L120 (fun r u => r = ro ∧ u = uo) n U120 v120_1 v120_2 := by
  intro n
  induction n with
  | zero => intro U120 v120_1 v120_2 h; unfold v_X2_build_L120 at h; exact h.elim
  | succ n ih =>
    intro U120 v120_1 v120_2 h
    unfold v_X2_build_L120 at h
    unfold w_X2_build_L120
    intro _ _
    replace h := h.2.2
    obtain ⟨g9, h⟩ := h
    refine ⟨g9, ?_⟩
    rcases h with ⟨c, h⟩ | ⟨c, h⟩
    · refine ⟨fun _ => ?_, fun c2 => absurd c c2⟩
      obtain ⟨n9, h⟩ := h
      exact ⟨n9, vw_X2_build_L200 n9 h⟩
    · refine ⟨fun c2 => absurd c2 c, fun _ => ?_⟩
      obtain ⟨g9, h⟩ := h
      refine ⟨g9, ?_⟩
      obtain ⟨g9, h⟩ := h
      refine ⟨g9, ?_⟩
      obtain ⟨v9, e9, h⟩ := h
      intro x9 d9 
      have c9 : v9 = x9 := e9.trans d9.symm
      subst c9
      obtain ⟨g9, h⟩ := h
      refine ⟨g9, ?_⟩
      obtain ⟨v9, e9, h⟩ := h
      intro x9 d9 
      have c9 : v9 = x9 := e9.trans d9.symm
      subst c9
      obtain ⟨g9, h⟩ := h
      refine ⟨g9, ?_⟩
      obtain ⟨v9, e9, h⟩ := h
      intro x9 d9 _ _
      have c9 : v9 = x9 := e9.trans d9.symm
      subst c9
      replace h := h.2.2
      obtain ⟨g9, h⟩ := h
      refine ⟨g9, ?_⟩
      obtain ⟨g9, h⟩ := h
      refine ⟨g9, ?_⟩
      obtain ⟨v9, e9, h⟩ := h
      intro x9 d9 
      have c9 : v9 = x9 := e9.trans d9.symm
      subst c9
      obtain ⟨g9, h⟩ := h
      refine ⟨g9, ?_⟩
      obtain ⟨v9, e9, h⟩ := h
      intro x9 d9 
      have c9 : v9 = x9 := e9.trans d9.symm
      subst c9
      obtain ⟨g9, h⟩ := h
      refine ⟨g9, ?_⟩
      obtain ⟨v9, e9, h⟩ := h
      intro x9 d9 _ _
      have c9 : v9 = x9 := e9.trans d9.symm
      subst c9
      replace h := h.2.2
      obtain ⟨g9, h⟩ := h
      refine ⟨g9, ?_⟩
      obtain ⟨g9, h⟩ := h
      refine ⟨g9, ?_⟩
      obtain ⟨v9, e9, h⟩ := h
      intro x9 d9 
      have c9 : v9 = x9 := e9.trans d9.symm
      subst c9
      obtain ⟨g9, h⟩ := h
      refine ⟨g9, ?_⟩
      obtain ⟨v9, e9, h⟩ := h
      intro x9 d9 
      have c9 : v9 = x9 := e9.trans d9.symm
      subst c9
      obtain ⟨g9, h⟩ := h
      refine ⟨g9, ?_⟩
      obtain ⟨v9, e9, h⟩ := h
      intro x9 d9 _ _
      have c9 : v9 = x9 := e9.trans d9.symm
      subst c9
      replace h := h.2.2
      obtain ⟨v9, e9, h⟩ := h
      intro x9 d9 
      have c9 : v9 = x9 := e9.trans d9.symm
      subst c9
      exact ih h
set_option maxRecDepth 100000 in
theorem vp_X2_build_L120 {ro : Nat} {uo : MS} {P : Nat → MS → Prop} : ∀ (n m : Nat) {U120 : MS} {v120_1 : Nat} {v120_2 : Int32}, v_X2_build_L120 ro uo n U120 v120_1 v120_2 → w_X2_build_L120 P m U120 v120_1 v120_2 → P ro uo := by
  intro n
  induction n with
  | zero => intro m U120 v120_1 v120_2 h; unfold v_X2_build_L120 at h; exact h.elim
  | succ n ih =>
    intro m U120 v120_1 v120_2 h w
    cases m with
    | zero => unfold w_X2_build_L120 at w; exact w.elim
    | succ m =>
      unfold v_X2_build_L120 at h
      unfold w_X2_build_L120 at w
      obtain ⟨y13_, y14_, h⟩ := h
      replace w := w y13_ y14_
      replace h := h.2
      replace w := w.2
      rcases h with ⟨c, h⟩ | ⟨c, h⟩
      · replace w := w.1 c
        obtain ⟨n9, h⟩ := h
        obtain ⟨n8, w⟩ := w
        exact vp_X2_build_L200 n9 n8 h w
      · replace w := w.2 c
        replace h := h.2
        replace w := w.2
        replace h := h.2
        replace w := w.2
        obtain ⟨v9, e9, h⟩ := h
        replace w := w v9 e9 
        replace h := h.2
        replace w := w.2
        obtain ⟨v9, e9, h⟩ := h
        replace w := w v9 e9 
        replace h := h.2
        replace w := w.2
        obtain ⟨v9, e9, y15_, y16_, h⟩ := h
        replace w := w v9 e9 y15_ y16_
        replace h := h.2
        replace w := w.2
        replace h := h.2
        replace w := w.2
        obtain ⟨v9, e9, h⟩ := h
        replace w := w v9 e9 
        replace h := h.2
        replace w := w.2
        obtain ⟨v9, e9, h⟩ := h
        replace w := w v9 e9 
        replace h := h.2
        replace w := w.2
        obtain ⟨v9, e9, y17_, y18_, h⟩ := h
        replace w := w v9 e9 y17_ y18_
        replace h := h.2
        replace w := w.2
        replace h := h.2
        replace w := w.2
        obtain ⟨v9, e9, h⟩ := h
        replace w := w v9 e9 
        replace h := h.2
        replace w := w.2
        obtain ⟨v9, e9, h⟩ := h
        replace w := w v9 e9 
        replace h := h.2
        replace w := w.2
        obtain ⟨v9, e9, y19_, y20_, h⟩ := h
        replace w := w v9 e9 y19_ y20_
        obtain ⟨v9, e9, h⟩ := h
        replace w := w v9 e9 
        exact ih m h w
set_option maxRecDepth 100000 in
theorem vwX2_build {S : MS} {ro : Nat} {uo : MS} (h : vX2_build S ro uo) : wX2_build S (fun r u => r = ro ∧ u = uo) := by
  unfold vX2_build at h
  unfold wX2_build
  obtain ⟨g9, h⟩ := h
  refine ⟨g9, ?_⟩
  obtain ⟨v9, e9, h⟩ := h
  intro x9 d9 _
  have c9 : v9 = x9 := e9.trans d9.symm
  subst c9
  replace h := h.2
  intro _
  replace h := h.2
  obtain ⟨p9, q9, z9, h⟩ := h
  refine ⟨_, vwJ7_copyOf_9075b z9, ?_⟩
  rintro p8 q8 ⟨d8, d9⟩ _ _ _
  subst d8
  subst d9
  replace h := h.2.2.2
  intro _ _
  replace h := h.2.2
  obtain ⟨q9, z9, h⟩ := h
  refine ⟨_, vwX10_init z9, ?_⟩
  intro q8 d9 _ _
  subst d9
  replace h := h.2.2
  obtain ⟨v9, e9, h⟩ := h
  intro x9 d9 _ _
  have c9 : v9 = x9 := e9.trans d9.symm
  subst c9
  replace h := h.2.2
  obtain ⟨g9, h⟩ := h
  refine ⟨g9, ?_⟩
  obtain ⟨v9, e9, h⟩ := h
  intro x9 d9 
  have c9 : v9 = x9 := e9.trans d9.symm
  subst c9
  obtain ⟨g9, h⟩ := h
  refine ⟨g9, ?_⟩
  obtain ⟨v9, e9, h⟩ := h
  intro x9 d9 
  have c9 : v9 = x9 := e9.trans d9.symm
  subst c9
  obtain ⟨g9, h⟩ := h
  refine ⟨g9, ?_⟩
  obtain ⟨v9, e9, h⟩ := h
  intro x9 d9 
  have c9 : v9 = x9 := e9.trans d9.symm
  subst c9
  obtain ⟨v9, e9, h⟩ := h
  intro x9 d9 _ _
  have c9 : v9 = x9 := e9.trans d9.symm
  subst c9
  replace h := h.2.2
  obtain ⟨g9, h⟩ := h
  refine ⟨g9, ?_⟩
  obtain ⟨v9, e9, h⟩ := h
  intro x9 d9 
  have c9 : v9 = x9 := e9.trans d9.symm
  subst c9
  obtain ⟨g9, h⟩ := h
  refine ⟨g9, ?_⟩
  obtain ⟨v9, e9, h⟩ := h
  intro x9 d9 
  have c9 : v9 = x9 := e9.trans d9.symm
  subst c9
  obtain ⟨g9, h⟩ := h
  refine ⟨g9, ?_⟩
  obtain ⟨v9, e9, h⟩ := h
  intro x9 d9 
  have c9 : v9 = x9 := e9.trans d9.symm
  subst c9
  obtain ⟨v9, e9, h⟩ := h
  intro x9 d9 _ _
  have c9 : v9 = x9 := e9.trans d9.symm
  subst c9
  replace h := h.2.2
  obtain ⟨n9, h⟩ := h
  exact ⟨n9, vw_X2_build_L120 n9 h⟩
set_option maxRecDepth 100000 in
theorem vpX2_build {S : MS} {ro : Nat} {uo : MS} {P : Nat → MS → Prop} (h : vX2_build S ro uo) (w : wX2_build S P) : P ro uo := by
  unfold vX2_build at h
  unfold wX2_build at w
  replace h := h.2
  replace w := w.2
  obtain ⟨v9, e9, y21_, h⟩ := h
  replace w := w v9 e9 y21_
  obtain ⟨y22_, h⟩ := h
  replace w := w y22_
  obtain ⟨p9, q9, z9, y23_, y24_, y25_, h⟩ := h
  obtain ⟨Q9, w0, w⟩ := w
  replace w := w p9 q9 (vpJ7_copyOf_9075b z9 w0) y23_ y24_ y25_
  obtain ⟨y26_, y27_, h⟩ := h
  replace w := w y26_ y27_
  obtain ⟨q9, z9, y28_, y29_, h⟩ := h
  obtain ⟨Q9, w0, w⟩ := w
  replace w := w q9 (vpX10_init z9 w0) y28_ y29_
  obtain ⟨v9, e9, y30_, y31_, h⟩ := h
  replace w := w v9 e9 y30_ y31_
  replace h := h.2
  replace w := w.2
  obtain ⟨v9, e9, h⟩ := h
  replace w := w v9 e9 
  replace h := h.2
  replace w := w.2
  obtain ⟨v9, e9, h⟩ := h
  replace w := w v9 e9 
  replace h := h.2
  replace w := w.2
  obtain ⟨v9, e9, h⟩ := h
  replace w := w v9 e9 
  obtain ⟨v9, e9, y32_, y33_, h⟩ := h
  replace w := w v9 e9 y32_ y33_
  replace h := h.2
  replace w := w.2
  obtain ⟨v9, e9, h⟩ := h
  replace w := w v9 e9 
  replace h := h.2
  replace w := w.2
  obtain ⟨v9, e9, h⟩ := h
  replace w := w v9 e9 
  replace h := h.2
  replace w := w.2
  obtain ⟨v9, e9, h⟩ := h
  replace w := w v9 e9 
  obtain ⟨v9, e9, y34_, y35_, h⟩ := h
  replace w := w v9 e9 y34_ y35_
  obtain ⟨n9, h⟩ := h
  obtain ⟨n8, w⟩ := w
  exact vp_X2_build_L120 n9 n8 h w
def v_X2_tableRoom_J59 (ro : Int32) (uo : MS) (k4 : MS → Int32 → Int32 → Prop) (U59 : MS) (v59_1 : Int32) (v59_2 : Int32) : Prop := (wfC U59 ∧ (∃ (r10 : Int32) (S11 : MS), vX2_lengthAt U59 v59_2 r10 S11 ∧ wfC S11 ∧ shy U59 S11 ∧ (∃ a15 : Int32, a15 = (v59_2 + (if (1 : Int32) < r10 then r10 else (1 : Int32))) ∧ (k4 S11 v59_1 a15))))
def v_X2_tableRoom_J56 (ro : Int32) (uo : MS) (k4 : MS → Int32 → Int32 → Prop) (U56 : MS) (t56_0 : Int32) (t56_1 : Int32) (t56_2 : Int32) (v56_2 : Int32) : Prop := (wfC U56 ∧ (∃ a23 : Int32, a23 = (t56_2 + (t56_1 + t56_0)) ∧ (v_X2_tableRoom_J59 ro uo k4 U56 a23 v56_2)))
def v_X2_tableRoom_L4 (ro : Int32) (uo : MS) : Nat → MS → Int32 → Int32 → Prop
  | 0, _, _, _ => False
  | n4 + 1, U4, v4_1, v4_2 => (wfC U4 ∧ (((qI U4 8 2).toInt ≤ v4_2.toInt ∧ (ro = (if (0 : Int32) < v4_1 then v4_1 else (0 : Int32)) ∧ uo = U4)) ∨ (¬ (qI U4 8 2).toInt ≤ v4_2.toInt ∧ (∃ (S4 : MS), vX2_decode U4 v4_2 S4 ∧ wfC S4 ∧ shy U4 S4 ∧ (d_X6_isSwitch S4 (qI S4 8 9) ∧ (((fX6_isSwitch S4 (qI S4 8 9)).toInt = 0 ∧ (v_X2_tableRoom_J59 ro uo (v_X2_tableRoom_L4 ro uo n4) S4 v4_1 v4_2)) ∨ (¬ (fX6_isSwitch S4 (qI S4 8 9)).toInt = 0 ∧ (d_X2_switchCount S4 ((qJ S4 8 10).toInt32) ∧ (∃ a20 : Int32, a20 = (fX2_switchCount S4 ((qJ S4 8 10).toInt32)) ∧ (((qI S4 8 9).toInt = 170 ∧ (v_X2_tableRoom_J56 ro uo (v_X2_tableRoom_L4 ro uo n4) S4 a20 3 v4_1 v4_2)) ∨ (¬ (qI S4 8 9).toInt = 170 ∧ (v_X2_tableRoom_J56 ro uo (v_X2_tableRoom_L4 ro uo n4) S4 ((2 : Int32) * a20) 3 v4_1 v4_2))))))))))))
def vX2_tableRoom (S : MS) (ro : Int32) (uo : MS) : Prop := (∃ n, v_X2_tableRoom_L4 ro uo n S 0 0)
set_option maxRecDepth 100000 in
theorem ru_X2_tableRoom_J59 {ι : Type} {P Q : Int32 → MS → Prop} {k4 k4' : MS → Int32 → Int32 → Prop} {k4v : ι → Int32 → MS → MS → Int32 → Int32 → Prop} {U59 : MS} {v59_1 : Int32} {v59_2 : Int32} (i0 : ι) (hk4 : ∀ (u : MS) (z0 : Int32) (z1 : Int32), k4 u z0 z1 → (∀ (i : ι) (ro : Int32) (uo : MS), k4v i ro uo u z0 z1 → P ro uo) → k4' u z0 z1) (K : ∀ (i : ι) (ro : Int32) (uo : MS), v_X2_tableRoom_J59 ro uo (k4v i ro uo) U59 v59_1 v59_2 → P ro uo) (h : w_X2_tableRoom_J59 Q k4 U59 v59_1 v59_2) : w_X2_tableRoom_J59 (fun r u => Q r u ∧ P r u) k4' U59 v59_1 v59_2 := by
  unfold w_X2_tableRoom_J59 at h ⊢
  intro y1_
  replace h := h y1_
  replace K := fun i ro uo z => K i ro uo ⟨y1_, z⟩
  obtain ⟨Q9, h0, h⟩ := h
  refine ⟨_, ruX2_lengthAt h0, ?_⟩
  intro r10 S11 q2_ y3_ y4_
  replace h := h r10 S11 q2_.1 y3_ y4_
  replace K := fun i ro uo z => K i ro uo ⟨r10, S11, q2_.2, y3_, y4_, z⟩
  intro a15 ea15 
  replace h := h a15 ea15 
  replace K := fun i ro uo z => K i ro uo ⟨a15, ea15, z⟩
  exact hk4 _ _ _ h K
set_option maxRecDepth 100000 in
theorem ru_X2_tableRoom_J56 {ι : Type} {P Q : Int32 → MS → Prop} {k4 k4' : MS → Int32 → Int32 → Prop} {k4v : ι → Int32 → MS → MS → Int32 → Int32 → Prop} {U56 : MS} {t56_0 : Int32} {t56_1 : Int32} {t56_2 : Int32} {v56_2 : Int32} (i0 : ι) (hk4 : ∀ (u : MS) (z0 : Int32) (z1 : Int32), k4 u z0 z1 → (∀ (i : ι) (ro : Int32) (uo : MS), k4v i ro uo u z0 z1 → P ro uo) → k4' u z0 z1) (K : ∀ (i : ι) (ro : Int32) (uo : MS), v_X2_tableRoom_J56 ro uo (k4v i ro uo) U56 t56_0 t56_1 t56_2 v56_2 → P ro uo) (h : w_X2_tableRoom_J56 Q k4 U56 t56_0 t56_1 t56_2 v56_2) : w_X2_tableRoom_J56 (fun r u => Q r u ∧ P r u) k4' U56 t56_0 t56_1 t56_2 v56_2 := by
  unfold w_X2_tableRoom_J56 at h ⊢
  intro y5_
  replace h := h y5_
  replace K := fun i ro uo z => K i ro uo ⟨y5_, z⟩
  intro a23 ea23 
  replace h := h a23 ea23 
  replace K := fun i ro uo z => K i ro uo ⟨a23, ea23, z⟩
  exact ru_X2_tableRoom_J59 i0 hk4 K h
set_option maxRecDepth 100000 in
theorem ru_X2_tableRoom_L4 {ι : Type} {P Q : Int32 → MS → Prop} : ∀ (n : Nat) {U4 : MS} {v4_1 : Int32} {v4_2 : Int32} (i0 : ι), (∀ (i : ι) (ro : Int32) (uo : MS), (∃ n8, v_X2_tableRoom_L4 ro uo n8 U4 v4_1 v4_2) → P ro uo) → w_X2_tableRoom_L4 Q n U4 v4_1 v4_2 → w_X2_tableRoom_L4 (fun r u => Q r u ∧ P r u) n U4 v4_1 v4_2 := by
  intro n
  induction n with
  | zero => intro U4 v4_1 v4_2 i0 K h; unfold w_X2_tableRoom_L4 at h; exact h.elim
  | succ n ih =>
    intro U4 v4_1 v4_2 i0 K h
    unfold w_X2_tableRoom_L4 at h ⊢
    replace K := fun (i : ι × Nat) ro uo (z : v_X2_tableRoom_L4 ro uo (i.2 + 1) U4 v4_1 v4_2) => K i.1 ro uo ⟨i.2 + 1, z⟩
    have i00 := i0
    replace i0 : ι × Nat := (i0, 0)
    intro y6_
    replace h := h y6_
    replace K := fun i ro uo z => K i ro uo ⟨y6_, z⟩
    refine ⟨fun c => ?_, fun c => ?_⟩
    · replace h := h.1 c
      replace K := fun i ro uo z => K i ro uo (Or.inl ⟨c, z⟩)
      exact ⟨h, K i0 _ _ ⟨rfl, rfl⟩⟩
    · replace h := h.2 c
      replace K := fun i ro uo z => K i ro uo (Or.inr ⟨c, z⟩)
      obtain ⟨Q9, h0, h⟩ := h
      refine ⟨_, ruX2_decode h0, ?_⟩
      intro S4 q7_ y8_ y9_
      replace h := h S4 q7_.1 y8_ y9_
      replace K := fun i ro uo z => K i ro uo ⟨S4, q7_.2, y8_, y9_, z⟩
      obtain ⟨g10_, h⟩ := h
      refine ⟨g10_, ?_⟩
      replace K := fun i ro uo z => K i ro uo ⟨g10_, z⟩
      refine ⟨fun c => ?_, fun c => ?_⟩
      · replace h := h.1 c
        replace K := fun i ro uo z => K i ro uo (Or.inl ⟨c, z⟩)
        exact ru_X2_tableRoom_J59 i0 (fun _ _ _ h K => ih i00 (fun i ro uo ⟨n8, z⟩ => K (i, n8) ro uo z) h) K h
      · replace h := h.2 c
        replace K := fun i ro uo z => K i ro uo (Or.inr ⟨c, z⟩)
        obtain ⟨g11_, h⟩ := h
        refine ⟨g11_, ?_⟩
        replace K := fun i ro uo z => K i ro uo ⟨g11_, z⟩
        intro a20 ea20 
        replace h := h a20 ea20 
        replace K := fun i ro uo z => K i ro uo ⟨a20, ea20, z⟩
        refine ⟨fun c => ?_, fun c => ?_⟩
        · replace h := h.1 c
          replace K := fun i ro uo z => K i ro uo (Or.inl ⟨c, z⟩)
          exact ru_X2_tableRoom_J56 i0 (fun _ _ _ h K => ih i00 (fun i ro uo ⟨n8, z⟩ => K (i, n8) ro uo z) h) K h
        · replace h := h.2 c
          replace K := fun i ro uo z => K i ro uo (Or.inr ⟨c, z⟩)
          exact ru_X2_tableRoom_J56 i0 (fun _ _ _ h K => ih i00 (fun i ro uo ⟨n8, z⟩ => K (i, n8) ro uo z) h) K h
set_option maxRecDepth 100000 in
theorem ruX2_tableRoom {S : MS} {Q : Int32 → MS → Prop} (h : wX2_tableRoom S Q) : wX2_tableRoom S (fun r u => Q r u ∧ vX2_tableRoom S r u) := by
  have i0 : Unit := ()
  have K : ∀ (i : Unit) (ro : Int32) (uo : MS), vX2_tableRoom S ro uo → vX2_tableRoom S ro uo := fun _ _ _ z => z
  unfold wX2_tableRoom at h ⊢
  obtain ⟨n9, h⟩ := h
  exact ⟨n9, ru_X2_tableRoom_L4 n9 i0 K h⟩
set_option maxRecDepth 100000 in
theorem vw_X2_tableRoom_J59 {ro : Int32} {uo : MS} {k4 k4v : MS → Int32 → Int32 → Prop} {U59 : MS} {v59_1 : Int32} {v59_2 : Int32} (hk4 : ∀ (u : MS) (z0 : Int32) (z1 : Int32), k4v u z0 z1 → k4 u z0 z1) (h : v_X2_tableRoom_J59 ro uo k4v U59 v59_1 v59_2) : w_X2_tableRoom_J59 (fun r u => r = ro ∧ u = uo) k4 U59 v59_1 v59_2 := by
  unfold v_X2_tableRoom_J59 at h
  unfold w_X2_tableRoom_J59
  intro _
  replace h := h.2
  obtain ⟨p9, q9, z9, h⟩ := h
  refine ⟨_, vwX2_lengthAt z9, ?_⟩
  rintro p8 q8 ⟨d8, d9⟩ _ _
  subst d8
  subst d9
  replace h := h.2.2
  obtain ⟨v9, e9, h⟩ := h
  intro x9 d9 
  have c9 : v9 = x9 := e9.trans d9.symm
  subst c9
  exact hk4 _ _ _ h
set_option maxRecDepth 100000 in
theorem vp_X2_tableRoom_J59 {ro : Int32} {uo : MS} {P : Int32 → MS → Prop} {k4 k4v : MS → Int32 → Int32 → Prop} {U59 : MS} {v59_1 : Int32} {v59_2 : Int32} (hk4 : ∀ (u : MS) (z0 : Int32) (z1 : Int32), k4v u z0 z1 → k4 u z0 z1 → P ro uo) (h : v_X2_tableRoom_J59 ro uo k4v U59 v59_1 v59_2) (w : w_X2_tableRoom_J59 P k4 U59 v59_1 v59_2) : P ro uo := by
  unfold v_X2_tableRoom_J59 at h
  unfold w_X2_tableRoom_J59 at w
  obtain ⟨y1_, h⟩ := h
  replace w := w y1_
  obtain ⟨p9, q9, z9, y2_, y3_, h⟩ := h
  obtain ⟨Q9, w0, w⟩ := w
  replace w := w p9 q9 (vpX2_lengthAt z9 w0) y2_ y3_
  obtain ⟨v9, e9, h⟩ := h
  replace w := w v9 e9 
  exact hk4 _ _ _ h w
set_option maxRecDepth 100000 in
theorem vw_X2_tableRoom_J56 {ro : Int32} {uo : MS} {k4 k4v : MS → Int32 → Int32 → Prop} {U56 : MS} {t56_0 : Int32} {t56_1 : Int32} {t56_2 : Int32} {v56_2 : Int32} (hk4 : ∀ (u : MS) (z0 : Int32) (z1 : Int32), k4v u z0 z1 → k4 u z0 z1) (h : v_X2_tableRoom_J56 ro uo k4v U56 t56_0 t56_1 t56_2 v56_2) : w_X2_tableRoom_J56 (fun r u => r = ro ∧ u = uo) k4 U56 t56_0 t56_1 t56_2 v56_2 := by
  unfold v_X2_tableRoom_J56 at h
  unfold w_X2_tableRoom_J56
  intro _
  replace h := h.2
  obtain ⟨v9, e9, h⟩ := h
  intro x9 d9 
  have c9 : v9 = x9 := e9.trans d9.symm
  subst c9
  exact vw_X2_tableRoom_J59 hk4 h
set_option maxRecDepth 100000 in
theorem vp_X2_tableRoom_J56 {ro : Int32} {uo : MS} {P : Int32 → MS → Prop} {k4 k4v : MS → Int32 → Int32 → Prop} {U56 : MS} {t56_0 : Int32} {t56_1 : Int32} {t56_2 : Int32} {v56_2 : Int32} (hk4 : ∀ (u : MS) (z0 : Int32) (z1 : Int32), k4v u z0 z1 → k4 u z0 z1 → P ro uo) (h : v_X2_tableRoom_J56 ro uo k4v U56 t56_0 t56_1 t56_2 v56_2) (w : w_X2_tableRoom_J56 P k4 U56 t56_0 t56_1 t56_2 v56_2) : P ro uo := by
  unfold v_X2_tableRoom_J56 at h
  unfold w_X2_tableRoom_J56 at w
  obtain ⟨y4_, h⟩ := h
  replace w := w y4_
  obtain ⟨v9, e9, h⟩ := h
  replace w := w v9 e9 
  exact vp_X2_tableRoom_J59 hk4 h w
set_option maxRecDepth 100000 in
theorem vw_X2_tableRoom_L4 {ro : Int32} {uo : MS} : ∀ (n : Nat) {U4 : MS} {v4_1 : Int32} {v4_2 : Int32}, v_X2_tableRoom_L4 ro uo n U4 v4_1 v4_2 → w_X2_tableRoom_L4 (fun r u => r = ro ∧ u = uo) n U4 v4_1 v4_2 := by
  intro n
  induction n with
  | zero => intro U4 v4_1 v4_2 h; unfold v_X2_tableRoom_L4 at h; exact h.elim
  | succ n ih =>
    intro U4 v4_1 v4_2 h
    unfold v_X2_tableRoom_L4 at h
    unfold w_X2_tableRoom_L4
    intro _
    replace h := h.2
    rcases h with ⟨c, h⟩ | ⟨c, h⟩
    · refine ⟨fun _ => ?_, fun c2 => absurd c c2⟩
      exact ⟨h.1.symm, h.2.symm⟩
    · refine ⟨fun c2 => absurd c2 c, fun _ => ?_⟩
      obtain ⟨q9, z9, h⟩ := h
      refine ⟨_, vwX2_decode z9, ?_⟩
      intro q8 d9 _ _
      subst d9
      replace h := h.2.2
      obtain ⟨g9, h⟩ := h
      refine ⟨g9, ?_⟩
      rcases h with ⟨c, h⟩ | ⟨c, h⟩
      · refine ⟨fun _ => ?_, fun c2 => absurd c c2⟩
        exact vw_X2_tableRoom_J59 (fun _ _ _ h => ih h) h
      · refine ⟨fun c2 => absurd c2 c, fun _ => ?_⟩
        obtain ⟨g9, h⟩ := h
        refine ⟨g9, ?_⟩
        obtain ⟨v9, e9, h⟩ := h
        intro x9 d9 
        have c9 : v9 = x9 := e9.trans d9.symm
        subst c9
        rcases h with ⟨c, h⟩ | ⟨c, h⟩
        · refine ⟨fun _ => ?_, fun c2 => absurd c c2⟩
          exact vw_X2_tableRoom_J56 (fun _ _ _ h => ih h) h
        · refine ⟨fun c2 => absurd c2 c, fun _ => ?_⟩
          exact vw_X2_tableRoom_J56 (fun _ _ _ h => ih h) h
set_option maxRecDepth 100000 in
theorem vp_X2_tableRoom_L4 {ro : Int32} {uo : MS} {P : Int32 → MS → Prop} : ∀ (n m : Nat) {U4 : MS} {v4_1 : Int32} {v4_2 : Int32}, v_X2_tableRoom_L4 ro uo n U4 v4_1 v4_2 → w_X2_tableRoom_L4 P m U4 v4_1 v4_2 → P ro uo := by
  intro n
  induction n with
  | zero => intro m U4 v4_1 v4_2 h; unfold v_X2_tableRoom_L4 at h; exact h.elim
  | succ n ih =>
    intro m U4 v4_1 v4_2 h w
    cases m with
    | zero => unfold w_X2_tableRoom_L4 at w; exact w.elim
    | succ m =>
      unfold v_X2_tableRoom_L4 at h
      unfold w_X2_tableRoom_L4 at w
      obtain ⟨y5_, h⟩ := h
      replace w := w y5_
      rcases h with ⟨c, h⟩ | ⟨c, h⟩
      · replace w := w.1 c
        rw [h.1, h.2]
        exact w
      · replace w := w.2 c
        obtain ⟨q9, z9, y6_, y7_, h⟩ := h
        obtain ⟨Q9, w0, w⟩ := w
        replace w := w q9 (vpX2_decode z9 w0) y6_ y7_
        replace h := h.2
        replace w := w.2
        rcases h with ⟨c, h⟩ | ⟨c, h⟩
        · replace w := w.1 c
          exact vp_X2_tableRoom_J59 (fun _ _ _ h w => ih m h w) h w
        · replace w := w.2 c
          replace h := h.2
          replace w := w.2
          obtain ⟨v9, e9, h⟩ := h
          replace w := w v9 e9 
          rcases h with ⟨c, h⟩ | ⟨c, h⟩
          · replace w := w.1 c
            exact vp_X2_tableRoom_J56 (fun _ _ _ h w => ih m h w) h w
          · replace w := w.2 c
            exact vp_X2_tableRoom_J56 (fun _ _ _ h w => ih m h w) h w
set_option maxRecDepth 100000 in
theorem vwX2_tableRoom {S : MS} {ro : Int32} {uo : MS} (h : vX2_tableRoom S ro uo) : wX2_tableRoom S (fun r u => r = ro ∧ u = uo) := by
  unfold vX2_tableRoom at h
  unfold wX2_tableRoom
  obtain ⟨n9, h⟩ := h
  exact ⟨n9, vw_X2_tableRoom_L4 n9 h⟩
set_option maxRecDepth 100000 in
theorem vpX2_tableRoom {S : MS} {ro : Int32} {uo : MS} {P : Int32 → MS → Prop} (h : vX2_tableRoom S ro uo) (w : wX2_tableRoom S P) : P ro uo := by
  unfold vX2_tableRoom at h
  unfold wX2_tableRoom at w
  obtain ⟨n9, h⟩ := h
  obtain ⟨n8, w⟩ := w
  exact vp_X2_tableRoom_L4 n9 n8 h w
def v_X2_addTo_J179 (uo : MS) (U179 : MS) (v179_1 : Nat) : Prop := (wfC U179 ∧ qT U179 v179_1 = 47 ∧ (∃ (r10 : Int32) (S11 : MS), vX2_memberOf U179 ((qJ U179 8 10).toInt32) (9 : Int32) r10 S11 ∧ wfC S11 ∧ shy U179 S11 ∧ (qT S11 v179_1 = 47 ∧ (∃ (S14 : MS), vX8_add S11 v179_1 (qI U179 8 9) (r10.toInt64) S14 ∧ wfC S14 ∧ shy S11 S14 ∧ (uo = S14)))))
def vX2_addTo (S : MS) (p1 : Nat) (uo : MS) : Prop := (d_X6_isJump S (qI S 8 9) ∧ (((fX6_isJump S (qI S 8 9)).toInt = 0 ∧ (d_X6_isSwitch S (qI S 8 9) ∧ (((fX6_isSwitch S (qI S 8 9)).toInt = 0 ∧ (((qI S 8 9).toInt = 9 ∧ (qT S p1 = 47 ∧ (∃ (S17 : MS), vX8_add S p1 (20 : Int32) (qJ S 8 10) S17 ∧ wfC S17 ∧ shy S S17 ∧ (uo = S17)))) ∨ (¬ (qI S 8 9).toInt = 9 ∧ (((qI S 8 9).toInt = 19 ∧ (d_X7_entryAt S ((qJ S 8 10).toInt32) ∧ (d_X7_s4 S ((fX7_entryAt S ((qJ S 8 10).toInt32)) + (1 : Int32)) ∧ (qT S p1 = 47 ∧ (∃ (S27 : MS), vX8_add S p1 (17 : Int32) ((fX7_s4 S ((fX7_entryAt S ((qJ S 8 10).toInt32)) + (1 : Int32))).toInt64) S27 ∧ wfC S27 ∧ shy S S27 ∧ (uo = S27)))))) ∨ (¬ (qI S 8 9).toInt = 19 ∧ (((qI S 8 9).toInt = 20 ∧ (d_X7_entryAt S ((qJ S 8 10).toInt32) ∧ (d_X2_longAt S ((fX7_entryAt S ((qJ S 8 10).toInt32)) + (1 : Int32)) ∧ (qT S p1 = 47 ∧ (∃ (S37 : MS), vX8_add S p1 (20 : Int32) (fX2_longAt S ((fX7_entryAt S ((qJ S 8 10).toInt32)) + (1 : Int32))) S37 ∧ wfC S37 ∧ shy S S37 ∧ (uo = S37)))))) ∨ (¬ (qI S 8 9).toInt = 20 ∧ (((qI S 8 9).toInt = 178 ∧ (v_X2_addTo_J179 uo S p1)) ∨ (¬ (qI S 8 9).toInt = 178 ∧ (((qI S 8 9).toInt = 179 ∧ (v_X2_addTo_J179 uo S p1)) ∨ (¬ (qI S 8 9).toInt = 179 ∧ (((qI S 8 9).toInt = 184 ∧ (∃ (r40 : Int32) (S41 : MS), vX2_memberOf S ((qJ S 8 10).toInt32) (10 : Int32) r40 S41 ∧ wfC S41 ∧ shy S S41 ∧ (qT S41 p1 = 47 ∧ (∃ (S44 : MS), vX8_add S41 p1 (qI S 8 9) (r40.toInt64) S44 ∧ wfC S44 ∧ shy S41 S44 ∧ (uo = S44))))) ∨ (¬ (qI S 8 9).toInt = 184 ∧ (qT S p1 = 47 ∧ (∃ (S47 : MS), vX8_add S p1 (qI S 8 9) (qJ S 8 10) S47 ∧ wfC S47 ∧ shy S S47 ∧ (uo = S47)))))))))))))))) ∨ (¬ (fX6_isSwitch S (qI S 8 9)).toInt = 0 ∧ (qT S p1 = 47 ∧ (∃ (S50 : MS), vX2_addSwitch S p1 S50 ∧ wfC S50 ∧ shy S S50 ∧ (uo = S50))))))) ∨ (¬ (fX6_isJump S (qI S 8 9)).toInt = 0 ∧ (d_X2_numberOf S (qJ S 8 10) ∧ (qT S p1 = 47 ∧ (∃ (S56 : MS), vX8_add S p1 (qI S 8 9) ((fX2_numberOf S (qJ S 8 10)).toInt64) S56 ∧ wfC S56 ∧ shy S S56 ∧ (uo = S56)))))))
set_option maxRecDepth 100000 in
theorem ru_X2_addTo_J179 {ι : Type} {P Q : MS → Prop} {U179 : MS} {v179_1 : Nat} (i0 : ι) (K : ∀ (i : ι) (uo : MS), v_X2_addTo_J179 uo U179 v179_1 → P uo) (h : w_X2_addTo_J179 Q U179 v179_1) : w_X2_addTo_J179 (fun u => Q u ∧ P u) U179 v179_1 := by
  unfold w_X2_addTo_J179 at h ⊢
  intro y1_ y2_
  replace h := h y1_ y2_
  replace K := fun i uo z => K i uo ⟨y1_, y2_, z⟩
  obtain ⟨Q9, h0, h⟩ := h
  refine ⟨_, ruX2_memberOf h0, ?_⟩
  intro r10 S11 q3_ y4_ y5_
  replace h := h r10 S11 q3_.1 y4_ y5_
  replace K := fun i uo z => K i uo ⟨r10, S11, q3_.2, y4_, y5_, z⟩
  intro y6_
  replace h := h y6_
  replace K := fun i uo z => K i uo ⟨y6_, z⟩
  obtain ⟨Q9, h0, h⟩ := h
  refine ⟨_, ruX8_add h0, ?_⟩
  intro S14 q7_ y8_ y9_
  replace h := h S14 q7_.1 y8_ y9_
  replace K := fun i uo z => K i uo ⟨S14, q7_.2, y8_, y9_, z⟩
  exact ⟨h, K i0 _ rfl⟩
set_option maxRecDepth 100000 in
theorem ruX2_addTo {S : MS} {p1 : Nat} {Q : MS → Prop} (h : wX2_addTo S p1 Q) : wX2_addTo S p1 (fun u => Q u ∧ vX2_addTo S p1 u) := by
  have i0 : Unit := ()
  have K : ∀ (i : Unit) (uo : MS), vX2_addTo S p1 uo → vX2_addTo S p1 uo := fun _ _ z => z
  unfold wX2_addTo at h ⊢
  obtain ⟨g10_, h⟩ := h
  refine ⟨g10_, ?_⟩
  replace K := fun i uo z => K i uo ⟨g10_, z⟩
  refine ⟨fun c => ?_, fun c => ?_⟩
  · replace h := h.1 c
    replace K := fun i uo z => K i uo (Or.inl ⟨c, z⟩)
    obtain ⟨g11_, h⟩ := h
    refine ⟨g11_, ?_⟩
    replace K := fun i uo z => K i uo ⟨g11_, z⟩
    refine ⟨fun c => ?_, fun c => ?_⟩
    · replace h := h.1 c
      replace K := fun i uo z => K i uo (Or.inl ⟨c, z⟩)
      refine ⟨fun c => ?_, fun c => ?_⟩
      · replace h := h.1 c
        replace K := fun i uo z => K i uo (Or.inl ⟨c, z⟩)
        intro y12_
        replace h := h y12_
        replace K := fun i uo z => K i uo ⟨y12_, z⟩
        obtain ⟨Q9, h0, h⟩ := h
        refine ⟨_, ruX8_add h0, ?_⟩
        intro S17 q13_ y14_ y15_
        replace h := h S17 q13_.1 y14_ y15_
        replace K := fun i uo z => K i uo ⟨S17, q13_.2, y14_, y15_, z⟩
        exact ⟨h, K i0 _ rfl⟩
      · replace h := h.2 c
        replace K := fun i uo z => K i uo (Or.inr ⟨c, z⟩)
        refine ⟨fun c => ?_, fun c => ?_⟩
        · replace h := h.1 c
          replace K := fun i uo z => K i uo (Or.inl ⟨c, z⟩)
          obtain ⟨g16_, h⟩ := h
          refine ⟨g16_, ?_⟩
          replace K := fun i uo z => K i uo ⟨g16_, z⟩
          obtain ⟨g17_, h⟩ := h
          refine ⟨g17_, ?_⟩
          replace K := fun i uo z => K i uo ⟨g17_, z⟩
          intro y18_
          replace h := h y18_
          replace K := fun i uo z => K i uo ⟨y18_, z⟩
          obtain ⟨Q9, h0, h⟩ := h
          refine ⟨_, ruX8_add h0, ?_⟩
          intro S27 q19_ y20_ y21_
          replace h := h S27 q19_.1 y20_ y21_
          replace K := fun i uo z => K i uo ⟨S27, q19_.2, y20_, y21_, z⟩
          exact ⟨h, K i0 _ rfl⟩
        · replace h := h.2 c
          replace K := fun i uo z => K i uo (Or.inr ⟨c, z⟩)
          refine ⟨fun c => ?_, fun c => ?_⟩
          · replace h := h.1 c
            replace K := fun i uo z => K i uo (Or.inl ⟨c, z⟩)
            obtain ⟨g22_, h⟩ := h
            refine ⟨g22_, ?_⟩
            replace K := fun i uo z => K i uo ⟨g22_, z⟩
            obtain ⟨g23_, h⟩ := h
            refine ⟨g23_, ?_⟩
            replace K := fun i uo z => K i uo ⟨g23_, z⟩
            intro y24_
            replace h := h y24_
            replace K := fun i uo z => K i uo ⟨y24_, z⟩
            obtain ⟨Q9, h0, h⟩ := h
            refine ⟨_, ruX8_add h0, ?_⟩
            intro S37 q25_ y26_ y27_
            replace h := h S37 q25_.1 y26_ y27_
            replace K := fun i uo z => K i uo ⟨S37, q25_.2, y26_, y27_, z⟩
            exact ⟨h, K i0 _ rfl⟩
          · replace h := h.2 c
            replace K := fun i uo z => K i uo (Or.inr ⟨c, z⟩)
            refine ⟨fun c => ?_, fun c => ?_⟩
            · replace h := h.1 c
              replace K := fun i uo z => K i uo (Or.inl ⟨c, z⟩)
              exact ru_X2_addTo_J179 i0 K h
            · replace h := h.2 c
              replace K := fun i uo z => K i uo (Or.inr ⟨c, z⟩)
              refine ⟨fun c => ?_, fun c => ?_⟩
              · replace h := h.1 c
                replace K := fun i uo z => K i uo (Or.inl ⟨c, z⟩)
                exact ru_X2_addTo_J179 i0 K h
              · replace h := h.2 c
                replace K := fun i uo z => K i uo (Or.inr ⟨c, z⟩)
                refine ⟨fun c => ?_, fun c => ?_⟩
                · replace h := h.1 c
                  replace K := fun i uo z => K i uo (Or.inl ⟨c, z⟩)
                  obtain ⟨Q9, h0, h⟩ := h
                  refine ⟨_, ruX2_memberOf h0, ?_⟩
                  intro r40 S41 q28_ y29_ y30_
                  replace h := h r40 S41 q28_.1 y29_ y30_
                  replace K := fun i uo z => K i uo ⟨r40, S41, q28_.2, y29_, y30_, z⟩
                  intro y31_
                  replace h := h y31_
                  replace K := fun i uo z => K i uo ⟨y31_, z⟩
                  obtain ⟨Q9, h0, h⟩ := h
                  refine ⟨_, ruX8_add h0, ?_⟩
                  intro S44 q32_ y33_ y34_
                  replace h := h S44 q32_.1 y33_ y34_
                  replace K := fun i uo z => K i uo ⟨S44, q32_.2, y33_, y34_, z⟩
                  exact ⟨h, K i0 _ rfl⟩
                · replace h := h.2 c
                  replace K := fun i uo z => K i uo (Or.inr ⟨c, z⟩)
                  intro y35_
                  replace h := h y35_
                  replace K := fun i uo z => K i uo ⟨y35_, z⟩
                  obtain ⟨Q9, h0, h⟩ := h
                  refine ⟨_, ruX8_add h0, ?_⟩
                  intro S47 q36_ y37_ y38_
                  replace h := h S47 q36_.1 y37_ y38_
                  replace K := fun i uo z => K i uo ⟨S47, q36_.2, y37_, y38_, z⟩
                  exact ⟨h, K i0 _ rfl⟩
    · replace h := h.2 c
      replace K := fun i uo z => K i uo (Or.inr ⟨c, z⟩)
      intro y39_
      replace h := h y39_
      replace K := fun i uo z => K i uo ⟨y39_, z⟩
      obtain ⟨Q9, h0, h⟩ := h
      refine ⟨_, ruX2_addSwitch h0, ?_⟩
      intro S50 q40_ y41_ y42_
      replace h := h S50 q40_.1 y41_ y42_
      replace K := fun i uo z => K i uo ⟨S50, q40_.2, y41_, y42_, z⟩
      exact ⟨h, K i0 _ rfl⟩
  · replace h := h.2 c
    replace K := fun i uo z => K i uo (Or.inr ⟨c, z⟩)
    obtain ⟨g43_, h⟩ := h
    refine ⟨g43_, ?_⟩
    replace K := fun i uo z => K i uo ⟨g43_, z⟩
    intro y44_
    replace h := h y44_
    replace K := fun i uo z => K i uo ⟨y44_, z⟩
    obtain ⟨Q9, h0, h⟩ := h
    refine ⟨_, ruX8_add h0, ?_⟩
    intro S56 q45_ y46_ y47_
    replace h := h S56 q45_.1 y46_ y47_
    replace K := fun i uo z => K i uo ⟨S56, q45_.2, y46_, y47_, z⟩
    exact ⟨h, K i0 _ rfl⟩
set_option maxRecDepth 100000 in
theorem vw_X2_addTo_J179 {uo : MS} {U179 : MS} {v179_1 : Nat} (h : v_X2_addTo_J179 uo U179 v179_1) : w_X2_addTo_J179 (fun u => u = uo) U179 v179_1 := by
  unfold v_X2_addTo_J179 at h
  unfold w_X2_addTo_J179
  intro _ _
  replace h := h.2.2
  obtain ⟨p9, q9, z9, h⟩ := h
  refine ⟨_, vwX2_memberOf z9, ?_⟩
  rintro p8 q8 ⟨d8, d9⟩ _ _
  subst d8
  subst d9
  replace h := h.2.2
  intro _
  replace h := h.2
  obtain ⟨q9, z9, h⟩ := h
  refine ⟨_, vwX8_add z9, ?_⟩
  intro q8 d9 _ _
  subst d9
  replace h := h.2.2
  exact h.symm
set_option maxRecDepth 100000 in
theorem vp_X2_addTo_J179 {uo : MS} {P : MS → Prop} {U179 : MS} {v179_1 : Nat} (h : v_X2_addTo_J179 uo U179 v179_1) (w : w_X2_addTo_J179 P U179 v179_1) : P uo := by
  unfold v_X2_addTo_J179 at h
  unfold w_X2_addTo_J179 at w
  obtain ⟨y1_, y2_, h⟩ := h
  replace w := w y1_ y2_
  obtain ⟨p9, q9, z9, y3_, y4_, h⟩ := h
  obtain ⟨Q9, w0, w⟩ := w
  replace w := w p9 q9 (vpX2_memberOf z9 w0) y3_ y4_
  obtain ⟨y5_, h⟩ := h
  replace w := w y5_
  obtain ⟨q9, z9, y6_, y7_, h⟩ := h
  obtain ⟨Q9, w0, w⟩ := w
  replace w := w q9 (vpX8_add z9 w0) y6_ y7_
  rw [h]
  exact w
set_option maxRecDepth 100000 in
theorem vwX2_addTo {S : MS} {p1 : Nat} {uo : MS} (h : vX2_addTo S p1 uo) : wX2_addTo S p1 (fun u => u = uo) := by
  unfold vX2_addTo at h
  unfold wX2_addTo
  obtain ⟨g9, h⟩ := h
  refine ⟨g9, ?_⟩
  rcases h with ⟨c, h⟩ | ⟨c, h⟩
  · refine ⟨fun _ => ?_, fun c2 => absurd c c2⟩
    obtain ⟨g9, h⟩ := h
    refine ⟨g9, ?_⟩
    rcases h with ⟨c, h⟩ | ⟨c, h⟩
    · refine ⟨fun _ => ?_, fun c2 => absurd c c2⟩
      rcases h with ⟨c, h⟩ | ⟨c, h⟩
      · refine ⟨fun _ => ?_, fun c2 => absurd c c2⟩
        intro _
        replace h := h.2
        obtain ⟨q9, z9, h⟩ := h
        refine ⟨_, vwX8_add z9, ?_⟩
        intro q8 d9 _ _
        subst d9
        replace h := h.2.2
        exact h.symm
      · refine ⟨fun c2 => absurd c2 c, fun _ => ?_⟩
        rcases h with ⟨c, h⟩ | ⟨c, h⟩
        · refine ⟨fun _ => ?_, fun c2 => absurd c c2⟩
          obtain ⟨g9, h⟩ := h
          refine ⟨g9, ?_⟩
          obtain ⟨g9, h⟩ := h
          refine ⟨g9, ?_⟩
          intro _
          replace h := h.2
          obtain ⟨q9, z9, h⟩ := h
          refine ⟨_, vwX8_add z9, ?_⟩
          intro q8 d9 _ _
          subst d9
          replace h := h.2.2
          exact h.symm
        · refine ⟨fun c2 => absurd c2 c, fun _ => ?_⟩
          rcases h with ⟨c, h⟩ | ⟨c, h⟩
          · refine ⟨fun _ => ?_, fun c2 => absurd c c2⟩
            obtain ⟨g9, h⟩ := h
            refine ⟨g9, ?_⟩
            obtain ⟨g9, h⟩ := h
            refine ⟨g9, ?_⟩
            intro _
            replace h := h.2
            obtain ⟨q9, z9, h⟩ := h
            refine ⟨_, vwX8_add z9, ?_⟩
            intro q8 d9 _ _
            subst d9
            replace h := h.2.2
            exact h.symm
          · refine ⟨fun c2 => absurd c2 c, fun _ => ?_⟩
            rcases h with ⟨c, h⟩ | ⟨c, h⟩
            · refine ⟨fun _ => ?_, fun c2 => absurd c c2⟩
              exact vw_X2_addTo_J179 h
            · refine ⟨fun c2 => absurd c2 c, fun _ => ?_⟩
              rcases h with ⟨c, h⟩ | ⟨c, h⟩
              · refine ⟨fun _ => ?_, fun c2 => absurd c c2⟩
                exact vw_X2_addTo_J179 h
              · refine ⟨fun c2 => absurd c2 c, fun _ => ?_⟩
                rcases h with ⟨c, h⟩ | ⟨c, h⟩
                · refine ⟨fun _ => ?_, fun c2 => absurd c c2⟩
                  obtain ⟨p9, q9, z9, h⟩ := h
                  refine ⟨_, vwX2_memberOf z9, ?_⟩
                  rintro p8 q8 ⟨d8, d9⟩ _ _
                  subst d8
                  subst d9
                  replace h := h.2.2
                  intro _
                  replace h := h.2
                  obtain ⟨q9, z9, h⟩ := h
                  refine ⟨_, vwX8_add z9, ?_⟩
                  intro q8 d9 _ _
                  subst d9
                  replace h := h.2.2
                  exact h.symm
                · refine ⟨fun c2 => absurd c2 c, fun _ => ?_⟩
                  intro _
                  replace h := h.2
                  obtain ⟨q9, z9, h⟩ := h
                  refine ⟨_, vwX8_add z9, ?_⟩
                  intro q8 d9 _ _
                  subst d9
                  replace h := h.2.2
                  exact h.symm
    · refine ⟨fun c2 => absurd c2 c, fun _ => ?_⟩
      intro _
      replace h := h.2
      obtain ⟨q9, z9, h⟩ := h
      refine ⟨_, vwX2_addSwitch z9, ?_⟩
      intro q8 d9 _ _
      subst d9
      replace h := h.2.2
      exact h.symm
  · refine ⟨fun c2 => absurd c2 c, fun _ => ?_⟩
    obtain ⟨g9, h⟩ := h
    refine ⟨g9, ?_⟩
    intro _
    replace h := h.2
    obtain ⟨q9, z9, h⟩ := h
    refine ⟨_, vwX8_add z9, ?_⟩
    intro q8 d9 _ _
    subst d9
    replace h := h.2.2
    exact h.symm
set_option maxRecDepth 100000 in
theorem vpX2_addTo {S : MS} {p1 : Nat} {uo : MS} {P : MS → Prop} (h : vX2_addTo S p1 uo) (w : wX2_addTo S p1 P) : P uo := by
  unfold vX2_addTo at h
  unfold wX2_addTo at w
  replace h := h.2
  replace w := w.2
  rcases h with ⟨c, h⟩ | ⟨c, h⟩
  · replace w := w.1 c
    replace h := h.2
    replace w := w.2
    rcases h with ⟨c, h⟩ | ⟨c, h⟩
    · replace w := w.1 c
      rcases h with ⟨c, h⟩ | ⟨c, h⟩
      · replace w := w.1 c
        obtain ⟨y8_, h⟩ := h
        replace w := w y8_
        obtain ⟨q9, z9, y9_, y10_, h⟩ := h
        obtain ⟨Q9, w0, w⟩ := w
        replace w := w q9 (vpX8_add z9 w0) y9_ y10_
        rw [h]
        exact w
      · replace w := w.2 c
        rcases h with ⟨c, h⟩ | ⟨c, h⟩
        · replace w := w.1 c
          replace h := h.2
          replace w := w.2
          replace h := h.2
          replace w := w.2
          obtain ⟨y11_, h⟩ := h
          replace w := w y11_
          obtain ⟨q9, z9, y12_, y13_, h⟩ := h
          obtain ⟨Q9, w0, w⟩ := w
          replace w := w q9 (vpX8_add z9 w0) y12_ y13_
          rw [h]
          exact w
        · replace w := w.2 c
          rcases h with ⟨c, h⟩ | ⟨c, h⟩
          · replace w := w.1 c
            replace h := h.2
            replace w := w.2
            replace h := h.2
            replace w := w.2
            obtain ⟨y14_, h⟩ := h
            replace w := w y14_
            obtain ⟨q9, z9, y15_, y16_, h⟩ := h
            obtain ⟨Q9, w0, w⟩ := w
            replace w := w q9 (vpX8_add z9 w0) y15_ y16_
            rw [h]
            exact w
          · replace w := w.2 c
            rcases h with ⟨c, h⟩ | ⟨c, h⟩
            · replace w := w.1 c
              exact vp_X2_addTo_J179 h w
            · replace w := w.2 c
              rcases h with ⟨c, h⟩ | ⟨c, h⟩
              · replace w := w.1 c
                exact vp_X2_addTo_J179 h w
              · replace w := w.2 c
                rcases h with ⟨c, h⟩ | ⟨c, h⟩
                · replace w := w.1 c
                  obtain ⟨p9, q9, z9, y17_, y18_, h⟩ := h
                  obtain ⟨Q9, w0, w⟩ := w
                  replace w := w p9 q9 (vpX2_memberOf z9 w0) y17_ y18_
                  obtain ⟨y19_, h⟩ := h
                  replace w := w y19_
                  obtain ⟨q9, z9, y20_, y21_, h⟩ := h
                  obtain ⟨Q9, w0, w⟩ := w
                  replace w := w q9 (vpX8_add z9 w0) y20_ y21_
                  rw [h]
                  exact w
                · replace w := w.2 c
                  obtain ⟨y22_, h⟩ := h
                  replace w := w y22_
                  obtain ⟨q9, z9, y23_, y24_, h⟩ := h
                  obtain ⟨Q9, w0, w⟩ := w
                  replace w := w q9 (vpX8_add z9 w0) y23_ y24_
                  rw [h]
                  exact w
    · replace w := w.2 c
      obtain ⟨y25_, h⟩ := h
      replace w := w y25_
      obtain ⟨q9, z9, y26_, y27_, h⟩ := h
      obtain ⟨Q9, w0, w⟩ := w
      replace w := w q9 (vpX2_addSwitch z9 w0) y26_ y27_
      rw [h]
      exact w
  · replace w := w.2 c
    replace h := h.2
    replace w := w.2
    obtain ⟨y28_, h⟩ := h
    replace w := w y28_
    obtain ⟨q9, z9, y29_, y30_, h⟩ := h
    obtain ⟨Q9, w0, w⟩ := w
    replace w := w q9 (vpX8_add z9 w0) y29_ y30_
    rw [h]
    exact w
def v_X3_findLoops_J119 (uo : MS) (k18 : MS → Int32 → Prop) (U119 : MS) (v119_1 : Int32) : Prop := (wfC U119 ∧ (∃ a24 : Int32, a24 = (v119_1 + Int32.ofInt 1) ∧ (k18 U119 a24)))
def v_X3_findLoops_J105 (uo : MS) (k18 : MS → Int32 → Prop) (U105 : MS) (v105_1 : Int32) : Prop := (wfC U105 ∧ (((0 : Int) ≤ v105_1.toInt ∧ v105_1.toInt < (qN U105 (qO U105 52 12) : Int)) ∧ (((qI U105 (qO U105 52 12) v105_1.toInt.toNat).toInt ≤ 0 ∧ (v_X3_findLoops_J119 uo k18 U105 v105_1)) ∨ (¬ (qI U105 (qO U105 52 12) v105_1.toInt.toNat).toInt ≤ 0 ∧ (∃ (S27 : MS), vX3_addLoop U105 v105_1 S27 ∧ wfC S27 ∧ shy U105 S27 ∧ (v_X3_findLoops_J119 uo k18 S27 v105_1))))))
def v_X3_findLoops_J99 (uo : MS) (k40 : MS → Int32 → Int32 → Prop) (U99 : MS) (v99_1 : Int32) (v99_2 : Int32) : Prop := (wfC U99 ∧ (∃ a42 : Int32, a42 = (v99_2 + Int32.ofInt 1) ∧ (k40 U99 v99_1 a42)))
def v_X3_findLoops_L40 (uo : MS) (k18 : MS → Int32 → Prop) : Nat → MS → Int32 → Int32 → Prop
  | 0, _, _, _ => False
  | n40 + 1, U40, v40_1, v40_2 => (wfC U40 ∧ (((0 : Int) ≤ v40_1.toInt ∧ v40_1.toInt < (qN U40 (qO U40 52 8) : Int)) ∧ (((qI U40 (qO U40 52 8) v40_1.toInt.toNat).toInt = 0 ∧ (v_X3_findLoops_J105 uo k18 U40 v40_1)) ∨ (¬ (qI U40 (qO U40 52 8) v40_1.toInt.toNat).toInt = 0 ∧ (((0 : Int) ≤ (v40_1 + (1 : Int32)).toInt ∧ (v40_1 + (1 : Int32)).toInt < (qN U40 (qO U40 52 6) : Int)) ∧ (((qI U40 (qO U40 52 6) (((v40_1 + (1 : Int32)).toInt).toNat)).toInt ≤ v40_2.toInt ∧ (v_X3_findLoops_J105 uo k18 U40 v40_1)) ∨ (¬ (qI U40 (qO U40 52 6) (((v40_1 + (1 : Int32)).toInt).toNat)).toInt ≤ v40_2.toInt ∧ (((0 : Int) ≤ v40_2.toInt ∧ v40_2.toInt < (qN U40 (qO U40 52 7) : Int)) ∧ (((0 : Int) ≤ (qI U40 (qO U40 52 7) v40_2.toInt.toNat).toInt ∧ (qI U40 (qO U40 52 7) v40_2.toInt.toNat).toInt < (qN U40 (qO U40 52 8) : Int)) ∧ (((qI U40 (qO U40 52 8) (((qI U40 (qO U40 52 7) v40_2.toInt.toNat).toInt).toNat)).toInt = 0 ∧ (v_X3_findLoops_J99 uo (v_X3_findLoops_L40 uo k18 n40) U40 v40_1 v40_2)) ∨ (¬ (qI U40 (qO U40 52 8) (((qI U40 (qO U40 52 7) v40_2.toInt.toNat).toInt).toNat)).toInt = 0 ∧ (((0 : Int) ≤ v40_2.toInt ∧ v40_2.toInt < (qN U40 (qO U40 52 7) : Int)) ∧ (d_X3_dominates U40 v40_1 (qI U40 (qO U40 52 7) v40_2.toInt.toNat) ∧ (((fX3_dominates U40 v40_1 (qI U40 (qO U40 52 7) v40_2.toInt.toNat)).toInt = 0 ∧ (v_X3_findLoops_J99 uo (v_X3_findLoops_L40 uo k18 n40) U40 v40_1 v40_2)) ∨ (¬ (fX3_dominates U40 v40_1 (qI U40 (qO U40 52 7) v40_2.toInt.toNat)).toInt = 0 ∧ (((0 : Int) ≤ v40_1.toInt ∧ v40_1.toInt < (qN U40 (qO U40 52 12) : Int)) ∧ (((0 : Int) ≤ v40_1.toInt ∧ v40_1.toInt < (qN U40 (qO U40 52 12) : Int)) ∧ (∃ S56 : MS, S56 = wI U40 (qO U40 52 12) v40_1.toInt.toNat ((qI U40 (qO U40 52 12) v40_1.toInt.toNat) + (1 : Int32)) ∧ qT U40 (qO U40 52 12) = 209 ∧ wfC S56 ∧ (v_X3_findLoops_J99 uo (v_X3_findLoops_L40 uo k18 n40) S56 v40_1 v40_2)))))))))))))))))))
def v_X3_findLoops_L18 (uo : MS) : Nat → MS → Int32 → Prop
  | 0, _, _ => False
  | n18 + 1, U18, v18_1 => (wfC U18 ∧ (((qI U18 52 1).toInt ≤ v18_1.toInt ∧ (uo = U18)) ∨ (¬ (qI U18 52 1).toInt ≤ v18_1.toInt ∧ (((0 : Int) ≤ v18_1.toInt ∧ v18_1.toInt < (qN U18 (qO U18 52 12) : Int)) ∧ (∃ S12 : MS, S12 = wI U18 (qO U18 52 12) v18_1.toInt.toNat (0 : Int32) ∧ qT U18 (qO U18 52 12) = 209 ∧ wfC S12 ∧ (((0 : Int) ≤ v18_1.toInt ∧ v18_1.toInt < (qN S12 (qO S12 52 6) : Int)) ∧ (∃ a16 : Int32, a16 = (qI S12 (qO S12 52 6) v18_1.toInt.toNat) ∧ (∃ n, v_X3_findLoops_L40 uo (v_X3_findLoops_L18 uo n18) n S12 v18_1 a16))))))))
def vX3_findLoops (S : MS) (uo : MS) : Prop := (qT S (qO S 52 13) = 210 ∧ (∃ (S3 : MS), vJ7_fill_53178 S (qO S 52 13) (0 : Int32) S3 ∧ wfC S3 ∧ shy S S3 ∧ (qT S3 (qO S3 52 14) = 211 ∧ (∃ (S7 : MS), vJ7_fill_53178 S3 (qO S3 52 14) (-1 : Int32) S7 ∧ wfC S7 ∧ shy S3 S7 ∧ (∃ n, v_X3_findLoops_L18 uo n S7 0)))))
set_option maxRecDepth 100000 in
theorem ru_X3_findLoops_J119 {ι : Type} {P Q : MS → Prop} {k18 k18' : MS → Int32 → Prop} {k18v : ι → MS → MS → Int32 → Prop} {U119 : MS} {v119_1 : Int32} (i0 : ι) (hk18 : ∀ (u : MS) (z0 : Int32), k18 u z0 → (∀ (i : ι) (uo : MS), k18v i uo u z0 → P uo) → k18' u z0) (K : ∀ (i : ι) (uo : MS), v_X3_findLoops_J119 uo (k18v i uo) U119 v119_1 → P uo) (h : w_X3_findLoops_J119 Q k18 U119 v119_1) : w_X3_findLoops_J119 (fun u => Q u ∧ P u) k18' U119 v119_1 := by
  unfold w_X3_findLoops_J119 at h ⊢
  intro y1_
  replace h := h y1_
  replace K := fun i uo z => K i uo ⟨y1_, z⟩
  intro a24 ea24 
  replace h := h a24 ea24 
  replace K := fun i uo z => K i uo ⟨a24, ea24, z⟩
  exact hk18 _ _ h K
set_option maxRecDepth 100000 in
theorem ru_X3_findLoops_J105 {ι : Type} {P Q : MS → Prop} {k18 k18' : MS → Int32 → Prop} {k18v : ι → MS → MS → Int32 → Prop} {U105 : MS} {v105_1 : Int32} (i0 : ι) (hk18 : ∀ (u : MS) (z0 : Int32), k18 u z0 → (∀ (i : ι) (uo : MS), k18v i uo u z0 → P uo) → k18' u z0) (K : ∀ (i : ι) (uo : MS), v_X3_findLoops_J105 uo (k18v i uo) U105 v105_1 → P uo) (h : w_X3_findLoops_J105 Q k18 U105 v105_1) : w_X3_findLoops_J105 (fun u => Q u ∧ P u) k18' U105 v105_1 := by
  unfold w_X3_findLoops_J105 at h ⊢
  intro y2_
  replace h := h y2_
  replace K := fun i uo z => K i uo ⟨y2_, z⟩
  obtain ⟨g3_, h⟩ := h
  refine ⟨g3_, ?_⟩
  replace K := fun i uo z => K i uo ⟨g3_, z⟩
  refine ⟨fun c => ?_, fun c => ?_⟩
  · replace h := h.1 c
    replace K := fun i uo z => K i uo (Or.inl ⟨c, z⟩)
    exact ru_X3_findLoops_J119 i0 hk18 K h
  · replace h := h.2 c
    replace K := fun i uo z => K i uo (Or.inr ⟨c, z⟩)
    obtain ⟨Q9, h0, h⟩ := h
    refine ⟨_, ruX3_addLoop h0, ?_⟩
    intro S27 q4_ y5_ y6_
    replace h := h S27 q4_.1 y5_ y6_
    replace K := fun i uo z => K i uo ⟨S27, q4_.2, y5_, y6_, z⟩
    exact ru_X3_findLoops_J119 i0 hk18 K h
set_option maxRecDepth 100000 in
theorem ru_X3_findLoops_J99 {ι : Type} {P Q : MS → Prop} {k40 k40' : MS → Int32 → Int32 → Prop} {k40v : ι → MS → MS → Int32 → Int32 → Prop} {U99 : MS} {v99_1 : Int32} {v99_2 : Int32} (i0 : ι) (hk40 : ∀ (u : MS) (z0 : Int32) (z1 : Int32), k40 u z0 z1 → (∀ (i : ι) (uo : MS), k40v i uo u z0 z1 → P uo) → k40' u z0 z1) (K : ∀ (i : ι) (uo : MS), v_X3_findLoops_J99 uo (k40v i uo) U99 v99_1 v99_2 → P uo) (h : w_X3_findLoops_J99 Q k40 U99 v99_1 v99_2) : w_X3_findLoops_J99 (fun u => Q u ∧ P u) k40' U99 v99_1 v99_2 := by
  unfold w_X3_findLoops_J99 at h ⊢
  intro y7_
  replace h := h y7_
  replace K := fun i uo z => K i uo ⟨y7_, z⟩
  intro a42 ea42 
  replace h := h a42 ea42 
  replace K := fun i uo z => K i uo ⟨a42, ea42, z⟩
  exact hk40 _ _ _ h K
set_option maxRecDepth 100000 in
theorem ru_X3_findLoops_L40 {ι : Type} {P Q : MS → Prop} {k18 k18' : MS → Int32 → Prop} {k18v : ι → MS → MS → Int32 → Prop} : ∀ (n : Nat) {U40 : MS} {v40_1 : Int32} {v40_2 : Int32} (i0 : ι) (hk18 : ∀ (u : MS) (z0 : Int32), k18 u z0 → (∀ (i : ι) (uo : MS), k18v i uo u z0 → P uo) → k18' u z0), (∀ (i : ι) (uo : MS), (∃ n8, v_X3_findLoops_L40 uo (k18v i uo) n8 U40 v40_1 v40_2) → P uo) → w_X3_findLoops_L40 Q k18 n U40 v40_1 v40_2 → w_X3_findLoops_L40 (fun u => Q u ∧ P u) k18' n U40 v40_1 v40_2 := by
  intro n
  induction n with
  | zero => intro U40 v40_1 v40_2 i0 hk18 K h; unfold w_X3_findLoops_L40 at h; exact h.elim
  | succ n ih =>
    intro U40 v40_1 v40_2 i0 hk18 K h
    unfold w_X3_findLoops_L40 at h ⊢
    replace K := fun (i : ι × Nat) uo (z : v_X3_findLoops_L40 uo (k18v i.1 uo) (i.2 + 1) U40 v40_1 v40_2) => K i.1 uo ⟨i.2 + 1, z⟩
    have i00 := i0
    replace i0 : ι × Nat := (i0, 0)
    intro y8_
    replace h := h y8_
    replace K := fun i uo z => K i uo ⟨y8_, z⟩
    obtain ⟨g9_, h⟩ := h
    refine ⟨g9_, ?_⟩
    replace K := fun i uo z => K i uo ⟨g9_, z⟩
    refine ⟨fun c => ?_, fun c => ?_⟩
    · replace h := h.1 c
      replace K := fun i uo z => K i uo (Or.inl ⟨c, z⟩)
      exact ru_X3_findLoops_J105 i0 (fun _ _ h K => hk18 _ _ h (fun i uo z => K (i, 0) uo z)) K h
    · replace h := h.2 c
      replace K := fun i uo z => K i uo (Or.inr ⟨c, z⟩)
      obtain ⟨g10_, h⟩ := h
      refine ⟨g10_, ?_⟩
      replace K := fun i uo z => K i uo ⟨g10_, z⟩
      refine ⟨fun c => ?_, fun c => ?_⟩
      · replace h := h.1 c
        replace K := fun i uo z => K i uo (Or.inl ⟨c, z⟩)
        exact ru_X3_findLoops_J105 i0 (fun _ _ h K => hk18 _ _ h (fun i uo z => K (i, 0) uo z)) K h
      · replace h := h.2 c
        replace K := fun i uo z => K i uo (Or.inr ⟨c, z⟩)
        obtain ⟨g11_, h⟩ := h
        refine ⟨g11_, ?_⟩
        replace K := fun i uo z => K i uo ⟨g11_, z⟩
        obtain ⟨g12_, h⟩ := h
        refine ⟨g12_, ?_⟩
        replace K := fun i uo z => K i uo ⟨g12_, z⟩
        refine ⟨fun c => ?_, fun c => ?_⟩
        · replace h := h.1 c
          replace K := fun i uo z => K i uo (Or.inl ⟨c, z⟩)
          exact ru_X3_findLoops_J99 i0 (fun _ _ _ h K => ih i00 hk18 (fun i uo ⟨n8, z⟩ => K (i, n8) uo z) h) K h
        · replace h := h.2 c
          replace K := fun i uo z => K i uo (Or.inr ⟨c, z⟩)
          obtain ⟨g13_, h⟩ := h
          refine ⟨g13_, ?_⟩
          replace K := fun i uo z => K i uo ⟨g13_, z⟩
          obtain ⟨g14_, h⟩ := h
          refine ⟨g14_, ?_⟩
          replace K := fun i uo z => K i uo ⟨g14_, z⟩
          refine ⟨fun c => ?_, fun c => ?_⟩
          · replace h := h.1 c
            replace K := fun i uo z => K i uo (Or.inl ⟨c, z⟩)
            exact ru_X3_findLoops_J99 i0 (fun _ _ _ h K => ih i00 hk18 (fun i uo ⟨n8, z⟩ => K (i, n8) uo z) h) K h
          · replace h := h.2 c
            replace K := fun i uo z => K i uo (Or.inr ⟨c, z⟩)
            obtain ⟨g15_, h⟩ := h
            refine ⟨g15_, ?_⟩
            replace K := fun i uo z => K i uo ⟨g15_, z⟩
            obtain ⟨g16_, h⟩ := h
            refine ⟨g16_, ?_⟩
            replace K := fun i uo z => K i uo ⟨g16_, z⟩
            intro S56 eS56 y17_ y18_
            replace h := h S56 eS56 y17_ y18_
            replace K := fun i uo z => K i uo ⟨S56, eS56, y17_, y18_, z⟩
            exact ru_X3_findLoops_J99 i0 (fun _ _ _ h K => ih i00 hk18 (fun i uo ⟨n8, z⟩ => K (i, n8) uo z) h) K h
set_option maxRecDepth 100000 in
theorem ru_X3_findLoops_L18 {ι : Type} {P Q : MS → Prop} : ∀ (n : Nat) {U18 : MS} {v18_1 : Int32} (i0 : ι), (∀ (i : ι) (uo : MS), (∃ n8, v_X3_findLoops_L18 uo n8 U18 v18_1) → P uo) → w_X3_findLoops_L18 Q n U18 v18_1 → w_X3_findLoops_L18 (fun u => Q u ∧ P u) n U18 v18_1 := by
  intro n
  induction n with
  | zero => intro U18 v18_1 i0 K h; unfold w_X3_findLoops_L18 at h; exact h.elim
  | succ n ih =>
    intro U18 v18_1 i0 K h
    unfold w_X3_findLoops_L18 at h ⊢
    replace K := fun (i : ι × Nat) uo (z : v_X3_findLoops_L18 uo (i.2 + 1) U18 v18_1) => K i.1 uo ⟨i.2 + 1, z⟩
    have i00 := i0
    replace i0 : ι × Nat := (i0, 0)
    intro y19_
    replace h := h y19_
    replace K := fun i uo z => K i uo ⟨y19_, z⟩
    refine ⟨fun c => ?_, fun c => ?_⟩
    · replace h := h.1 c
      replace K := fun i uo z => K i uo (Or.inl ⟨c, z⟩)
      exact ⟨h, K i0 _ rfl⟩
    · replace h := h.2 c
      replace K := fun i uo z => K i uo (Or.inr ⟨c, z⟩)
      obtain ⟨g20_, h⟩ := h
      refine ⟨g20_, ?_⟩
      replace K := fun i uo z => K i uo ⟨g20_, z⟩
      intro S12 eS12 y21_ y22_
      replace h := h S12 eS12 y21_ y22_
      replace K := fun i uo z => K i uo ⟨S12, eS12, y21_, y22_, z⟩
      obtain ⟨g23_, h⟩ := h
      refine ⟨g23_, ?_⟩
      replace K := fun i uo z => K i uo ⟨g23_, z⟩
      intro a16 ea16 
      replace h := h a16 ea16 
      replace K := fun i uo z => K i uo ⟨a16, ea16, z⟩
      obtain ⟨n9, h⟩ := h
      exact ⟨n9, ru_X3_findLoops_L40 n9 i0 (fun _ _ h K => ih i00 (fun i uo ⟨n8, z⟩ => K (i, n8) uo z) h) K h⟩
set_option maxRecDepth 100000 in
theorem ruX3_findLoops {S : MS} {Q : MS → Prop} (h : wX3_findLoops S Q) : wX3_findLoops S (fun u => Q u ∧ vX3_findLoops S u) := by
  have i0 : Unit := ()
  have K : ∀ (i : Unit) (uo : MS), vX3_findLoops S uo → vX3_findLoops S uo := fun _ _ z => z
  unfold wX3_findLoops at h ⊢
  intro y24_
  replace h := h y24_
  replace K := fun i uo z => K i uo ⟨y24_, z⟩
  obtain ⟨Q9, h0, h⟩ := h
  refine ⟨_, ruJ7_fill_53178 h0, ?_⟩
  intro S3 q25_ y26_ y27_
  replace h := h S3 q25_.1 y26_ y27_
  replace K := fun i uo z => K i uo ⟨S3, q25_.2, y26_, y27_, z⟩
  intro y28_
  replace h := h y28_
  replace K := fun i uo z => K i uo ⟨y28_, z⟩
  obtain ⟨Q9, h0, h⟩ := h
  refine ⟨_, ruJ7_fill_53178 h0, ?_⟩
  intro S7 q29_ y30_ y31_
  replace h := h S7 q29_.1 y30_ y31_
  replace K := fun i uo z => K i uo ⟨S7, q29_.2, y30_, y31_, z⟩
  obtain ⟨n9, h⟩ := h
  exact ⟨n9, ru_X3_findLoops_L18 n9 i0 K h⟩
set_option maxRecDepth 100000 in
theorem vw_X3_findLoops_J119 {uo : MS} {k18 k18v : MS → Int32 → Prop} {U119 : MS} {v119_1 : Int32} (hk18 : ∀ (u : MS) (z0 : Int32), k18v u z0 → k18 u z0) (h : v_X3_findLoops_J119 uo k18v U119 v119_1) : w_X3_findLoops_J119 (fun u => u = uo) k18 U119 v119_1 := by
  unfold v_X3_findLoops_J119 at h
  unfold w_X3_findLoops_J119
  intro _
  replace h := h.2
  obtain ⟨v9, e9, h⟩ := h
  intro x9 d9 
  have c9 : v9 = x9 := e9.trans d9.symm
  subst c9
  exact hk18 _ _ h
set_option maxRecDepth 100000 in
theorem vp_X3_findLoops_J119 {uo : MS} {P : MS → Prop} {k18 k18v : MS → Int32 → Prop} {U119 : MS} {v119_1 : Int32} (hk18 : ∀ (u : MS) (z0 : Int32), k18v u z0 → k18 u z0 → P uo) (h : v_X3_findLoops_J119 uo k18v U119 v119_1) (w : w_X3_findLoops_J119 P k18 U119 v119_1) : P uo := by
  unfold v_X3_findLoops_J119 at h
  unfold w_X3_findLoops_J119 at w
  obtain ⟨y1_, h⟩ := h
  replace w := w y1_
  obtain ⟨v9, e9, h⟩ := h
  replace w := w v9 e9 
  exact hk18 _ _ h w
set_option maxRecDepth 100000 in
theorem vw_X3_findLoops_J105 {uo : MS} {k18 k18v : MS → Int32 → Prop} {U105 : MS} {v105_1 : Int32} (hk18 : ∀ (u : MS) (z0 : Int32), k18v u z0 → k18 u z0) (h : v_X3_findLoops_J105 uo k18v U105 v105_1) : w_X3_findLoops_J105 (fun u => u = uo) k18 U105 v105_1 := by
  unfold v_X3_findLoops_J105 at h
  unfold w_X3_findLoops_J105
  intro _
  replace h := h.2
  obtain ⟨g9, h⟩ := h
  refine ⟨g9, ?_⟩
  rcases h with ⟨c, h⟩ | ⟨c, h⟩
  · refine ⟨fun _ => ?_, fun c2 => absurd c c2⟩
    exact vw_X3_findLoops_J119 hk18 h
  · refine ⟨fun c2 => absurd c2 c, fun _ => ?_⟩
    obtain ⟨q9, z9, h⟩ := h
    refine ⟨_, vwX3_addLoop z9, ?_⟩
    intro q8 d9 _ _
    subst d9
    replace h := h.2.2
    exact vw_X3_findLoops_J119 hk18 h
set_option maxRecDepth 100000 in
theorem vp_X3_findLoops_J105 {uo : MS} {P : MS → Prop} {k18 k18v : MS → Int32 → Prop} {U105 : MS} {v105_1 : Int32} (hk18 : ∀ (u : MS) (z0 : Int32), k18v u z0 → k18 u z0 → P uo) (h : v_X3_findLoops_J105 uo k18v U105 v105_1) (w : w_X3_findLoops_J105 P k18 U105 v105_1) : P uo := by
  unfold v_X3_findLoops_J105 at h
  unfold w_X3_findLoops_J105 at w
  obtain ⟨y2_, h⟩ := h
  replace w := w y2_
  replace h := h.2
  replace w := w.2
  rcases h with ⟨c, h⟩ | ⟨c, h⟩
  · replace w := w.1 c
    exact vp_X3_findLoops_J119 hk18 h w
  · replace w := w.2 c
    obtain ⟨q9, z9, y3_, y4_, h⟩ := h
    obtain ⟨Q9, w0, w⟩ := w
    replace w := w q9 (vpX3_addLoop z9 w0) y3_ y4_
    exact vp_X3_findLoops_J119 hk18 h w
set_option maxRecDepth 100000 in
theorem vw_X3_findLoops_J99 {uo : MS} {k40 k40v : MS → Int32 → Int32 → Prop} {U99 : MS} {v99_1 : Int32} {v99_2 : Int32} (hk40 : ∀ (u : MS) (z0 : Int32) (z1 : Int32), k40v u z0 z1 → k40 u z0 z1) (h : v_X3_findLoops_J99 uo k40v U99 v99_1 v99_2) : w_X3_findLoops_J99 (fun u => u = uo) k40 U99 v99_1 v99_2 := by
  unfold v_X3_findLoops_J99 at h
  unfold w_X3_findLoops_J99
  intro _
  replace h := h.2
  obtain ⟨v9, e9, h⟩ := h
  intro x9 d9 
  have c9 : v9 = x9 := e9.trans d9.symm
  subst c9
  exact hk40 _ _ _ h
set_option maxRecDepth 100000 in
theorem vp_X3_findLoops_J99 {uo : MS} {P : MS → Prop} {k40 k40v : MS → Int32 → Int32 → Prop} {U99 : MS} {v99_1 : Int32} {v99_2 : Int32} (hk40 : ∀ (u : MS) (z0 : Int32) (z1 : Int32), k40v u z0 z1 → k40 u z0 z1 → P uo) (h : v_X3_findLoops_J99 uo k40v U99 v99_1 v99_2) (w : w_X3_findLoops_J99 P k40 U99 v99_1 v99_2) : P uo := by
  unfold v_X3_findLoops_J99 at h
  unfold w_X3_findLoops_J99 at w
  obtain ⟨y5_, h⟩ := h
  replace w := w y5_
  obtain ⟨v9, e9, h⟩ := h
  replace w := w v9 e9 
  exact hk40 _ _ _ h w
set_option maxRecDepth 100000 in
theorem vw_X3_findLoops_L40 {uo : MS} {k18 k18v : MS → Int32 → Prop} : ∀ (n : Nat) {U40 : MS} {v40_1 : Int32} {v40_2 : Int32} (hk18 : ∀ (u : MS) (z0 : Int32), k18v u z0 → k18 u z0), v_X3_findLoops_L40 uo k18v n U40 v40_1 v40_2 → w_X3_findLoops_L40 (fun u => u = uo) k18 n U40 v40_1 v40_2 := by
  intro n
  induction n with
  | zero => intro U40 v40_1 v40_2 hk18 h; unfold v_X3_findLoops_L40 at h; exact h.elim
  | succ n ih =>
    intro U40 v40_1 v40_2 hk18 h
    unfold v_X3_findLoops_L40 at h
    unfold w_X3_findLoops_L40
    intro _
    replace h := h.2
    obtain ⟨g9, h⟩ := h
    refine ⟨g9, ?_⟩
    rcases h with ⟨c, h⟩ | ⟨c, h⟩
    · refine ⟨fun _ => ?_, fun c2 => absurd c c2⟩
      exact vw_X3_findLoops_J105 hk18 h
    · refine ⟨fun c2 => absurd c2 c, fun _ => ?_⟩
      obtain ⟨g9, h⟩ := h
      refine ⟨g9, ?_⟩
      rcases h with ⟨c, h⟩ | ⟨c, h⟩
      · refine ⟨fun _ => ?_, fun c2 => absurd c c2⟩
        exact vw_X3_findLoops_J105 hk18 h
      · refine ⟨fun c2 => absurd c2 c, fun _ => ?_⟩
        obtain ⟨g9, h⟩ := h
        refine ⟨g9, ?_⟩
        obtain ⟨g9, h⟩ := h
        refine ⟨g9, ?_⟩
        rcases h with ⟨c, h⟩ | ⟨c, h⟩
        · refine ⟨fun _ => ?_, fun c2 => absurd c c2⟩
          exact vw_X3_findLoops_J99 (fun _ _ _ h => ih hk18 h) h
        · refine ⟨fun c2 => absurd c2 c, fun _ => ?_⟩
          obtain ⟨g9, h⟩ := h
          refine ⟨g9, ?_⟩
          obtain ⟨g9, h⟩ := h
          refine ⟨g9, ?_⟩
          rcases h with ⟨c, h⟩ | ⟨c, h⟩
          · refine ⟨fun _ => ?_, fun c2 => absurd c c2⟩
            exact vw_X3_findLoops_J99 (fun _ _ _ h => ih hk18 h) h
          · refine ⟨fun c2 => absurd c2 c, fun _ => ?_⟩
            obtain ⟨g9, h⟩ := h
            refine ⟨g9, ?_⟩
            obtain ⟨g9, h⟩ := h
            refine ⟨g9, ?_⟩
            obtain ⟨v9, e9, h⟩ := h
            intro x9 d9 _ _
            have c9 : v9 = x9 := e9.trans d9.symm
            subst c9
            replace h := h.2.2
            exact vw_X3_findLoops_J99 (fun _ _ _ h => ih hk18 h) h
set_option maxRecDepth 100000 in
theorem vp_X3_findLoops_L40 {uo : MS} {P : MS → Prop} {k18 k18v : MS → Int32 → Prop} : ∀ (n m : Nat) {U40 : MS} {v40_1 : Int32} {v40_2 : Int32} (hk18 : ∀ (u : MS) (z0 : Int32), k18v u z0 → k18 u z0 → P uo), v_X3_findLoops_L40 uo k18v n U40 v40_1 v40_2 → w_X3_findLoops_L40 P k18 m U40 v40_1 v40_2 → P uo := by
  intro n
  induction n with
  | zero => intro m U40 v40_1 v40_2 hk18 h; unfold v_X3_findLoops_L40 at h; exact h.elim
  | succ n ih =>
    intro m U40 v40_1 v40_2 hk18 h w
    cases m with
    | zero => unfold w_X3_findLoops_L40 at w; exact w.elim
    | succ m =>
      unfold v_X3_findLoops_L40 at h
      unfold w_X3_findLoops_L40 at w
      obtain ⟨y6_, h⟩ := h
      replace w := w y6_
      replace h := h.2
      replace w := w.2
      rcases h with ⟨c, h⟩ | ⟨c, h⟩
      · replace w := w.1 c
        exact vp_X3_findLoops_J105 hk18 h w
      · replace w := w.2 c
        replace h := h.2
        replace w := w.2
        rcases h with ⟨c, h⟩ | ⟨c, h⟩
        · replace w := w.1 c
          exact vp_X3_findLoops_J105 hk18 h w
        · replace w := w.2 c
          replace h := h.2
          replace w := w.2
          replace h := h.2
          replace w := w.2
          rcases h with ⟨c, h⟩ | ⟨c, h⟩
          · replace w := w.1 c
            exact vp_X3_findLoops_J99 (fun _ _ _ h w => ih m hk18 h w) h w
          · replace w := w.2 c
            replace h := h.2
            replace w := w.2
            replace h := h.2
            replace w := w.2
            rcases h with ⟨c, h⟩ | ⟨c, h⟩
            · replace w := w.1 c
              exact vp_X3_findLoops_J99 (fun _ _ _ h w => ih m hk18 h w) h w
            · replace w := w.2 c
              replace h := h.2
              replace w := w.2
              replace h := h.2
              replace w := w.2
              obtain ⟨v9, e9, y7_, y8_, h⟩ := h
              replace w := w v9 e9 y7_ y8_
              exact vp_X3_findLoops_J99 (fun _ _ _ h w => ih m hk18 h w) h w
set_option maxRecDepth 100000 in
theorem vw_X3_findLoops_L18 {uo : MS} : ∀ (n : Nat) {U18 : MS} {v18_1 : Int32}, v_X3_findLoops_L18 uo n U18 v18_1 → w_X3_findLoops_L18 (fun u => u = uo) n U18 v18_1 := by
  intro n
  induction n with
  | zero => intro U18 v18_1 h; unfold v_X3_findLoops_L18 at h; exact h.elim
  | succ n ih =>
    intro U18 v18_1 h
    unfold v_X3_findLoops_L18 at h
    unfold w_X3_findLoops_L18
    intro _
    replace h := h.2
    rcases h with ⟨c, h⟩ | ⟨c, h⟩
    · refine ⟨fun _ => ?_, fun c2 => absurd c c2⟩
      exact h.symm
    · refine ⟨fun c2 => absurd c2 c, fun _ => ?_⟩
      obtain ⟨g9, h⟩ := h
      refine ⟨g9, ?_⟩
      obtain ⟨v9, e9, h⟩ := h
      intro x9 d9 _ _
      have c9 : v9 = x9 := e9.trans d9.symm
      subst c9
      replace h := h.2.2
      obtain ⟨g9, h⟩ := h
      refine ⟨g9, ?_⟩
      obtain ⟨v9, e9, h⟩ := h
      intro x9 d9 
      have c9 : v9 = x9 := e9.trans d9.symm
      subst c9
      obtain ⟨n9, h⟩ := h
      exact ⟨n9, vw_X3_findLoops_L40 n9 (fun _ _ h => ih h) h⟩
set_option maxRecDepth 100000 in
theorem vp_X3_findLoops_L18 {uo : MS} {P : MS → Prop} : ∀ (n m : Nat) {U18 : MS} {v18_1 : Int32}, v_X3_findLoops_L18 uo n U18 v18_1 → w_X3_findLoops_L18 P m U18 v18_1 → P uo := by
  intro n
  induction n with
  | zero => intro m U18 v18_1 h; unfold v_X3_findLoops_L18 at h; exact h.elim
  | succ n ih =>
    intro m U18 v18_1 h w
    cases m with
    | zero => unfold w_X3_findLoops_L18 at w; exact w.elim
    | succ m =>
      unfold v_X3_findLoops_L18 at h
      unfold w_X3_findLoops_L18 at w
      obtain ⟨y9_, h⟩ := h
      replace w := w y9_
      rcases h with ⟨c, h⟩ | ⟨c, h⟩
      · replace w := w.1 c
        rw [h]
        exact w
      · replace w := w.2 c
        replace h := h.2
        replace w := w.2
        obtain ⟨v9, e9, y10_, y11_, h⟩ := h
        replace w := w v9 e9 y10_ y11_
        replace h := h.2
        replace w := w.2
        obtain ⟨v9, e9, h⟩ := h
        replace w := w v9 e9 
        obtain ⟨n9, h⟩ := h
        obtain ⟨n8, w⟩ := w
        exact vp_X3_findLoops_L40 n9 n8 (fun _ _ h w => ih m h w) h w
set_option maxRecDepth 100000 in
theorem vwX3_findLoops {S : MS} {uo : MS} (h : vX3_findLoops S uo) : wX3_findLoops S (fun u => u = uo) := by
  unfold vX3_findLoops at h
  unfold wX3_findLoops
  intro _
  replace h := h.2
  obtain ⟨q9, z9, h⟩ := h
  refine ⟨_, vwJ7_fill_53178 z9, ?_⟩
  intro q8 d9 _ _
  subst d9
  replace h := h.2.2
  intro _
  replace h := h.2
  obtain ⟨q9, z9, h⟩ := h
  refine ⟨_, vwJ7_fill_53178 z9, ?_⟩
  intro q8 d9 _ _
  subst d9
  replace h := h.2.2
  obtain ⟨n9, h⟩ := h
  exact ⟨n9, vw_X3_findLoops_L18 n9 h⟩
set_option maxRecDepth 100000 in
theorem vpX3_findLoops {S : MS} {uo : MS} {P : MS → Prop} (h : vX3_findLoops S uo) (w : wX3_findLoops S P) : P uo := by
  unfold vX3_findLoops at h
  unfold wX3_findLoops at w
  obtain ⟨y12_, h⟩ := h
  replace w := w y12_
  obtain ⟨q9, z9, y13_, y14_, h⟩ := h
  obtain ⟨Q9, w0, w⟩ := w
  replace w := w q9 (vpJ7_fill_53178 z9 w0) y13_ y14_
  obtain ⟨y15_, h⟩ := h
  replace w := w y15_
  obtain ⟨q9, z9, y16_, y17_, h⟩ := h
  obtain ⟨Q9, w0, w⟩ := w
  replace w := w q9 (vpJ7_fill_53178 z9 w0) y16_ y17_
  obtain ⟨n9, h⟩ := h
  obtain ⟨n8, w⟩ := w
  exact vp_X3_findLoops_L18 n9 n8 h w
