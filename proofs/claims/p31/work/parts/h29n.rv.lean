def v_X2_rowOf_L79 (ro : Nat) (uo : MS) : Nat → MS → Nat → Int32 → Prop
  | 0, _, _, _ => False
  | n79 + 1, U79, v79_2, v79_3 => (wfC U79 ∧ qT U79 v79_2 = 47 ∧ (((qI U79 8 6).toInt ≤ v79_3.toInt ∧ (ro = v79_2 ∧ uo = U79)) ∨ (¬ (qI U79 8 6).toInt ≤ v79_3.toInt ∧ (∃ a26 : Int32, a26 = ((qI U79 8 5) + ((8 : Int32) * v79_3)) ∧ (d_X7_u2 U79 a26 ∧ (∃ a30 : Int32, a30 = (fX7_u2 U79 a26) ∧ (d_X2_numberOf U79 (a30.toInt64) ∧ (∃ a34 : Int32, a34 = (fX2_numberOf U79 (a30.toInt64)) ∧ (d_X7_u2 U79 (a26 + (2 : Int32)) ∧ (∃ a39 : Int32, a39 = (fX7_u2 U79 (a26 + (2 : Int32))) ∧ (d_X2_numberOf U79 (a39.toInt64) ∧ (∃ a43 : Int32, a43 = (fX2_numberOf U79 (a39.toInt64)) ∧ (d_X7_u2 U79 (a26 + (4 : Int32)) ∧ (∃ a48 : Int32, a48 = (fX7_u2 U79 (a26 + (4 : Int32))) ∧ (d_X2_numberOf U79 (a48.toInt64) ∧ (∃ a52 : Int32, a52 = (fX2_numberOf U79 (a48.toInt64)) ∧ (d_X7_u2 U79 (a26 + (6 : Int32)) ∧ (∃ a57 : Int32, a57 = (fX7_u2 U79 (a26 + (6 : Int32))) ∧ (∃ (r59 : Int32) (S60 : MS), vX2_errorOf U79 a57 r59 S60 ∧ wfC S60 ∧ shy U79 S60 ∧ (qT S60 v79_2 = 47 ∧ (∃ (S63 : MS), vX8_addCatch S60 v79_2 a34 a43 a52 r59 S63 ∧ wfC S63 ∧ shy S60 S63 ∧ (∃ a65 : Int32, a65 = (v79_3 + Int32.ofInt 1) ∧ ((v_X2_rowOf_L79 ro uo n79) S63 v79_2 a65)))))))))))))))))))))))
def v_X2_rowOf_L44 (ro : Nat) (uo : MS) : Nat → MS → Nat → Int32 → Prop
  | 0, _, _, _ => False
  | n44 + 1, U44, v44_2, v44_3 => (wfC U44 ∧ qT U44 v44_2 = 47 ∧ (((qI U44 8 2).toInt ≤ v44_3.toInt ∧ (∃ n, v_X2_rowOf_L79 ro uo n U44 v44_2 0)) ∨ (¬ (qI U44 8 2).toInt ≤ v44_3.toInt ∧ (∃ (S67 : MS), vX2_decode U44 v44_3 S67 ∧ wfC S67 ∧ shy U44 S67 ∧ (qT S67 v44_2 = 47 ∧ (∃ (S70 : MS), vX2_addTo S67 v44_2 S70 ∧ wfC S70 ∧ shy S67 S70 ∧ (∃ (r73 : Int32) (S74 : MS), vX2_lengthAt S70 v44_3 r73 S74 ∧ wfC S74 ∧ shy S70 S74 ∧ (∃ a78 : Int32, a78 = (v44_3 + (if (1 : Int32) < r73 then r73 else (1 : Int32))) ∧ ((v_X2_rowOf_L44 ro uo n44) S74 v44_2 a78)))))))))
def vX2_rowOf (S : MS) (x1 : Int32) (ro : Nat) (uo : MS) : Prop := (∃ (S2 : MS), vX2_lookAt S x1 S2 ∧ wfC S2 ∧ shy S S2 ∧ (∃ (S5 : MS), vX2_numberInstructions S2 S5 ∧ wfC S5 ∧ shy S2 S5 ∧ ((qn S5 + 1 ≤ KCC ∧ qu S5 + 15 ≤ KSC) ∧ (∃ S10 : MS, S10 = wN S5 47 0 15 ∧ wfC S10 ∧ (∃ (r13 : Int32) (S14 : MS), vX2_tableRoom S10 r13 S14 ∧ wfC S14 ∧ shy S10 S14 ∧ (qT S14 (qn S5) = 47 ∧ (∃ (S17 : MS), vX8_init S14 (qn S5) (qI S10 8 8) r13 (qI S14 8 6) S17 ∧ wfC S17 ∧ shx S14 S17 ∧ (∃ S20 : MS, S20 = wI S17 (qn S5) 11 x1 ∧ qT S17 (qn S5) = 47 ∧ wfC S20 ∧ (∃ S21 : MS, S21 = wI S20 (qn S5) 10 (qI S20 8 3) ∧ qT S20 (qn S5) = 47 ∧ wfC S21 ∧ (∃ n, v_X2_rowOf_L44 ro uo n S21 (qn S5) 0))))))))))
set_option maxRecDepth 100000 in
theorem ru_X2_rowOf_L79 {ι : Type} {P Q : Nat → MS → Prop} : ∀ (n : Nat) {U79 : MS} {v79_2 : Nat} {v79_3 : Int32} (i0 : ι), (∀ (i : ι) (ro : Nat) (uo : MS), (∃ n8, v_X2_rowOf_L79 ro uo n8 U79 v79_2 v79_3) → P ro uo) → w_X2_rowOf_L79 Q n U79 v79_2 v79_3 → w_X2_rowOf_L79 (fun r u => Q r u ∧ P r u) n U79 v79_2 v79_3 := by
  intro n
  induction n with
  | zero => intro U79 v79_2 v79_3 i0 K h; unfold w_X2_rowOf_L79 at h; exact h.elim
  | succ n ih =>
    intro U79 v79_2 v79_3 i0 K h
    unfold w_X2_rowOf_L79 at h ⊢
    replace K := fun (i : ι × Nat) ro uo (z : v_X2_rowOf_L79 ro uo (i.2 + 1) U79 v79_2 v79_3) => K i.1 ro uo ⟨i.2 + 1, z⟩
    have i00 := i0
    replace i0 : ι × Nat := (i0, 0)
    intro y1_ y2_
    replace h := h y1_ y2_
    replace K := fun i ro uo z => K i ro uo ⟨y1_, y2_, z⟩
    refine ⟨fun c => ?_, fun c => ?_⟩
    · replace h := h.1 c
      replace K := fun i ro uo z => K i ro uo (Or.inl ⟨c, z⟩)
      exact ⟨h, K i0 _ _ ⟨rfl, rfl⟩⟩
    · replace h := h.2 c
      replace K := fun i ro uo z => K i ro uo (Or.inr ⟨c, z⟩)
      intro a26 ea26 
      replace h := h a26 ea26 
      replace K := fun i ro uo z => K i ro uo ⟨a26, ea26, z⟩
      obtain ⟨g3_, h⟩ := h
      refine ⟨g3_, ?_⟩
      replace K := fun i ro uo z => K i ro uo ⟨g3_, z⟩
      intro a30 ea30 
      replace h := h a30 ea30 
      replace K := fun i ro uo z => K i ro uo ⟨a30, ea30, z⟩
      obtain ⟨g4_, h⟩ := h
      refine ⟨g4_, ?_⟩
      replace K := fun i ro uo z => K i ro uo ⟨g4_, z⟩
      intro a34 ea34 
      replace h := h a34 ea34 
      replace K := fun i ro uo z => K i ro uo ⟨a34, ea34, z⟩
      obtain ⟨g5_, h⟩ := h
      refine ⟨g5_, ?_⟩
      replace K := fun i ro uo z => K i ro uo ⟨g5_, z⟩
      intro a39 ea39 
      replace h := h a39 ea39 
      replace K := fun i ro uo z => K i ro uo ⟨a39, ea39, z⟩
      obtain ⟨g6_, h⟩ := h
      refine ⟨g6_, ?_⟩
      replace K := fun i ro uo z => K i ro uo ⟨g6_, z⟩
      intro a43 ea43 
      replace h := h a43 ea43 
      replace K := fun i ro uo z => K i ro uo ⟨a43, ea43, z⟩
      obtain ⟨g7_, h⟩ := h
      refine ⟨g7_, ?_⟩
      replace K := fun i ro uo z => K i ro uo ⟨g7_, z⟩
      intro a48 ea48 
      replace h := h a48 ea48 
      replace K := fun i ro uo z => K i ro uo ⟨a48, ea48, z⟩
      obtain ⟨g8_, h⟩ := h
      refine ⟨g8_, ?_⟩
      replace K := fun i ro uo z => K i ro uo ⟨g8_, z⟩
      intro a52 ea52 
      replace h := h a52 ea52 
      replace K := fun i ro uo z => K i ro uo ⟨a52, ea52, z⟩
      obtain ⟨g9_, h⟩ := h
      refine ⟨g9_, ?_⟩
      replace K := fun i ro uo z => K i ro uo ⟨g9_, z⟩
      intro a57 ea57 
      replace h := h a57 ea57 
      replace K := fun i ro uo z => K i ro uo ⟨a57, ea57, z⟩
      obtain ⟨Q9, h0, h⟩ := h
      refine ⟨_, ruX2_errorOf h0, ?_⟩
      intro r59 S60 q10_ y11_ y12_
      replace h := h r59 S60 q10_.1 y11_ y12_
      replace K := fun i ro uo z => K i ro uo ⟨r59, S60, q10_.2, y11_, y12_, z⟩
      intro y13_
      replace h := h y13_
      replace K := fun i ro uo z => K i ro uo ⟨y13_, z⟩
      obtain ⟨Q9, h0, h⟩ := h
      refine ⟨_, ruX8_addCatch h0, ?_⟩
      intro S63 q14_ y15_ y16_
      replace h := h S63 q14_.1 y15_ y16_
      replace K := fun i ro uo z => K i ro uo ⟨S63, q14_.2, y15_, y16_, z⟩
      intro a65 ea65 
      replace h := h a65 ea65 
      replace K := fun i ro uo z => K i ro uo ⟨a65, ea65, z⟩
      exact ih i00 (fun i ro uo ⟨n8, z⟩ => K (i, n8) ro uo z) h
set_option maxRecDepth 100000 in
theorem ru_X2_rowOf_L44 {ι : Type} {P Q : Nat → MS → Prop} : ∀ (n : Nat) {U44 : MS} {v44_2 : Nat} {v44_3 : Int32} (i0 : ι), (∀ (i : ι) (ro : Nat) (uo : MS), (∃ n8, v_X2_rowOf_L44 ro uo n8 U44 v44_2 v44_3) → P ro uo) → w_X2_rowOf_L44 Q n U44 v44_2 v44_3 → w_X2_rowOf_L44 (fun r u => Q r u ∧ P r u) n U44 v44_2 v44_3 := by
  intro n
  induction n with
  | zero => intro U44 v44_2 v44_3 i0 K h; unfold w_X2_rowOf_L44 at h; exact h.elim
  | succ n ih =>
    intro U44 v44_2 v44_3 i0 K h
    unfold w_X2_rowOf_L44 at h ⊢
    replace K := fun (i : ι × Nat) ro uo (z : v_X2_rowOf_L44 ro uo (i.2 + 1) U44 v44_2 v44_3) => K i.1 ro uo ⟨i.2 + 1, z⟩
    have i00 := i0
    replace i0 : ι × Nat := (i0, 0)
    intro y17_ y18_
    replace h := h y17_ y18_
    replace K := fun i ro uo z => K i ro uo ⟨y17_, y18_, z⟩
    refine ⟨fun c => ?_, fun c => ?_⟩
    · replace h := h.1 c
      replace K := fun i ro uo z => K i ro uo (Or.inl ⟨c, z⟩)
      obtain ⟨n9, h⟩ := h
      exact ⟨n9, ru_X2_rowOf_L79 n9 i0 K h⟩
    · replace h := h.2 c
      replace K := fun i ro uo z => K i ro uo (Or.inr ⟨c, z⟩)
      obtain ⟨Q9, h0, h⟩ := h
      refine ⟨_, ruX2_decode h0, ?_⟩
      intro S67 q19_ y20_ y21_
      replace h := h S67 q19_.1 y20_ y21_
      replace K := fun i ro uo z => K i ro uo ⟨S67, q19_.2, y20_, y21_, z⟩
      intro y22_
      replace h := h y22_
      replace K := fun i ro uo z => K i ro uo ⟨y22_, z⟩
      obtain ⟨Q9, h0, h⟩ := h
      refine ⟨_, ruX2_addTo h0, ?_⟩
      intro S70 q23_ y24_ y25_
      replace h := h S70 q23_.1 y24_ y25_
      replace K := fun i ro uo z => K i ro uo ⟨S70, q23_.2, y24_, y25_, z⟩
      obtain ⟨Q9, h0, h⟩ := h
      refine ⟨_, ruX2_lengthAt h0, ?_⟩
      intro r73 S74 q26_ y27_ y28_
      replace h := h r73 S74 q26_.1 y27_ y28_
      replace K := fun i ro uo z => K i ro uo ⟨r73, S74, q26_.2, y27_, y28_, z⟩
      intro a78 ea78 
      replace h := h a78 ea78 
      replace K := fun i ro uo z => K i ro uo ⟨a78, ea78, z⟩
      exact ih i00 (fun i ro uo ⟨n8, z⟩ => K (i, n8) ro uo z) h
set_option maxRecDepth 100000 in
theorem ruX2_rowOf {S : MS} {x1 : Int32} {Q : Nat → MS → Prop} (h : wX2_rowOf S x1 Q) : wX2_rowOf S x1 (fun r u => Q r u ∧ vX2_rowOf S x1 r u) := by
  have i0 : Unit := ()
  have K : ∀ (i : Unit) (ro : Nat) (uo : MS), vX2_rowOf S x1 ro uo → vX2_rowOf S x1 ro uo := fun _ _ _ z => z
  unfold wX2_rowOf at h ⊢
  obtain ⟨Q9, h0, h⟩ := h
  refine ⟨_, ruX2_lookAt h0, ?_⟩
  intro S2 q29_ y30_ y31_
  replace h := h S2 q29_.1 y30_ y31_
  replace K := fun i ro uo z => K i ro uo ⟨S2, q29_.2, y30_, y31_, z⟩
  obtain ⟨Q9, h0, h⟩ := h
  refine ⟨_, ruX2_numberInstructions h0, ?_⟩
  intro S5 q32_ y33_ y34_
  replace h := h S5 q32_.1 y33_ y34_
  replace K := fun i ro uo z => K i ro uo ⟨S5, q32_.2, y33_, y34_, z⟩
  obtain ⟨g35_, h⟩ := h
  refine ⟨g35_, ?_⟩
  replace K := fun i ro uo z => K i ro uo ⟨g35_, z⟩
  intro S10 eS10 y36_
  replace h := h S10 eS10 y36_
  replace K := fun i ro uo z => K i ro uo ⟨S10, eS10, y36_, z⟩
  obtain ⟨Q9, h0, h⟩ := h
  refine ⟨_, ruX2_tableRoom h0, ?_⟩
  intro r13 S14 q37_ y38_ y39_
  replace h := h r13 S14 q37_.1 y38_ y39_
  replace K := fun i ro uo z => K i ro uo ⟨r13, S14, q37_.2, y38_, y39_, z⟩
  intro y40_
  replace h := h y40_
  replace K := fun i ro uo z => K i ro uo ⟨y40_, z⟩
  obtain ⟨Q9, h0, h⟩ := h
  refine ⟨_, ruX8_init h0, ?_⟩
  intro S17 q41_ y42_ y43_
  replace h := h S17 q41_.1 y42_ y43_
  replace K := fun i ro uo z => K i ro uo ⟨S17, q41_.2, y42_, y43_, z⟩
  intro S20 eS20 y44_ y45_
  replace h := h S20 eS20 y44_ y45_
  replace K := fun i ro uo z => K i ro uo ⟨S20, eS20, y44_, y45_, z⟩
  intro S21 eS21 y46_ y47_
  replace h := h S21 eS21 y46_ y47_
  replace K := fun i ro uo z => K i ro uo ⟨S21, eS21, y46_, y47_, z⟩
  obtain ⟨n9, h⟩ := h
  exact ⟨n9, ru_X2_rowOf_L44 n9 i0 K h⟩
set_option maxRecDepth 100000 in
theorem vw_X2_rowOf_L79 {ro : Nat} {uo : MS} : ∀ (n : Nat) {U79 : MS} {v79_2 : Nat} {v79_3 : Int32}, v_X2_rowOf_L79 ro uo n U79 v79_2 v79_3 → w_X2_rowOf_L79 (fun r u => r = ro ∧ u = uo) n U79 v79_2 v79_3 := by
  intro n
  induction n with
  | zero => intro U79 v79_2 v79_3 h; unfold v_X2_rowOf_L79 at h; exact h.elim
  | succ n ih =>
    intro U79 v79_2 v79_3 h
    unfold v_X2_rowOf_L79 at h
    unfold w_X2_rowOf_L79
    intro _ _
    replace h := h.2.2
    rcases h with ⟨c, h⟩ | ⟨c, h⟩
    · refine ⟨fun _ => ?_, fun c2 => absurd c c2⟩
      exact ⟨h.1.symm, h.2.symm⟩
    · refine ⟨fun c2 => absurd c2 c, fun _ => ?_⟩
      obtain ⟨v9, e9, h⟩ := h
      intro x9 d9 
      have c9 : v9 = x9 := e9.trans d9.symm
      subst c9
      obtain ⟨g9, h⟩ := h
      refine ⟨g9, ?_⟩
      obtain ⟨v9, e9, h⟩ := h
      intro x9 d9 
      have c9 : v9 = x9 := e9.trans d9.symm
      subst c9
      obtain ⟨g9, h⟩ := h
      refine ⟨g9, ?_⟩
      obtain ⟨v9, e9, h⟩ := h
      intro x9 d9 
      have c9 : v9 = x9 := e9.trans d9.symm
      subst c9
      obtain ⟨g9, h⟩ := h
      refine ⟨g9, ?_⟩
      obtain ⟨v9, e9, h⟩ := h
      intro x9 d9 
      have c9 : v9 = x9 := e9.trans d9.symm
      subst c9
      obtain ⟨g9, h⟩ := h
      refine ⟨g9, ?_⟩
      obtain ⟨v9, e9, h⟩ := h
      intro x9 d9 
      have c9 : v9 = x9 := e9.trans d9.symm
      subst c9
      obtain ⟨g9, h⟩ := h
      refine ⟨g9, ?_⟩
      obtain ⟨v9, e9, h⟩ := h
      intro x9 d9 
      have c9 : v9 = x9 := e9.trans d9.symm
      subst c9
      obtain ⟨g9, h⟩ := h
      refine ⟨g9, ?_⟩
      obtain ⟨v9, e9, h⟩ := h
      intro x9 d9 
      have c9 : v9 = x9 := e9.trans d9.symm
      subst c9
      obtain ⟨g9, h⟩ := h
      refine ⟨g9, ?_⟩
      obtain ⟨v9, e9, h⟩ := h
      intro x9 d9 
      have c9 : v9 = x9 := e9.trans d9.symm
      subst c9
      obtain ⟨p9, q9, z9, h⟩ := h
      refine ⟨_, vwX2_errorOf z9, ?_⟩
      rintro p8 q8 ⟨d8, d9⟩ _ _
      subst d8
      subst d9
      replace h := h.2.2
      intro _
      replace h := h.2
      obtain ⟨q9, z9, h⟩ := h
      refine ⟨_, vwX8_addCatch z9, ?_⟩
      intro q8 d9 _ _
      subst d9
      replace h := h.2.2
      obtain ⟨v9, e9, h⟩ := h
      intro x9 d9 
      have c9 : v9 = x9 := e9.trans d9.symm
      subst c9
      exact ih h
set_option maxRecDepth 100000 in
theorem vp_X2_rowOf_L79 {ro : Nat} {uo : MS} {P : Nat → MS → Prop} : ∀ (n m : Nat) {U79 : MS} {v79_2 : Nat} {v79_3 : Int32}, v_X2_rowOf_L79 ro uo n U79 v79_2 v79_3 → w_X2_rowOf_L79 P m U79 v79_2 v79_3 → P ro uo := by
  intro n
  induction n with
  | zero => intro m U79 v79_2 v79_3 h; unfold v_X2_rowOf_L79 at h; exact h.elim
  | succ n ih =>
    intro m U79 v79_2 v79_3 h w
    cases m with
    | zero => unfold w_X2_rowOf_L79 at w; exact w.elim
    | succ m =>
      unfold v_X2_rowOf_L79 at h
      unfold w_X2_rowOf_L79 at w
      obtain ⟨y1_, y2_, h⟩ := h
      replace w := w y1_ y2_
      rcases h with ⟨c, h⟩ | ⟨c, h⟩
      · replace w := w.1 c
        rw [h.1, h.2]
        exact w
      · replace w := w.2 c
        obtain ⟨v9, e9, h⟩ := h
        replace w := w v9 e9 
        replace h := h.2
        replace w := w.2
        obtain ⟨v9, e9, h⟩ := h
        replace w := w v9 e9 
        replace h := h.2
        replace w := w.2
        obtain ⟨v9, e9, h⟩ := h
        replace w := w v9 e9 
        replace h := h.2
        replace w := w.2
        obtain ⟨v9, e9, h⟩ := h
        replace w := w v9 e9 
        replace h := h.2
        replace w := w.2
        obtain ⟨v9, e9, h⟩ := h
        replace w := w v9 e9 
        replace h := h.2
        replace w := w.2
        obtain ⟨v9, e9, h⟩ := h
        replace w := w v9 e9 
        replace h := h.2
        replace w := w.2
        obtain ⟨v9, e9, h⟩ := h
        replace w := w v9 e9 
        replace h := h.2
        replace w := w.2
        obtain ⟨v9, e9, h⟩ := h
        replace w := w v9 e9 
        obtain ⟨p9, q9, z9, y3_, y4_, h⟩ := h
        obtain ⟨Q9, w0, w⟩ := w
        replace w := w p9 q9 (vpX2_errorOf z9 w0) y3_ y4_
        obtain ⟨y5_, h⟩ := h
        replace w := w y5_
        obtain ⟨q9, z9, y6_, y7_, h⟩ := h
        obtain ⟨Q9, w0, w⟩ := w
        replace w := w q9 (vpX8_addCatch z9 w0) y6_ y7_
        obtain ⟨v9, e9, h⟩ := h
        replace w := w v9 e9 
        exact ih m h w
set_option maxRecDepth 100000 in
theorem vw_X2_rowOf_L44 {ro : Nat} {uo : MS} : ∀ (n : Nat) {U44 : MS} {v44_2 : Nat} {v44_3 : Int32}, v_X2_rowOf_L44 ro uo n U44 v44_2 v44_3 → w_X2_rowOf_L44 (fun r u => r = ro ∧ u = uo) n U44 v44_2 v44_3 := by
  intro n
  induction n with
  | zero => intro U44 v44_2 v44_3 h; unfold v_X2_rowOf_L44 at h; exact h.elim
  | succ n ih =>
    intro U44 v44_2 v44_3 h
    unfold v_X2_rowOf_L44 at h
    unfold w_X2_rowOf_L44
    intro _ _
    replace h := h.2.2
    rcases h with ⟨c, h⟩ | ⟨c, h⟩
    · refine ⟨fun _ => ?_, fun c2 => absurd c c2⟩
      obtain ⟨n9, h⟩ := h
      exact ⟨n9, vw_X2_rowOf_L79 n9 h⟩
    · refine ⟨fun c2 => absurd c2 c, fun _ => ?_⟩
      obtain ⟨q9, z9, h⟩ := h
      refine ⟨_, vwX2_decode z9, ?_⟩
      intro q8 d9 _ _
      subst d9
      replace h := h.2.2
      intro _
      replace h := h.2
      obtain ⟨q9, z9, h⟩ := h
      refine ⟨_, vwX2_addTo z9, ?_⟩
      intro q8 d9 _ _
      subst d9
      replace h := h.2.2
      obtain ⟨p9, q9, z9, h⟩ := h
      refine ⟨_, vwX2_lengthAt z9, ?_⟩
      rintro p8 q8 ⟨d8, d9⟩ _ _
      subst d8
      subst d9
      replace h := h.2.2
      obtain ⟨v9, e9, h⟩ := h
      intro x9 d9 
      have c9 : v9 = x9 := e9.trans d9.symm
      subst c9
      exact ih h
set_option maxRecDepth 100000 in
theorem vp_X2_rowOf_L44 {ro : Nat} {uo : MS} {P : Nat → MS → Prop} : ∀ (n m : Nat) {U44 : MS} {v44_2 : Nat} {v44_3 : Int32}, v_X2_rowOf_L44 ro uo n U44 v44_2 v44_3 → w_X2_rowOf_L44 P m U44 v44_2 v44_3 → P ro uo := by
  intro n
  induction n with
  | zero => intro m U44 v44_2 v44_3 h; unfold v_X2_rowOf_L44 at h; exact h.elim
  | succ n ih =>
    intro m U44 v44_2 v44_3 h w
    cases m with
    | zero => unfold w_X2_rowOf_L44 at w; exact w.elim
    | succ m =>
      unfold v_X2_rowOf_L44 at h
      unfold w_X2_rowOf_L44 at w
      obtain ⟨y8_, y9_, h⟩ := h
      replace w := w y8_ y9_
      rcases h with ⟨c, h⟩ | ⟨c, h⟩
      · replace w := w.1 c
        obtain ⟨n9, h⟩ := h
        obtain ⟨n8, w⟩ := w
        exact vp_X2_rowOf_L79 n9 n8 h w
      · replace w := w.2 c
        obtain ⟨q9, z9, y10_, y11_, h⟩ := h
        obtain ⟨Q9, w0, w⟩ := w
        replace w := w q9 (vpX2_decode z9 w0) y10_ y11_
        obtain ⟨y12_, h⟩ := h
        replace w := w y12_
        obtain ⟨q9, z9, y13_, y14_, h⟩ := h
        obtain ⟨Q9, w0, w⟩ := w
        replace w := w q9 (vpX2_addTo z9 w0) y13_ y14_
        obtain ⟨p9, q9, z9, y15_, y16_, h⟩ := h
        obtain ⟨Q9, w0, w⟩ := w
        replace w := w p9 q9 (vpX2_lengthAt z9 w0) y15_ y16_
        obtain ⟨v9, e9, h⟩ := h
        replace w := w v9 e9 
        exact ih m h w
set_option maxRecDepth 100000 in
theorem vwX2_rowOf {S : MS} {x1 : Int32} {ro : Nat} {uo : MS} (h : vX2_rowOf S x1 ro uo) : wX2_rowOf S x1 (fun r u => r = ro ∧ u = uo) := by
  unfold vX2_rowOf at h
  unfold wX2_rowOf
  obtain ⟨q9, z9, h⟩ := h
  refine ⟨_, vwX2_lookAt z9, ?_⟩
  intro q8 d9 _ _
  subst d9
  replace h := h.2.2
  obtain ⟨q9, z9, h⟩ := h
  refine ⟨_, vwX2_numberInstructions z9, ?_⟩
  intro q8 d9 _ _
  subst d9
  replace h := h.2.2
  obtain ⟨g9, h⟩ := h
  refine ⟨g9, ?_⟩
  obtain ⟨v9, e9, h⟩ := h
  intro x9 d9 _
  have c9 : v9 = x9 := e9.trans d9.symm
  subst c9
  replace h := h.2
  obtain ⟨p9, q9, z9, h⟩ := h
  refine ⟨_, vwX2_tableRoom z9, ?_⟩
  rintro p8 q8 ⟨d8, d9⟩ _ _
  subst d8
  subst d9
  replace h := h.2.2
  intro _
  replace h := h.2
  obtain ⟨q9, z9, h⟩ := h
  refine ⟨_, vwX8_init z9, ?_⟩
  intro q8 d9 _ _
  subst d9
  replace h := h.2.2
  obtain ⟨v9, e9, h⟩ := h
  intro x9 d9 _ _
  have c9 : v9 = x9 := e9.trans d9.symm
  subst c9
  replace h := h.2.2
  obtain ⟨v9, e9, h⟩ := h
  intro x9 d9 _ _
  have c9 : v9 = x9 := e9.trans d9.symm
  subst c9
  replace h := h.2.2
  obtain ⟨n9, h⟩ := h
  exact ⟨n9, vw_X2_rowOf_L44 n9 h⟩
set_option maxRecDepth 100000 in
theorem vpX2_rowOf {S : MS} {x1 : Int32} {ro : Nat} {uo : MS} {P : Nat → MS → Prop} (h : vX2_rowOf S x1 ro uo) (w : wX2_rowOf S x1 P) : P ro uo := by
  unfold vX2_rowOf at h
  unfold wX2_rowOf at w
  obtain ⟨q9, z9, y17_, y18_, h⟩ := h
  obtain ⟨Q9, w0, w⟩ := w
  replace w := w q9 (vpX2_lookAt z9 w0) y17_ y18_
  obtain ⟨q9, z9, y19_, y20_, h⟩ := h
  obtain ⟨Q9, w0, w⟩ := w
  replace w := w q9 (vpX2_numberInstructions z9 w0) y19_ y20_
  replace h := h.2
  replace w := w.2
  obtain ⟨v9, e9, y21_, h⟩ := h
  replace w := w v9 e9 y21_
  obtain ⟨p9, q9, z9, y22_, y23_, h⟩ := h
  obtain ⟨Q9, w0, w⟩ := w
  replace w := w p9 q9 (vpX2_tableRoom z9 w0) y22_ y23_
  obtain ⟨y24_, h⟩ := h
  replace w := w y24_
  obtain ⟨q9, z9, y25_, y26_, h⟩ := h
  obtain ⟨Q9, w0, w⟩ := w
  replace w := w q9 (vpX8_init z9 w0) y25_ y26_
  obtain ⟨v9, e9, y27_, y28_, h⟩ := h
  replace w := w v9 e9 y27_ y28_
  obtain ⟨v9, e9, y29_, y30_, h⟩ := h
  replace w := w v9 e9 y29_ y30_
  obtain ⟨n9, h⟩ := h
  obtain ⟨n8, w⟩ := w
  exact vp_X2_rowOf_L44 n9 n8 h w
def vX3_draw (S : MS) (p1 : Option Nat) (uo : MS) : Prop := ((p1 = none ∧ (uo = S)) ∨ (¬ p1 = none ∧ (((some ((p1).getD 0)) = (qR S 52 0) ∧ (uo = S)) ∨ (¬ (some ((p1).getD 0)) = (qR S 52 0) ∧ (∃ S4 : MS, S4 = wR S 52 0 (some ((p1).getD 0)) ∧ qT S 52 = 43 ∧ wfC S4 ∧ (∃ (S6 : MS), vX3_findBlocks S4 S6 ∧ wfC S6 ∧ shx S4 S6 ∧ (∃ (S10 : MS), vX3_makeRoom S6 S10 ∧ wfC S10 ∧ shx S6 S10 ∧ (∃ (S14 : MS), vX3_findEdges S10 S14 ∧ wfC S14 ∧ shx S10 S14 ∧ (∃ (S18 : MS), vX3_findBacks S14 S18 ∧ wfC S18 ∧ shx S14 S18 ∧ (∃ (S22 : MS), vX3_findReached S18 S22 ∧ wfC S22 ∧ shy S18 S22 ∧ (∃ (S25 : MS), vX3_findDominators S22 S25 ∧ wfC S25 ∧ shy S22 S25 ∧ (∃ (S28 : MS), vX3_findLoops S25 S28 ∧ wfC S28 ∧ shy S25 S28 ∧ (uo = S28)))))))))))))
set_option maxRecDepth 100000 in
theorem ruX3_draw {S : MS} {p1 : Option Nat} {Q : MS → Prop} (h : wX3_draw S p1 Q) : wX3_draw S p1 (fun u => Q u ∧ vX3_draw S p1 u) := by
  have i0 : Unit := ()
  have K : ∀ (i : Unit) (uo : MS), vX3_draw S p1 uo → vX3_draw S p1 uo := fun _ _ z => z
  unfold wX3_draw at h ⊢
  refine ⟨fun c => ?_, fun c => ?_⟩
  · replace h := h.1 c
    replace K := fun i uo z => K i uo (Or.inl ⟨c, z⟩)
    exact ⟨h, K i0 _ rfl⟩
  · replace h := h.2 c
    replace K := fun i uo z => K i uo (Or.inr ⟨c, z⟩)
    refine ⟨fun c => ?_, fun c => ?_⟩
    · replace h := h.1 c
      replace K := fun i uo z => K i uo (Or.inl ⟨c, z⟩)
      exact ⟨h, K i0 _ rfl⟩
    · replace h := h.2 c
      replace K := fun i uo z => K i uo (Or.inr ⟨c, z⟩)
      intro S4 eS4 y1_ y2_
      replace h := h S4 eS4 y1_ y2_
      replace K := fun i uo z => K i uo ⟨S4, eS4, y1_, y2_, z⟩
      obtain ⟨Q9, h0, h⟩ := h
      refine ⟨_, ruX3_findBlocks h0, ?_⟩
      intro S6 q3_ y4_ y5_
      replace h := h S6 q3_.1 y4_ y5_
      replace K := fun i uo z => K i uo ⟨S6, q3_.2, y4_, y5_, z⟩
      obtain ⟨Q9, h0, h⟩ := h
      refine ⟨_, ruX3_makeRoom h0, ?_⟩
      intro S10 q6_ y7_ y8_
      replace h := h S10 q6_.1 y7_ y8_
      replace K := fun i uo z => K i uo ⟨S10, q6_.2, y7_, y8_, z⟩
      obtain ⟨Q9, h0, h⟩ := h
      refine ⟨_, ruX3_findEdges h0, ?_⟩
      intro S14 q9_ y10_ y11_
      replace h := h S14 q9_.1 y10_ y11_
      replace K := fun i uo z => K i uo ⟨S14, q9_.2, y10_, y11_, z⟩
      obtain ⟨Q9, h0, h⟩ := h
      refine ⟨_, ruX3_findBacks h0, ?_⟩
      intro S18 q12_ y13_ y14_
      replace h := h S18 q12_.1 y13_ y14_
      replace K := fun i uo z => K i uo ⟨S18, q12_.2, y13_, y14_, z⟩
      obtain ⟨Q9, h0, h⟩ := h
      refine ⟨_, ruX3_findReached h0, ?_⟩
      intro S22 q15_ y16_ y17_
      replace h := h S22 q15_.1 y16_ y17_
      replace K := fun i uo z => K i uo ⟨S22, q15_.2, y16_, y17_, z⟩
      obtain ⟨Q9, h0, h⟩ := h
      refine ⟨_, ruX3_findDominators h0, ?_⟩
      intro S25 q18_ y19_ y20_
      replace h := h S25 q18_.1 y19_ y20_
      replace K := fun i uo z => K i uo ⟨S25, q18_.2, y19_, y20_, z⟩
      obtain ⟨Q9, h0, h⟩ := h
      refine ⟨_, ruX3_findLoops h0, ?_⟩
      intro S28 q21_ y22_ y23_
      replace h := h S28 q21_.1 y22_ y23_
      replace K := fun i uo z => K i uo ⟨S28, q21_.2, y22_, y23_, z⟩
      exact ⟨h, K i0 _ rfl⟩
set_option maxRecDepth 100000 in
theorem vwX3_draw {S : MS} {p1 : Option Nat} {uo : MS} (h : vX3_draw S p1 uo) : wX3_draw S p1 (fun u => u = uo) := by
  unfold vX3_draw at h
  unfold wX3_draw
  rcases h with ⟨c, h⟩ | ⟨c, h⟩
  · refine ⟨fun _ => ?_, fun c2 => absurd c c2⟩
    exact h.symm
  · refine ⟨fun c2 => absurd c2 c, fun _ => ?_⟩
    rcases h with ⟨c, h⟩ | ⟨c, h⟩
    · refine ⟨fun _ => ?_, fun c2 => absurd c c2⟩
      exact h.symm
    · refine ⟨fun c2 => absurd c2 c, fun _ => ?_⟩
      obtain ⟨v9, e9, h⟩ := h
      intro x9 d9 _ _
      have c9 : v9 = x9 := e9.trans d9.symm
      subst c9
      replace h := h.2.2
      obtain ⟨q9, z9, h⟩ := h
      refine ⟨_, vwX3_findBlocks z9, ?_⟩
      intro q8 d9 _ _
      subst d9
      replace h := h.2.2
      obtain ⟨q9, z9, h⟩ := h
      refine ⟨_, vwX3_makeRoom z9, ?_⟩
      intro q8 d9 _ _
      subst d9
      replace h := h.2.2
      obtain ⟨q9, z9, h⟩ := h
      refine ⟨_, vwX3_findEdges z9, ?_⟩
      intro q8 d9 _ _
      subst d9
      replace h := h.2.2
      obtain ⟨q9, z9, h⟩ := h
      refine ⟨_, vwX3_findBacks z9, ?_⟩
      intro q8 d9 _ _
      subst d9
      replace h := h.2.2
      obtain ⟨q9, z9, h⟩ := h
      refine ⟨_, vwX3_findReached z9, ?_⟩
      intro q8 d9 _ _
      subst d9
      replace h := h.2.2
      obtain ⟨q9, z9, h⟩ := h
      refine ⟨_, vwX3_findDominators z9, ?_⟩
      intro q8 d9 _ _
      subst d9
      replace h := h.2.2
      obtain ⟨q9, z9, h⟩ := h
      refine ⟨_, vwX3_findLoops z9, ?_⟩
      intro q8 d9 _ _
      subst d9
      replace h := h.2.2
      exact h.symm
set_option maxRecDepth 100000 in
theorem vpX3_draw {S : MS} {p1 : Option Nat} {uo : MS} {P : MS → Prop} (h : vX3_draw S p1 uo) (w : wX3_draw S p1 P) : P uo := by
  unfold vX3_draw at h
  unfold wX3_draw at w
  rcases h with ⟨c, h⟩ | ⟨c, h⟩
  · replace w := w.1 c
    rw [h]
    exact w
  · replace w := w.2 c
    rcases h with ⟨c, h⟩ | ⟨c, h⟩
    · replace w := w.1 c
      rw [h]
      exact w
    · replace w := w.2 c
      obtain ⟨v9, e9, y1_, y2_, h⟩ := h
      replace w := w v9 e9 y1_ y2_
      obtain ⟨q9, z9, y3_, y4_, h⟩ := h
      obtain ⟨Q9, w0, w⟩ := w
      replace w := w q9 (vpX3_findBlocks z9 w0) y3_ y4_
      obtain ⟨q9, z9, y5_, y6_, h⟩ := h
      obtain ⟨Q9, w0, w⟩ := w
      replace w := w q9 (vpX3_makeRoom z9 w0) y5_ y6_
      obtain ⟨q9, z9, y7_, y8_, h⟩ := h
      obtain ⟨Q9, w0, w⟩ := w
      replace w := w q9 (vpX3_findEdges z9 w0) y7_ y8_
      obtain ⟨q9, z9, y9_, y10_, h⟩ := h
      obtain ⟨Q9, w0, w⟩ := w
      replace w := w q9 (vpX3_findBacks z9 w0) y9_ y10_
      obtain ⟨q9, z9, y11_, y12_, h⟩ := h
      obtain ⟨Q9, w0, w⟩ := w
      replace w := w q9 (vpX3_findReached z9 w0) y11_ y12_
      obtain ⟨q9, z9, y13_, y14_, h⟩ := h
      obtain ⟨Q9, w0, w⟩ := w
      replace w := w q9 (vpX3_findDominators z9 w0) y13_ y14_
      obtain ⟨q9, z9, y15_, y16_, h⟩ := h
      obtain ⟨Q9, w0, w⟩ := w
      replace w := w q9 (vpX3_findLoops z9 w0) y15_ y16_
      rw [h]
      exact w
def v_X5_calculate_J42 (uo : MS) (U42 : MS) (v42_1 : Int32) (v42_3 : Int64) (v42_5 : Int64) : Prop := (wfC U42 ∧ (d_X6_gives U42 v42_1 ∧ (∃ a22 : Int32, a22 = (fX6_gives U42 v42_1) ∧ (d_X6_binary U42 v42_1 v42_5 v42_3 ∧ (∃ a26 : Int64, a26 = (fX6_binary U42 v42_1 v42_5 v42_3) ∧ (∃ (S28 : MS), vX5_push_ U42 a22 a26 S28 ∧ wfC S28 ∧ shy U42 S28 ∧ (∃ S31 : MS, S31 = wI S28 44 13 ((qI S28 44 13) + (1 : Int32)) ∧ qT S28 44 = 45 ∧ wfC S31 ∧ (uo = S31))))))))
def vX5_calculate (S : MS) (x1 : Int32) (uo : MS) : Prop := (d_X6_takes S x1 ∧ (∃ a4 : Int32, a4 = (fX6_takes S x1) ∧ (∃ (r7 : Int64) (S8 : MS), vX5_pop_ S (a4 &&& (15 : Int32)) r7 S8 ∧ wfC S8 ∧ shy S S8 ∧ (∃ (r12 : Int64) (S13 : MS), vX5_pop_ S8 (a4 >>> ((4 : Int32) &&& 31)) r12 S13 ∧ wfC S13 ∧ shy S8 S13 ∧ (d_X6_isDivision S13 x1 ∧ (∃ a18 : Int32, a18 = (fX6_isDivision S13 x1) ∧ ((a18.toInt = 0 ∧ (v_X5_calculate_J42 uo S13 x1 r7 r12)) ∨ (¬ a18.toInt = 0 ∧ (((lg_cmp r7 0).toInt = 0 ∧ (∃ (S36 : MS), vX5_raise S13 (0 : Int32) S36 ∧ wfC S36 ∧ shy S13 S36 ∧ (uo = S36))) ∨ (¬ (lg_cmp r7 0).toInt = 0 ∧ (v_X5_calculate_J42 uo S13 x1 r7 r12)))))))))))
set_option maxRecDepth 100000 in
theorem ru_X5_calculate_J42 {ι : Type} {P Q : MS → Prop} {U42 : MS} {v42_1 : Int32} {v42_3 : Int64} {v42_5 : Int64} (i0 : ι) (K : ∀ (i : ι) (uo : MS), v_X5_calculate_J42 uo U42 v42_1 v42_3 v42_5 → P uo) (h : w_X5_calculate_J42 Q U42 v42_1 v42_3 v42_5) : w_X5_calculate_J42 (fun u => Q u ∧ P u) U42 v42_1 v42_3 v42_5 := by
  unfold w_X5_calculate_J42 at h ⊢
  intro y1_
  replace h := h y1_
  replace K := fun i uo z => K i uo ⟨y1_, z⟩
  obtain ⟨g2_, h⟩ := h
  refine ⟨g2_, ?_⟩
  replace K := fun i uo z => K i uo ⟨g2_, z⟩
  intro a22 ea22 
  replace h := h a22 ea22 
  replace K := fun i uo z => K i uo ⟨a22, ea22, z⟩
  obtain ⟨g3_, h⟩ := h
  refine ⟨g3_, ?_⟩
  replace K := fun i uo z => K i uo ⟨g3_, z⟩
  intro a26 ea26 
  replace h := h a26 ea26 
  replace K := fun i uo z => K i uo ⟨a26, ea26, z⟩
  obtain ⟨Q9, h0, h⟩ := h
  refine ⟨_, ruX5_push_ h0, ?_⟩
  intro S28 q4_ y5_ y6_
  replace h := h S28 q4_.1 y5_ y6_
  replace K := fun i uo z => K i uo ⟨S28, q4_.2, y5_, y6_, z⟩
  intro S31 eS31 y7_ y8_
  replace h := h S31 eS31 y7_ y8_
  replace K := fun i uo z => K i uo ⟨S31, eS31, y7_, y8_, z⟩
  exact ⟨h, K i0 _ rfl⟩
set_option maxRecDepth 100000 in
theorem ruX5_calculate {S : MS} {x1 : Int32} {Q : MS → Prop} (h : wX5_calculate S x1 Q) : wX5_calculate S x1 (fun u => Q u ∧ vX5_calculate S x1 u) := by
  have i0 : Unit := ()
  have K : ∀ (i : Unit) (uo : MS), vX5_calculate S x1 uo → vX5_calculate S x1 uo := fun _ _ z => z
  unfold wX5_calculate at h ⊢
  obtain ⟨g9_, h⟩ := h
  refine ⟨g9_, ?_⟩
  replace K := fun i uo z => K i uo ⟨g9_, z⟩
  intro a4 ea4 
  replace h := h a4 ea4 
  replace K := fun i uo z => K i uo ⟨a4, ea4, z⟩
  obtain ⟨Q9, h0, h⟩ := h
  refine ⟨_, ruX5_pop_ h0, ?_⟩
  intro r7 S8 q10_ y11_ y12_
  replace h := h r7 S8 q10_.1 y11_ y12_
  replace K := fun i uo z => K i uo ⟨r7, S8, q10_.2, y11_, y12_, z⟩
  obtain ⟨Q9, h0, h⟩ := h
  refine ⟨_, ruX5_pop_ h0, ?_⟩
  intro r12 S13 q13_ y14_ y15_
  replace h := h r12 S13 q13_.1 y14_ y15_
  replace K := fun i uo z => K i uo ⟨r12, S13, q13_.2, y14_, y15_, z⟩
  obtain ⟨g16_, h⟩ := h
  refine ⟨g16_, ?_⟩
  replace K := fun i uo z => K i uo ⟨g16_, z⟩
  intro a18 ea18 
  replace h := h a18 ea18 
  replace K := fun i uo z => K i uo ⟨a18, ea18, z⟩
  refine ⟨fun c => ?_, fun c => ?_⟩
  · replace h := h.1 c
    replace K := fun i uo z => K i uo (Or.inl ⟨c, z⟩)
    exact ru_X5_calculate_J42 i0 K h
  · replace h := h.2 c
    replace K := fun i uo z => K i uo (Or.inr ⟨c, z⟩)
    refine ⟨fun c => ?_, fun c => ?_⟩
    · replace h := h.1 c
      replace K := fun i uo z => K i uo (Or.inl ⟨c, z⟩)
      obtain ⟨Q9, h0, h⟩ := h
      refine ⟨_, ruX5_raise h0, ?_⟩
      intro S36 q17_ y18_ y19_
      replace h := h S36 q17_.1 y18_ y19_
      replace K := fun i uo z => K i uo ⟨S36, q17_.2, y18_, y19_, z⟩
      exact ⟨h, K i0 _ rfl⟩
    · replace h := h.2 c
      replace K := fun i uo z => K i uo (Or.inr ⟨c, z⟩)
      exact ru_X5_calculate_J42 i0 K h
set_option maxRecDepth 100000 in
theorem vw_X5_calculate_J42 {uo : MS} {U42 : MS} {v42_1 : Int32} {v42_3 : Int64} {v42_5 : Int64} (h : v_X5_calculate_J42 uo U42 v42_1 v42_3 v42_5) : w_X5_calculate_J42 (fun u => u = uo) U42 v42_1 v42_3 v42_5 := by
  unfold v_X5_calculate_J42 at h
  unfold w_X5_calculate_J42
  intro _
  replace h := h.2
  obtain ⟨g9, h⟩ := h
  refine ⟨g9, ?_⟩
  obtain ⟨v9, e9, h⟩ := h
  intro x9 d9 
  have c9 : v9 = x9 := e9.trans d9.symm
  subst c9
  obtain ⟨g9, h⟩ := h
  refine ⟨g9, ?_⟩
  obtain ⟨v9, e9, h⟩ := h
  intro x9 d9 
  have c9 : v9 = x9 := e9.trans d9.symm
  subst c9
  obtain ⟨q9, z9, h⟩ := h
  refine ⟨_, vwX5_push_ z9, ?_⟩
  intro q8 d9 _ _
  subst d9
  replace h := h.2.2
  obtain ⟨v9, e9, h⟩ := h
  intro x9 d9 _ _
  have c9 : v9 = x9 := e9.trans d9.symm
  subst c9
  replace h := h.2.2
  exact h.symm
set_option maxRecDepth 100000 in
theorem vp_X5_calculate_J42 {uo : MS} {P : MS → Prop} {U42 : MS} {v42_1 : Int32} {v42_3 : Int64} {v42_5 : Int64} (h : v_X5_calculate_J42 uo U42 v42_1 v42_3 v42_5) (w : w_X5_calculate_J42 P U42 v42_1 v42_3 v42_5) : P uo := by
  unfold v_X5_calculate_J42 at h
  unfold w_X5_calculate_J42 at w
  obtain ⟨y1_, h⟩ := h
  replace w := w y1_
  replace h := h.2
  replace w := w.2
  obtain ⟨v9, e9, h⟩ := h
  replace w := w v9 e9 
  replace h := h.2
  replace w := w.2
  obtain ⟨v9, e9, h⟩ := h
  replace w := w v9 e9 
  obtain ⟨q9, z9, y2_, y3_, h⟩ := h
  obtain ⟨Q9, w0, w⟩ := w
  replace w := w q9 (vpX5_push_ z9 w0) y2_ y3_
  obtain ⟨v9, e9, y4_, y5_, h⟩ := h
  replace w := w v9 e9 y4_ y5_
  rw [h]
  exact w
set_option maxRecDepth 100000 in
theorem vwX5_calculate {S : MS} {x1 : Int32} {uo : MS} (h : vX5_calculate S x1 uo) : wX5_calculate S x1 (fun u => u = uo) := by
  unfold vX5_calculate at h
  unfold wX5_calculate
  obtain ⟨g9, h⟩ := h
  refine ⟨g9, ?_⟩
  obtain ⟨v9, e9, h⟩ := h
  intro x9 d9 
  have c9 : v9 = x9 := e9.trans d9.symm
  subst c9
  obtain ⟨p9, q9, z9, h⟩ := h
  refine ⟨_, vwX5_pop_ z9, ?_⟩
  rintro p8 q8 ⟨d8, d9⟩ _ _
  subst d8
  subst d9
  replace h := h.2.2
  obtain ⟨p9, q9, z9, h⟩ := h
  refine ⟨_, vwX5_pop_ z9, ?_⟩
  rintro p8 q8 ⟨d8, d9⟩ _ _
  subst d8
  subst d9
  replace h := h.2.2
  obtain ⟨g9, h⟩ := h
  refine ⟨g9, ?_⟩
  obtain ⟨v9, e9, h⟩ := h
  intro x9 d9 
  have c9 : v9 = x9 := e9.trans d9.symm
  subst c9
  rcases h with ⟨c, h⟩ | ⟨c, h⟩
  · refine ⟨fun _ => ?_, fun c2 => absurd c c2⟩
    exact vw_X5_calculate_J42 h
  · refine ⟨fun c2 => absurd c2 c, fun _ => ?_⟩
    rcases h with ⟨c, h⟩ | ⟨c, h⟩
    · refine ⟨fun _ => ?_, fun c2 => absurd c c2⟩
      obtain ⟨q9, z9, h⟩ := h
      refine ⟨_, vwX5_raise z9, ?_⟩
      intro q8 d9 _ _
      subst d9
      replace h := h.2.2
      exact h.symm
    · refine ⟨fun c2 => absurd c2 c, fun _ => ?_⟩
      exact vw_X5_calculate_J42 h
set_option maxRecDepth 100000 in
theorem vpX5_calculate {S : MS} {x1 : Int32} {uo : MS} {P : MS → Prop} (h : vX5_calculate S x1 uo) (w : wX5_calculate S x1 P) : P uo := by
  unfold vX5_calculate at h
  unfold wX5_calculate at w
  replace h := h.2
  replace w := w.2
  obtain ⟨v9, e9, h⟩ := h
  replace w := w v9 e9 
  obtain ⟨p9, q9, z9, y6_, y7_, h⟩ := h
  obtain ⟨Q9, w0, w⟩ := w
  replace w := w p9 q9 (vpX5_pop_ z9 w0) y6_ y7_
  obtain ⟨p9, q9, z9, y8_, y9_, h⟩ := h
  obtain ⟨Q9, w0, w⟩ := w
  replace w := w p9 q9 (vpX5_pop_ z9 w0) y8_ y9_
  replace h := h.2
  replace w := w.2
  obtain ⟨v9, e9, h⟩ := h
  replace w := w v9 e9 
  rcases h with ⟨c, h⟩ | ⟨c, h⟩
  · replace w := w.1 c
    exact vp_X5_calculate_J42 h w
  · replace w := w.2 c
    rcases h with ⟨c, h⟩ | ⟨c, h⟩
    · replace w := w.1 c
      obtain ⟨q9, z9, y10_, y11_, h⟩ := h
      obtain ⟨Q9, w0, w⟩ := w
      replace w := w q9 (vpX5_raise z9 w0) y10_ y11_
      rw [h]
      exact w
    · replace w := w.2 c
      exact vp_X5_calculate_J42 h w
def v_X5_throwIt_J24 (uo : MS) (U24 : MS) : Prop := (wfC U24 ∧ (∃ (S3 : MS), vX5_raise U24 (1 : Int32) S3 ∧ wfC S3 ∧ shy U24 S3 ∧ (uo = S3)))
def vX5_throwIt (S : MS) (y1 : Int64) (uo : MS) : Prop := ((0 ≤ (lg_cmp y1 0).toInt ∧ (v_X5_throwIt_J24 uo S)) ∨ (¬ 0 ≤ (lg_cmp y1 0).toInt ∧ (((lg_cmp y1 (-4 : Int64)).toInt < 0 ∧ (v_X5_throwIt_J24 uo S)) ∨ (¬ (lg_cmp y1 (-4 : Int64)).toInt < 0 ∧ (∃ (S10 : MS), vX5_raise S (((-1 : Int64) - y1).toInt32) S10 ∧ wfC S10 ∧ shy S S10 ∧ (uo = S10))))))
set_option maxRecDepth 100000 in
theorem ru_X5_throwIt_J24 {ι : Type} {P Q : MS → Prop} {U24 : MS} (i0 : ι) (K : ∀ (i : ι) (uo : MS), v_X5_throwIt_J24 uo U24 → P uo) (h : w_X5_throwIt_J24 Q U24) : w_X5_throwIt_J24 (fun u => Q u ∧ P u) U24 := by
  unfold w_X5_throwIt_J24 at h ⊢
  intro y1_
  replace h := h y1_
  replace K := fun i uo z => K i uo ⟨y1_, z⟩
  obtain ⟨Q9, h0, h⟩ := h
  refine ⟨_, ruX5_raise h0, ?_⟩
  intro S3 q2_ y3_ y4_
  replace h := h S3 q2_.1 y3_ y4_
  replace K := fun i uo z => K i uo ⟨S3, q2_.2, y3_, y4_, z⟩
  exact ⟨h, K i0 _ rfl⟩
set_option maxRecDepth 100000 in
theorem ruX5_throwIt {S : MS} {y1 : Int64} {Q : MS → Prop} (h : wX5_throwIt S y1 Q) : wX5_throwIt S y1 (fun u => Q u ∧ vX5_throwIt S y1 u) := by
  have i0 : Unit := ()
  have K : ∀ (i : Unit) (uo : MS), vX5_throwIt S y1 uo → vX5_throwIt S y1 uo := fun _ _ z => z
  unfold wX5_throwIt at h ⊢
  refine ⟨fun c => ?_, fun c => ?_⟩
  · replace h := h.1 c
    replace K := fun i uo z => K i uo (Or.inl ⟨c, z⟩)
    exact ru_X5_throwIt_J24 i0 K h
  · replace h := h.2 c
    replace K := fun i uo z => K i uo (Or.inr ⟨c, z⟩)
    refine ⟨fun c => ?_, fun c => ?_⟩
    · replace h := h.1 c
      replace K := fun i uo z => K i uo (Or.inl ⟨c, z⟩)
      exact ru_X5_throwIt_J24 i0 K h
    · replace h := h.2 c
      replace K := fun i uo z => K i uo (Or.inr ⟨c, z⟩)
      obtain ⟨Q9, h0, h⟩ := h
      refine ⟨_, ruX5_raise h0, ?_⟩
      intro S10 q5_ y6_ y7_
      replace h := h S10 q5_.1 y6_ y7_
      replace K := fun i uo z => K i uo ⟨S10, q5_.2, y6_, y7_, z⟩
      exact ⟨h, K i0 _ rfl⟩
set_option maxRecDepth 100000 in
theorem vw_X5_throwIt_J24 {uo : MS} {U24 : MS} (h : v_X5_throwIt_J24 uo U24) : w_X5_throwIt_J24 (fun u => u = uo) U24 := by
  unfold v_X5_throwIt_J24 at h
  unfold w_X5_throwIt_J24
  intro _
  replace h := h.2
  obtain ⟨q9, z9, h⟩ := h
  refine ⟨_, vwX5_raise z9, ?_⟩
  intro q8 d9 _ _
  subst d9
  replace h := h.2.2
  exact h.symm
set_option maxRecDepth 100000 in
theorem vp_X5_throwIt_J24 {uo : MS} {P : MS → Prop} {U24 : MS} (h : v_X5_throwIt_J24 uo U24) (w : w_X5_throwIt_J24 P U24) : P uo := by
  unfold v_X5_throwIt_J24 at h
  unfold w_X5_throwIt_J24 at w
  obtain ⟨y1_, h⟩ := h
  replace w := w y1_
  obtain ⟨q9, z9, y2_, y3_, h⟩ := h
  obtain ⟨Q9, w0, w⟩ := w
  replace w := w q9 (vpX5_raise z9 w0) y2_ y3_
  rw [h]
  exact w
set_option maxRecDepth 100000 in
theorem vwX5_throwIt {S : MS} {y1 : Int64} {uo : MS} (h : vX5_throwIt S y1 uo) : wX5_throwIt S y1 (fun u => u = uo) := by
  unfold vX5_throwIt at h
  unfold wX5_throwIt
  rcases h with ⟨c, h⟩ | ⟨c, h⟩
  · refine ⟨fun _ => ?_, fun c2 => absurd c c2⟩
    exact vw_X5_throwIt_J24 h
  · refine ⟨fun c2 => absurd c2 c, fun _ => ?_⟩
    rcases h with ⟨c, h⟩ | ⟨c, h⟩
    · refine ⟨fun _ => ?_, fun c2 => absurd c c2⟩
      exact vw_X5_throwIt_J24 h
    · refine ⟨fun c2 => absurd c2 c, fun _ => ?_⟩
      obtain ⟨q9, z9, h⟩ := h
      refine ⟨_, vwX5_raise z9, ?_⟩
      intro q8 d9 _ _
      subst d9
      replace h := h.2.2
      exact h.symm
set_option maxRecDepth 100000 in
theorem vpX5_throwIt {S : MS} {y1 : Int64} {uo : MS} {P : MS → Prop} (h : vX5_throwIt S y1 uo) (w : wX5_throwIt S y1 P) : P uo := by
  unfold vX5_throwIt at h
  unfold wX5_throwIt at w
  rcases h with ⟨c, h⟩ | ⟨c, h⟩
  · replace w := w.1 c
    exact vp_X5_throwIt_J24 h w
  · replace w := w.2 c
    rcases h with ⟨c, h⟩ | ⟨c, h⟩
    · replace w := w.1 c
      exact vp_X5_throwIt_J24 h w
    · replace w := w.2 c
      obtain ⟨q9, z9, y4_, y5_, h⟩ := h
      obtain ⟨Q9, w0, w⟩ := w
      replace w := w q9 (vpX5_raise z9 w0) y4_ y5_
      rw [h]
      exact w
def v_X7_isSound_J150 (ro : Int32) (uo : MS) (U150 : MS) : Prop := (wfC U150 ∧ (ro = (0 : Int32) ∧ uo = U150))
def v_X7_isSound_J146 (ro : Int32) (uo : MS) (U146 : MS) : Prop := (wfC U146 ∧ (ro = (1 : Int32) ∧ uo = U146))
def vX7_isSound (S : MS) (p1 : Nat) (ro : Int32) (uo : MS) : Prop := ((qR S p1 0 = some (qO S p1 0)) ∧ (∃ S3 : MS, S3 = wR S 9 0 (some (qO S p1 0)) ∧ qT S 9 = 46 ∧ wfC S3 ∧ (∃ S4 : MS, S4 = wI S3 9 1 (qI S3 p1 1) ∧ qT S3 9 = 46 ∧ wfC S4 ∧ (∃ S5 : MS, S5 = wI S4 9 2 (0 : Int32) ∧ qT S4 9 = 46 ∧ wfC S5 ∧ (∃ S6 : MS, S6 = wI S5 9 3 (-1 : Int32) ∧ qT S5 9 = 46 ∧ wfC S6 ∧ (∃ S7 : MS, S7 = wI S6 9 15 (0 : Int32) ∧ qT S6 9 = 46 ∧ wfC S7 ∧ (∃ (r9 : Int32) (S10 : MS), vX7_magicHolds S7 r9 S10 ∧ wfC S10 ∧ shy S7 S10 ∧ ((r9.toInt = 0 ∧ (v_X7_isSound_J150 ro uo S10)) ∨ (¬ r9.toInt = 0 ∧ (∃ (r14 : Int32) (S15 : MS), vX7_poolFits S10 r14 S15 ∧ wfC S15 ∧ shy S10 S15 ∧ ((r14.toInt = 0 ∧ (v_X7_isSound_J150 ro uo S15)) ∨ (¬ r14.toInt = 0 ∧ (∃ (r19 : Int32) (S20 : MS), vX7_headFits S15 r19 S20 ∧ wfC S20 ∧ shy S15 S20 ∧ ((r19.toInt = 0 ∧ (v_X7_isSound_J150 ro uo S20)) ∨ (¬ r19.toInt = 0 ∧ (∃ (r24 : Int32) (S25 : MS), vX7_fieldsFit S20 r24 S25 ∧ wfC S25 ∧ shy S20 S25 ∧ ((r24.toInt = 0 ∧ (v_X7_isSound_J150 ro uo S25)) ∨ (¬ r24.toInt = 0 ∧ (∃ (r29 : Int32) (S30 : MS), vX7_methodsFit S25 r29 S30 ∧ wfC S30 ∧ shy S25 S30 ∧ ((r29.toInt = 0 ∧ (v_X7_isSound_J150 ro uo S30)) ∨ (¬ r29.toInt = 0 ∧ (∃ (r34 : Int32) (S35 : MS), vX7_fileAttributesFit S30 r34 S35 ∧ wfC S35 ∧ shy S30 S35 ∧ ((r34.toInt = 0 ∧ (v_X7_isSound_J150 ro uo S35)) ∨ (¬ r34.toInt = 0 ∧ (∃ (r39 : Int32) (S40 : MS), vX7_entriesPoint S35 r39 S40 ∧ wfC S40 ∧ shy S35 S40 ∧ ((r39.toInt = 0 ∧ (v_X7_isSound_J150 ro uo S40)) ∨ (¬ r39.toInt = 0 ∧ (∃ (r44 : Int32) (S45 : MS), vX7_flagsHold S40 r44 S45 ∧ wfC S45 ∧ shy S40 S45 ∧ ((r44.toInt = 0 ∧ (v_X7_isSound_J150 ro uo S45)) ∨ (¬ r44.toInt = 0 ∧ (∃ (r49 : Int32) (S50 : MS), vX7_headHolds S45 r49 S50 ∧ wfC S50 ∧ shy S45 S50 ∧ ((r49.toInt = 0 ∧ (v_X7_isSound_J150 ro uo S50)) ∨ (¬ r49.toInt = 0 ∧ (∃ (r54 : Int32) (S55 : MS), vX7_namesHold S50 r54 S55 ∧ wfC S55 ∧ shy S50 S55 ∧ ((r54.toInt = 0 ∧ (v_X7_isSound_J150 ro uo S55)) ∨ (¬ r54.toInt = 0 ∧ (∃ (r59 : Int32) (S60 : MS), vX7_typesHold S55 r59 S60 ∧ wfC S60 ∧ shy S55 S60 ∧ ((r59.toInt = 0 ∧ (v_X7_isSound_J150 ro uo S60)) ∨ (¬ r59.toInt = 0 ∧ (∃ (r64 : Int32) (S65 : MS), vX7_noTwins S60 r64 S65 ∧ wfC S65 ∧ shy S60 S65 ∧ ((r64.toInt = 0 ∧ (v_X7_isSound_J150 ro uo S65)) ∨ (¬ r64.toInt = 0 ∧ (∃ (r69 : Int32) (S70 : MS), vX7_codesHold S65 r69 S70 ∧ wfC S70 ∧ shy S65 S70 ∧ ((r69.toInt = 0 ∧ (v_X7_isSound_J150 ro uo S70)) ∨ (¬ r69.toInt = 0 ∧ (((qI S70 9 15).toInt = (qI S70 9 1).toInt ∧ (v_X7_isSound_J146 ro uo S70)) ∨ (¬ (qI S70 9 15).toInt = (qI S70 9 1).toInt ∧ (∃ (r75 : Int32) (S76 : MS), vX7_breaks S70 (17 : Int32) (qI S70 9 15) r75 S76 ∧ wfC S76 ∧ shy S70 S76 ∧ ((r75.toInt = 0 ∧ (v_X7_isSound_J150 ro uo S76)) ∨ (¬ r75.toInt = 0 ∧ (v_X7_isSound_J146 ro uo S76)))))))))))))))))))))))))))))))))))))))))))))))))))
set_option maxRecDepth 100000 in
theorem ru_X7_isSound_J150 {ι : Type} {P Q : Int32 → MS → Prop} {U150 : MS} (i0 : ι) (K : ∀ (i : ι) (ro : Int32) (uo : MS), v_X7_isSound_J150 ro uo U150 → P ro uo) (h : w_X7_isSound_J150 Q U150) : w_X7_isSound_J150 (fun r u => Q r u ∧ P r u) U150 := by
  unfold w_X7_isSound_J150 at h ⊢
  intro y1_
  replace h := h y1_
  replace K := fun i ro uo z => K i ro uo ⟨y1_, z⟩
  exact ⟨h, K i0 _ _ ⟨rfl, rfl⟩⟩
set_option maxRecDepth 100000 in
theorem ru_X7_isSound_J146 {ι : Type} {P Q : Int32 → MS → Prop} {U146 : MS} (i0 : ι) (K : ∀ (i : ι) (ro : Int32) (uo : MS), v_X7_isSound_J146 ro uo U146 → P ro uo) (h : w_X7_isSound_J146 Q U146) : w_X7_isSound_J146 (fun r u => Q r u ∧ P r u) U146 := by
  unfold w_X7_isSound_J146 at h ⊢
  intro y2_
  replace h := h y2_
  replace K := fun i ro uo z => K i ro uo ⟨y2_, z⟩
  exact ⟨h, K i0 _ _ ⟨rfl, rfl⟩⟩
set_option maxRecDepth 100000 in
theorem ruX7_isSound {S : MS} {p1 : Nat} {Q : Int32 → MS → Prop} (h : wX7_isSound S p1 Q) : wX7_isSound S p1 (fun r u => Q r u ∧ vX7_isSound S p1 r u) := by
  have i0 : Unit := ()
  have K : ∀ (i : Unit) (ro : Int32) (uo : MS), vX7_isSound S p1 ro uo → vX7_isSound S p1 ro uo := fun _ _ _ z => z
  unfold wX7_isSound at h ⊢
  obtain ⟨g3_, h⟩ := h
  refine ⟨g3_, ?_⟩
  replace K := fun i ro uo z => K i ro uo ⟨g3_, z⟩
  intro S3 eS3 y4_ y5_
  replace h := h S3 eS3 y4_ y5_
  replace K := fun i ro uo z => K i ro uo ⟨S3, eS3, y4_, y5_, z⟩
  intro S4 eS4 y6_ y7_
  replace h := h S4 eS4 y6_ y7_
  replace K := fun i ro uo z => K i ro uo ⟨S4, eS4, y6_, y7_, z⟩
  intro S5 eS5 y8_ y9_
  replace h := h S5 eS5 y8_ y9_
  replace K := fun i ro uo z => K i ro uo ⟨S5, eS5, y8_, y9_, z⟩
  intro S6 eS6 y10_ y11_
  replace h := h S6 eS6 y10_ y11_
  replace K := fun i ro uo z => K i ro uo ⟨S6, eS6, y10_, y11_, z⟩
  intro S7 eS7 y12_ y13_
  replace h := h S7 eS7 y12_ y13_
  replace K := fun i ro uo z => K i ro uo ⟨S7, eS7, y12_, y13_, z⟩
  obtain ⟨Q9, h0, h⟩ := h
  refine ⟨_, ruX7_magicHolds h0, ?_⟩
  intro r9 S10 q14_ y15_ y16_
  replace h := h r9 S10 q14_.1 y15_ y16_
  replace K := fun i ro uo z => K i ro uo ⟨r9, S10, q14_.2, y15_, y16_, z⟩
  refine ⟨fun c => ?_, fun c => ?_⟩
  · replace h := h.1 c
    replace K := fun i ro uo z => K i ro uo (Or.inl ⟨c, z⟩)
    exact ru_X7_isSound_J150 i0 K h
  · replace h := h.2 c
    replace K := fun i ro uo z => K i ro uo (Or.inr ⟨c, z⟩)
    obtain ⟨Q9, h0, h⟩ := h
    refine ⟨_, ruX7_poolFits h0, ?_⟩
    intro r14 S15 q17_ y18_ y19_
    replace h := h r14 S15 q17_.1 y18_ y19_
    replace K := fun i ro uo z => K i ro uo ⟨r14, S15, q17_.2, y18_, y19_, z⟩
    refine ⟨fun c => ?_, fun c => ?_⟩
    · replace h := h.1 c
      replace K := fun i ro uo z => K i ro uo (Or.inl ⟨c, z⟩)
      exact ru_X7_isSound_J150 i0 K h
    · replace h := h.2 c
      replace K := fun i ro uo z => K i ro uo (Or.inr ⟨c, z⟩)
      obtain ⟨Q9, h0, h⟩ := h
      refine ⟨_, ruX7_headFits h0, ?_⟩
      intro r19 S20 q20_ y21_ y22_
      replace h := h r19 S20 q20_.1 y21_ y22_
      replace K := fun i ro uo z => K i ro uo ⟨r19, S20, q20_.2, y21_, y22_, z⟩
      refine ⟨fun c => ?_, fun c => ?_⟩
      · replace h := h.1 c
        replace K := fun i ro uo z => K i ro uo (Or.inl ⟨c, z⟩)
        exact ru_X7_isSound_J150 i0 K h
      · replace h := h.2 c
        replace K := fun i ro uo z => K i ro uo (Or.inr ⟨c, z⟩)
        obtain ⟨Q9, h0, h⟩ := h
        refine ⟨_, ruX7_fieldsFit h0, ?_⟩
        intro r24 S25 q23_ y24_ y25_
        replace h := h r24 S25 q23_.1 y24_ y25_
        replace K := fun i ro uo z => K i ro uo ⟨r24, S25, q23_.2, y24_, y25_, z⟩
        refine ⟨fun c => ?_, fun c => ?_⟩
        · replace h := h.1 c
          replace K := fun i ro uo z => K i ro uo (Or.inl ⟨c, z⟩)
          exact ru_X7_isSound_J150 i0 K h
        · replace h := h.2 c
          replace K := fun i ro uo z => K i ro uo (Or.inr ⟨c, z⟩)
          obtain ⟨Q9, h0, h⟩ := h
          refine ⟨_, ruX7_methodsFit h0, ?_⟩
          intro r29 S30 q26_ y27_ y28_
          replace h := h r29 S30 q26_.1 y27_ y28_
          replace K := fun i ro uo z => K i ro uo ⟨r29, S30, q26_.2, y27_, y28_, z⟩
          refine ⟨fun c => ?_, fun c => ?_⟩
          · replace h := h.1 c
            replace K := fun i ro uo z => K i ro uo (Or.inl ⟨c, z⟩)
            exact ru_X7_isSound_J150 i0 K h
          · replace h := h.2 c
            replace K := fun i ro uo z => K i ro uo (Or.inr ⟨c, z⟩)
            obtain ⟨Q9, h0, h⟩ := h
            refine ⟨_, ruX7_fileAttributesFit h0, ?_⟩
            intro r34 S35 q29_ y30_ y31_
            replace h := h r34 S35 q29_.1 y30_ y31_
            replace K := fun i ro uo z => K i ro uo ⟨r34, S35, q29_.2, y30_, y31_, z⟩
            refine ⟨fun c => ?_, fun c => ?_⟩
            · replace h := h.1 c
              replace K := fun i ro uo z => K i ro uo (Or.inl ⟨c, z⟩)
              exact ru_X7_isSound_J150 i0 K h
            · replace h := h.2 c
              replace K := fun i ro uo z => K i ro uo (Or.inr ⟨c, z⟩)
              obtain ⟨Q9, h0, h⟩ := h
              refine ⟨_, ruX7_entriesPoint h0, ?_⟩
              intro r39 S40 q32_ y33_ y34_
              replace h := h r39 S40 q32_.1 y33_ y34_
              replace K := fun i ro uo z => K i ro uo ⟨r39, S40, q32_.2, y33_, y34_, z⟩
              refine ⟨fun c => ?_, fun c => ?_⟩
              · replace h := h.1 c
                replace K := fun i ro uo z => K i ro uo (Or.inl ⟨c, z⟩)
                exact ru_X7_isSound_J150 i0 K h
              · replace h := h.2 c
                replace K := fun i ro uo z => K i ro uo (Or.inr ⟨c, z⟩)
                obtain ⟨Q9, h0, h⟩ := h
                refine ⟨_, ruX7_flagsHold h0, ?_⟩
                intro r44 S45 q35_ y36_ y37_
                replace h := h r44 S45 q35_.1 y36_ y37_
                replace K := fun i ro uo z => K i ro uo ⟨r44, S45, q35_.2, y36_, y37_, z⟩
                refine ⟨fun c => ?_, fun c => ?_⟩
                · replace h := h.1 c
                  replace K := fun i ro uo z => K i ro uo (Or.inl ⟨c, z⟩)
                  exact ru_X7_isSound_J150 i0 K h
                · replace h := h.2 c
                  replace K := fun i ro uo z => K i ro uo (Or.inr ⟨c, z⟩)
                  obtain ⟨Q9, h0, h⟩ := h
                  refine ⟨_, ruX7_headHolds h0, ?_⟩
                  intro r49 S50 q38_ y39_ y40_
                  replace h := h r49 S50 q38_.1 y39_ y40_
                  replace K := fun i ro uo z => K i ro uo ⟨r49, S50, q38_.2, y39_, y40_, z⟩
                  refine ⟨fun c => ?_, fun c => ?_⟩
                  · replace h := h.1 c
                    replace K := fun i ro uo z => K i ro uo (Or.inl ⟨c, z⟩)
                    exact ru_X7_isSound_J150 i0 K h
                  · replace h := h.2 c
                    replace K := fun i ro uo z => K i ro uo (Or.inr ⟨c, z⟩)
                    obtain ⟨Q9, h0, h⟩ := h
                    refine ⟨_, ruX7_namesHold h0, ?_⟩
                    intro r54 S55 q41_ y42_ y43_
                    replace h := h r54 S55 q41_.1 y42_ y43_
                    replace K := fun i ro uo z => K i ro uo ⟨r54, S55, q41_.2, y42_, y43_, z⟩
                    refine ⟨fun c => ?_, fun c => ?_⟩
                    · replace h := h.1 c
                      replace K := fun i ro uo z => K i ro uo (Or.inl ⟨c, z⟩)
                      exact ru_X7_isSound_J150 i0 K h
                    · replace h := h.2 c
                      replace K := fun i ro uo z => K i ro uo (Or.inr ⟨c, z⟩)
                      obtain ⟨Q9, h0, h⟩ := h
                      refine ⟨_, ruX7_typesHold h0, ?_⟩
                      intro r59 S60 q44_ y45_ y46_
                      replace h := h r59 S60 q44_.1 y45_ y46_
                      replace K := fun i ro uo z => K i ro uo ⟨r59, S60, q44_.2, y45_, y46_, z⟩
                      refine ⟨fun c => ?_, fun c => ?_⟩
                      · replace h := h.1 c
                        replace K := fun i ro uo z => K i ro uo (Or.inl ⟨c, z⟩)
                        exact ru_X7_isSound_J150 i0 K h
                      · replace h := h.2 c
                        replace K := fun i ro uo z => K i ro uo (Or.inr ⟨c, z⟩)
                        obtain ⟨Q9, h0, h⟩ := h
                        refine ⟨_, ruX7_noTwins h0, ?_⟩
                        intro r64 S65 q47_ y48_ y49_
                        replace h := h r64 S65 q47_.1 y48_ y49_
                        replace K := fun i ro uo z => K i ro uo ⟨r64, S65, q47_.2, y48_, y49_, z⟩
                        refine ⟨fun c => ?_, fun c => ?_⟩
                        · replace h := h.1 c
                          replace K := fun i ro uo z => K i ro uo (Or.inl ⟨c, z⟩)
                          exact ru_X7_isSound_J150 i0 K h
                        · replace h := h.2 c
                          replace K := fun i ro uo z => K i ro uo (Or.inr ⟨c, z⟩)
                          obtain ⟨Q9, h0, h⟩ := h
                          refine ⟨_, ruX7_codesHold h0, ?_⟩
                          intro r69 S70 q50_ y51_ y52_
                          replace h := h r69 S70 q50_.1 y51_ y52_
                          replace K := fun i ro uo z => K i ro uo ⟨r69, S70, q50_.2, y51_, y52_, z⟩
                          refine ⟨fun c => ?_, fun c => ?_⟩
                          · replace h := h.1 c
                            replace K := fun i ro uo z => K i ro uo (Or.inl ⟨c, z⟩)
                            exact ru_X7_isSound_J150 i0 K h
                          · replace h := h.2 c
                            replace K := fun i ro uo z => K i ro uo (Or.inr ⟨c, z⟩)
                            refine ⟨fun c => ?_, fun c => ?_⟩
                            · replace h := h.1 c
                              replace K := fun i ro uo z => K i ro uo (Or.inl ⟨c, z⟩)
                              exact ru_X7_isSound_J146 i0 K h
                            · replace h := h.2 c
                              replace K := fun i ro uo z => K i ro uo (Or.inr ⟨c, z⟩)
                              obtain ⟨Q9, h0, h⟩ := h
                              refine ⟨_, ruX7_breaks h0, ?_⟩
                              intro r75 S76 q53_ y54_ y55_
                              replace h := h r75 S76 q53_.1 y54_ y55_
                              replace K := fun i ro uo z => K i ro uo ⟨r75, S76, q53_.2, y54_, y55_, z⟩
                              refine ⟨fun c => ?_, fun c => ?_⟩
                              · replace h := h.1 c
                                replace K := fun i ro uo z => K i ro uo (Or.inl ⟨c, z⟩)
                                exact ru_X7_isSound_J150 i0 K h
                              · replace h := h.2 c
                                replace K := fun i ro uo z => K i ro uo (Or.inr ⟨c, z⟩)
                                exact ru_X7_isSound_J146 i0 K h
set_option maxRecDepth 100000 in
theorem vw_X7_isSound_J150 {ro : Int32} {uo : MS} {U150 : MS} (h : v_X7_isSound_J150 ro uo U150) : w_X7_isSound_J150 (fun r u => r = ro ∧ u = uo) U150 := by
  unfold v_X7_isSound_J150 at h
  unfold w_X7_isSound_J150
  intro _
  replace h := h.2
  exact ⟨h.1.symm, h.2.symm⟩
set_option maxRecDepth 100000 in
theorem vp_X7_isSound_J150 {ro : Int32} {uo : MS} {P : Int32 → MS → Prop} {U150 : MS} (h : v_X7_isSound_J150 ro uo U150) (w : w_X7_isSound_J150 P U150) : P ro uo := by
  unfold v_X7_isSound_J150 at h
  unfold w_X7_isSound_J150 at w
  obtain ⟨y1_, h⟩ := h
  replace w := w y1_
  rw [h.1, h.2]
  exact w
set_option maxRecDepth 100000 in
theorem vw_X7_isSound_J146 {ro : Int32} {uo : MS} {U146 : MS} (h : v_X7_isSound_J146 ro uo U146) : w_X7_isSound_J146 (fun r u => r = ro ∧ u = uo) U146 := by
  unfold v_X7_isSound_J146 at h
  unfold w_X7_isSound_J146
  intro _
  replace h := h.2
  exact ⟨h.1.symm, h.2.symm⟩
set_option maxRecDepth 100000 in
theorem vp_X7_isSound_J146 {ro : Int32} {uo : MS} {P : Int32 → MS → Prop} {U146 : MS} (h : v_X7_isSound_J146 ro uo U146) (w : w_X7_isSound_J146 P U146) : P ro uo := by
  unfold v_X7_isSound_J146 at h
  unfold w_X7_isSound_J146 at w
  obtain ⟨y2_, h⟩ := h
  replace w := w y2_
  rw [h.1, h.2]
  exact w
set_option maxRecDepth 100000 in
theorem vwX7_isSound {S : MS} {p1 : Nat} {ro : Int32} {uo : MS} (h : vX7_isSound S p1 ro uo) : wX7_isSound S p1 (fun r u => r = ro ∧ u = uo) := by
  unfold vX7_isSound at h
  unfold wX7_isSound
  obtain ⟨g9, h⟩ := h
  refine ⟨g9, ?_⟩
  obtain ⟨v9, e9, h⟩ := h
  intro x9 d9 _ _
  have c9 : v9 = x9 := e9.trans d9.symm
  subst c9
  replace h := h.2.2
  obtain ⟨v9, e9, h⟩ := h
  intro x9 d9 _ _
  have c9 : v9 = x9 := e9.trans d9.symm
  subst c9
  replace h := h.2.2
  obtain ⟨v9, e9, h⟩ := h
  intro x9 d9 _ _
  have c9 : v9 = x9 := e9.trans d9.symm
  subst c9
  replace h := h.2.2
  obtain ⟨v9, e9, h⟩ := h
  intro x9 d9 _ _
  have c9 : v9 = x9 := e9.trans d9.symm
  subst c9
  replace h := h.2.2
  obtain ⟨v9, e9, h⟩ := h
  intro x9 d9 _ _
  have c9 : v9 = x9 := e9.trans d9.symm
  subst c9
  replace h := h.2.2
  obtain ⟨p9, q9, z9, h⟩ := h
  refine ⟨_, vwX7_magicHolds z9, ?_⟩
  rintro p8 q8 ⟨d8, d9⟩ _ _
  subst d8
  subst d9
  replace h := h.2.2
  rcases h with ⟨c, h⟩ | ⟨c, h⟩
  · refine ⟨fun _ => ?_, fun c2 => absurd c c2⟩
    exact vw_X7_isSound_J150 h
  · refine ⟨fun c2 => absurd c2 c, fun _ => ?_⟩
    obtain ⟨p9, q9, z9, h⟩ := h
    refine ⟨_, vwX7_poolFits z9, ?_⟩
    rintro p8 q8 ⟨d8, d9⟩ _ _
    subst d8
    subst d9
    replace h := h.2.2
    rcases h with ⟨c, h⟩ | ⟨c, h⟩
    · refine ⟨fun _ => ?_, fun c2 => absurd c c2⟩
      exact vw_X7_isSound_J150 h
    · refine ⟨fun c2 => absurd c2 c, fun _ => ?_⟩
      obtain ⟨p9, q9, z9, h⟩ := h
      refine ⟨_, vwX7_headFits z9, ?_⟩
      rintro p8 q8 ⟨d8, d9⟩ _ _
      subst d8
      subst d9
      replace h := h.2.2
      rcases h with ⟨c, h⟩ | ⟨c, h⟩
      · refine ⟨fun _ => ?_, fun c2 => absurd c c2⟩
        exact vw_X7_isSound_J150 h
      · refine ⟨fun c2 => absurd c2 c, fun _ => ?_⟩
        obtain ⟨p9, q9, z9, h⟩ := h
        refine ⟨_, vwX7_fieldsFit z9, ?_⟩
        rintro p8 q8 ⟨d8, d9⟩ _ _
        subst d8
        subst d9
        replace h := h.2.2
        rcases h with ⟨c, h⟩ | ⟨c, h⟩
        · refine ⟨fun _ => ?_, fun c2 => absurd c c2⟩
          exact vw_X7_isSound_J150 h
        · refine ⟨fun c2 => absurd c2 c, fun _ => ?_⟩
          obtain ⟨p9, q9, z9, h⟩ := h
          refine ⟨_, vwX7_methodsFit z9, ?_⟩
          rintro p8 q8 ⟨d8, d9⟩ _ _
          subst d8
          subst d9
          replace h := h.2.2
          rcases h with ⟨c, h⟩ | ⟨c, h⟩
          · refine ⟨fun _ => ?_, fun c2 => absurd c c2⟩
            exact vw_X7_isSound_J150 h
          · refine ⟨fun c2 => absurd c2 c, fun _ => ?_⟩
            obtain ⟨p9, q9, z9, h⟩ := h
            refine ⟨_, vwX7_fileAttributesFit z9, ?_⟩
            rintro p8 q8 ⟨d8, d9⟩ _ _
            subst d8
            subst d9
            replace h := h.2.2
            rcases h with ⟨c, h⟩ | ⟨c, h⟩
            · refine ⟨fun _ => ?_, fun c2 => absurd c c2⟩
              exact vw_X7_isSound_J150 h
            · refine ⟨fun c2 => absurd c2 c, fun _ => ?_⟩
              obtain ⟨p9, q9, z9, h⟩ := h
              refine ⟨_, vwX7_entriesPoint z9, ?_⟩
              rintro p8 q8 ⟨d8, d9⟩ _ _
              subst d8
              subst d9
              replace h := h.2.2
              rcases h with ⟨c, h⟩ | ⟨c, h⟩
              · refine ⟨fun _ => ?_, fun c2 => absurd c c2⟩
                exact vw_X7_isSound_J150 h
              · refine ⟨fun c2 => absurd c2 c, fun _ => ?_⟩
                obtain ⟨p9, q9, z9, h⟩ := h
                refine ⟨_, vwX7_flagsHold z9, ?_⟩
                rintro p8 q8 ⟨d8, d9⟩ _ _
                subst d8
                subst d9
                replace h := h.2.2
                rcases h with ⟨c, h⟩ | ⟨c, h⟩
                · refine ⟨fun _ => ?_, fun c2 => absurd c c2⟩
                  exact vw_X7_isSound_J150 h
                · refine ⟨fun c2 => absurd c2 c, fun _ => ?_⟩
                  obtain ⟨p9, q9, z9, h⟩ := h
                  refine ⟨_, vwX7_headHolds z9, ?_⟩
                  rintro p8 q8 ⟨d8, d9⟩ _ _
                  subst d8
                  subst d9
                  replace h := h.2.2
                  rcases h with ⟨c, h⟩ | ⟨c, h⟩
                  · refine ⟨fun _ => ?_, fun c2 => absurd c c2⟩
                    exact vw_X7_isSound_J150 h
                  · refine ⟨fun c2 => absurd c2 c, fun _ => ?_⟩
                    obtain ⟨p9, q9, z9, h⟩ := h
                    refine ⟨_, vwX7_namesHold z9, ?_⟩
                    rintro p8 q8 ⟨d8, d9⟩ _ _
                    subst d8
                    subst d9
                    replace h := h.2.2
                    rcases h with ⟨c, h⟩ | ⟨c, h⟩
                    · refine ⟨fun _ => ?_, fun c2 => absurd c c2⟩
                      exact vw_X7_isSound_J150 h
                    · refine ⟨fun c2 => absurd c2 c, fun _ => ?_⟩
                      obtain ⟨p9, q9, z9, h⟩ := h
                      refine ⟨_, vwX7_typesHold z9, ?_⟩
                      rintro p8 q8 ⟨d8, d9⟩ _ _
                      subst d8
                      subst d9
                      replace h := h.2.2
                      rcases h with ⟨c, h⟩ | ⟨c, h⟩
                      · refine ⟨fun _ => ?_, fun c2 => absurd c c2⟩
                        exact vw_X7_isSound_J150 h
                      · refine ⟨fun c2 => absurd c2 c, fun _ => ?_⟩
                        obtain ⟨p9, q9, z9, h⟩ := h
                        refine ⟨_, vwX7_noTwins z9, ?_⟩
                        rintro p8 q8 ⟨d8, d9⟩ _ _
                        subst d8
                        subst d9
                        replace h := h.2.2
                        rcases h with ⟨c, h⟩ | ⟨c, h⟩
                        · refine ⟨fun _ => ?_, fun c2 => absurd c c2⟩
                          exact vw_X7_isSound_J150 h
                        · refine ⟨fun c2 => absurd c2 c, fun _ => ?_⟩
                          obtain ⟨p9, q9, z9, h⟩ := h
                          refine ⟨_, vwX7_codesHold z9, ?_⟩
                          rintro p8 q8 ⟨d8, d9⟩ _ _
                          subst d8
                          subst d9
                          replace h := h.2.2
                          rcases h with ⟨c, h⟩ | ⟨c, h⟩
                          · refine ⟨fun _ => ?_, fun c2 => absurd c c2⟩
                            exact vw_X7_isSound_J150 h
                          · refine ⟨fun c2 => absurd c2 c, fun _ => ?_⟩
                            rcases h with ⟨c, h⟩ | ⟨c, h⟩
                            · refine ⟨fun _ => ?_, fun c2 => absurd c c2⟩
                              exact vw_X7_isSound_J146 h
                            · refine ⟨fun c2 => absurd c2 c, fun _ => ?_⟩
                              obtain ⟨p9, q9, z9, h⟩ := h
                              refine ⟨_, vwX7_breaks z9, ?_⟩
                              rintro p8 q8 ⟨d8, d9⟩ _ _
                              subst d8
                              subst d9
                              replace h := h.2.2
                              rcases h with ⟨c, h⟩ | ⟨c, h⟩
                              · refine ⟨fun _ => ?_, fun c2 => absurd c c2⟩
                                exact vw_X7_isSound_J150 h
                              · refine ⟨fun c2 => absurd c2 c, fun _ => ?_⟩
                                exact vw_X7_isSound_J146 h
set_option maxRecDepth 100000 in
theorem vpX7_isSound {S : MS} {p1 : Nat} {ro : Int32} {uo : MS} {P : Int32 → MS → Prop} (h : vX7_isSound S p1 ro uo) (w : wX7_isSound S p1 P) : P ro uo := by
  unfold vX7_isSound at h
  unfold wX7_isSound at w
  replace h := h.2
  replace w := w.2
  obtain ⟨v9, e9, y3_, y4_, h⟩ := h
  replace w := w v9 e9 y3_ y4_
  obtain ⟨v9, e9, y5_, y6_, h⟩ := h
  replace w := w v9 e9 y5_ y6_
  obtain ⟨v9, e9, y7_, y8_, h⟩ := h
  replace w := w v9 e9 y7_ y8_
  obtain ⟨v9, e9, y9_, y10_, h⟩ := h
  replace w := w v9 e9 y9_ y10_
  obtain ⟨v9, e9, y11_, y12_, h⟩ := h
  replace w := w v9 e9 y11_ y12_
  obtain ⟨p9, q9, z9, y13_, y14_, h⟩ := h
  obtain ⟨Q9, w0, w⟩ := w
  replace w := w p9 q9 (vpX7_magicHolds z9 w0) y13_ y14_
  rcases h with ⟨c, h⟩ | ⟨c, h⟩
  · replace w := w.1 c
    exact vp_X7_isSound_J150 h w
  · replace w := w.2 c
    obtain ⟨p9, q9, z9, y15_, y16_, h⟩ := h
    obtain ⟨Q9, w0, w⟩ := w
    replace w := w p9 q9 (vpX7_poolFits z9 w0) y15_ y16_
    rcases h with ⟨c, h⟩ | ⟨c, h⟩
    · replace w := w.1 c
      exact vp_X7_isSound_J150 h w
    · replace w := w.2 c
      obtain ⟨p9, q9, z9, y17_, y18_, h⟩ := h
      obtain ⟨Q9, w0, w⟩ := w
      replace w := w p9 q9 (vpX7_headFits z9 w0) y17_ y18_
      rcases h with ⟨c, h⟩ | ⟨c, h⟩
      · replace w := w.1 c
        exact vp_X7_isSound_J150 h w
      · replace w := w.2 c
        obtain ⟨p9, q9, z9, y19_, y20_, h⟩ := h
        obtain ⟨Q9, w0, w⟩ := w
        replace w := w p9 q9 (vpX7_fieldsFit z9 w0) y19_ y20_
        rcases h with ⟨c, h⟩ | ⟨c, h⟩
        · replace w := w.1 c
          exact vp_X7_isSound_J150 h w
        · replace w := w.2 c
          obtain ⟨p9, q9, z9, y21_, y22_, h⟩ := h
          obtain ⟨Q9, w0, w⟩ := w
          replace w := w p9 q9 (vpX7_methodsFit z9 w0) y21_ y22_
          rcases h with ⟨c, h⟩ | ⟨c, h⟩
          · replace w := w.1 c
            exact vp_X7_isSound_J150 h w
          · replace w := w.2 c
            obtain ⟨p9, q9, z9, y23_, y24_, h⟩ := h
            obtain ⟨Q9, w0, w⟩ := w
            replace w := w p9 q9 (vpX7_fileAttributesFit z9 w0) y23_ y24_
            rcases h with ⟨c, h⟩ | ⟨c, h⟩
            · replace w := w.1 c
              exact vp_X7_isSound_J150 h w
            · replace w := w.2 c
              obtain ⟨p9, q9, z9, y25_, y26_, h⟩ := h
              obtain ⟨Q9, w0, w⟩ := w
              replace w := w p9 q9 (vpX7_entriesPoint z9 w0) y25_ y26_
              rcases h with ⟨c, h⟩ | ⟨c, h⟩
              · replace w := w.1 c
                exact vp_X7_isSound_J150 h w
              · replace w := w.2 c
                obtain ⟨p9, q9, z9, y27_, y28_, h⟩ := h
                obtain ⟨Q9, w0, w⟩ := w
                replace w := w p9 q9 (vpX7_flagsHold z9 w0) y27_ y28_
                rcases h with ⟨c, h⟩ | ⟨c, h⟩
                · replace w := w.1 c
                  exact vp_X7_isSound_J150 h w
                · replace w := w.2 c
                  obtain ⟨p9, q9, z9, y29_, y30_, h⟩ := h
                  obtain ⟨Q9, w0, w⟩ := w
                  replace w := w p9 q9 (vpX7_headHolds z9 w0) y29_ y30_
                  rcases h with ⟨c, h⟩ | ⟨c, h⟩
                  · replace w := w.1 c
                    exact vp_X7_isSound_J150 h w
                  · replace w := w.2 c
                    obtain ⟨p9, q9, z9, y31_, y32_, h⟩ := h
                    obtain ⟨Q9, w0, w⟩ := w
                    replace w := w p9 q9 (vpX7_namesHold z9 w0) y31_ y32_
                    rcases h with ⟨c, h⟩ | ⟨c, h⟩
                    · replace w := w.1 c
                      exact vp_X7_isSound_J150 h w
                    · replace w := w.2 c
                      obtain ⟨p9, q9, z9, y33_, y34_, h⟩ := h
                      obtain ⟨Q9, w0, w⟩ := w
                      replace w := w p9 q9 (vpX7_typesHold z9 w0) y33_ y34_
                      rcases h with ⟨c, h⟩ | ⟨c, h⟩
                      · replace w := w.1 c
                        exact vp_X7_isSound_J150 h w
                      · replace w := w.2 c
                        obtain ⟨p9, q9, z9, y35_, y36_, h⟩ := h
                        obtain ⟨Q9, w0, w⟩ := w
                        replace w := w p9 q9 (vpX7_noTwins z9 w0) y35_ y36_
                        rcases h with ⟨c, h⟩ | ⟨c, h⟩
                        · replace w := w.1 c
                          exact vp_X7_isSound_J150 h w
                        · replace w := w.2 c
                          obtain ⟨p9, q9, z9, y37_, y38_, h⟩ := h
                          obtain ⟨Q9, w0, w⟩ := w
                          replace w := w p9 q9 (vpX7_codesHold z9 w0) y37_ y38_
                          rcases h with ⟨c, h⟩ | ⟨c, h⟩
                          · replace w := w.1 c
                            exact vp_X7_isSound_J150 h w
                          · replace w := w.2 c
                            rcases h with ⟨c, h⟩ | ⟨c, h⟩
                            · replace w := w.1 c
                              exact vp_X7_isSound_J146 h w
                            · replace w := w.2 c
                              obtain ⟨p9, q9, z9, y39_, y40_, h⟩ := h
                              obtain ⟨Q9, w0, w⟩ := w
                              replace w := w p9 q9 (vpX7_breaks z9 w0) y39_ y40_
                              rcases h with ⟨c, h⟩ | ⟨c, h⟩
                              · replace w := w.1 c
                                exact vp_X7_isSound_J150 h w
                              · replace w := w.2 c
                                exact vp_X7_isSound_J146 h w
def v_X9_isDone_J115 (ro : Int32) (uo : MS) (U115 : MS) : Prop := (wfC U115 ∧ (ro = (0 : Int32) ∧ uo = U115))
def v_X9_isDone_J141 (ro : Int32) (uo : MS) (U141 : MS) : Prop := (wfC U141 ∧ (ro = (0 : Int32) ∧ uo = U141))
def v_X9_isDone_J191 (ro : Int32) (uo : MS) (U191 : MS) : Prop := (wfC U191 ∧ (ro = (0 : Int32) ∧ uo = U191))
def v_X9_isDone_J223 (ro : Int32) (uo : MS) (U223 : MS) : Prop := (wfC U223 ∧ (ro = (0 : Int32) ∧ uo = U223))
def v_X9_isDone_J255 (ro : Int32) (uo : MS) (U255 : MS) : Prop := (wfC U255 ∧ (ro = (0 : Int32) ∧ uo = U255))
def vX9_isDone (S : MS) (x1 : Int32) (x2 : Int32) (ro : Int32) (uo : MS) : Prop := ((x1.toInt = 2 ∧ (∃ (r89 : Int32) (S90 : MS), vX9_isRedirected S x2 r89 S90 ∧ wfC S90 ∧ shy S S90 ∧ (ro = r89 ∧ uo = S90))) ∨ (¬ x1.toInt = 2 ∧ ((x2.toInt < ((qI S (qO S 66 0) 2) - (1 : Int32)).toInt ∧ ((x1.toInt = 3 ∧ (d_X8_opAt S (qO S 66 0) x2 ∧ (((fX8_opAt S (qO S 66 0) x2).toInt = 167 ∧ (d_X8_argAt S (qO S 66 0) x2 ∧ (((lg_cmp (fX8_argAt S (qO S 66 0) x2) ((x2 + (1 : Int32)).toInt64)).toInt = 0 ∧ (∃ (r18 : Int32) (S19 : MS), vX9_isDropped S x2 (1 : Int32) r18 S19 ∧ wfC S19 ∧ shy S S19 ∧ ((r18.toInt = 0 ∧ (v_X9_isDone_J115 ro uo S19)) ∨ (¬ r18.toInt = 0 ∧ (ro = (1 : Int32) ∧ uo = S19))))) ∨ (¬ (lg_cmp (fX8_argAt S (qO S 66 0) x2) ((x2 + (1 : Int32)).toInt64)).toInt = 0 ∧ (v_X9_isDone_J115 ro uo S))))) ∨ (¬ (fX8_opAt S (qO S 66 0) x2).toInt = 167 ∧ (v_X9_isDone_J115 ro uo S))))) ∨ (¬ x1.toInt = 3 ∧ ((x1.toInt = 4 ∧ (d_X8_opAt S (qO S 66 0) x2 ∧ (((fX8_opAt S (qO S 66 0) x2).toInt = 0 ∧ (∃ (r28 : Int32) (S29 : MS), vX9_isDropped S x2 (1 : Int32) r28 S29 ∧ wfC S29 ∧ shy S S29 ∧ ((r28.toInt = 0 ∧ (v_X9_isDone_J141 ro uo S29)) ∨ (¬ r28.toInt = 0 ∧ (ro = (1 : Int32) ∧ uo = S29))))) ∨ (¬ (fX8_opAt S (qO S 66 0) x2).toInt = 0 ∧ (v_X9_isDone_J141 ro uo S))))) ∨ (¬ x1.toInt = 4 ∧ ((x1.toInt = 5 ∧ (∃ (r33 : Int32) (S34 : MS), vX9_isFolded S x2 r33 S34 ∧ wfC S34 ∧ shy S S34 ∧ (ro = r33 ∧ uo = S34))) ∨ (¬ x1.toInt = 5 ∧ ((x1.toInt = 6 ∧ (∃ (r37 : Int32) (S38 : MS), vX9_isUnaryFolded S x2 r37 S38 ∧ wfC S38 ∧ shy S S38 ∧ (ro = r37 ∧ uo = S38))) ∨ (¬ x1.toInt = 6 ∧ ((x1.toInt = 7 ∧ (∃ (r41 : Int32) (S42 : MS), vX9_isJumpDecided S x2 r41 S42 ∧ wfC S42 ∧ shy S S42 ∧ (ro = r41 ∧ uo = S42))) ∨ (¬ x1.toInt = 7 ∧ ((x1.toInt = 8 ∧ (d_X9_isWindow S x2 (2 : Int32) ∧ (((fX9_isWindow S x2 (2 : Int32)).toInt = 0 ∧ (v_X9_isDone_J191 ro uo S)) ∨ (¬ (fX9_isWindow S x2 (2 : Int32)).toInt = 0 ∧ (d_X9_isNeutral S x2 ∧ (((fX9_isNeutral S x2).toInt = 0 ∧ (v_X9_isDone_J191 ro uo S)) ∨ (¬ (fX9_isNeutral S x2).toInt = 0 ∧ (∃ (r53 : Int32) (S54 : MS), vX9_isDropped S x2 (2 : Int32) r53 S54 ∧ wfC S54 ∧ shy S S54 ∧ ((r53.toInt = 0 ∧ (v_X9_isDone_J191 ro uo S54)) ∨ (¬ r53.toInt = 0 ∧ (ro = (1 : Int32) ∧ uo = S54))))))))))) ∨ (¬ x1.toInt = 8 ∧ ((x1.toInt = 9 ∧ (d_X9_isWindow S x2 (2 : Int32) ∧ (((fX9_isWindow S x2 (2 : Int32)).toInt = 0 ∧ (v_X9_isDone_J223 ro uo S)) ∨ (¬ (fX9_isWindow S x2 (2 : Int32)).toInt = 0 ∧ (d_X9_isPopped S x2 ∧ (((fX9_isPopped S x2).toInt = 0 ∧ (v_X9_isDone_J223 ro uo S)) ∨ (¬ (fX9_isPopped S x2).toInt = 0 ∧ (∃ (r66 : Int32) (S67 : MS), vX9_isDropped S x2 (2 : Int32) r66 S67 ∧ wfC S67 ∧ shy S S67 ∧ ((r66.toInt = 0 ∧ (v_X9_isDone_J223 ro uo S67)) ∨ (¬ r66.toInt = 0 ∧ (ro = (1 : Int32) ∧ uo = S67))))))))))) ∨ (¬ x1.toInt = 9 ∧ ((x1.toInt = 10 ∧ (d_X9_isWindow S x2 (2 : Int32) ∧ (((fX9_isWindow S x2 (2 : Int32)).toInt = 0 ∧ (v_X9_isDone_J255 ro uo S)) ∨ (¬ (fX9_isWindow S x2 (2 : Int32)).toInt = 0 ∧ (∃ (r75 : Int32) (S76 : MS), vX9_isPassedOn S x2 r75 S76 ∧ wfC S76 ∧ shy S S76 ∧ ((r75.toInt = 0 ∧ (v_X9_isDone_J255 ro uo S76)) ∨ (¬ r75.toInt = 0 ∧ (∃ (r80 : Int32) (S81 : MS), vX9_isDropped S76 x2 (2 : Int32) r80 S81 ∧ wfC S81 ∧ shy S76 S81 ∧ ((r80.toInt = 0 ∧ (v_X9_isDone_J255 ro uo S81)) ∨ (¬ r80.toInt = 0 ∧ (ro = (1 : Int32) ∧ uo = S81))))))))))) ∨ (¬ x1.toInt = 10 ∧ (∃ (r85 : Int32) (S86 : MS), vX9_isDeadStoreDone S x2 r85 S86 ∧ wfC S86 ∧ shy S S86 ∧ (ro = r85 ∧ uo = S86))))))))))))))))))) ∨ (¬ x2.toInt < ((qI S (qO S 66 0) 2) - (1 : Int32)).toInt ∧ (ro = (0 : Int32) ∧ uo = S)))))
set_option maxRecDepth 100000 in
theorem ru_X9_isDone_J115 {ι : Type} {P Q : Int32 → MS → Prop} {U115 : MS} (i0 : ι) (K : ∀ (i : ι) (ro : Int32) (uo : MS), v_X9_isDone_J115 ro uo U115 → P ro uo) (h : w_X9_isDone_J115 Q U115) : w_X9_isDone_J115 (fun r u => Q r u ∧ P r u) U115 := by
  unfold w_X9_isDone_J115 at h ⊢
  intro y1_
  replace h := h y1_
  replace K := fun i ro uo z => K i ro uo ⟨y1_, z⟩
  exact ⟨h, K i0 _ _ ⟨rfl, rfl⟩⟩
set_option maxRecDepth 100000 in
theorem ru_X9_isDone_J141 {ι : Type} {P Q : Int32 → MS → Prop} {U141 : MS} (i0 : ι) (K : ∀ (i : ι) (ro : Int32) (uo : MS), v_X9_isDone_J141 ro uo U141 → P ro uo) (h : w_X9_isDone_J141 Q U141) : w_X9_isDone_J141 (fun r u => Q r u ∧ P r u) U141 := by
  unfold w_X9_isDone_J141 at h ⊢
  intro y2_
  replace h := h y2_
  replace K := fun i ro uo z => K i ro uo ⟨y2_, z⟩
  exact ⟨h, K i0 _ _ ⟨rfl, rfl⟩⟩
set_option maxRecDepth 100000 in
theorem ru_X9_isDone_J191 {ι : Type} {P Q : Int32 → MS → Prop} {U191 : MS} (i0 : ι) (K : ∀ (i : ι) (ro : Int32) (uo : MS), v_X9_isDone_J191 ro uo U191 → P ro uo) (h : w_X9_isDone_J191 Q U191) : w_X9_isDone_J191 (fun r u => Q r u ∧ P r u) U191 := by
  unfold w_X9_isDone_J191 at h ⊢
  intro y3_
  replace h := h y3_
  replace K := fun i ro uo z => K i ro uo ⟨y3_, z⟩
  exact ⟨h, K i0 _ _ ⟨rfl, rfl⟩⟩
set_option maxRecDepth 100000 in
theorem ru_X9_isDone_J223 {ι : Type} {P Q : Int32 → MS → Prop} {U223 : MS} (i0 : ι) (K : ∀ (i : ι) (ro : Int32) (uo : MS), v_X9_isDone_J223 ro uo U223 → P ro uo) (h : w_X9_isDone_J223 Q U223) : w_X9_isDone_J223 (fun r u => Q r u ∧ P r u) U223 := by
  unfold w_X9_isDone_J223 at h ⊢
  intro y4_
  replace h := h y4_
  replace K := fun i ro uo z => K i ro uo ⟨y4_, z⟩
  exact ⟨h, K i0 _ _ ⟨rfl, rfl⟩⟩
set_option maxRecDepth 100000 in
theorem ru_X9_isDone_J255 {ι : Type} {P Q : Int32 → MS → Prop} {U255 : MS} (i0 : ι) (K : ∀ (i : ι) (ro : Int32) (uo : MS), v_X9_isDone_J255 ro uo U255 → P ro uo) (h : w_X9_isDone_J255 Q U255) : w_X9_isDone_J255 (fun r u => Q r u ∧ P r u) U255 := by
  unfold w_X9_isDone_J255 at h ⊢
  intro y5_
  replace h := h y5_
  replace K := fun i ro uo z => K i ro uo ⟨y5_, z⟩
  exact ⟨h, K i0 _ _ ⟨rfl, rfl⟩⟩
set_option maxRecDepth 100000 in
theorem ruX9_isDone {S : MS} {x1 : Int32} {x2 : Int32} {Q : Int32 → MS → Prop} (h : wX9_isDone S x1 x2 Q) : wX9_isDone S x1 x2 (fun r u => Q r u ∧ vX9_isDone S x1 x2 r u) := by
  have i0 : Unit := ()
  have K : ∀ (i : Unit) (ro : Int32) (uo : MS), vX9_isDone S x1 x2 ro uo → vX9_isDone S x1 x2 ro uo := fun _ _ _ z => z
  unfold wX9_isDone at h ⊢
  refine ⟨fun c => ?_, fun c => ?_⟩
  · replace h := h.1 c
    replace K := fun i ro uo z => K i ro uo (Or.inl ⟨c, z⟩)
    obtain ⟨Q9, h0, h⟩ := h
    refine ⟨_, ruX9_isRedirected h0, ?_⟩
    intro r89 S90 q6_ y7_ y8_
    replace h := h r89 S90 q6_.1 y7_ y8_
    replace K := fun i ro uo z => K i ro uo ⟨r89, S90, q6_.2, y7_, y8_, z⟩
    exact ⟨h, K i0 _ _ ⟨rfl, rfl⟩⟩
  · replace h := h.2 c
    replace K := fun i ro uo z => K i ro uo (Or.inr ⟨c, z⟩)
    refine ⟨fun c => ?_, fun c => ?_⟩
    · replace h := h.1 c
      replace K := fun i ro uo z => K i ro uo (Or.inl ⟨c, z⟩)
      refine ⟨fun c => ?_, fun c => ?_⟩
      · replace h := h.1 c
        replace K := fun i ro uo z => K i ro uo (Or.inl ⟨c, z⟩)
        obtain ⟨g9_, h⟩ := h
        refine ⟨g9_, ?_⟩
        replace K := fun i ro uo z => K i ro uo ⟨g9_, z⟩
        refine ⟨fun c => ?_, fun c => ?_⟩
        · replace h := h.1 c
          replace K := fun i ro uo z => K i ro uo (Or.inl ⟨c, z⟩)
          obtain ⟨g10_, h⟩ := h
          refine ⟨g10_, ?_⟩
          replace K := fun i ro uo z => K i ro uo ⟨g10_, z⟩
          refine ⟨fun c => ?_, fun c => ?_⟩
          · replace h := h.1 c
            replace K := fun i ro uo z => K i ro uo (Or.inl ⟨c, z⟩)
            obtain ⟨Q9, h0, h⟩ := h
            refine ⟨_, ruX9_isDropped h0, ?_⟩
            intro r18 S19 q11_ y12_ y13_
            replace h := h r18 S19 q11_.1 y12_ y13_
            replace K := fun i ro uo z => K i ro uo ⟨r18, S19, q11_.2, y12_, y13_, z⟩
            refine ⟨fun c => ?_, fun c => ?_⟩
            · replace h := h.1 c
              replace K := fun i ro uo z => K i ro uo (Or.inl ⟨c, z⟩)
              exact ru_X9_isDone_J115 i0 K h
            · replace h := h.2 c
              replace K := fun i ro uo z => K i ro uo (Or.inr ⟨c, z⟩)
              exact ⟨h, K i0 _ _ ⟨rfl, rfl⟩⟩
          · replace h := h.2 c
            replace K := fun i ro uo z => K i ro uo (Or.inr ⟨c, z⟩)
            exact ru_X9_isDone_J115 i0 K h
        · replace h := h.2 c
          replace K := fun i ro uo z => K i ro uo (Or.inr ⟨c, z⟩)
          exact ru_X9_isDone_J115 i0 K h
      · replace h := h.2 c
        replace K := fun i ro uo z => K i ro uo (Or.inr ⟨c, z⟩)
        refine ⟨fun c => ?_, fun c => ?_⟩
        · replace h := h.1 c
          replace K := fun i ro uo z => K i ro uo (Or.inl ⟨c, z⟩)
          obtain ⟨g14_, h⟩ := h
          refine ⟨g14_, ?_⟩
          replace K := fun i ro uo z => K i ro uo ⟨g14_, z⟩
          refine ⟨fun c => ?_, fun c => ?_⟩
          · replace h := h.1 c
            replace K := fun i ro uo z => K i ro uo (Or.inl ⟨c, z⟩)
            obtain ⟨Q9, h0, h⟩ := h
            refine ⟨_, ruX9_isDropped h0, ?_⟩
            intro r28 S29 q15_ y16_ y17_
            replace h := h r28 S29 q15_.1 y16_ y17_
            replace K := fun i ro uo z => K i ro uo ⟨r28, S29, q15_.2, y16_, y17_, z⟩
            refine ⟨fun c => ?_, fun c => ?_⟩
            · replace h := h.1 c
              replace K := fun i ro uo z => K i ro uo (Or.inl ⟨c, z⟩)
              exact ru_X9_isDone_J141 i0 K h
            · replace h := h.2 c
              replace K := fun i ro uo z => K i ro uo (Or.inr ⟨c, z⟩)
              exact ⟨h, K i0 _ _ ⟨rfl, rfl⟩⟩
          · replace h := h.2 c
            replace K := fun i ro uo z => K i ro uo (Or.inr ⟨c, z⟩)
            exact ru_X9_isDone_J141 i0 K h
        · replace h := h.2 c
          replace K := fun i ro uo z => K i ro uo (Or.inr ⟨c, z⟩)
          refine ⟨fun c => ?_, fun c => ?_⟩
          · replace h := h.1 c
            replace K := fun i ro uo z => K i ro uo (Or.inl ⟨c, z⟩)
            obtain ⟨Q9, h0, h⟩ := h
            refine ⟨_, ruX9_isFolded h0, ?_⟩
            intro r33 S34 q18_ y19_ y20_
            replace h := h r33 S34 q18_.1 y19_ y20_
            replace K := fun i ro uo z => K i ro uo ⟨r33, S34, q18_.2, y19_, y20_, z⟩
            exact ⟨h, K i0 _ _ ⟨rfl, rfl⟩⟩
          · replace h := h.2 c
            replace K := fun i ro uo z => K i ro uo (Or.inr ⟨c, z⟩)
            refine ⟨fun c => ?_, fun c => ?_⟩
            · replace h := h.1 c
              replace K := fun i ro uo z => K i ro uo (Or.inl ⟨c, z⟩)
              obtain ⟨Q9, h0, h⟩ := h
              refine ⟨_, ruX9_isUnaryFolded h0, ?_⟩
              intro r37 S38 q21_ y22_ y23_
              replace h := h r37 S38 q21_.1 y22_ y23_
              replace K := fun i ro uo z => K i ro uo ⟨r37, S38, q21_.2, y22_, y23_, z⟩
              exact ⟨h, K i0 _ _ ⟨rfl, rfl⟩⟩
            · replace h := h.2 c
              replace K := fun i ro uo z => K i ro uo (Or.inr ⟨c, z⟩)
              refine ⟨fun c => ?_, fun c => ?_⟩
              · replace h := h.1 c
                replace K := fun i ro uo z => K i ro uo (Or.inl ⟨c, z⟩)
                obtain ⟨Q9, h0, h⟩ := h
                refine ⟨_, ruX9_isJumpDecided h0, ?_⟩
                intro r41 S42 q24_ y25_ y26_
                replace h := h r41 S42 q24_.1 y25_ y26_
                replace K := fun i ro uo z => K i ro uo ⟨r41, S42, q24_.2, y25_, y26_, z⟩
                exact ⟨h, K i0 _ _ ⟨rfl, rfl⟩⟩
              · replace h := h.2 c
                replace K := fun i ro uo z => K i ro uo (Or.inr ⟨c, z⟩)
                refine ⟨fun c => ?_, fun c => ?_⟩
                · replace h := h.1 c
                  replace K := fun i ro uo z => K i ro uo (Or.inl ⟨c, z⟩)
                  obtain ⟨g27_, h⟩ := h
                  refine ⟨g27_, ?_⟩
                  replace K := fun i ro uo z => K i ro uo ⟨g27_, z⟩
                  refine ⟨fun c => ?_, fun c => ?_⟩
                  · replace h := h.1 c
                    replace K := fun i ro uo z => K i ro uo (Or.inl ⟨c, z⟩)
                    exact ru_X9_isDone_J191 i0 K h
                  · replace h := h.2 c
                    replace K := fun i ro uo z => K i ro uo (Or.inr ⟨c, z⟩)
                    obtain ⟨g28_, h⟩ := h
                    refine ⟨g28_, ?_⟩
                    replace K := fun i ro uo z => K i ro uo ⟨g28_, z⟩
                    refine ⟨fun c => ?_, fun c => ?_⟩
                    · replace h := h.1 c
                      replace K := fun i ro uo z => K i ro uo (Or.inl ⟨c, z⟩)
                      exact ru_X9_isDone_J191 i0 K h
                    · replace h := h.2 c
                      replace K := fun i ro uo z => K i ro uo (Or.inr ⟨c, z⟩)
                      obtain ⟨Q9, h0, h⟩ := h
                      refine ⟨_, ruX9_isDropped h0, ?_⟩
                      intro r53 S54 q29_ y30_ y31_
                      replace h := h r53 S54 q29_.1 y30_ y31_
                      replace K := fun i ro uo z => K i ro uo ⟨r53, S54, q29_.2, y30_, y31_, z⟩
                      refine ⟨fun c => ?_, fun c => ?_⟩
                      · replace h := h.1 c
                        replace K := fun i ro uo z => K i ro uo (Or.inl ⟨c, z⟩)
                        exact ru_X9_isDone_J191 i0 K h
                      · replace h := h.2 c
                        replace K := fun i ro uo z => K i ro uo (Or.inr ⟨c, z⟩)
                        exact ⟨h, K i0 _ _ ⟨rfl, rfl⟩⟩
                · replace h := h.2 c
                  replace K := fun i ro uo z => K i ro uo (Or.inr ⟨c, z⟩)
                  refine ⟨fun c => ?_, fun c => ?_⟩
                  · replace h := h.1 c
                    replace K := fun i ro uo z => K i ro uo (Or.inl ⟨c, z⟩)
                    obtain ⟨g32_, h⟩ := h
                    refine ⟨g32_, ?_⟩
                    replace K := fun i ro uo z => K i ro uo ⟨g32_, z⟩
                    refine ⟨fun c => ?_, fun c => ?_⟩
                    · replace h := h.1 c
                      replace K := fun i ro uo z => K i ro uo (Or.inl ⟨c, z⟩)
                      exact ru_X9_isDone_J223 i0 K h
                    · replace h := h.2 c
                      replace K := fun i ro uo z => K i ro uo (Or.inr ⟨c, z⟩)
                      obtain ⟨g33_, h⟩ := h
                      refine ⟨g33_, ?_⟩
                      replace K := fun i ro uo z => K i ro uo ⟨g33_, z⟩
                      refine ⟨fun c => ?_, fun c => ?_⟩
                      · replace h := h.1 c
                        replace K := fun i ro uo z => K i ro uo (Or.inl ⟨c, z⟩)
                        exact ru_X9_isDone_J223 i0 K h
                      · replace h := h.2 c
                        replace K := fun i ro uo z => K i ro uo (Or.inr ⟨c, z⟩)
                        obtain ⟨Q9, h0, h⟩ := h
                        refine ⟨_, ruX9_isDropped h0, ?_⟩
                        intro r66 S67 q34_ y35_ y36_
                        replace h := h r66 S67 q34_.1 y35_ y36_
                        replace K := fun i ro uo z => K i ro uo ⟨r66, S67, q34_.2, y35_, y36_, z⟩
                        refine ⟨fun c => ?_, fun c => ?_⟩
                        · replace h := h.1 c
                          replace K := fun i ro uo z => K i ro uo (Or.inl ⟨c, z⟩)
                          exact ru_X9_isDone_J223 i0 K h
                        · replace h := h.2 c
                          replace K := fun i ro uo z => K i ro uo (Or.inr ⟨c, z⟩)
                          exact ⟨h, K i0 _ _ ⟨rfl, rfl⟩⟩
                  · replace h := h.2 c
                    replace K := fun i ro uo z => K i ro uo (Or.inr ⟨c, z⟩)
                    refine ⟨fun c => ?_, fun c => ?_⟩
                    · replace h := h.1 c
                      replace K := fun i ro uo z => K i ro uo (Or.inl ⟨c, z⟩)
                      obtain ⟨g37_, h⟩ := h
                      refine ⟨g37_, ?_⟩
                      replace K := fun i ro uo z => K i ro uo ⟨g37_, z⟩
                      refine ⟨fun c => ?_, fun c => ?_⟩
                      · replace h := h.1 c
                        replace K := fun i ro uo z => K i ro uo (Or.inl ⟨c, z⟩)
                        exact ru_X9_isDone_J255 i0 K h
                      · replace h := h.2 c
                        replace K := fun i ro uo z => K i ro uo (Or.inr ⟨c, z⟩)
                        obtain ⟨Q9, h0, h⟩ := h
                        refine ⟨_, ruX9_isPassedOn h0, ?_⟩
                        intro r75 S76 q38_ y39_ y40_
                        replace h := h r75 S76 q38_.1 y39_ y40_
                        replace K := fun i ro uo z => K i ro uo ⟨r75, S76, q38_.2, y39_, y40_, z⟩
                        refine ⟨fun c => ?_, fun c => ?_⟩
                        · replace h := h.1 c
                          replace K := fun i ro uo z => K i ro uo (Or.inl ⟨c, z⟩)
                          exact ru_X9_isDone_J255 i0 K h
                        · replace h := h.2 c
                          replace K := fun i ro uo z => K i ro uo (Or.inr ⟨c, z⟩)
                          obtain ⟨Q9, h0, h⟩ := h
                          refine ⟨_, ruX9_isDropped h0, ?_⟩
                          intro r80 S81 q41_ y42_ y43_
                          replace h := h r80 S81 q41_.1 y42_ y43_
                          replace K := fun i ro uo z => K i ro uo ⟨r80, S81, q41_.2, y42_, y43_, z⟩
                          refine ⟨fun c => ?_, fun c => ?_⟩
                          · replace h := h.1 c
                            replace K := fun i ro uo z => K i ro uo (Or.inl ⟨c, z⟩)
                            exact ru_X9_isDone_J255 i0 K h
                          · replace h := h.2 c
                            replace K := fun i ro uo z => K i ro uo (Or.inr ⟨c, z⟩)
                            exact ⟨h, K i0 _ _ ⟨rfl, rfl⟩⟩
                    · replace h := h.2 c
                      replace K := fun i ro uo z => K i ro uo (Or.inr ⟨c, z⟩)
                      obtain ⟨Q9, h0, h⟩ := h
                      refine ⟨_, ruX9_isDeadStoreDone h0, ?_⟩
                      intro r85 S86 q44_ y45_ y46_
                      replace h := h r85 S86 q44_.1 y45_ y46_
                      replace K := fun i ro uo z => K i ro uo ⟨r85, S86, q44_.2, y45_, y46_, z⟩
                      exact ⟨h, K i0 _ _ ⟨rfl, rfl⟩⟩
    · replace h := h.2 c
      replace K := fun i ro uo z => K i ro uo (Or.inr ⟨c, z⟩)
      exact ⟨h, K i0 _ _ ⟨rfl, rfl⟩⟩
set_option maxRecDepth 100000 in
theorem vw_X9_isDone_J115 {ro : Int32} {uo : MS} {U115 : MS} (h : v_X9_isDone_J115 ro uo U115) : w_X9_isDone_J115 (fun r u => r = ro ∧ u = uo) U115 := by
  unfold v_X9_isDone_J115 at h
  unfold w_X9_isDone_J115
  intro _
  replace h := h.2
  exact ⟨h.1.symm, h.2.symm⟩
set_option maxRecDepth 100000 in
theorem vp_X9_isDone_J115 {ro : Int32} {uo : MS} {P : Int32 → MS → Prop} {U115 : MS} (h : v_X9_isDone_J115 ro uo U115) (w : w_X9_isDone_J115 P U115) : P ro uo := by
  unfold v_X9_isDone_J115 at h
  unfold w_X9_isDone_J115 at w
  obtain ⟨y1_, h⟩ := h
  replace w := w y1_
  rw [h.1, h.2]
  exact w
set_option maxRecDepth 100000 in
theorem vw_X9_isDone_J141 {ro : Int32} {uo : MS} {U141 : MS} (h : v_X9_isDone_J141 ro uo U141) : w_X9_isDone_J141 (fun r u => r = ro ∧ u = uo) U141 := by
  unfold v_X9_isDone_J141 at h
  unfold w_X9_isDone_J141
  intro _
  replace h := h.2
  exact ⟨h.1.symm, h.2.symm⟩
set_option maxRecDepth 100000 in
theorem vp_X9_isDone_J141 {ro : Int32} {uo : MS} {P : Int32 → MS → Prop} {U141 : MS} (h : v_X9_isDone_J141 ro uo U141) (w : w_X9_isDone_J141 P U141) : P ro uo := by
  unfold v_X9_isDone_J141 at h
  unfold w_X9_isDone_J141 at w
  obtain ⟨y2_, h⟩ := h
  replace w := w y2_
  rw [h.1, h.2]
  exact w
set_option maxRecDepth 100000 in
theorem vw_X9_isDone_J191 {ro : Int32} {uo : MS} {U191 : MS} (h : v_X9_isDone_J191 ro uo U191) : w_X9_isDone_J191 (fun r u => r = ro ∧ u = uo) U191 := by
  unfold v_X9_isDone_J191 at h
  unfold w_X9_isDone_J191
  intro _
  replace h := h.2
  exact ⟨h.1.symm, h.2.symm⟩
set_option maxRecDepth 100000 in
theorem vp_X9_isDone_J191 {ro : Int32} {uo : MS} {P : Int32 → MS → Prop} {U191 : MS} (h : v_X9_isDone_J191 ro uo U191) (w : w_X9_isDone_J191 P U191) : P ro uo := by
  unfold v_X9_isDone_J191 at h
  unfold w_X9_isDone_J191 at w
  obtain ⟨y3_, h⟩ := h
  replace w := w y3_
  rw [h.1, h.2]
  exact w
set_option maxRecDepth 100000 in
theorem vw_X9_isDone_J223 {ro : Int32} {uo : MS} {U223 : MS} (h : v_X9_isDone_J223 ro uo U223) : w_X9_isDone_J223 (fun r u => r = ro ∧ u = uo) U223 := by
  unfold v_X9_isDone_J223 at h
  unfold w_X9_isDone_J223
  intro _
  replace h := h.2
  exact ⟨h.1.symm, h.2.symm⟩
set_option maxRecDepth 100000 in
theorem vp_X9_isDone_J223 {ro : Int32} {uo : MS} {P : Int32 → MS → Prop} {U223 : MS} (h : v_X9_isDone_J223 ro uo U223) (w : w_X9_isDone_J223 P U223) : P ro uo := by
  unfold v_X9_isDone_J223 at h
  unfold w_X9_isDone_J223 at w
  obtain ⟨y4_, h⟩ := h
  replace w := w y4_
  rw [h.1, h.2]
  exact w
set_option maxRecDepth 100000 in
theorem vw_X9_isDone_J255 {ro : Int32} {uo : MS} {U255 : MS} (h : v_X9_isDone_J255 ro uo U255) : w_X9_isDone_J255 (fun r u => r = ro ∧ u = uo) U255 := by
  unfold v_X9_isDone_J255 at h
  unfold w_X9_isDone_J255
  intro _
  replace h := h.2
  exact ⟨h.1.symm, h.2.symm⟩
set_option maxRecDepth 100000 in
theorem vp_X9_isDone_J255 {ro : Int32} {uo : MS} {P : Int32 → MS → Prop} {U255 : MS} (h : v_X9_isDone_J255 ro uo U255) (w : w_X9_isDone_J255 P U255) : P ro uo := by
  unfold v_X9_isDone_J255 at h
  unfold w_X9_isDone_J255 at w
  obtain ⟨y5_, h⟩ := h
  replace w := w y5_
  rw [h.1, h.2]
  exact w
set_option maxRecDepth 100000 in
theorem vwX9_isDone {S : MS} {x1 : Int32} {x2 : Int32} {ro : Int32} {uo : MS} (h : vX9_isDone S x1 x2 ro uo) : wX9_isDone S x1 x2 (fun r u => r = ro ∧ u = uo) := by
  unfold vX9_isDone at h
  unfold wX9_isDone
  rcases h with ⟨c, h⟩ | ⟨c, h⟩
  · refine ⟨fun _ => ?_, fun c2 => absurd c c2⟩
    obtain ⟨p9, q9, z9, h⟩ := h
    refine ⟨_, vwX9_isRedirected z9, ?_⟩
    rintro p8 q8 ⟨d8, d9⟩ _ _
    subst d8
    subst d9
    replace h := h.2.2
    exact ⟨h.1.symm, h.2.symm⟩
  · refine ⟨fun c2 => absurd c2 c, fun _ => ?_⟩
    rcases h with ⟨c, h⟩ | ⟨c, h⟩
    · refine ⟨fun _ => ?_, fun c2 => absurd c c2⟩
      rcases h with ⟨c, h⟩ | ⟨c, h⟩
      · refine ⟨fun _ => ?_, fun c2 => absurd c c2⟩
        obtain ⟨g9, h⟩ := h
        refine ⟨g9, ?_⟩
        rcases h with ⟨c, h⟩ | ⟨c, h⟩
        · refine ⟨fun _ => ?_, fun c2 => absurd c c2⟩
          obtain ⟨g9, h⟩ := h
          refine ⟨g9, ?_⟩
          rcases h with ⟨c, h⟩ | ⟨c, h⟩
          · refine ⟨fun _ => ?_, fun c2 => absurd c c2⟩
            obtain ⟨p9, q9, z9, h⟩ := h
            refine ⟨_, vwX9_isDropped z9, ?_⟩
            rintro p8 q8 ⟨d8, d9⟩ _ _
            subst d8
            subst d9
            replace h := h.2.2
            rcases h with ⟨c, h⟩ | ⟨c, h⟩
            · refine ⟨fun _ => ?_, fun c2 => absurd c c2⟩
              exact vw_X9_isDone_J115 h
            · refine ⟨fun c2 => absurd c2 c, fun _ => ?_⟩
              exact ⟨h.1.symm, h.2.symm⟩
          · refine ⟨fun c2 => absurd c2 c, fun _ => ?_⟩
            exact vw_X9_isDone_J115 h
        · refine ⟨fun c2 => absurd c2 c, fun _ => ?_⟩
          exact vw_X9_isDone_J115 h
      · refine ⟨fun c2 => absurd c2 c, fun _ => ?_⟩
        rcases h with ⟨c, h⟩ | ⟨c, h⟩
        · refine ⟨fun _ => ?_, fun c2 => absurd c c2⟩
          obtain ⟨g9, h⟩ := h
          refine ⟨g9, ?_⟩
          rcases h with ⟨c, h⟩ | ⟨c, h⟩
          · refine ⟨fun _ => ?_, fun c2 => absurd c c2⟩
            obtain ⟨p9, q9, z9, h⟩ := h
            refine ⟨_, vwX9_isDropped z9, ?_⟩
            rintro p8 q8 ⟨d8, d9⟩ _ _
            subst d8
            subst d9
            replace h := h.2.2
            rcases h with ⟨c, h⟩ | ⟨c, h⟩
            · refine ⟨fun _ => ?_, fun c2 => absurd c c2⟩
              exact vw_X9_isDone_J141 h
            · refine ⟨fun c2 => absurd c2 c, fun _ => ?_⟩
              exact ⟨h.1.symm, h.2.symm⟩
          · refine ⟨fun c2 => absurd c2 c, fun _ => ?_⟩
            exact vw_X9_isDone_J141 h
        · refine ⟨fun c2 => absurd c2 c, fun _ => ?_⟩
          rcases h with ⟨c, h⟩ | ⟨c, h⟩
          · refine ⟨fun _ => ?_, fun c2 => absurd c c2⟩
            obtain ⟨p9, q9, z9, h⟩ := h
            refine ⟨_, vwX9_isFolded z9, ?_⟩
            rintro p8 q8 ⟨d8, d9⟩ _ _
            subst d8
            subst d9
            replace h := h.2.2
            exact ⟨h.1.symm, h.2.symm⟩
          · refine ⟨fun c2 => absurd c2 c, fun _ => ?_⟩
            rcases h with ⟨c, h⟩ | ⟨c, h⟩
            · refine ⟨fun _ => ?_, fun c2 => absurd c c2⟩
              obtain ⟨p9, q9, z9, h⟩ := h
              refine ⟨_, vwX9_isUnaryFolded z9, ?_⟩
              rintro p8 q8 ⟨d8, d9⟩ _ _
              subst d8
              subst d9
              replace h := h.2.2
              exact ⟨h.1.symm, h.2.symm⟩
            · refine ⟨fun c2 => absurd c2 c, fun _ => ?_⟩
              rcases h with ⟨c, h⟩ | ⟨c, h⟩
              · refine ⟨fun _ => ?_, fun c2 => absurd c c2⟩
                obtain ⟨p9, q9, z9, h⟩ := h
                refine ⟨_, vwX9_isJumpDecided z9, ?_⟩
                rintro p8 q8 ⟨d8, d9⟩ _ _
                subst d8
                subst d9
                replace h := h.2.2
                exact ⟨h.1.symm, h.2.symm⟩
              · refine ⟨fun c2 => absurd c2 c, fun _ => ?_⟩
                rcases h with ⟨c, h⟩ | ⟨c, h⟩
                · refine ⟨fun _ => ?_, fun c2 => absurd c c2⟩
                  obtain ⟨g9, h⟩ := h
                  refine ⟨g9, ?_⟩
                  rcases h with ⟨c, h⟩ | ⟨c, h⟩
                  · refine ⟨fun _ => ?_, fun c2 => absurd c c2⟩
                    exact vw_X9_isDone_J191 h
                  · refine ⟨fun c2 => absurd c2 c, fun _ => ?_⟩
                    obtain ⟨g9, h⟩ := h
                    refine ⟨g9, ?_⟩
                    rcases h with ⟨c, h⟩ | ⟨c, h⟩
                    · refine ⟨fun _ => ?_, fun c2 => absurd c c2⟩
                      exact vw_X9_isDone_J191 h
                    · refine ⟨fun c2 => absurd c2 c, fun _ => ?_⟩
                      obtain ⟨p9, q9, z9, h⟩ := h
                      refine ⟨_, vwX9_isDropped z9, ?_⟩
                      rintro p8 q8 ⟨d8, d9⟩ _ _
                      subst d8
                      subst d9
                      replace h := h.2.2
                      rcases h with ⟨c, h⟩ | ⟨c, h⟩
                      · refine ⟨fun _ => ?_, fun c2 => absurd c c2⟩
                        exact vw_X9_isDone_J191 h
                      · refine ⟨fun c2 => absurd c2 c, fun _ => ?_⟩
                        exact ⟨h.1.symm, h.2.symm⟩
                · refine ⟨fun c2 => absurd c2 c, fun _ => ?_⟩
                  rcases h with ⟨c, h⟩ | ⟨c, h⟩
                  · refine ⟨fun _ => ?_, fun c2 => absurd c c2⟩
                    obtain ⟨g9, h⟩ := h
                    refine ⟨g9, ?_⟩
                    rcases h with ⟨c, h⟩ | ⟨c, h⟩
                    · refine ⟨fun _ => ?_, fun c2 => absurd c c2⟩
                      exact vw_X9_isDone_J223 h
                    · refine ⟨fun c2 => absurd c2 c, fun _ => ?_⟩
                      obtain ⟨g9, h⟩ := h
                      refine ⟨g9, ?_⟩
                      rcases h with ⟨c, h⟩ | ⟨c, h⟩
                      · refine ⟨fun _ => ?_, fun c2 => absurd c c2⟩
                        exact vw_X9_isDone_J223 h
                      · refine ⟨fun c2 => absurd c2 c, fun _ => ?_⟩
                        obtain ⟨p9, q9, z9, h⟩ := h
                        refine ⟨_, vwX9_isDropped z9, ?_⟩
                        rintro p8 q8 ⟨d8, d9⟩ _ _
                        subst d8
                        subst d9
                        replace h := h.2.2
                        rcases h with ⟨c, h⟩ | ⟨c, h⟩
                        · refine ⟨fun _ => ?_, fun c2 => absurd c c2⟩
                          exact vw_X9_isDone_J223 h
                        · refine ⟨fun c2 => absurd c2 c, fun _ => ?_⟩
                          exact ⟨h.1.symm, h.2.symm⟩
                  · refine ⟨fun c2 => absurd c2 c, fun _ => ?_⟩
                    rcases h with ⟨c, h⟩ | ⟨c, h⟩
                    · refine ⟨fun _ => ?_, fun c2 => absurd c c2⟩
                      obtain ⟨g9, h⟩ := h
                      refine ⟨g9, ?_⟩
                      rcases h with ⟨c, h⟩ | ⟨c, h⟩
                      · refine ⟨fun _ => ?_, fun c2 => absurd c c2⟩
                        exact vw_X9_isDone_J255 h
                      · refine ⟨fun c2 => absurd c2 c, fun _ => ?_⟩
                        obtain ⟨p9, q9, z9, h⟩ := h
                        refine ⟨_, vwX9_isPassedOn z9, ?_⟩
                        rintro p8 q8 ⟨d8, d9⟩ _ _
                        subst d8
                        subst d9
                        replace h := h.2.2
                        rcases h with ⟨c, h⟩ | ⟨c, h⟩
                        · refine ⟨fun _ => ?_, fun c2 => absurd c c2⟩
                          exact vw_X9_isDone_J255 h
                        · refine ⟨fun c2 => absurd c2 c, fun _ => ?_⟩
                          obtain ⟨p9, q9, z9, h⟩ := h
                          refine ⟨_, vwX9_isDropped z9, ?_⟩
                          rintro p8 q8 ⟨d8, d9⟩ _ _
                          subst d8
                          subst d9
                          replace h := h.2.2
                          rcases h with ⟨c, h⟩ | ⟨c, h⟩
                          · refine ⟨fun _ => ?_, fun c2 => absurd c c2⟩
                            exact vw_X9_isDone_J255 h
                          · refine ⟨fun c2 => absurd c2 c, fun _ => ?_⟩
                            exact ⟨h.1.symm, h.2.symm⟩
                    · refine ⟨fun c2 => absurd c2 c, fun _ => ?_⟩
                      obtain ⟨p9, q9, z9, h⟩ := h
                      refine ⟨_, vwX9_isDeadStoreDone z9, ?_⟩
                      rintro p8 q8 ⟨d8, d9⟩ _ _
                      subst d8
                      subst d9
                      replace h := h.2.2
                      exact ⟨h.1.symm, h.2.symm⟩
    · refine ⟨fun c2 => absurd c2 c, fun _ => ?_⟩
      exact ⟨h.1.symm, h.2.symm⟩
set_option maxRecDepth 100000 in
theorem vpX9_isDone {S : MS} {x1 : Int32} {x2 : Int32} {ro : Int32} {uo : MS} {P : Int32 → MS → Prop} (h : vX9_isDone S x1 x2 ro uo) (w : wX9_isDone S x1 x2 P) : P ro uo := by
  unfold vX9_isDone at h
  unfold wX9_isDone at w
  rcases h with ⟨c, h⟩ | ⟨c, h⟩
  · replace w := w.1 c
    obtain ⟨p9, q9, z9, y6_, y7_, h⟩ := h
    obtain ⟨Q9, w0, w⟩ := w
    replace w := w p9 q9 (vpX9_isRedirected z9 w0) y6_ y7_
    rw [h.1, h.2]
    exact w
  · replace w := w.2 c
    rcases h with ⟨c, h⟩ | ⟨c, h⟩
    · replace w := w.1 c
      rcases h with ⟨c, h⟩ | ⟨c, h⟩
      · replace w := w.1 c
        replace h := h.2
        replace w := w.2
        rcases h with ⟨c, h⟩ | ⟨c, h⟩
        · replace w := w.1 c
          replace h := h.2
          replace w := w.2
          rcases h with ⟨c, h⟩ | ⟨c, h⟩
          · replace w := w.1 c
            obtain ⟨p9, q9, z9, y8_, y9_, h⟩ := h
            obtain ⟨Q9, w0, w⟩ := w
            replace w := w p9 q9 (vpX9_isDropped z9 w0) y8_ y9_
            rcases h with ⟨c, h⟩ | ⟨c, h⟩
            · replace w := w.1 c
              exact vp_X9_isDone_J115 h w
            · replace w := w.2 c
              rw [h.1, h.2]
              exact w
          · replace w := w.2 c
            exact vp_X9_isDone_J115 h w
        · replace w := w.2 c
          exact vp_X9_isDone_J115 h w
      · replace w := w.2 c
        rcases h with ⟨c, h⟩ | ⟨c, h⟩
        · replace w := w.1 c
          replace h := h.2
          replace w := w.2
          rcases h with ⟨c, h⟩ | ⟨c, h⟩
          · replace w := w.1 c
            obtain ⟨p9, q9, z9, y10_, y11_, h⟩ := h
            obtain ⟨Q9, w0, w⟩ := w
            replace w := w p9 q9 (vpX9_isDropped z9 w0) y10_ y11_
            rcases h with ⟨c, h⟩ | ⟨c, h⟩
            · replace w := w.1 c
              exact vp_X9_isDone_J141 h w
            · replace w := w.2 c
              rw [h.1, h.2]
              exact w
          · replace w := w.2 c
            exact vp_X9_isDone_J141 h w
        · replace w := w.2 c
          rcases h with ⟨c, h⟩ | ⟨c, h⟩
          · replace w := w.1 c
            obtain ⟨p9, q9, z9, y12_, y13_, h⟩ := h
            obtain ⟨Q9, w0, w⟩ := w
            replace w := w p9 q9 (vpX9_isFolded z9 w0) y12_ y13_
            rw [h.1, h.2]
            exact w
          · replace w := w.2 c
            rcases h with ⟨c, h⟩ | ⟨c, h⟩
            · replace w := w.1 c
              obtain ⟨p9, q9, z9, y14_, y15_, h⟩ := h
              obtain ⟨Q9, w0, w⟩ := w
              replace w := w p9 q9 (vpX9_isUnaryFolded z9 w0) y14_ y15_
              rw [h.1, h.2]
              exact w
            · replace w := w.2 c
              rcases h with ⟨c, h⟩ | ⟨c, h⟩
              · replace w := w.1 c
                obtain ⟨p9, q9, z9, y16_, y17_, h⟩ := h
                obtain ⟨Q9, w0, w⟩ := w
                replace w := w p9 q9 (vpX9_isJumpDecided z9 w0) y16_ y17_
                rw [h.1, h.2]
                exact w
              · replace w := w.2 c
                rcases h with ⟨c, h⟩ | ⟨c, h⟩
                · replace w := w.1 c
                  replace h := h.2
                  replace w := w.2
                  rcases h with ⟨c, h⟩ | ⟨c, h⟩
                  · replace w := w.1 c
                    exact vp_X9_isDone_J191 h w
                  · replace w := w.2 c
                    replace h := h.2
                    replace w := w.2
                    rcases h with ⟨c, h⟩ | ⟨c, h⟩
                    · replace w := w.1 c
                      exact vp_X9_isDone_J191 h w
                    · replace w := w.2 c
                      obtain ⟨p9, q9, z9, y18_, y19_, h⟩ := h
                      obtain ⟨Q9, w0, w⟩ := w
                      replace w := w p9 q9 (vpX9_isDropped z9 w0) y18_ y19_
                      rcases h with ⟨c, h⟩ | ⟨c, h⟩
                      · replace w := w.1 c
                        exact vp_X9_isDone_J191 h w
                      · replace w := w.2 c
                        rw [h.1, h.2]
                        exact w
                · replace w := w.2 c
                  rcases h with ⟨c, h⟩ | ⟨c, h⟩
                  · replace w := w.1 c
                    replace h := h.2
                    replace w := w.2
                    rcases h with ⟨c, h⟩ | ⟨c, h⟩
                    · replace w := w.1 c
                      exact vp_X9_isDone_J223 h w
                    · replace w := w.2 c
                      replace h := h.2
                      replace w := w.2
                      rcases h with ⟨c, h⟩ | ⟨c, h⟩
                      · replace w := w.1 c
                        exact vp_X9_isDone_J223 h w
                      · replace w := w.2 c
                        obtain ⟨p9, q9, z9, y20_, y21_, h⟩ := h
                        obtain ⟨Q9, w0, w⟩ := w
                        replace w := w p9 q9 (vpX9_isDropped z9 w0) y20_ y21_
                        rcases h with ⟨c, h⟩ | ⟨c, h⟩
                        · replace w := w.1 c
                          exact vp_X9_isDone_J223 h w
                        · replace w := w.2 c
                          rw [h.1, h.2]
                          exact w
                  · replace w := w.2 c
                    rcases h with ⟨c, h⟩ | ⟨c, h⟩
                    · replace w := w.1 c
                      replace h := h.2
                      replace w := w.2
                      rcases h with ⟨c, h⟩ | ⟨c, h⟩
                      · replace w := w.1 c
                        exact vp_X9_isDone_J255 h w
                      · replace w := w.2 c
                        obtain ⟨p9, q9, z9, y22_, y23_, h⟩ := h
                        obtain ⟨Q9, w0, w⟩ := w
                        replace w := w p9 q9 (vpX9_isPassedOn z9 w0) y22_ y23_
                        rcases h with ⟨c, h⟩ | ⟨c, h⟩
                        · replace w := w.1 c
                          exact vp_X9_isDone_J255 h w
                        · replace w := w.2 c
                          obtain ⟨p9, q9, z9, y24_, y25_, h⟩ := h
                          obtain ⟨Q9, w0, w⟩ := w
                          replace w := w p9 q9 (vpX9_isDropped z9 w0) y24_ y25_
                          rcases h with ⟨c, h⟩ | ⟨c, h⟩
                          · replace w := w.1 c
                            exact vp_X9_isDone_J255 h w
                          · replace w := w.2 c
                            rw [h.1, h.2]
                            exact w
                    · replace w := w.2 c
                      obtain ⟨p9, q9, z9, y26_, y27_, h⟩ := h
                      obtain ⟨Q9, w0, w⟩ := w
                      replace w := w p9 q9 (vpX9_isDeadStoreDone z9 w0) y26_ y27_
                      rw [h.1, h.2]
                      exact w
    · replace w := w.2 c
      rw [h.1, h.2]
      exact w
def v_X9_dropUnreached_J62 (ro : Int32) (uo : MS) (k19 : MS → Int32 → Int32 → Int32 → Int32 → Prop) (U62 : MS) (v62_1 : Int32) (v62_2 : Int32) (v62_3 : Int32) (v62_4 : Int32) : Prop := (wfC U62 ∧ (v62_1 = 0 ∨ v62_1 = 1) ∧ (∃ a11 : Int32, a11 = (v62_4 + Int32.ofInt 1) ∧ (k19 U62 v62_1 v62_2 v62_3 a11)))
def v_X9_dropUnreached_L19 (ro : Int32) (uo : MS) : Nat → MS → Int32 → Int32 → Int32 → Int32 → Prop
  | 0, _, _, _, _, _ => False
  | n19 + 1, U19, v19_1, v19_2, v19_3, v19_4 => (wfC U19 ∧ (v19_1 = 0 ∨ v19_1 = 1) ∧ ((v19_3.toInt ≤ v19_4.toInt ∧ (ro = v19_1 ∧ uo = U19)) ∨ (¬ v19_3.toInt ≤ v19_4.toInt ∧ (((0 : Int) ≤ v19_4.toInt ∧ v19_4.toInt < (qN U19 (qO U19 66 3) : Int)) ∧ (((qI U19 (qO U19 66 3) v19_4.toInt.toNat).toInt = 0 ∧ (qT U19 (qO U19 66 0) = 47 ∧ (∃ (S15 : MS), vX8_remove U19 (qO U19 66 0) v19_2 (1 : Int32) S15 ∧ wfC S15 ∧ shy U19 S15 ∧ (∃ S19 : MS, S19 = wI S15 75 1 ((qI S15 75 1) + (1 : Int32)) ∧ qT S15 75 = 228 ∧ wfC S19 ∧ (v_X9_dropUnreached_J62 ro uo (v_X9_dropUnreached_L19 ro uo n19) S19 1 v19_2 v19_3 v19_4))))) ∨ (¬ (qI U19 (qO U19 66 3) v19_4.toInt.toNat).toInt = 0 ∧ (∃ a20 : Int32, a20 = (v19_2 + Int32.ofInt 1) ∧ (v_X9_dropUnreached_J62 ro uo (v_X9_dropUnreached_L19 ro uo n19) U19 v19_1 a20 v19_3 v19_4))))))))
def vX9_dropUnreached (S : MS) (ro : Int32) (uo : MS) : Prop := (∃ (S2 : MS), vX9_findReached S S2 ∧ wfC S2 ∧ shy S S2 ∧ (∃ a5 : Int32, a5 = (qI S2 (qO S2 66 0) 2) ∧ (∃ n, v_X9_dropUnreached_L19 ro uo n S2 0 0 a5 0)))
set_option maxRecDepth 100000 in
theorem ru_X9_dropUnreached_J62 {ι : Type} {P Q : Int32 → MS → Prop} {k19 k19' : MS → Int32 → Int32 → Int32 → Int32 → Prop} {k19v : ι → Int32 → MS → MS → Int32 → Int32 → Int32 → Int32 → Prop} {U62 : MS} {v62_1 : Int32} {v62_2 : Int32} {v62_3 : Int32} {v62_4 : Int32} (i0 : ι) (hk19 : ∀ (u : MS) (z0 : Int32) (z1 : Int32) (z2 : Int32) (z3 : Int32), k19 u z0 z1 z2 z3 → (∀ (i : ι) (ro : Int32) (uo : MS), k19v i ro uo u z0 z1 z2 z3 → P ro uo) → k19' u z0 z1 z2 z3) (K : ∀ (i : ι) (ro : Int32) (uo : MS), v_X9_dropUnreached_J62 ro uo (k19v i ro uo) U62 v62_1 v62_2 v62_3 v62_4 → P ro uo) (h : w_X9_dropUnreached_J62 Q k19 U62 v62_1 v62_2 v62_3 v62_4) : w_X9_dropUnreached_J62 (fun r u => Q r u ∧ P r u) k19' U62 v62_1 v62_2 v62_3 v62_4 := by
  unfold w_X9_dropUnreached_J62 at h ⊢
  intro y1_ y2_
  replace h := h y1_ y2_
  replace K := fun i ro uo z => K i ro uo ⟨y1_, y2_, z⟩
  intro a11 ea11 
  replace h := h a11 ea11 
  replace K := fun i ro uo z => K i ro uo ⟨a11, ea11, z⟩
  exact hk19 _ _ _ _ _ h K
set_option maxRecDepth 100000 in
theorem ru_X9_dropUnreached_L19 {ι : Type} {P Q : Int32 → MS → Prop} : ∀ (n : Nat) {U19 : MS} {v19_1 : Int32} {v19_2 : Int32} {v19_3 : Int32} {v19_4 : Int32} (i0 : ι), (∀ (i : ι) (ro : Int32) (uo : MS), (∃ n8, v_X9_dropUnreached_L19 ro uo n8 U19 v19_1 v19_2 v19_3 v19_4) → P ro uo) → w_X9_dropUnreached_L19 Q n U19 v19_1 v19_2 v19_3 v19_4 → w_X9_dropUnreached_L19 (fun r u => Q r u ∧ P r u) n U19 v19_1 v19_2 v19_3 v19_4 := by
  intro n
  induction n with
  | zero => intro U19 v19_1 v19_2 v19_3 v19_4 i0 K h; unfold w_X9_dropUnreached_L19 at h; exact h.elim
  | succ n ih =>
    intro U19 v19_1 v19_2 v19_3 v19_4 i0 K h
    unfold w_X9_dropUnreached_L19 at h ⊢
    replace K := fun (i : ι × Nat) ro uo (z : v_X9_dropUnreached_L19 ro uo (i.2 + 1) U19 v19_1 v19_2 v19_3 v19_4) => K i.1 ro uo ⟨i.2 + 1, z⟩
    have i00 := i0
    replace i0 : ι × Nat := (i0, 0)
    intro y3_ y4_
    replace h := h y3_ y4_
    replace K := fun i ro uo z => K i ro uo ⟨y3_, y4_, z⟩
    refine ⟨fun c => ?_, fun c => ?_⟩
    · replace h := h.1 c
      replace K := fun i ro uo z => K i ro uo (Or.inl ⟨c, z⟩)
      exact ⟨h, K i0 _ _ ⟨rfl, rfl⟩⟩
    · replace h := h.2 c
      replace K := fun i ro uo z => K i ro uo (Or.inr ⟨c, z⟩)
      obtain ⟨g5_, h⟩ := h
      refine ⟨g5_, ?_⟩
      replace K := fun i ro uo z => K i ro uo ⟨g5_, z⟩
      refine ⟨fun c => ?_, fun c => ?_⟩
      · replace h := h.1 c
        replace K := fun i ro uo z => K i ro uo (Or.inl ⟨c, z⟩)
        intro y6_
        replace h := h y6_
        replace K := fun i ro uo z => K i ro uo ⟨y6_, z⟩
        obtain ⟨Q9, h0, h⟩ := h
        refine ⟨_, ruX8_remove h0, ?_⟩
        intro S15 q7_ y8_ y9_
        replace h := h S15 q7_.1 y8_ y9_
        replace K := fun i ro uo z => K i ro uo ⟨S15, q7_.2, y8_, y9_, z⟩
        intro S19 eS19 y10_ y11_
        replace h := h S19 eS19 y10_ y11_
        replace K := fun i ro uo z => K i ro uo ⟨S19, eS19, y10_, y11_, z⟩
        exact ru_X9_dropUnreached_J62 i0 (fun _ _ _ _ _ h K => ih i00 (fun i ro uo ⟨n8, z⟩ => K (i, n8) ro uo z) h) K h
      · replace h := h.2 c
        replace K := fun i ro uo z => K i ro uo (Or.inr ⟨c, z⟩)
        intro a20 ea20 
        replace h := h a20 ea20 
        replace K := fun i ro uo z => K i ro uo ⟨a20, ea20, z⟩
        exact ru_X9_dropUnreached_J62 i0 (fun _ _ _ _ _ h K => ih i00 (fun i ro uo ⟨n8, z⟩ => K (i, n8) ro uo z) h) K h
set_option maxRecDepth 100000 in
theorem ruX9_dropUnreached {S : MS} {Q : Int32 → MS → Prop} (h : wX9_dropUnreached S Q) : wX9_dropUnreached S (fun r u => Q r u ∧ vX9_dropUnreached S r u) := by
  have i0 : Unit := ()
  have K : ∀ (i : Unit) (ro : Int32) (uo : MS), vX9_dropUnreached S ro uo → vX9_dropUnreached S ro uo := fun _ _ _ z => z
  unfold wX9_dropUnreached at h ⊢
  obtain ⟨Q9, h0, h⟩ := h
  refine ⟨_, ruX9_findReached h0, ?_⟩
  intro S2 q12_ y13_ y14_
  replace h := h S2 q12_.1 y13_ y14_
  replace K := fun i ro uo z => K i ro uo ⟨S2, q12_.2, y13_, y14_, z⟩
  intro a5 ea5 
  replace h := h a5 ea5 
  replace K := fun i ro uo z => K i ro uo ⟨a5, ea5, z⟩
  obtain ⟨n9, h⟩ := h
  exact ⟨n9, ru_X9_dropUnreached_L19 n9 i0 K h⟩
set_option maxRecDepth 100000 in
theorem vw_X9_dropUnreached_J62 {ro : Int32} {uo : MS} {k19 k19v : MS → Int32 → Int32 → Int32 → Int32 → Prop} {U62 : MS} {v62_1 : Int32} {v62_2 : Int32} {v62_3 : Int32} {v62_4 : Int32} (hk19 : ∀ (u : MS) (z0 : Int32) (z1 : Int32) (z2 : Int32) (z3 : Int32), k19v u z0 z1 z2 z3 → k19 u z0 z1 z2 z3) (h : v_X9_dropUnreached_J62 ro uo k19v U62 v62_1 v62_2 v62_3 v62_4) : w_X9_dropUnreached_J62 (fun r u => r = ro ∧ u = uo) k19 U62 v62_1 v62_2 v62_3 v62_4 := by
  unfold v_X9_dropUnreached_J62 at h
  unfold w_X9_dropUnreached_J62
  intro _ _
  replace h := h.2.2
  obtain ⟨v9, e9, h⟩ := h
  intro x9 d9 
  have c9 : v9 = x9 := e9.trans d9.symm
  subst c9
  exact hk19 _ _ _ _ _ h
set_option maxRecDepth 100000 in
theorem vp_X9_dropUnreached_J62 {ro : Int32} {uo : MS} {P : Int32 → MS → Prop} {k19 k19v : MS → Int32 → Int32 → Int32 → Int32 → Prop} {U62 : MS} {v62_1 : Int32} {v62_2 : Int32} {v62_3 : Int32} {v62_4 : Int32} (hk19 : ∀ (u : MS) (z0 : Int32) (z1 : Int32) (z2 : Int32) (z3 : Int32), k19v u z0 z1 z2 z3 → k19 u z0 z1 z2 z3 → P ro uo) (h : v_X9_dropUnreached_J62 ro uo k19v U62 v62_1 v62_2 v62_3 v62_4) (w : w_X9_dropUnreached_J62 P k19 U62 v62_1 v62_2 v62_3 v62_4) : P ro uo := by
  unfold v_X9_dropUnreached_J62 at h
  unfold w_X9_dropUnreached_J62 at w
  obtain ⟨y1_, y2_, h⟩ := h
  replace w := w y1_ y2_
  obtain ⟨v9, e9, h⟩ := h
  replace w := w v9 e9 
  exact hk19 _ _ _ _ _ h w
set_option maxRecDepth 100000 in
theorem vw_X9_dropUnreached_L19 {ro : Int32} {uo : MS} : ∀ (n : Nat) {U19 : MS} {v19_1 : Int32} {v19_2 : Int32} {v19_3 : Int32} {v19_4 : Int32}, v_X9_dropUnreached_L19 ro uo n U19 v19_1 v19_2 v19_3 v19_4 → w_X9_dropUnreached_L19 (fun r u => r = ro ∧ u = uo) n U19 v19_1 v19_2 v19_3 v19_4 := by
  intro n
  induction n with
  | zero => intro U19 v19_1 v19_2 v19_3 v19_4 h; unfold v_X9_dropUnreached_L19 at h; exact h.elim
  | succ n ih =>
    intro U19 v19_1 v19_2 v19_3 v19_4 h
    unfold v_X9_dropUnreached_L19 at h
    unfold w_X9_dropUnreached_L19
    intro _ _
    replace h := h.2.2
    rcases h with ⟨c, h⟩ | ⟨c, h⟩
    · refine ⟨fun _ => ?_, fun c2 => absurd c c2⟩
      exact ⟨h.1.symm, h.2.symm⟩
    · refine ⟨fun c2 => absurd c2 c, fun _ => ?_⟩
      obtain ⟨g9, h⟩ := h
      refine ⟨g9, ?_⟩
      rcases h with ⟨c, h⟩ | ⟨c, h⟩
      · refine ⟨fun _ => ?_, fun c2 => absurd c c2⟩
        intro _
        replace h := h.2
        obtain ⟨q9, z9, h⟩ := h
        refine ⟨_, vwX8_remove z9, ?_⟩
        intro q8 d9 _ _
        subst d9
        replace h := h.2.2
        obtain ⟨v9, e9, h⟩ := h
        intro x9 d9 _ _
        have c9 : v9 = x9 := e9.trans d9.symm
        subst c9
        replace h := h.2.2
        exact vw_X9_dropUnreached_J62 (fun _ _ _ _ _ h => ih h) h
      · refine ⟨fun c2 => absurd c2 c, fun _ => ?_⟩
        obtain ⟨v9, e9, h⟩ := h
        intro x9 d9 
        have c9 : v9 = x9 := e9.trans d9.symm
        subst c9
        exact vw_X9_dropUnreached_J62 (fun _ _ _ _ _ h => ih h) h
set_option maxRecDepth 100000 in
theorem vp_X9_dropUnreached_L19 {ro : Int32} {uo : MS} {P : Int32 → MS → Prop} : ∀ (n m : Nat) {U19 : MS} {v19_1 : Int32} {v19_2 : Int32} {v19_3 : Int32} {v19_4 : Int32}, v_X9_dropUnreached_L19 ro uo n U19 v19_1 v19_2 v19_3 v19_4 → w_X9_dropUnreached_L19 P m U19 v19_1 v19_2 v19_3 v19_4 → P ro uo := by
  intro n
  induction n with
  | zero => intro m U19 v19_1 v19_2 v19_3 v19_4 h; unfold v_X9_dropUnreached_L19 at h; exact h.elim
  | succ n ih =>
    intro m U19 v19_1 v19_2 v19_3 v19_4 h w
    cases m with
    | zero => unfold w_X9_dropUnreached_L19 at w; exact w.elim
    | succ m =>
      unfold v_X9_dropUnreached_L19 at h
      unfold w_X9_dropUnreached_L19 at w
      obtain ⟨y3_, y4_, h⟩ := h
      replace w := w y3_ y4_
      rcases h with ⟨c, h⟩ | ⟨c, h⟩
      · replace w := w.1 c
        rw [h.1, h.2]
        exact w
      · replace w := w.2 c
        replace h := h.2
        replace w := w.2
        rcases h with ⟨c, h⟩ | ⟨c, h⟩
        · replace w := w.1 c
          obtain ⟨y5_, h⟩ := h
          replace w := w y5_
          obtain ⟨q9, z9, y6_, y7_, h⟩ := h
          obtain ⟨Q9, w0, w⟩ := w
          replace w := w q9 (vpX8_remove z9 w0) y6_ y7_
          obtain ⟨v9, e9, y8_, y9_, h⟩ := h
          replace w := w v9 e9 y8_ y9_
          exact vp_X9_dropUnreached_J62 (fun _ _ _ _ _ h w => ih m h w) h w
        · replace w := w.2 c
          obtain ⟨v9, e9, h⟩ := h
          replace w := w v9 e9 
          exact vp_X9_dropUnreached_J62 (fun _ _ _ _ _ h w => ih m h w) h w
set_option maxRecDepth 100000 in
theorem vwX9_dropUnreached {S : MS} {ro : Int32} {uo : MS} (h : vX9_dropUnreached S ro uo) : wX9_dropUnreached S (fun r u => r = ro ∧ u = uo) := by
  unfold vX9_dropUnreached at h
  unfold wX9_dropUnreached
  obtain ⟨q9, z9, h⟩ := h
  refine ⟨_, vwX9_findReached z9, ?_⟩
  intro q8 d9 _ _
  subst d9
  replace h := h.2.2
  obtain ⟨v9, e9, h⟩ := h
  intro x9 d9 
  have c9 : v9 = x9 := e9.trans d9.symm
  subst c9
  obtain ⟨n9, h⟩ := h
  exact ⟨n9, vw_X9_dropUnreached_L19 n9 h⟩
set_option maxRecDepth 100000 in
theorem vpX9_dropUnreached {S : MS} {ro : Int32} {uo : MS} {P : Int32 → MS → Prop} (h : vX9_dropUnreached S ro uo) (w : wX9_dropUnreached S P) : P ro uo := by
  unfold vX9_dropUnreached at h
  unfold wX9_dropUnreached at w
  obtain ⟨q9, z9, y10_, y11_, h⟩ := h
  obtain ⟨Q9, w0, w⟩ := w
  replace w := w q9 (vpX9_findReached z9 w0) y10_ y11_
  obtain ⟨v9, e9, h⟩ := h
  replace w := w v9 e9 
  obtain ⟨n9, h⟩ := h
  obtain ⟨n8, w⟩ := w
  exact vp_X9_dropUnreached_L19 n9 n8 h w
def v_X9_findLive_J62 (uo : MS) (k34 : MS → Int32 → Int32 → Int32 → Prop) (U62 : MS) (t62_0 : Int32) (t62_1 : Int32) (v62_2 : Int32) (v62_3 : Int32) (v62_4 : Int32) : Prop := (wfC U62 ∧ (t62_0 = 0 ∨ t62_0 = 1) ∧ (∃ a20 : Int32, a20 = (t62_1 ||| t62_0) ∧ (((0 : Int) ≤ v62_3.toInt ∧ v62_3.toInt < (qN U62 (qO U62 66 4) : Int)) ∧ (∃ S23 : MS, S23 = wI U62 (qO U62 66 4) v62_3.toInt.toNat v62_4 ∧ qT U62 (qO U62 66 4) = 229 ∧ wfC S23 ∧ (∃ a24 : Int32, a24 = (v62_3 + Int32.ofInt (-1)) ∧ (k34 S23 a20 v62_2 a24))))))
def v_X9_findLive_L34 (uo : MS) (k12 : MS → Int32 → Int32 → Prop) : Nat → MS → Int32 → Int32 → Int32 → Prop
  | 0, _, _, _, _ => False
  | n34 + 1, U34, v34_1, v34_2, v34_3 => (wfC U34 ∧ ((v34_3.toInt < 0 ∧ (∃ a11 : Int32, a11 = (v34_2 + Int32.ofInt 1) ∧ (k12 U34 v34_1 a11))) ∨ (¬ v34_3.toInt < 0 ∧ (∃ (r13 : Int32) (S14 : MS), vX9_liveBefore U34 v34_3 r13 S14 ∧ wfC S14 ∧ shy U34 S14 ∧ (((0 : Int) ≤ v34_3.toInt ∧ v34_3.toInt < (qN S14 (qO S14 66 4) : Int)) ∧ ((r13.toInt = (qI S14 (qO S14 66 4) v34_3.toInt.toNat).toInt ∧ (v_X9_findLive_J62 uo (v_X9_findLive_L34 uo k12 n34) S14 0 v34_1 v34_2 v34_3 r13)) ∨ (¬ r13.toInt = (qI S14 (qO S14 66 4) v34_3.toInt.toNat).toInt ∧ (v_X9_findLive_J62 uo (v_X9_findLive_L34 uo k12 n34) S14 1 v34_1 v34_2 v34_3 r13))))))))
def v_X9_findLive_L12 (uo : MS) : Nat → MS → Int32 → Int32 → Prop
  | 0, _, _, _ => False
  | n12 + 1, U12, v12_1, v12_2 => (wfC U12 ∧ ((v12_1.toInt = 0 ∧ (uo = U12)) ∨ (¬ v12_1.toInt = 0 ∧ ((1000000 ≤ v12_2.toInt ∧ (uo = U12)) ∨ (¬ 1000000 ≤ v12_2.toInt ∧ (∃ a9 : Int32, a9 = ((qI U12 (qO U12 66 0) 2) - (1 : Int32)) ∧ (∃ n, v_X9_findLive_L34 uo (v_X9_findLive_L12 uo n12) n U12 0 v12_2 a9)))))))
def vX9_findLive (S : MS) (uo : MS) : Prop := (qT S (qO S 66 4) = 229 ∧ (∃ (S3 : MS), vJ7_fill_53178 S (qO S 66 4) (0 : Int32) S3 ∧ wfC S3 ∧ shy S S3 ∧ (∃ n, v_X9_findLive_L12 uo n S3 1 0)))
set_option maxRecDepth 100000 in
theorem ru_X9_findLive_J62 {ι : Type} {P Q : MS → Prop} {k34 k34' : MS → Int32 → Int32 → Int32 → Prop} {k34v : ι → MS → MS → Int32 → Int32 → Int32 → Prop} {U62 : MS} {t62_0 : Int32} {t62_1 : Int32} {v62_2 : Int32} {v62_3 : Int32} {v62_4 : Int32} (i0 : ι) (hk34 : ∀ (u : MS) (z0 : Int32) (z1 : Int32) (z2 : Int32), k34 u z0 z1 z2 → (∀ (i : ι) (uo : MS), k34v i uo u z0 z1 z2 → P uo) → k34' u z0 z1 z2) (K : ∀ (i : ι) (uo : MS), v_X9_findLive_J62 uo (k34v i uo) U62 t62_0 t62_1 v62_2 v62_3 v62_4 → P uo) (h : w_X9_findLive_J62 Q k34 U62 t62_0 t62_1 v62_2 v62_3 v62_4) : w_X9_findLive_J62 (fun u => Q u ∧ P u) k34' U62 t62_0 t62_1 v62_2 v62_3 v62_4 := by
  unfold w_X9_findLive_J62 at h ⊢
  intro y1_ y2_
  replace h := h y1_ y2_
  replace K := fun i uo z => K i uo ⟨y1_, y2_, z⟩
  intro a20 ea20 
  replace h := h a20 ea20 
  replace K := fun i uo z => K i uo ⟨a20, ea20, z⟩
  obtain ⟨g3_, h⟩ := h
  refine ⟨g3_, ?_⟩
  replace K := fun i uo z => K i uo ⟨g3_, z⟩
  intro S23 eS23 y4_ y5_
  replace h := h S23 eS23 y4_ y5_
  replace K := fun i uo z => K i uo ⟨S23, eS23, y4_, y5_, z⟩
  intro a24 ea24 
  replace h := h a24 ea24 
  replace K := fun i uo z => K i uo ⟨a24, ea24, z⟩
  exact hk34 _ _ _ _ h K
set_option maxRecDepth 100000 in
theorem ru_X9_findLive_L34 {ι : Type} {P Q : MS → Prop} {k12 k12' : MS → Int32 → Int32 → Prop} {k12v : ι → MS → MS → Int32 → Int32 → Prop} : ∀ (n : Nat) {U34 : MS} {v34_1 : Int32} {v34_2 : Int32} {v34_3 : Int32} (i0 : ι) (hk12 : ∀ (u : MS) (z0 : Int32) (z1 : Int32), k12 u z0 z1 → (∀ (i : ι) (uo : MS), k12v i uo u z0 z1 → P uo) → k12' u z0 z1), (∀ (i : ι) (uo : MS), (∃ n8, v_X9_findLive_L34 uo (k12v i uo) n8 U34 v34_1 v34_2 v34_3) → P uo) → w_X9_findLive_L34 Q k12 n U34 v34_1 v34_2 v34_3 → w_X9_findLive_L34 (fun u => Q u ∧ P u) k12' n U34 v34_1 v34_2 v34_3 := by
  intro n
  induction n with
  | zero => intro U34 v34_1 v34_2 v34_3 i0 hk12 K h; unfold w_X9_findLive_L34 at h; exact h.elim
  | succ n ih =>
    intro U34 v34_1 v34_2 v34_3 i0 hk12 K h
    unfold w_X9_findLive_L34 at h ⊢
    replace K := fun (i : ι × Nat) uo (z : v_X9_findLive_L34 uo (k12v i.1 uo) (i.2 + 1) U34 v34_1 v34_2 v34_3) => K i.1 uo ⟨i.2 + 1, z⟩
    have i00 := i0
    replace i0 : ι × Nat := (i0, 0)
    intro y6_
    replace h := h y6_
    replace K := fun i uo z => K i uo ⟨y6_, z⟩
    refine ⟨fun c => ?_, fun c => ?_⟩
    · replace h := h.1 c
      replace K := fun i uo z => K i uo (Or.inl ⟨c, z⟩)
      intro a11 ea11 
      replace h := h a11 ea11 
      replace K := fun i uo z => K i uo ⟨a11, ea11, z⟩
      exact hk12 _ _ _ h (fun i uo z => K (i, 0) uo z)
    · replace h := h.2 c
      replace K := fun i uo z => K i uo (Or.inr ⟨c, z⟩)
      obtain ⟨Q9, h0, h⟩ := h
      refine ⟨_, ruX9_liveBefore h0, ?_⟩
      intro r13 S14 q7_ y8_ y9_
      replace h := h r13 S14 q7_.1 y8_ y9_
      replace K := fun i uo z => K i uo ⟨r13, S14, q7_.2, y8_, y9_, z⟩
      obtain ⟨g10_, h⟩ := h
      refine ⟨g10_, ?_⟩
      replace K := fun i uo z => K i uo ⟨g10_, z⟩
      refine ⟨fun c => ?_, fun c => ?_⟩
      · replace h := h.1 c
        replace K := fun i uo z => K i uo (Or.inl ⟨c, z⟩)
        exact ru_X9_findLive_J62 i0 (fun _ _ _ _ h K => ih i00 hk12 (fun i uo ⟨n8, z⟩ => K (i, n8) uo z) h) K h
      · replace h := h.2 c
        replace K := fun i uo z => K i uo (Or.inr ⟨c, z⟩)
        exact ru_X9_findLive_J62 i0 (fun _ _ _ _ h K => ih i00 hk12 (fun i uo ⟨n8, z⟩ => K (i, n8) uo z) h) K h
set_option maxRecDepth 100000 in
theorem ru_X9_findLive_L12 {ι : Type} {P Q : MS → Prop} : ∀ (n : Nat) {U12 : MS} {v12_1 : Int32} {v12_2 : Int32} (i0 : ι), (∀ (i : ι) (uo : MS), (∃ n8, v_X9_findLive_L12 uo n8 U12 v12_1 v12_2) → P uo) → w_X9_findLive_L12 Q n U12 v12_1 v12_2 → w_X9_findLive_L12 (fun u => Q u ∧ P u) n U12 v12_1 v12_2 := by
  intro n
  induction n with
  | zero => intro U12 v12_1 v12_2 i0 K h; unfold w_X9_findLive_L12 at h; exact h.elim
  | succ n ih =>
    intro U12 v12_1 v12_2 i0 K h
    unfold w_X9_findLive_L12 at h ⊢
    replace K := fun (i : ι × Nat) uo (z : v_X9_findLive_L12 uo (i.2 + 1) U12 v12_1 v12_2) => K i.1 uo ⟨i.2 + 1, z⟩
    have i00 := i0
    replace i0 : ι × Nat := (i0, 0)
    intro y11_
    replace h := h y11_
    replace K := fun i uo z => K i uo ⟨y11_, z⟩
    refine ⟨fun c => ?_, fun c => ?_⟩
    · replace h := h.1 c
      replace K := fun i uo z => K i uo (Or.inl ⟨c, z⟩)
      exact ⟨h, K i0 _ rfl⟩
    · replace h := h.2 c
      replace K := fun i uo z => K i uo (Or.inr ⟨c, z⟩)
      refine ⟨fun c => ?_, fun c => ?_⟩
      · replace h := h.1 c
        replace K := fun i uo z => K i uo (Or.inl ⟨c, z⟩)
        exact ⟨h, K i0 _ rfl⟩
      · replace h := h.2 c
        replace K := fun i uo z => K i uo (Or.inr ⟨c, z⟩)
        intro a9 ea9 
        replace h := h a9 ea9 
        replace K := fun i uo z => K i uo ⟨a9, ea9, z⟩
        obtain ⟨n9, h⟩ := h
        exact ⟨n9, ru_X9_findLive_L34 n9 i0 (fun _ _ _ h K => ih i00 (fun i uo ⟨n8, z⟩ => K (i, n8) uo z) h) K h⟩
set_option maxRecDepth 100000 in
theorem ruX9_findLive {S : MS} {Q : MS → Prop} (h : wX9_findLive S Q) : wX9_findLive S (fun u => Q u ∧ vX9_findLive S u) := by
  have i0 : Unit := ()
  have K : ∀ (i : Unit) (uo : MS), vX9_findLive S uo → vX9_findLive S uo := fun _ _ z => z
  unfold wX9_findLive at h ⊢
  intro y12_
  replace h := h y12_
  replace K := fun i uo z => K i uo ⟨y12_, z⟩
  obtain ⟨Q9, h0, h⟩ := h
  refine ⟨_, ruJ7_fill_53178 h0, ?_⟩
  intro S3 q13_ y14_ y15_
  replace h := h S3 q13_.1 y14_ y15_
  replace K := fun i uo z => K i uo ⟨S3, q13_.2, y14_, y15_, z⟩
  obtain ⟨n9, h⟩ := h
  exact ⟨n9, ru_X9_findLive_L12 n9 i0 K h⟩
set_option maxRecDepth 100000 in
theorem vw_X9_findLive_J62 {uo : MS} {k34 k34v : MS → Int32 → Int32 → Int32 → Prop} {U62 : MS} {t62_0 : Int32} {t62_1 : Int32} {v62_2 : Int32} {v62_3 : Int32} {v62_4 : Int32} (hk34 : ∀ (u : MS) (z0 : Int32) (z1 : Int32) (z2 : Int32), k34v u z0 z1 z2 → k34 u z0 z1 z2) (h : v_X9_findLive_J62 uo k34v U62 t62_0 t62_1 v62_2 v62_3 v62_4) : w_X9_findLive_J62 (fun u => u = uo) k34 U62 t62_0 t62_1 v62_2 v62_3 v62_4 := by
  unfold v_X9_findLive_J62 at h
  unfold w_X9_findLive_J62
  intro _ _
  replace h := h.2.2
  obtain ⟨v9, e9, h⟩ := h
  intro x9 d9 
  have c9 : v9 = x9 := e9.trans d9.symm
  subst c9
  obtain ⟨g9, h⟩ := h
  refine ⟨g9, ?_⟩
  obtain ⟨v9, e9, h⟩ := h
  intro x9 d9 _ _
  have c9 : v9 = x9 := e9.trans d9.symm
  subst c9
  replace h := h.2.2
  obtain ⟨v9, e9, h⟩ := h
  intro x9 d9 
  have c9 : v9 = x9 := e9.trans d9.symm
  subst c9
  exact hk34 _ _ _ _ h
set_option maxRecDepth 100000 in
theorem vp_X9_findLive_J62 {uo : MS} {P : MS → Prop} {k34 k34v : MS → Int32 → Int32 → Int32 → Prop} {U62 : MS} {t62_0 : Int32} {t62_1 : Int32} {v62_2 : Int32} {v62_3 : Int32} {v62_4 : Int32} (hk34 : ∀ (u : MS) (z0 : Int32) (z1 : Int32) (z2 : Int32), k34v u z0 z1 z2 → k34 u z0 z1 z2 → P uo) (h : v_X9_findLive_J62 uo k34v U62 t62_0 t62_1 v62_2 v62_3 v62_4) (w : w_X9_findLive_J62 P k34 U62 t62_0 t62_1 v62_2 v62_3 v62_4) : P uo := by
  unfold v_X9_findLive_J62 at h
  unfold w_X9_findLive_J62 at w
  obtain ⟨y1_, y2_, h⟩ := h
  replace w := w y1_ y2_
  obtain ⟨v9, e9, h⟩ := h
  replace w := w v9 e9 
  replace h := h.2
  replace w := w.2
  obtain ⟨v9, e9, y3_, y4_, h⟩ := h
  replace w := w v9 e9 y3_ y4_
  obtain ⟨v9, e9, h⟩ := h
  replace w := w v9 e9 
  exact hk34 _ _ _ _ h w
set_option maxRecDepth 100000 in
theorem vw_X9_findLive_L34 {uo : MS} {k12 k12v : MS → Int32 → Int32 → Prop} : ∀ (n : Nat) {U34 : MS} {v34_1 : Int32} {v34_2 : Int32} {v34_3 : Int32} (hk12 : ∀ (u : MS) (z0 : Int32) (z1 : Int32), k12v u z0 z1 → k12 u z0 z1), v_X9_findLive_L34 uo k12v n U34 v34_1 v34_2 v34_3 → w_X9_findLive_L34 (fun u => u = uo) k12 n U34 v34_1 v34_2 v34_3 := by
  intro n
  induction n with
  | zero => intro U34 v34_1 v34_2 v34_3 hk12 h; unfold v_X9_findLive_L34 at h; exact h.elim
  | succ n ih =>
    intro U34 v34_1 v34_2 v34_3 hk12 h
    unfold v_X9_findLive_L34 at h
    unfold w_X9_findLive_L34
    intro _
    replace h := h.2
    rcases h with ⟨c, h⟩ | ⟨c, h⟩
    · refine ⟨fun _ => ?_, fun c2 => absurd c c2⟩
      obtain ⟨v9, e9, h⟩ := h
      intro x9 d9 
      have c9 : v9 = x9 := e9.trans d9.symm
      subst c9
      exact hk12 _ _ _ h
    · refine ⟨fun c2 => absurd c2 c, fun _ => ?_⟩
      obtain ⟨p9, q9, z9, h⟩ := h
      refine ⟨_, vwX9_liveBefore z9, ?_⟩
      rintro p8 q8 ⟨d8, d9⟩ _ _
      subst d8
      subst d9
      replace h := h.2.2
      obtain ⟨g9, h⟩ := h
      refine ⟨g9, ?_⟩
      rcases h with ⟨c, h⟩ | ⟨c, h⟩
      · refine ⟨fun _ => ?_, fun c2 => absurd c c2⟩
        exact vw_X9_findLive_J62 (fun _ _ _ _ h => ih hk12 h) h
      · refine ⟨fun c2 => absurd c2 c, fun _ => ?_⟩
        exact vw_X9_findLive_J62 (fun _ _ _ _ h => ih hk12 h) h
set_option maxRecDepth 100000 in
theorem vp_X9_findLive_L34 {uo : MS} {P : MS → Prop} {k12 k12v : MS → Int32 → Int32 → Prop} : ∀ (n m : Nat) {U34 : MS} {v34_1 : Int32} {v34_2 : Int32} {v34_3 : Int32} (hk12 : ∀ (u : MS) (z0 : Int32) (z1 : Int32), k12v u z0 z1 → k12 u z0 z1 → P uo), v_X9_findLive_L34 uo k12v n U34 v34_1 v34_2 v34_3 → w_X9_findLive_L34 P k12 m U34 v34_1 v34_2 v34_3 → P uo := by
  intro n
  induction n with
  | zero => intro m U34 v34_1 v34_2 v34_3 hk12 h; unfold v_X9_findLive_L34 at h; exact h.elim
  | succ n ih =>
    intro m U34 v34_1 v34_2 v34_3 hk12 h w
    cases m with
    | zero => unfold w_X9_findLive_L34 at w; exact w.elim
    | succ m =>
      unfold v_X9_findLive_L34 at h
      unfold w_X9_findLive_L34 at w
      obtain ⟨y5_, h⟩ := h
      replace w := w y5_
      rcases h with ⟨c, h⟩ | ⟨c, h⟩
      · replace w := w.1 c
        obtain ⟨v9, e9, h⟩ := h
        replace w := w v9 e9 
        exact hk12 _ _ _ h w
      · replace w := w.2 c
        obtain ⟨p9, q9, z9, y6_, y7_, h⟩ := h
        obtain ⟨Q9, w0, w⟩ := w
        replace w := w p9 q9 (vpX9_liveBefore z9 w0) y6_ y7_
        replace h := h.2
        replace w := w.2
        rcases h with ⟨c, h⟩ | ⟨c, h⟩
        · replace w := w.1 c
          exact vp_X9_findLive_J62 (fun _ _ _ _ h w => ih m hk12 h w) h w
        · replace w := w.2 c
          exact vp_X9_findLive_J62 (fun _ _ _ _ h w => ih m hk12 h w) h w
set_option maxRecDepth 100000 in
theorem vw_X9_findLive_L12 {uo : MS} : ∀ (n : Nat) {U12 : MS} {v12_1 : Int32} {v12_2 : Int32}, v_X9_findLive_L12 uo n U12 v12_1 v12_2 → w_X9_findLive_L12 (fun u => u = uo) n U12 v12_1 v12_2 := by
  intro n
  induction n with
  | zero => intro U12 v12_1 v12_2 h; unfold v_X9_findLive_L12 at h; exact h.elim
  | succ n ih =>
    intro U12 v12_1 v12_2 h
    unfold v_X9_findLive_L12 at h
    unfold w_X9_findLive_L12
    intro _
    replace h := h.2
    rcases h with ⟨c, h⟩ | ⟨c, h⟩
    · refine ⟨fun _ => ?_, fun c2 => absurd c c2⟩
      exact h.symm
    · refine ⟨fun c2 => absurd c2 c, fun _ => ?_⟩
      rcases h with ⟨c, h⟩ | ⟨c, h⟩
      · refine ⟨fun _ => ?_, fun c2 => absurd c c2⟩
        exact h.symm
      · refine ⟨fun c2 => absurd c2 c, fun _ => ?_⟩
        obtain ⟨v9, e9, h⟩ := h
        intro x9 d9 
        have c9 : v9 = x9 := e9.trans d9.symm
        subst c9
        obtain ⟨n9, h⟩ := h
        exact ⟨n9, vw_X9_findLive_L34 n9 (fun _ _ _ h => ih h) h⟩
set_option maxRecDepth 100000 in
theorem vp_X9_findLive_L12 {uo : MS} {P : MS → Prop} : ∀ (n m : Nat) {U12 : MS} {v12_1 : Int32} {v12_2 : Int32}, v_X9_findLive_L12 uo n U12 v12_1 v12_2 → w_X9_findLive_L12 P m U12 v12_1 v12_2 → P uo := by
  intro n
  induction n with
  | zero => intro m U12 v12_1 v12_2 h; unfold v_X9_findLive_L12 at h; exact h.elim
  | succ n ih =>
    intro m U12 v12_1 v12_2 h w
    cases m with
    | zero => unfold w_X9_findLive_L12 at w; exact w.elim
    | succ m =>
      unfold v_X9_findLive_L12 at h
      unfold w_X9_findLive_L12 at w
      obtain ⟨y8_, h⟩ := h
      replace w := w y8_
      rcases h with ⟨c, h⟩ | ⟨c, h⟩
      · replace w := w.1 c
        rw [h]
        exact w
      · replace w := w.2 c
        rcases h with ⟨c, h⟩ | ⟨c, h⟩
        · replace w := w.1 c
          rw [h]
          exact w
        · replace w := w.2 c
          obtain ⟨v9, e9, h⟩ := h
          replace w := w v9 e9 
          obtain ⟨n9, h⟩ := h
          obtain ⟨n8, w⟩ := w
          exact vp_X9_findLive_L34 n9 n8 (fun _ _ _ h w => ih m h w) h w
set_option maxRecDepth 100000 in
theorem vwX9_findLive {S : MS} {uo : MS} (h : vX9_findLive S uo) : wX9_findLive S (fun u => u = uo) := by
  unfold vX9_findLive at h
  unfold wX9_findLive
  intro _
  replace h := h.2
  obtain ⟨q9, z9, h⟩ := h
  refine ⟨_, vwJ7_fill_53178 z9, ?_⟩
  intro q8 d9 _ _
  subst d9
  replace h := h.2.2
  obtain ⟨n9, h⟩ := h
  exact ⟨n9, vw_X9_findLive_L12 n9 h⟩
set_option maxRecDepth 100000 in
theorem vpX9_findLive {S : MS} {uo : MS} {P : MS → Prop} (h : vX9_findLive S uo) (w : wX9_findLive S P) : P uo := by
  unfold vX9_findLive at h
  unfold wX9_findLive at w
  obtain ⟨y9_, h⟩ := h
  replace w := w y9_
  obtain ⟨q9, z9, y10_, y11_, h⟩ := h
  obtain ⟨Q9, w0, w⟩ := w
  replace w := w q9 (vpJ7_fill_53178 z9 w0) y10_ y11_
  obtain ⟨n9, h⟩ := h
  obtain ⟨n8, w⟩ := w
  exact vp_X9_findLive_L12 n9 n8 h w
def v_X11_addMethod_L229 (uo : MS) : Nat → MS → Int32 → Prop
  | 0, _, _ => False
  | n229 + 1, U229, v229_5 => (wfC U229 ∧ ((qR U229 25 15 = some (qO U229 25 15)) ∧ (((qI U229 (qO U229 25 15) 9).toInt ≤ v229_5.toInt ∧ (qT U229 28 = 40 ∧ (∃ (S102 : MS), vX0_put2 U229 28 (0 : Int32) S102 ∧ wfC S102 ∧ shx U229 S102 ∧ (uo = S102)))) ∨ (¬ (qI U229 (qO U229 25 15) 9).toInt ≤ v229_5.toInt ∧ ((qR U229 25 15 = some (qO U229 25 15)) ∧ ((qR U229 (qO U229 25 15) 5 = some (qO U229 (qO U229 25 15) 5)) ∧ (((0 : Int) ≤ v229_5.toInt ∧ v229_5.toInt < (qN U229 (qO U229 (qO U229 25 15) 5) : Int)) ∧ (d_X11_offsetOf U229 (qI U229 (qO U229 (qO U229 25 15) 5) v229_5.toInt.toNat) ∧ (∃ a114 : Int32, a114 = (fX11_offsetOf U229 (qI U229 (qO U229 (qO U229 25 15) 5) v229_5.toInt.toNat)) ∧ (qT U229 28 = 40 ∧ (∃ (S116 : MS), vX0_put2 U229 28 a114 S116 ∧ wfC S116 ∧ shx U229 S116 ∧ ((qR S116 25 15 = some (qO S116 25 15)) ∧ ((qR S116 (qO S116 25 15) 6 = some (qO S116 (qO S116 25 15) 6)) ∧ (((0 : Int) ≤ v229_5.toInt ∧ v229_5.toInt < (qN S116 (qO S116 (qO S116 25 15) 6) : Int)) ∧ (d_X11_offsetOf S116 (qI S116 (qO S116 (qO S116 25 15) 6) v229_5.toInt.toNat) ∧ (∃ a128 : Int32, a128 = (fX11_offsetOf S116 (qI S116 (qO S116 (qO S116 25 15) 6) v229_5.toInt.toNat)) ∧ (qT S116 28 = 40 ∧ (∃ (S130 : MS), vX0_put2 S116 28 a128 S130 ∧ wfC S130 ∧ shx S116 S130 ∧ ((qR S130 25 15 = some (qO S130 25 15)) ∧ ((qR S130 (qO S130 25 15) 7 = some (qO S130 (qO S130 25 15) 7)) ∧ (((0 : Int) ≤ v229_5.toInt ∧ v229_5.toInt < (qN S130 (qO S130 (qO S130 25 15) 7) : Int)) ∧ (d_X11_offsetOf S130 (qI S130 (qO S130 (qO S130 25 15) 7) v229_5.toInt.toNat) ∧ (∃ a142 : Int32, a142 = (fX11_offsetOf S130 (qI S130 (qO S130 (qO S130 25 15) 7) v229_5.toInt.toNat)) ∧ (qT S130 28 = 40 ∧ (∃ (S144 : MS), vX0_put2 S130 28 a142 S144 ∧ wfC S144 ∧ shx S130 S144 ∧ ((qR S144 25 15 = some (qO S144 25 15)) ∧ ((qR S144 (qO S144 25 15) 8 = some (qO S144 (qO S144 25 15) 8)) ∧ (((0 : Int) ≤ v229_5.toInt ∧ v229_5.toInt < (qN S144 (qO S144 (qO S144 25 15) 8) : Int)) ∧ (∃ (r154 : Int32) (S155 : MS), vX11_classOf S144 (qI S144 (qO S144 (qO S144 25 15) 8) v229_5.toInt.toNat) r154 S155 ∧ wfC S155 ∧ shx S144 S155 ∧ (qT S155 28 = 40 ∧ (∃ (S159 : MS), vX0_put2 S155 28 r154 S159 ∧ wfC S159 ∧ shx S155 S159 ∧ (∃ a162 : Int32, a162 = (v229_5 + Int32.ofInt 1) ∧ ((v_X11_addMethod_L229 uo n229) S159 a162)))))))))))))))))))))))))))))))))
def v_X11_addMethod_L186 (uo : MS) : Nat → MS → Int32 → Int32 → Prop
  | 0, _, _, _ => False
  | n186 + 1, U186, v186_4, v186_5 => (wfC U186 ∧ ((qR U186 25 15 = some (qO U186 25 15)) ∧ (((qI U186 (qO U186 25 15) 2).toInt ≤ v186_5.toInt ∧ ((qR U186 25 15 = some (qO U186 25 15)) ∧ (qT U186 28 = 40 ∧ (∃ (S95 : MS), vX0_put2 U186 28 (qI U186 (qO U186 25 15) 9) S95 ∧ wfC S95 ∧ shx U186 S95 ∧ (∃ n, v_X11_addMethod_L229 uo n S95 0))))) ∨ (¬ (qI U186 (qO U186 25 15) 2).toInt ≤ v186_5.toInt ∧ (∃ (S164 : MS), vX11_putInstruction U186 v186_5 v186_4 S164 ∧ wfC S164 ∧ shx U186 S164 ∧ (∃ a167 : Int32, a167 = (v186_5 + Int32.ofInt 1) ∧ ((v_X11_addMethod_L186 uo n186) S164 v186_4 a167)))))))
def vX11_addMethod (S : MS) (p1 : Option Nat) (uo : MS) : Prop := ((p1 = none ∧ (∃ S2 : MS, S2 = wR S 25 15 none ∧ qT S 25 = 50 ∧ wfC S2 ∧ (((qR S2 25 15) = none ∧ (uo = S2)) ∨ (¬ (qR S2 25 15) = none ∧ ((qR S2 25 15 = some (qO S2 25 15)) ∧ (((qI S2 (qO S2 25 15) 11).toInt < 0 ∧ (uo = S2)) ∨ (¬ (qI S2 (qO S2 25 15) 11).toInt < 0 ∧ ((qR S2 25 15 = some (qO S2 25 15)) ∧ ((qR S2 25 7 = some (qO S2 25 7)) ∧ ((qR S2 (qO S2 25 7) 9 = some (qO S2 (qO S2 25 7) 9)) ∧ (((qI S2 (qO S2 25 15) 11).toInt < (qN S2 (qO S2 (qO S2 25 7) 9) : Int) ∧ ((qR S2 25 7 = some (qO S2 25 7)) ∧ ((qR S2 (qO S2 25 7) 9 = some (qO S2 (qO S2 25 7) 9)) ∧ ((qR S2 25 15 = some (qO S2 25 15)) ∧ (((0 : Int) ≤ (qI S2 (qO S2 25 15) 11).toInt ∧ (qI S2 (qO S2 25 15) 11).toInt < (qN S2 (qO S2 (qO S2 25 7) 9) : Int)) ∧ (∃ (r25 : Int32) (S26 : MS), vX11_nameEntry S2 (qI S2 (qO S2 (qO S2 25 7) 9) (((qI S2 (qO S2 25 15) 11).toInt).toNat)) r25 S26 ∧ wfC S26 ∧ shx S2 S26 ∧ ((qR S26 25 7 = some (qO S26 25 7)) ∧ ((qR S26 (qO S26 25 7) 10 = some (qO S26 (qO S26 25 7) 10)) ∧ ((qR S26 25 15 = some (qO S26 25 15)) ∧ (((0 : Int) ≤ (qI S26 (qO S26 25 15) 11).toInt ∧ (qI S26 (qO S26 25 15) 11).toInt < (qN S26 (qO S26 (qO S26 25 7) 10) : Int)) ∧ (∃ (r38 : Int32) (S39 : MS), vX11_nameEntry S26 (qI S26 (qO S26 (qO S26 25 7) 10) (((qI S26 (qO S26 25 15) 11).toInt).toNat)) r38 S39 ∧ wfC S39 ∧ shx S26 S39 ∧ (∃ (S43 : MS), vX11_putMember S39 r25 r38 (1 : Int32) S43 ∧ wfC S43 ∧ shx S39 S43 ∧ (∃ (r47 : Int32) (S48 : MS), vX11_layOut S43 r47 S48 ∧ wfC S48 ∧ shx S43 S48 ∧ ((qR S48 25 7 = some (qO S48 25 7)) ∧ ((qR S48 25 15 = some (qO S48 25 15)) ∧ (qT S48 38 = 44 ∧ qT S48 (qO S48 25 7) = 49 ∧ qT S48 (qO S48 25 15) = 47 ∧ (∃ (S56 : MS), vX4_seek S48 38 (qO S48 25 7) (qO S48 25 15) (28 : Int32) S56 ∧ wfC S56 ∧ shx S48 S56 ∧ (qT S56 28 = 40 ∧ (∃ (S60 : MS), vX0_put2 S56 28 (qI S56 25 8) S60 ∧ wfC S60 ∧ shx S56 S60 ∧ ((qR S60 25 15 = some (qO S60 25 15)) ∧ (qT S60 28 = 40 ∧ (∃ (S69 : MS), vX0_put4 S60 28 (((12 : Int32) + r47) + ((8 : Int32) * (qI S60 (qO S60 25 15) 9))) S69 ∧ wfC S69 ∧ shx S60 S69 ∧ (qT S69 28 = 40 ∧ (∃ (S73 : MS), vX0_put2 S69 28 (qI S69 38 7) S73 ∧ wfC S73 ∧ shx S69 S73 ∧ (∃ (r77 : Int32) (S78 : MS), vX11_leastLocals S73 r77 S78 ∧ wfC S78 ∧ shy S73 S78 ∧ (qT S78 28 = 40 ∧ (∃ (S81 : MS), vX0_put2 S78 28 r77 S81 ∧ wfC S81 ∧ shx S78 S81 ∧ (qT S81 28 = 40 ∧ (∃ (S85 : MS), vX0_put4 S81 28 r47 S85 ∧ wfC S85 ∧ shx S81 S85 ∧ (∃ a88 : Int32, a88 = (qI S85 28 1) ∧ (∃ n, v_X11_addMethod_L186 uo n S85 a88 0))))))))))))))))))))))))))))))) ∨ (¬ (qI S2 (qO S2 25 15) 11).toInt < (qN S2 (qO S2 (qO S2 25 7) 9) : Int) ∧ (uo = S2))))))))))))) ∨ (¬ p1 = none ∧ (∃ S168 : MS, S168 = wR S 25 15 (some ((p1).getD 0)) ∧ qT S 25 = 50 ∧ wfC S168 ∧ (((qR S168 25 15) = none ∧ (uo = S168)) ∨ (¬ (qR S168 25 15) = none ∧ ((qR S168 25 15 = some (qO S168 25 15)) ∧ (((qI S168 (qO S168 25 15) 11).toInt < 0 ∧ (uo = S168)) ∨ (¬ (qI S168 (qO S168 25 15) 11).toInt < 0 ∧ ((qR S168 25 15 = some (qO S168 25 15)) ∧ ((qR S168 25 7 = some (qO S168 25 7)) ∧ ((qR S168 (qO S168 25 7) 9 = some (qO S168 (qO S168 25 7) 9)) ∧ (((qI S168 (qO S168 25 15) 11).toInt < (qN S168 (qO S168 (qO S168 25 7) 9) : Int) ∧ ((qR S168 25 7 = some (qO S168 25 7)) ∧ ((qR S168 (qO S168 25 7) 9 = some (qO S168 (qO S168 25 7) 9)) ∧ ((qR S168 25 15 = some (qO S168 25 15)) ∧ (((0 : Int) ≤ (qI S168 (qO S168 25 15) 11).toInt ∧ (qI S168 (qO S168 25 15) 11).toInt < (qN S168 (qO S168 (qO S168 25 7) 9) : Int)) ∧ (∃ (r191 : Int32) (S192 : MS), vX11_nameEntry S168 (qI S168 (qO S168 (qO S168 25 7) 9) (((qI S168 (qO S168 25 15) 11).toInt).toNat)) r191 S192 ∧ wfC S192 ∧ shx S168 S192 ∧ ((qR S192 25 7 = some (qO S192 25 7)) ∧ ((qR S192 (qO S192 25 7) 10 = some (qO S192 (qO S192 25 7) 10)) ∧ ((qR S192 25 15 = some (qO S192 25 15)) ∧ (((0 : Int) ≤ (qI S192 (qO S192 25 15) 11).toInt ∧ (qI S192 (qO S192 25 15) 11).toInt < (qN S192 (qO S192 (qO S192 25 7) 10) : Int)) ∧ (∃ (r204 : Int32) (S205 : MS), vX11_nameEntry S192 (qI S192 (qO S192 (qO S192 25 7) 10) (((qI S192 (qO S192 25 15) 11).toInt).toNat)) r204 S205 ∧ wfC S205 ∧ shx S192 S205 ∧ (∃ (S209 : MS), vX11_putMember S205 r191 r204 (1 : Int32) S209 ∧ wfC S209 ∧ shx S205 S209 ∧ (∃ (r213 : Int32) (S214 : MS), vX11_layOut S209 r213 S214 ∧ wfC S214 ∧ shx S209 S214 ∧ ((qR S214 25 7 = some (qO S214 25 7)) ∧ ((qR S214 25 15 = some (qO S214 25 15)) ∧ (qT S214 38 = 44 ∧ qT S214 (qO S214 25 7) = 49 ∧ qT S214 (qO S214 25 15) = 47 ∧ (∃ (S222 : MS), vX4_seek S214 38 (qO S214 25 7) (qO S214 25 15) (28 : Int32) S222 ∧ wfC S222 ∧ shx S214 S222 ∧ (qT S222 28 = 40 ∧ (∃ (S226 : MS), vX0_put2 S222 28 (qI S222 25 8) S226 ∧ wfC S226 ∧ shx S222 S226 ∧ ((qR S226 25 15 = some (qO S226 25 15)) ∧ (qT S226 28 = 40 ∧ (∃ (S235 : MS), vX0_put4 S226 28 (((12 : Int32) + r213) + ((8 : Int32) * (qI S226 (qO S226 25 15) 9))) S235 ∧ wfC S235 ∧ shx S226 S235 ∧ (qT S235 28 = 40 ∧ (∃ (S239 : MS), vX0_put2 S235 28 (qI S235 38 7) S239 ∧ wfC S239 ∧ shx S235 S239 ∧ (∃ (r243 : Int32) (S244 : MS), vX11_leastLocals S239 r243 S244 ∧ wfC S244 ∧ shy S239 S244 ∧ (qT S244 28 = 40 ∧ (∃ (S247 : MS), vX0_put2 S244 28 r243 S247 ∧ wfC S247 ∧ shx S244 S247 ∧ (qT S247 28 = 40 ∧ (∃ (S251 : MS), vX0_put4 S247 28 r213 S251 ∧ wfC S251 ∧ shx S247 S251 ∧ (∃ a254 : Int32, a254 = (qI S251 28 1) ∧ (∃ n, v_X11_addMethod_L186 uo n S251 a254 0))))))))))))))))))))))))))))))) ∨ (¬ (qI S168 (qO S168 25 15) 11).toInt < (qN S168 (qO S168 (qO S168 25 7) 9) : Int) ∧ (uo = S168))))))))))))))
set_option maxRecDepth 100000 in
theorem ru_X11_addMethod_L229 {ι : Type} {P Q : MS → Prop} : ∀ (n : Nat) {U229 : MS} {v229_5 : Int32} (i0 : ι), (∀ (i : ι) (uo : MS), (∃ n8, v_X11_addMethod_L229 uo n8 U229 v229_5) → P uo) → w_X11_addMethod_L229 Q n U229 v229_5 → w_X11_addMethod_L229 (fun u => Q u ∧ P u) n U229 v229_5 := by
  intro n
  induction n with
  | zero => intro U229 v229_5 i0 K h; unfold w_X11_addMethod_L229 at h; exact h.elim
  | succ n ih =>
    intro U229 v229_5 i0 K h
    unfold w_X11_addMethod_L229 at h ⊢
    replace K := fun (i : ι × Nat) uo (z : v_X11_addMethod_L229 uo (i.2 + 1) U229 v229_5) => K i.1 uo ⟨i.2 + 1, z⟩
    have i00 := i0
    replace i0 : ι × Nat := (i0, 0)
    intro y1_
    replace h := h y1_
    replace K := fun i uo z => K i uo ⟨y1_, z⟩
    obtain ⟨g2_, h⟩ := h
    refine ⟨g2_, ?_⟩
    replace K := fun i uo z => K i uo ⟨g2_, z⟩
    refine ⟨fun c => ?_, fun c => ?_⟩
    · replace h := h.1 c
      replace K := fun i uo z => K i uo (Or.inl ⟨c, z⟩)
      intro y3_
      replace h := h y3_
      replace K := fun i uo z => K i uo ⟨y3_, z⟩
      obtain ⟨Q9, h0, h⟩ := h
      refine ⟨_, ruX0_put2 h0, ?_⟩
      intro S102 q4_ y5_ y6_
      replace h := h S102 q4_.1 y5_ y6_
      replace K := fun i uo z => K i uo ⟨S102, q4_.2, y5_, y6_, z⟩
      exact ⟨h, K i0 _ rfl⟩
    · replace h := h.2 c
      replace K := fun i uo z => K i uo (Or.inr ⟨c, z⟩)
      obtain ⟨g7_, h⟩ := h
      refine ⟨g7_, ?_⟩
      replace K := fun i uo z => K i uo ⟨g7_, z⟩
      obtain ⟨g8_, h⟩ := h
      refine ⟨g8_, ?_⟩
      replace K := fun i uo z => K i uo ⟨g8_, z⟩
      obtain ⟨g9_, h⟩ := h
      refine ⟨g9_, ?_⟩
      replace K := fun i uo z => K i uo ⟨g9_, z⟩
      obtain ⟨g10_, h⟩ := h
      refine ⟨g10_, ?_⟩
      replace K := fun i uo z => K i uo ⟨g10_, z⟩
      intro a114 ea114 
      replace h := h a114 ea114 
      replace K := fun i uo z => K i uo ⟨a114, ea114, z⟩
      intro y11_
      replace h := h y11_
      replace K := fun i uo z => K i uo ⟨y11_, z⟩
      obtain ⟨Q9, h0, h⟩ := h
      refine ⟨_, ruX0_put2 h0, ?_⟩
      intro S116 q12_ y13_ y14_
      replace h := h S116 q12_.1 y13_ y14_
      replace K := fun i uo z => K i uo ⟨S116, q12_.2, y13_, y14_, z⟩
      obtain ⟨g15_, h⟩ := h
      refine ⟨g15_, ?_⟩
      replace K := fun i uo z => K i uo ⟨g15_, z⟩
      obtain ⟨g16_, h⟩ := h
      refine ⟨g16_, ?_⟩
      replace K := fun i uo z => K i uo ⟨g16_, z⟩
      obtain ⟨g17_, h⟩ := h
      refine ⟨g17_, ?_⟩
      replace K := fun i uo z => K i uo ⟨g17_, z⟩
      obtain ⟨g18_, h⟩ := h
      refine ⟨g18_, ?_⟩
      replace K := fun i uo z => K i uo ⟨g18_, z⟩
      intro a128 ea128 
      replace h := h a128 ea128 
      replace K := fun i uo z => K i uo ⟨a128, ea128, z⟩
      intro y19_
      replace h := h y19_
      replace K := fun i uo z => K i uo ⟨y19_, z⟩
      obtain ⟨Q9, h0, h⟩ := h
      refine ⟨_, ruX0_put2 h0, ?_⟩
      intro S130 q20_ y21_ y22_
      replace h := h S130 q20_.1 y21_ y22_
      replace K := fun i uo z => K i uo ⟨S130, q20_.2, y21_, y22_, z⟩
      obtain ⟨g23_, h⟩ := h
      refine ⟨g23_, ?_⟩
      replace K := fun i uo z => K i uo ⟨g23_, z⟩
      obtain ⟨g24_, h⟩ := h
      refine ⟨g24_, ?_⟩
      replace K := fun i uo z => K i uo ⟨g24_, z⟩
      obtain ⟨g25_, h⟩ := h
      refine ⟨g25_, ?_⟩
      replace K := fun i uo z => K i uo ⟨g25_, z⟩
      obtain ⟨g26_, h⟩ := h
      refine ⟨g26_, ?_⟩
      replace K := fun i uo z => K i uo ⟨g26_, z⟩
      intro a142 ea142 
      replace h := h a142 ea142 
      replace K := fun i uo z => K i uo ⟨a142, ea142, z⟩
      intro y27_
      replace h := h y27_
      replace K := fun i uo z => K i uo ⟨y27_, z⟩
      obtain ⟨Q9, h0, h⟩ := h
      refine ⟨_, ruX0_put2 h0, ?_⟩
      intro S144 q28_ y29_ y30_
      replace h := h S144 q28_.1 y29_ y30_
      replace K := fun i uo z => K i uo ⟨S144, q28_.2, y29_, y30_, z⟩
      obtain ⟨g31_, h⟩ := h
      refine ⟨g31_, ?_⟩
      replace K := fun i uo z => K i uo ⟨g31_, z⟩
      obtain ⟨g32_, h⟩ := h
      refine ⟨g32_, ?_⟩
      replace K := fun i uo z => K i uo ⟨g32_, z⟩
      obtain ⟨g33_, h⟩ := h
      refine ⟨g33_, ?_⟩
      replace K := fun i uo z => K i uo ⟨g33_, z⟩
      obtain ⟨Q9, h0, h⟩ := h
      refine ⟨_, ruX11_classOf h0, ?_⟩
      intro r154 S155 q34_ y35_ y36_
      replace h := h r154 S155 q34_.1 y35_ y36_
      replace K := fun i uo z => K i uo ⟨r154, S155, q34_.2, y35_, y36_, z⟩
      intro y37_
      replace h := h y37_
      replace K := fun i uo z => K i uo ⟨y37_, z⟩
      obtain ⟨Q9, h0, h⟩ := h
      refine ⟨_, ruX0_put2 h0, ?_⟩
      intro S159 q38_ y39_ y40_
      replace h := h S159 q38_.1 y39_ y40_
      replace K := fun i uo z => K i uo ⟨S159, q38_.2, y39_, y40_, z⟩
      intro a162 ea162 
      replace h := h a162 ea162 
      replace K := fun i uo z => K i uo ⟨a162, ea162, z⟩
      exact ih i00 (fun i uo ⟨n8, z⟩ => K (i, n8) uo z) h
set_option maxRecDepth 100000 in
theorem ru_X11_addMethod_L186 {ι : Type} {P Q : MS → Prop} : ∀ (n : Nat) {U186 : MS} {v186_4 : Int32} {v186_5 : Int32} (i0 : ι), (∀ (i : ι) (uo : MS), (∃ n8, v_X11_addMethod_L186 uo n8 U186 v186_4 v186_5) → P uo) → w_X11_addMethod_L186 Q n U186 v186_4 v186_5 → w_X11_addMethod_L186 (fun u => Q u ∧ P u) n U186 v186_4 v186_5 := by
  intro n
  induction n with
  | zero => intro U186 v186_4 v186_5 i0 K h; unfold w_X11_addMethod_L186 at h; exact h.elim
  | succ n ih =>
    intro U186 v186_4 v186_5 i0 K h
    unfold w_X11_addMethod_L186 at h ⊢
    replace K := fun (i : ι × Nat) uo (z : v_X11_addMethod_L186 uo (i.2 + 1) U186 v186_4 v186_5) => K i.1 uo ⟨i.2 + 1, z⟩
    have i00 := i0
    replace i0 : ι × Nat := (i0, 0)
    intro y41_
    replace h := h y41_
    replace K := fun i uo z => K i uo ⟨y41_, z⟩
    obtain ⟨g42_, h⟩ := h
    refine ⟨g42_, ?_⟩
    replace K := fun i uo z => K i uo ⟨g42_, z⟩
    refine ⟨fun c => ?_, fun c => ?_⟩
    · replace h := h.1 c
      replace K := fun i uo z => K i uo (Or.inl ⟨c, z⟩)
      obtain ⟨g43_, h⟩ := h
      refine ⟨g43_, ?_⟩
      replace K := fun i uo z => K i uo ⟨g43_, z⟩
      intro y44_
      replace h := h y44_
      replace K := fun i uo z => K i uo ⟨y44_, z⟩
      obtain ⟨Q9, h0, h⟩ := h
      refine ⟨_, ruX0_put2 h0, ?_⟩
      intro S95 q45_ y46_ y47_
      replace h := h S95 q45_.1 y46_ y47_
      replace K := fun i uo z => K i uo ⟨S95, q45_.2, y46_, y47_, z⟩
      obtain ⟨n9, h⟩ := h
      exact ⟨n9, ru_X11_addMethod_L229 n9 i0 K h⟩
    · replace h := h.2 c
      replace K := fun i uo z => K i uo (Or.inr ⟨c, z⟩)
      obtain ⟨Q9, h0, h⟩ := h
      refine ⟨_, ruX11_putInstruction h0, ?_⟩
      intro S164 q48_ y49_ y50_
      replace h := h S164 q48_.1 y49_ y50_
      replace K := fun i uo z => K i uo ⟨S164, q48_.2, y49_, y50_, z⟩
      intro a167 ea167 
      replace h := h a167 ea167 
      replace K := fun i uo z => K i uo ⟨a167, ea167, z⟩
      exact ih i00 (fun i uo ⟨n8, z⟩ => K (i, n8) uo z) h
set_option maxRecDepth 100000 in
theorem ruX11_addMethod {S : MS} {p1 : Option Nat} {Q : MS → Prop} (h : wX11_addMethod S p1 Q) : wX11_addMethod S p1 (fun u => Q u ∧ vX11_addMethod S p1 u) := by
  have i0 : Unit := ()
  have K : ∀ (i : Unit) (uo : MS), vX11_addMethod S p1 uo → vX11_addMethod S p1 uo := fun _ _ z => z
  unfold wX11_addMethod at h ⊢
  refine ⟨fun c => ?_, fun c => ?_⟩
  · replace h := h.1 c
    replace K := fun i uo z => K i uo (Or.inl ⟨c, z⟩)
    intro S2 eS2 y51_ y52_
    replace h := h S2 eS2 y51_ y52_
    replace K := fun i uo z => K i uo ⟨S2, eS2, y51_, y52_, z⟩
    refine ⟨fun c => ?_, fun c => ?_⟩
    · replace h := h.1 c
      replace K := fun i uo z => K i uo (Or.inl ⟨c, z⟩)
      exact ⟨h, K i0 _ rfl⟩
    · replace h := h.2 c
      replace K := fun i uo z => K i uo (Or.inr ⟨c, z⟩)
      obtain ⟨g53_, h⟩ := h
      refine ⟨g53_, ?_⟩
      replace K := fun i uo z => K i uo ⟨g53_, z⟩
      refine ⟨fun c => ?_, fun c => ?_⟩
      · replace h := h.1 c
        replace K := fun i uo z => K i uo (Or.inl ⟨c, z⟩)
        exact ⟨h, K i0 _ rfl⟩
      · replace h := h.2 c
        replace K := fun i uo z => K i uo (Or.inr ⟨c, z⟩)
        obtain ⟨g54_, h⟩ := h
        refine ⟨g54_, ?_⟩
        replace K := fun i uo z => K i uo ⟨g54_, z⟩
        obtain ⟨g55_, h⟩ := h
        refine ⟨g55_, ?_⟩
        replace K := fun i uo z => K i uo ⟨g55_, z⟩
        obtain ⟨g56_, h⟩ := h
        refine ⟨g56_, ?_⟩
        replace K := fun i uo z => K i uo ⟨g56_, z⟩
        refine ⟨fun c => ?_, fun c => ?_⟩
        · replace h := h.1 c
          replace K := fun i uo z => K i uo (Or.inl ⟨c, z⟩)
          obtain ⟨g57_, h⟩ := h
          refine ⟨g57_, ?_⟩
          replace K := fun i uo z => K i uo ⟨g57_, z⟩
          obtain ⟨g58_, h⟩ := h
          refine ⟨g58_, ?_⟩
          replace K := fun i uo z => K i uo ⟨g58_, z⟩
          obtain ⟨g59_, h⟩ := h
          refine ⟨g59_, ?_⟩
          replace K := fun i uo z => K i uo ⟨g59_, z⟩
          obtain ⟨g60_, h⟩ := h
          refine ⟨g60_, ?_⟩
          replace K := fun i uo z => K i uo ⟨g60_, z⟩
          obtain ⟨Q9, h0, h⟩ := h
          refine ⟨_, ruX11_nameEntry h0, ?_⟩
          intro r25 S26 q61_ y62_ y63_
          replace h := h r25 S26 q61_.1 y62_ y63_
          replace K := fun i uo z => K i uo ⟨r25, S26, q61_.2, y62_, y63_, z⟩
          obtain ⟨g64_, h⟩ := h
          refine ⟨g64_, ?_⟩
          replace K := fun i uo z => K i uo ⟨g64_, z⟩
          obtain ⟨g65_, h⟩ := h
          refine ⟨g65_, ?_⟩
          replace K := fun i uo z => K i uo ⟨g65_, z⟩
          obtain ⟨g66_, h⟩ := h
          refine ⟨g66_, ?_⟩
          replace K := fun i uo z => K i uo ⟨g66_, z⟩
          obtain ⟨g67_, h⟩ := h
          refine ⟨g67_, ?_⟩
          replace K := fun i uo z => K i uo ⟨g67_, z⟩
          obtain ⟨Q9, h0, h⟩ := h
          refine ⟨_, ruX11_nameEntry h0, ?_⟩
          intro r38 S39 q68_ y69_ y70_
          replace h := h r38 S39 q68_.1 y69_ y70_
          replace K := fun i uo z => K i uo ⟨r38, S39, q68_.2, y69_, y70_, z⟩
          obtain ⟨Q9, h0, h⟩ := h
          refine ⟨_, ruX11_putMember h0, ?_⟩
          intro S43 q71_ y72_ y73_
          replace h := h S43 q71_.1 y72_ y73_
          replace K := fun i uo z => K i uo ⟨S43, q71_.2, y72_, y73_, z⟩
          obtain ⟨Q9, h0, h⟩ := h
          refine ⟨_, ruX11_layOut h0, ?_⟩
          intro r47 S48 q74_ y75_ y76_
          replace h := h r47 S48 q74_.1 y75_ y76_
          replace K := fun i uo z => K i uo ⟨r47, S48, q74_.2, y75_, y76_, z⟩
          obtain ⟨g77_, h⟩ := h
          refine ⟨g77_, ?_⟩
          replace K := fun i uo z => K i uo ⟨g77_, z⟩
          obtain ⟨g78_, h⟩ := h
          refine ⟨g78_, ?_⟩
          replace K := fun i uo z => K i uo ⟨g78_, z⟩
          intro y79_ y80_ y81_
          replace h := h y79_ y80_ y81_
          replace K := fun i uo z => K i uo ⟨y79_, y80_, y81_, z⟩
          obtain ⟨Q9, h0, h⟩ := h
          refine ⟨_, ruX4_seek h0, ?_⟩
          intro S56 q82_ y83_ y84_
          replace h := h S56 q82_.1 y83_ y84_
          replace K := fun i uo z => K i uo ⟨S56, q82_.2, y83_, y84_, z⟩
          intro y85_
          replace h := h y85_
          replace K := fun i uo z => K i uo ⟨y85_, z⟩
          obtain ⟨Q9, h0, h⟩ := h
          refine ⟨_, ruX0_put2 h0, ?_⟩
          intro S60 q86_ y87_ y88_
          replace h := h S60 q86_.1 y87_ y88_
          replace K := fun i uo z => K i uo ⟨S60, q86_.2, y87_, y88_, z⟩
          obtain ⟨g89_, h⟩ := h
          refine ⟨g89_, ?_⟩
          replace K := fun i uo z => K i uo ⟨g89_, z⟩
          intro y90_
          replace h := h y90_
          replace K := fun i uo z => K i uo ⟨y90_, z⟩
          obtain ⟨Q9, h0, h⟩ := h
          refine ⟨_, ruX0_put4 h0, ?_⟩
          intro S69 q91_ y92_ y93_
          replace h := h S69 q91_.1 y92_ y93_
          replace K := fun i uo z => K i uo ⟨S69, q91_.2, y92_, y93_, z⟩
          intro y94_
          replace h := h y94_
          replace K := fun i uo z => K i uo ⟨y94_, z⟩
          obtain ⟨Q9, h0, h⟩ := h
          refine ⟨_, ruX0_put2 h0, ?_⟩
          intro S73 q95_ y96_ y97_
          replace h := h S73 q95_.1 y96_ y97_
          replace K := fun i uo z => K i uo ⟨S73, q95_.2, y96_, y97_, z⟩
          obtain ⟨Q9, h0, h⟩ := h
          refine ⟨_, ruX11_leastLocals h0, ?_⟩
          intro r77 S78 q98_ y99_ y100_
          replace h := h r77 S78 q98_.1 y99_ y100_
          replace K := fun i uo z => K i uo ⟨r77, S78, q98_.2, y99_, y100_, z⟩
          intro y101_
          replace h := h y101_
          replace K := fun i uo z => K i uo ⟨y101_, z⟩
          obtain ⟨Q9, h0, h⟩ := h
          refine ⟨_, ruX0_put2 h0, ?_⟩
          intro S81 q102_ y103_ y104_
          replace h := h S81 q102_.1 y103_ y104_
          replace K := fun i uo z => K i uo ⟨S81, q102_.2, y103_, y104_, z⟩
          intro y105_
          replace h := h y105_
          replace K := fun i uo z => K i uo ⟨y105_, z⟩
          obtain ⟨Q9, h0, h⟩ := h
          refine ⟨_, ruX0_put4 h0, ?_⟩
          intro S85 q106_ y107_ y108_
          replace h := h S85 q106_.1 y107_ y108_
          replace K := fun i uo z => K i uo ⟨S85, q106_.2, y107_, y108_, z⟩
          intro a88 ea88 
          replace h := h a88 ea88 
          replace K := fun i uo z => K i uo ⟨a88, ea88, z⟩
          obtain ⟨n9, h⟩ := h
          exact ⟨n9, ru_X11_addMethod_L186 n9 i0 K h⟩
        · replace h := h.2 c
          replace K := fun i uo z => K i uo (Or.inr ⟨c, z⟩)
          exact ⟨h, K i0 _ rfl⟩
  · replace h := h.2 c
    replace K := fun i uo z => K i uo (Or.inr ⟨c, z⟩)
    intro S168 eS168 y109_ y110_
    replace h := h S168 eS168 y109_ y110_
    replace K := fun i uo z => K i uo ⟨S168, eS168, y109_, y110_, z⟩
    refine ⟨fun c => ?_, fun c => ?_⟩
    · replace h := h.1 c
      replace K := fun i uo z => K i uo (Or.inl ⟨c, z⟩)
      exact ⟨h, K i0 _ rfl⟩
    · replace h := h.2 c
      replace K := fun i uo z => K i uo (Or.inr ⟨c, z⟩)
      obtain ⟨g111_, h⟩ := h
      refine ⟨g111_, ?_⟩
      replace K := fun i uo z => K i uo ⟨g111_, z⟩
      refine ⟨fun c => ?_, fun c => ?_⟩
      · replace h := h.1 c
        replace K := fun i uo z => K i uo (Or.inl ⟨c, z⟩)
        exact ⟨h, K i0 _ rfl⟩
      · replace h := h.2 c
        replace K := fun i uo z => K i uo (Or.inr ⟨c, z⟩)
        obtain ⟨g112_, h⟩ := h
        refine ⟨g112_, ?_⟩
        replace K := fun i uo z => K i uo ⟨g112_, z⟩
        obtain ⟨g113_, h⟩ := h
        refine ⟨g113_, ?_⟩
        replace K := fun i uo z => K i uo ⟨g113_, z⟩
        obtain ⟨g114_, h⟩ := h
        refine ⟨g114_, ?_⟩
        replace K := fun i uo z => K i uo ⟨g114_, z⟩
        refine ⟨fun c => ?_, fun c => ?_⟩
        · replace h := h.1 c
          replace K := fun i uo z => K i uo (Or.inl ⟨c, z⟩)
          obtain ⟨g115_, h⟩ := h
          refine ⟨g115_, ?_⟩
          replace K := fun i uo z => K i uo ⟨g115_, z⟩
          obtain ⟨g116_, h⟩ := h
          refine ⟨g116_, ?_⟩
          replace K := fun i uo z => K i uo ⟨g116_, z⟩
          obtain ⟨g117_, h⟩ := h
          refine ⟨g117_, ?_⟩
          replace K := fun i uo z => K i uo ⟨g117_, z⟩
          obtain ⟨g118_, h⟩ := h
          refine ⟨g118_, ?_⟩
          replace K := fun i uo z => K i uo ⟨g118_, z⟩
          obtain ⟨Q9, h0, h⟩ := h
          refine ⟨_, ruX11_nameEntry h0, ?_⟩
          intro r191 S192 q119_ y120_ y121_
          replace h := h r191 S192 q119_.1 y120_ y121_
          replace K := fun i uo z => K i uo ⟨r191, S192, q119_.2, y120_, y121_, z⟩
          obtain ⟨g122_, h⟩ := h
          refine ⟨g122_, ?_⟩
          replace K := fun i uo z => K i uo ⟨g122_, z⟩
          obtain ⟨g123_, h⟩ := h
          refine ⟨g123_, ?_⟩
          replace K := fun i uo z => K i uo ⟨g123_, z⟩
          obtain ⟨g124_, h⟩ := h
          refine ⟨g124_, ?_⟩
          replace K := fun i uo z => K i uo ⟨g124_, z⟩
          obtain ⟨g125_, h⟩ := h
          refine ⟨g125_, ?_⟩
          replace K := fun i uo z => K i uo ⟨g125_, z⟩
          obtain ⟨Q9, h0, h⟩ := h
          refine ⟨_, ruX11_nameEntry h0, ?_⟩
          intro r204 S205 q126_ y127_ y128_
          replace h := h r204 S205 q126_.1 y127_ y128_
          replace K := fun i uo z => K i uo ⟨r204, S205, q126_.2, y127_, y128_, z⟩
          obtain ⟨Q9, h0, h⟩ := h
          refine ⟨_, ruX11_putMember h0, ?_⟩
          intro S209 q129_ y130_ y131_
          replace h := h S209 q129_.1 y130_ y131_
          replace K := fun i uo z => K i uo ⟨S209, q129_.2, y130_, y131_, z⟩
          obtain ⟨Q9, h0, h⟩ := h
          refine ⟨_, ruX11_layOut h0, ?_⟩
          intro r213 S214 q132_ y133_ y134_
          replace h := h r213 S214 q132_.1 y133_ y134_
          replace K := fun i uo z => K i uo ⟨r213, S214, q132_.2, y133_, y134_, z⟩
          obtain ⟨g135_, h⟩ := h
          refine ⟨g135_, ?_⟩
          replace K := fun i uo z => K i uo ⟨g135_, z⟩
          obtain ⟨g136_, h⟩ := h
          refine ⟨g136_, ?_⟩
          replace K := fun i uo z => K i uo ⟨g136_, z⟩
          intro y137_ y138_ y139_
          replace h := h y137_ y138_ y139_
          replace K := fun i uo z => K i uo ⟨y137_, y138_, y139_, z⟩
          obtain ⟨Q9, h0, h⟩ := h
          refine ⟨_, ruX4_seek h0, ?_⟩
          intro S222 q140_ y141_ y142_
          replace h := h S222 q140_.1 y141_ y142_
          replace K := fun i uo z => K i uo ⟨S222, q140_.2, y141_, y142_, z⟩
          intro y143_
          replace h := h y143_
          replace K := fun i uo z => K i uo ⟨y143_, z⟩
          obtain ⟨Q9, h0, h⟩ := h
          refine ⟨_, ruX0_put2 h0, ?_⟩
          intro S226 q144_ y145_ y146_
          replace h := h S226 q144_.1 y145_ y146_
          replace K := fun i uo z => K i uo ⟨S226, q144_.2, y145_, y146_, z⟩
          obtain ⟨g147_, h⟩ := h
          refine ⟨g147_, ?_⟩
          replace K := fun i uo z => K i uo ⟨g147_, z⟩
          intro y148_
          replace h := h y148_
          replace K := fun i uo z => K i uo ⟨y148_, z⟩
          obtain ⟨Q9, h0, h⟩ := h
          refine ⟨_, ruX0_put4 h0, ?_⟩
          intro S235 q149_ y150_ y151_
          replace h := h S235 q149_.1 y150_ y151_
          replace K := fun i uo z => K i uo ⟨S235, q149_.2, y150_, y151_, z⟩
          intro y152_
          replace h := h y152_
          replace K := fun i uo z => K i uo ⟨y152_, z⟩
          obtain ⟨Q9, h0, h⟩ := h
          refine ⟨_, ruX0_put2 h0, ?_⟩
          intro S239 q153_ y154_ y155_
          replace h := h S239 q153_.1 y154_ y155_
          replace K := fun i uo z => K i uo ⟨S239, q153_.2, y154_, y155_, z⟩
          obtain ⟨Q9, h0, h⟩ := h
          refine ⟨_, ruX11_leastLocals h0, ?_⟩
          intro r243 S244 q156_ y157_ y158_
          replace h := h r243 S244 q156_.1 y157_ y158_
          replace K := fun i uo z => K i uo ⟨r243, S244, q156_.2, y157_, y158_, z⟩
          intro y159_
          replace h := h y159_
          replace K := fun i uo z => K i uo ⟨y159_, z⟩
          obtain ⟨Q9, h0, h⟩ := h
          refine ⟨_, ruX0_put2 h0, ?_⟩
          intro S247 q160_ y161_ y162_
          replace h := h S247 q160_.1 y161_ y162_
          replace K := fun i uo z => K i uo ⟨S247, q160_.2, y161_, y162_, z⟩
          intro y163_
          replace h := h y163_
          replace K := fun i uo z => K i uo ⟨y163_, z⟩
          obtain ⟨Q9, h0, h⟩ := h
          refine ⟨_, ruX0_put4 h0, ?_⟩
          intro S251 q164_ y165_ y166_
          replace h := h S251 q164_.1 y165_ y166_
          replace K := fun i uo z => K i uo ⟨S251, q164_.2, y165_, y166_, z⟩
          intro a254 ea254 
          replace h := h a254 ea254 
          replace K := fun i uo z => K i uo ⟨a254, ea254, z⟩
          obtain ⟨n9, h⟩ := h
          exact ⟨n9, ru_X11_addMethod_L186 n9 i0 K h⟩
        · replace h := h.2 c
          replace K := fun i uo z => K i uo (Or.inr ⟨c, z⟩)
          exact ⟨h, K i0 _ rfl⟩
set_option maxRecDepth 100000 in
theorem vw_X11_addMethod_L229 {uo : MS} : ∀ (n : Nat) {U229 : MS} {v229_5 : Int32}, v_X11_addMethod_L229 uo n U229 v229_5 → w_X11_addMethod_L229 (fun u => u = uo) n U229 v229_5 := by
  intro n
  induction n with
  | zero => intro U229 v229_5 h; unfold v_X11_addMethod_L229 at h; exact h.elim
  | succ n ih =>
    intro U229 v229_5 h
    unfold v_X11_addMethod_L229 at h
    unfold w_X11_addMethod_L229
    intro _
    replace h := h.2
    obtain ⟨g9, h⟩ := h
    refine ⟨g9, ?_⟩
    rcases h with ⟨c, h⟩ | ⟨c, h⟩
    · refine ⟨fun _ => ?_, fun c2 => absurd c c2⟩
      intro _
      replace h := h.2
      obtain ⟨q9, z9, h⟩ := h
      refine ⟨_, vwX0_put2 z9, ?_⟩
      intro q8 d9 _ _
      subst d9
      replace h := h.2.2
      exact h.symm
    · refine ⟨fun c2 => absurd c2 c, fun _ => ?_⟩
      obtain ⟨g9, h⟩ := h
      refine ⟨g9, ?_⟩
      obtain ⟨g9, h⟩ := h
      refine ⟨g9, ?_⟩
      obtain ⟨g9, h⟩ := h
      refine ⟨g9, ?_⟩
      obtain ⟨g9, h⟩ := h
      refine ⟨g9, ?_⟩
      obtain ⟨v9, e9, h⟩ := h
      intro x9 d9 
      have c9 : v9 = x9 := e9.trans d9.symm
      subst c9
      intro _
      replace h := h.2
      obtain ⟨q9, z9, h⟩ := h
      refine ⟨_, vwX0_put2 z9, ?_⟩
      intro q8 d9 _ _
      subst d9
      replace h := h.2.2
      obtain ⟨g9, h⟩ := h
      refine ⟨g9, ?_⟩
      obtain ⟨g9, h⟩ := h
      refine ⟨g9, ?_⟩
      obtain ⟨g9, h⟩ := h
      refine ⟨g9, ?_⟩
      obtain ⟨g9, h⟩ := h
      refine ⟨g9, ?_⟩
      obtain ⟨v9, e9, h⟩ := h
      intro x9 d9 
      have c9 : v9 = x9 := e9.trans d9.symm
      subst c9
      intro _
      replace h := h.2
      obtain ⟨q9, z9, h⟩ := h
      refine ⟨_, vwX0_put2 z9, ?_⟩
      intro q8 d9 _ _
      subst d9
      replace h := h.2.2
      obtain ⟨g9, h⟩ := h
      refine ⟨g9, ?_⟩
      obtain ⟨g9, h⟩ := h
      refine ⟨g9, ?_⟩
      obtain ⟨g9, h⟩ := h
      refine ⟨g9, ?_⟩
      obtain ⟨g9, h⟩ := h
      refine ⟨g9, ?_⟩
      obtain ⟨v9, e9, h⟩ := h
      intro x9 d9 
      have c9 : v9 = x9 := e9.trans d9.symm
      subst c9
      intro _
      replace h := h.2
      obtain ⟨q9, z9, h⟩ := h
      refine ⟨_, vwX0_put2 z9, ?_⟩
      intro q8 d9 _ _
      subst d9
      replace h := h.2.2
      obtain ⟨g9, h⟩ := h
      refine ⟨g9, ?_⟩
      obtain ⟨g9, h⟩ := h
      refine ⟨g9, ?_⟩
      obtain ⟨g9, h⟩ := h
      refine ⟨g9, ?_⟩
      obtain ⟨p9, q9, z9, h⟩ := h
      refine ⟨_, vwX11_classOf z9, ?_⟩
      rintro p8 q8 ⟨d8, d9⟩ _ _
      subst d8
      subst d9
      replace h := h.2.2
      intro _
      replace h := h.2
      obtain ⟨q9, z9, h⟩ := h
      refine ⟨_, vwX0_put2 z9, ?_⟩
      intro q8 d9 _ _
      subst d9
      replace h := h.2.2
      obtain ⟨v9, e9, h⟩ := h
      intro x9 d9 
      have c9 : v9 = x9 := e9.trans d9.symm
      subst c9
      exact ih h
set_option maxRecDepth 100000 in
theorem vp_X11_addMethod_L229 {uo : MS} {P : MS → Prop} : ∀ (n m : Nat) {U229 : MS} {v229_5 : Int32}, v_X11_addMethod_L229 uo n U229 v229_5 → w_X11_addMethod_L229 P m U229 v229_5 → P uo := by
  intro n
  induction n with
  | zero => intro m U229 v229_5 h; unfold v_X11_addMethod_L229 at h; exact h.elim
  | succ n ih =>
    intro m U229 v229_5 h w
    cases m with
    | zero => unfold w_X11_addMethod_L229 at w; exact w.elim
    | succ m =>
      unfold v_X11_addMethod_L229 at h
      unfold w_X11_addMethod_L229 at w
      obtain ⟨y1_, h⟩ := h
      replace w := w y1_
      replace h := h.2
      replace w := w.2
      rcases h with ⟨c, h⟩ | ⟨c, h⟩
      · replace w := w.1 c
        obtain ⟨y2_, h⟩ := h
        replace w := w y2_
        obtain ⟨q9, z9, y3_, y4_, h⟩ := h
        obtain ⟨Q9, w0, w⟩ := w
        replace w := w q9 (vpX0_put2 z9 w0) y3_ y4_
        rw [h]
        exact w
      · replace w := w.2 c
        replace h := h.2
        replace w := w.2
        replace h := h.2
        replace w := w.2
        replace h := h.2
        replace w := w.2
        replace h := h.2
        replace w := w.2
        obtain ⟨v9, e9, h⟩ := h
        replace w := w v9 e9 
        obtain ⟨y5_, h⟩ := h
        replace w := w y5_
        obtain ⟨q9, z9, y6_, y7_, h⟩ := h
        obtain ⟨Q9, w0, w⟩ := w
        replace w := w q9 (vpX0_put2 z9 w0) y6_ y7_
        replace h := h.2
        replace w := w.2
        replace h := h.2
        replace w := w.2
        replace h := h.2
        replace w := w.2
        replace h := h.2
        replace w := w.2
        obtain ⟨v9, e9, h⟩ := h
        replace w := w v9 e9 
        obtain ⟨y8_, h⟩ := h
        replace w := w y8_
        obtain ⟨q9, z9, y9_, y10_, h⟩ := h
        obtain ⟨Q9, w0, w⟩ := w
        replace w := w q9 (vpX0_put2 z9 w0) y9_ y10_
        replace h := h.2
        replace w := w.2
        replace h := h.2
        replace w := w.2
        replace h := h.2
        replace w := w.2
        replace h := h.2
        replace w := w.2
        obtain ⟨v9, e9, h⟩ := h
        replace w := w v9 e9 
        obtain ⟨y11_, h⟩ := h
        replace w := w y11_
        obtain ⟨q9, z9, y12_, y13_, h⟩ := h
        obtain ⟨Q9, w0, w⟩ := w
        replace w := w q9 (vpX0_put2 z9 w0) y12_ y13_
        replace h := h.2
        replace w := w.2
        replace h := h.2
        replace w := w.2
        replace h := h.2
        replace w := w.2
        obtain ⟨p9, q9, z9, y14_, y15_, h⟩ := h
        obtain ⟨Q9, w0, w⟩ := w
        replace w := w p9 q9 (vpX11_classOf z9 w0) y14_ y15_
        obtain ⟨y16_, h⟩ := h
        replace w := w y16_
        obtain ⟨q9, z9, y17_, y18_, h⟩ := h
        obtain ⟨Q9, w0, w⟩ := w
        replace w := w q9 (vpX0_put2 z9 w0) y17_ y18_
        obtain ⟨v9, e9, h⟩ := h
        replace w := w v9 e9 
        exact ih m h w
set_option maxRecDepth 100000 in
theorem vw_X11_addMethod_L186 {uo : MS} : ∀ (n : Nat) {U186 : MS} {v186_4 : Int32} {v186_5 : Int32}, v_X11_addMethod_L186 uo n U186 v186_4 v186_5 → w_X11_addMethod_L186 (fun u => u = uo) n U186 v186_4 v186_5 := by
  intro n
  induction n with
  | zero => intro U186 v186_4 v186_5 h; unfold v_X11_addMethod_L186 at h; exact h.elim
  | succ n ih =>
    intro U186 v186_4 v186_5 h
    unfold v_X11_addMethod_L186 at h
    unfold w_X11_addMethod_L186
    intro _
    replace h := h.2
    obtain ⟨g9, h⟩ := h
    refine ⟨g9, ?_⟩
    rcases h with ⟨c, h⟩ | ⟨c, h⟩
    · refine ⟨fun _ => ?_, fun c2 => absurd c c2⟩
      obtain ⟨g9, h⟩ := h
      refine ⟨g9, ?_⟩
      intro _
      replace h := h.2
      obtain ⟨q9, z9, h⟩ := h
      refine ⟨_, vwX0_put2 z9, ?_⟩
      intro q8 d9 _ _
      subst d9
      replace h := h.2.2
      obtain ⟨n9, h⟩ := h
      exact ⟨n9, vw_X11_addMethod_L229 n9 h⟩
    · refine ⟨fun c2 => absurd c2 c, fun _ => ?_⟩
      obtain ⟨q9, z9, h⟩ := h
      refine ⟨_, vwX11_putInstruction z9, ?_⟩
      intro q8 d9 _ _
      subst d9
      replace h := h.2.2
      obtain ⟨v9, e9, h⟩ := h
      intro x9 d9 
      have c9 : v9 = x9 := e9.trans d9.symm
      subst c9
      exact ih h
set_option maxRecDepth 100000 in
theorem vp_X11_addMethod_L186 {uo : MS} {P : MS → Prop} : ∀ (n m : Nat) {U186 : MS} {v186_4 : Int32} {v186_5 : Int32}, v_X11_addMethod_L186 uo n U186 v186_4 v186_5 → w_X11_addMethod_L186 P m U186 v186_4 v186_5 → P uo := by
  intro n
  induction n with
  | zero => intro m U186 v186_4 v186_5 h; unfold v_X11_addMethod_L186 at h; exact h.elim
  | succ n ih =>
    intro m U186 v186_4 v186_5 h w
    cases m with
    | zero => unfold w_X11_addMethod_L186 at w; exact w.elim
    | succ m =>
      unfold v_X11_addMethod_L186 at h
      unfold w_X11_addMethod_L186 at w
      obtain ⟨y19_, h⟩ := h
      replace w := w y19_
      replace h := h.2
      replace w := w.2
      rcases h with ⟨c, h⟩ | ⟨c, h⟩
      · replace w := w.1 c
        replace h := h.2
        replace w := w.2
        obtain ⟨y20_, h⟩ := h
        replace w := w y20_
        obtain ⟨q9, z9, y21_, y22_, h⟩ := h
        obtain ⟨Q9, w0, w⟩ := w
        replace w := w q9 (vpX0_put2 z9 w0) y21_ y22_
        obtain ⟨n9, h⟩ := h
        obtain ⟨n8, w⟩ := w
        exact vp_X11_addMethod_L229 n9 n8 h w
      · replace w := w.2 c
        obtain ⟨q9, z9, y23_, y24_, h⟩ := h
        obtain ⟨Q9, w0, w⟩ := w
        replace w := w q9 (vpX11_putInstruction z9 w0) y23_ y24_
        obtain ⟨v9, e9, h⟩ := h
        replace w := w v9 e9 
        exact ih m h w
set_option maxRecDepth 100000 in
theorem vwX11_addMethod {S : MS} {p1 : Option Nat} {uo : MS} (h : vX11_addMethod S p1 uo) : wX11_addMethod S p1 (fun u => u = uo) := by
  unfold vX11_addMethod at h
  unfold wX11_addMethod
  rcases h with ⟨c, h⟩ | ⟨c, h⟩
  · refine ⟨fun _ => ?_, fun c2 => absurd c c2⟩
    obtain ⟨v9, e9, h⟩ := h
    intro x9 d9 _ _
    have c9 : v9 = x9 := e9.trans d9.symm
    subst c9
    replace h := h.2.2
    rcases h with ⟨c, h⟩ | ⟨c, h⟩
    · refine ⟨fun _ => ?_, fun c2 => absurd c c2⟩
      exact h.symm
    · refine ⟨fun c2 => absurd c2 c, fun _ => ?_⟩
      obtain ⟨g9, h⟩ := h
      refine ⟨g9, ?_⟩
      rcases h with ⟨c, h⟩ | ⟨c, h⟩
      · refine ⟨fun _ => ?_, fun c2 => absurd c c2⟩
        exact h.symm
      · refine ⟨fun c2 => absurd c2 c, fun _ => ?_⟩
        obtain ⟨g9, h⟩ := h
        refine ⟨g9, ?_⟩
        obtain ⟨g9, h⟩ := h
        refine ⟨g9, ?_⟩
        obtain ⟨g9, h⟩ := h
        refine ⟨g9, ?_⟩
        rcases h with ⟨c, h⟩ | ⟨c, h⟩
        · refine ⟨fun _ => ?_, fun c2 => absurd c c2⟩
          obtain ⟨g9, h⟩ := h
          refine ⟨g9, ?_⟩
          obtain ⟨g9, h⟩ := h
          refine ⟨g9, ?_⟩
          obtain ⟨g9, h⟩ := h
          refine ⟨g9, ?_⟩
          obtain ⟨g9, h⟩ := h
          refine ⟨g9, ?_⟩
          obtain ⟨p9, q9, z9, h⟩ := h
          refine ⟨_, vwX11_nameEntry z9, ?_⟩
          rintro p8 q8 ⟨d8, d9⟩ _ _
          subst d8
          subst d9
          replace h := h.2.2
          obtain ⟨g9, h⟩ := h
          refine ⟨g9, ?_⟩
          obtain ⟨g9, h⟩ := h
          refine ⟨g9, ?_⟩
          obtain ⟨g9, h⟩ := h
          refine ⟨g9, ?_⟩
          obtain ⟨g9, h⟩ := h
          refine ⟨g9, ?_⟩
          obtain ⟨p9, q9, z9, h⟩ := h
          refine ⟨_, vwX11_nameEntry z9, ?_⟩
          rintro p8 q8 ⟨d8, d9⟩ _ _
          subst d8
          subst d9
          replace h := h.2.2
          obtain ⟨q9, z9, h⟩ := h
          refine ⟨_, vwX11_putMember z9, ?_⟩
          intro q8 d9 _ _
          subst d9
          replace h := h.2.2
          obtain ⟨p9, q9, z9, h⟩ := h
          refine ⟨_, vwX11_layOut z9, ?_⟩
          rintro p8 q8 ⟨d8, d9⟩ _ _
          subst d8
          subst d9
          replace h := h.2.2
          obtain ⟨g9, h⟩ := h
          refine ⟨g9, ?_⟩
          obtain ⟨g9, h⟩ := h
          refine ⟨g9, ?_⟩
          intro _ _ _
          replace h := h.2.2.2
          obtain ⟨q9, z9, h⟩ := h
          refine ⟨_, vwX4_seek z9, ?_⟩
          intro q8 d9 _ _
          subst d9
          replace h := h.2.2
          intro _
          replace h := h.2
          obtain ⟨q9, z9, h⟩ := h
          refine ⟨_, vwX0_put2 z9, ?_⟩
          intro q8 d9 _ _
          subst d9
          replace h := h.2.2
          obtain ⟨g9, h⟩ := h
          refine ⟨g9, ?_⟩
          intro _
          replace h := h.2
          obtain ⟨q9, z9, h⟩ := h
          refine ⟨_, vwX0_put4 z9, ?_⟩
          intro q8 d9 _ _
          subst d9
          replace h := h.2.2
          intro _
          replace h := h.2
          obtain ⟨q9, z9, h⟩ := h
          refine ⟨_, vwX0_put2 z9, ?_⟩
          intro q8 d9 _ _
          subst d9
          replace h := h.2.2
          obtain ⟨p9, q9, z9, h⟩ := h
          refine ⟨_, vwX11_leastLocals z9, ?_⟩
          rintro p8 q8 ⟨d8, d9⟩ _ _
          subst d8
          subst d9
          replace h := h.2.2
          intro _
          replace h := h.2
          obtain ⟨q9, z9, h⟩ := h
          refine ⟨_, vwX0_put2 z9, ?_⟩
          intro q8 d9 _ _
          subst d9
          replace h := h.2.2
          intro _
          replace h := h.2
          obtain ⟨q9, z9, h⟩ := h
          refine ⟨_, vwX0_put4 z9, ?_⟩
          intro q8 d9 _ _
          subst d9
          replace h := h.2.2
          obtain ⟨v9, e9, h⟩ := h
          intro x9 d9 
          have c9 : v9 = x9 := e9.trans d9.symm
          subst c9
          obtain ⟨n9, h⟩ := h
          exact ⟨n9, vw_X11_addMethod_L186 n9 h⟩
        · refine ⟨fun c2 => absurd c2 c, fun _ => ?_⟩
          exact h.symm
  · refine ⟨fun c2 => absurd c2 c, fun _ => ?_⟩
    obtain ⟨v9, e9, h⟩ := h
    intro x9 d9 _ _
    have c9 : v9 = x9 := e9.trans d9.symm
    subst c9
    replace h := h.2.2
    rcases h with ⟨c, h⟩ | ⟨c, h⟩
    · refine ⟨fun _ => ?_, fun c2 => absurd c c2⟩
      exact h.symm
    · refine ⟨fun c2 => absurd c2 c, fun _ => ?_⟩
      obtain ⟨g9, h⟩ := h
      refine ⟨g9, ?_⟩
      rcases h with ⟨c, h⟩ | ⟨c, h⟩
      · refine ⟨fun _ => ?_, fun c2 => absurd c c2⟩
        exact h.symm
      · refine ⟨fun c2 => absurd c2 c, fun _ => ?_⟩
        obtain ⟨g9, h⟩ := h
        refine ⟨g9, ?_⟩
        obtain ⟨g9, h⟩ := h
        refine ⟨g9, ?_⟩
        obtain ⟨g9, h⟩ := h
        refine ⟨g9, ?_⟩
        rcases h with ⟨c, h⟩ | ⟨c, h⟩
        · refine ⟨fun _ => ?_, fun c2 => absurd c c2⟩
          obtain ⟨g9, h⟩ := h
          refine ⟨g9, ?_⟩
          obtain ⟨g9, h⟩ := h
          refine ⟨g9, ?_⟩
          obtain ⟨g9, h⟩ := h
          refine ⟨g9, ?_⟩
          obtain ⟨g9, h⟩ := h
          refine ⟨g9, ?_⟩
          obtain ⟨p9, q9, z9, h⟩ := h
          refine ⟨_, vwX11_nameEntry z9, ?_⟩
          rintro p8 q8 ⟨d8, d9⟩ _ _
          subst d8
          subst d9
          replace h := h.2.2
          obtain ⟨g9, h⟩ := h
          refine ⟨g9, ?_⟩
          obtain ⟨g9, h⟩ := h
          refine ⟨g9, ?_⟩
          obtain ⟨g9, h⟩ := h
          refine ⟨g9, ?_⟩
          obtain ⟨g9, h⟩ := h
          refine ⟨g9, ?_⟩
          obtain ⟨p9, q9, z9, h⟩ := h
          refine ⟨_, vwX11_nameEntry z9, ?_⟩
          rintro p8 q8 ⟨d8, d9⟩ _ _
          subst d8
          subst d9
          replace h := h.2.2
          obtain ⟨q9, z9, h⟩ := h
          refine ⟨_, vwX11_putMember z9, ?_⟩
          intro q8 d9 _ _
          subst d9
          replace h := h.2.2
          obtain ⟨p9, q9, z9, h⟩ := h
          refine ⟨_, vwX11_layOut z9, ?_⟩
          rintro p8 q8 ⟨d8, d9⟩ _ _
          subst d8
          subst d9
          replace h := h.2.2
          obtain ⟨g9, h⟩ := h
          refine ⟨g9, ?_⟩
          obtain ⟨g9, h⟩ := h
          refine ⟨g9, ?_⟩
          intro _ _ _
          replace h := h.2.2.2
          obtain ⟨q9, z9, h⟩ := h
          refine ⟨_, vwX4_seek z9, ?_⟩
          intro q8 d9 _ _
          subst d9
          replace h := h.2.2
          intro _
          replace h := h.2
          obtain ⟨q9, z9, h⟩ := h
          refine ⟨_, vwX0_put2 z9, ?_⟩
          intro q8 d9 _ _
          subst d9
          replace h := h.2.2
          obtain ⟨g9, h⟩ := h
          refine ⟨g9, ?_⟩
          intro _
          replace h := h.2
          obtain ⟨q9, z9, h⟩ := h
          refine ⟨_, vwX0_put4 z9, ?_⟩
          intro q8 d9 _ _
          subst d9
          replace h := h.2.2
          intro _
          replace h := h.2
          obtain ⟨q9, z9, h⟩ := h
          refine ⟨_, vwX0_put2 z9, ?_⟩
          intro q8 d9 _ _
          subst d9
          replace h := h.2.2
          obtain ⟨p9, q9, z9, h⟩ := h
          refine ⟨_, vwX11_leastLocals z9, ?_⟩
          rintro p8 q8 ⟨d8, d9⟩ _ _
          subst d8
          subst d9
          replace h := h.2.2
          intro _
          replace h := h.2
          obtain ⟨q9, z9, h⟩ := h
          refine ⟨_, vwX0_put2 z9, ?_⟩
          intro q8 d9 _ _
          subst d9
          replace h := h.2.2
          intro _
          replace h := h.2
          obtain ⟨q9, z9, h⟩ := h
          refine ⟨_, vwX0_put4 z9, ?_⟩
          intro q8 d9 _ _
          subst d9
          replace h := h.2.2
          obtain ⟨v9, e9, h⟩ := h
          intro x9 d9 
          have c9 : v9 = x9 := e9.trans d9.symm
          subst c9
          obtain ⟨n9, h⟩ := h
          exact ⟨n9, vw_X11_addMethod_L186 n9 h⟩
        · refine ⟨fun c2 => absurd c2 c, fun _ => ?_⟩
          exact h.symm
set_option maxRecDepth 100000 in
theorem vpX11_addMethod {S : MS} {p1 : Option Nat} {uo : MS} {P : MS → Prop} (h : vX11_addMethod S p1 uo) (w : wX11_addMethod S p1 P) : P uo := by
  unfold vX11_addMethod at h
  unfold wX11_addMethod at w
  rcases h with ⟨c, h⟩ | ⟨c, h⟩
  · replace w := w.1 c
    obtain ⟨v9, e9, y25_, y26_, h⟩ := h
    replace w := w v9 e9 y25_ y26_
    rcases h with ⟨c, h⟩ | ⟨c, h⟩
    · replace w := w.1 c
      rw [h]
      exact w
    · replace w := w.2 c
      replace h := h.2
      replace w := w.2
      rcases h with ⟨c, h⟩ | ⟨c, h⟩
      · replace w := w.1 c
        rw [h]
        exact w
      · replace w := w.2 c
        replace h := h.2
        replace w := w.2
        replace h := h.2
        replace w := w.2
        replace h := h.2
        replace w := w.2
        rcases h with ⟨c, h⟩ | ⟨c, h⟩
        · replace w := w.1 c
          replace h := h.2
          replace w := w.2
          replace h := h.2
          replace w := w.2
          replace h := h.2
          replace w := w.2
          replace h := h.2
          replace w := w.2
          obtain ⟨p9, q9, z9, y27_, y28_, h⟩ := h
          obtain ⟨Q9, w0, w⟩ := w
          replace w := w p9 q9 (vpX11_nameEntry z9 w0) y27_ y28_
          replace h := h.2
          replace w := w.2
          replace h := h.2
          replace w := w.2
          replace h := h.2
          replace w := w.2
          replace h := h.2
          replace w := w.2
          obtain ⟨p9, q9, z9, y29_, y30_, h⟩ := h
          obtain ⟨Q9, w0, w⟩ := w
          replace w := w p9 q9 (vpX11_nameEntry z9 w0) y29_ y30_
          obtain ⟨q9, z9, y31_, y32_, h⟩ := h
          obtain ⟨Q9, w0, w⟩ := w
          replace w := w q9 (vpX11_putMember z9 w0) y31_ y32_
          obtain ⟨p9, q9, z9, y33_, y34_, h⟩ := h
          obtain ⟨Q9, w0, w⟩ := w
          replace w := w p9 q9 (vpX11_layOut z9 w0) y33_ y34_
          replace h := h.2
          replace w := w.2
          replace h := h.2
          replace w := w.2
          obtain ⟨y35_, y36_, y37_, h⟩ := h
          replace w := w y35_ y36_ y37_
          obtain ⟨q9, z9, y38_, y39_, h⟩ := h
          obtain ⟨Q9, w0, w⟩ := w
          replace w := w q9 (vpX4_seek z9 w0) y38_ y39_
          obtain ⟨y40_, h⟩ := h
          replace w := w y40_
          obtain ⟨q9, z9, y41_, y42_, h⟩ := h
          obtain ⟨Q9, w0, w⟩ := w
          replace w := w q9 (vpX0_put2 z9 w0) y41_ y42_
          replace h := h.2
          replace w := w.2
          obtain ⟨y43_, h⟩ := h
          replace w := w y43_
          obtain ⟨q9, z9, y44_, y45_, h⟩ := h
          obtain ⟨Q9, w0, w⟩ := w
          replace w := w q9 (vpX0_put4 z9 w0) y44_ y45_
          obtain ⟨y46_, h⟩ := h
          replace w := w y46_
          obtain ⟨q9, z9, y47_, y48_, h⟩ := h
          obtain ⟨Q9, w0, w⟩ := w
          replace w := w q9 (vpX0_put2 z9 w0) y47_ y48_
          obtain ⟨p9, q9, z9, y49_, y50_, h⟩ := h
          obtain ⟨Q9, w0, w⟩ := w
          replace w := w p9 q9 (vpX11_leastLocals z9 w0) y49_ y50_
          obtain ⟨y51_, h⟩ := h
          replace w := w y51_
          obtain ⟨q9, z9, y52_, y53_, h⟩ := h
          obtain ⟨Q9, w0, w⟩ := w
          replace w := w q9 (vpX0_put2 z9 w0) y52_ y53_
          obtain ⟨y54_, h⟩ := h
          replace w := w y54_
          obtain ⟨q9, z9, y55_, y56_, h⟩ := h
          obtain ⟨Q9, w0, w⟩ := w
          replace w := w q9 (vpX0_put4 z9 w0) y55_ y56_
          obtain ⟨v9, e9, h⟩ := h
          replace w := w v9 e9 
          obtain ⟨n9, h⟩ := h
          obtain ⟨n8, w⟩ := w
          exact vp_X11_addMethod_L186 n9 n8 h w
        · replace w := w.2 c
          rw [h]
          exact w
  · replace w := w.2 c
    obtain ⟨v9, e9, y57_, y58_, h⟩ := h
    replace w := w v9 e9 y57_ y58_
    rcases h with ⟨c, h⟩ | ⟨c, h⟩
    · replace w := w.1 c
      rw [h]
      exact w
    · replace w := w.2 c
      replace h := h.2
      replace w := w.2
      rcases h with ⟨c, h⟩ | ⟨c, h⟩
      · replace w := w.1 c
        rw [h]
        exact w
      · replace w := w.2 c
        replace h := h.2
        replace w := w.2
        replace h := h.2
        replace w := w.2
        replace h := h.2
        replace w := w.2
        rcases h with ⟨c, h⟩ | ⟨c, h⟩
        · replace w := w.1 c
          replace h := h.2
          replace w := w.2
          replace h := h.2
          replace w := w.2
          replace h := h.2
          replace w := w.2
          replace h := h.2
          replace w := w.2
          obtain ⟨p9, q9, z9, y59_, y60_, h⟩ := h
          obtain ⟨Q9, w0, w⟩ := w
          replace w := w p9 q9 (vpX11_nameEntry z9 w0) y59_ y60_
          replace h := h.2
          replace w := w.2
          replace h := h.2
          replace w := w.2
          replace h := h.2
          replace w := w.2
          replace h := h.2
          replace w := w.2
          obtain ⟨p9, q9, z9, y61_, y62_, h⟩ := h
          obtain ⟨Q9, w0, w⟩ := w
          replace w := w p9 q9 (vpX11_nameEntry z9 w0) y61_ y62_
          obtain ⟨q9, z9, y63_, y64_, h⟩ := h
          obtain ⟨Q9, w0, w⟩ := w
          replace w := w q9 (vpX11_putMember z9 w0) y63_ y64_
          obtain ⟨p9, q9, z9, y65_, y66_, h⟩ := h
          obtain ⟨Q9, w0, w⟩ := w
          replace w := w p9 q9 (vpX11_layOut z9 w0) y65_ y66_
          replace h := h.2
          replace w := w.2
          replace h := h.2
          replace w := w.2
          obtain ⟨y67_, y68_, y69_, h⟩ := h
          replace w := w y67_ y68_ y69_
          obtain ⟨q9, z9, y70_, y71_, h⟩ := h
          obtain ⟨Q9, w0, w⟩ := w
          replace w := w q9 (vpX4_seek z9 w0) y70_ y71_
          obtain ⟨y72_, h⟩ := h
          replace w := w y72_
          obtain ⟨q9, z9, y73_, y74_, h⟩ := h
          obtain ⟨Q9, w0, w⟩ := w
          replace w := w q9 (vpX0_put2 z9 w0) y73_ y74_
          replace h := h.2
          replace w := w.2
          obtain ⟨y75_, h⟩ := h
          replace w := w y75_
          obtain ⟨q9, z9, y76_, y77_, h⟩ := h
          obtain ⟨Q9, w0, w⟩ := w
          replace w := w q9 (vpX0_put4 z9 w0) y76_ y77_
          obtain ⟨y78_, h⟩ := h
          replace w := w y78_
          obtain ⟨q9, z9, y79_, y80_, h⟩ := h
          obtain ⟨Q9, w0, w⟩ := w
          replace w := w q9 (vpX0_put2 z9 w0) y79_ y80_
          obtain ⟨p9, q9, z9, y81_, y82_, h⟩ := h
          obtain ⟨Q9, w0, w⟩ := w
          replace w := w p9 q9 (vpX11_leastLocals z9 w0) y81_ y82_
          obtain ⟨y83_, h⟩ := h
          replace w := w y83_
          obtain ⟨q9, z9, y84_, y85_, h⟩ := h
          obtain ⟨Q9, w0, w⟩ := w
          replace w := w q9 (vpX0_put2 z9 w0) y84_ y85_
          obtain ⟨y86_, h⟩ := h
          replace w := w y86_
          obtain ⟨q9, z9, y87_, y88_, h⟩ := h
          obtain ⟨Q9, w0, w⟩ := w
          replace w := w q9 (vpX0_put4 z9 w0) y87_ y88_
          obtain ⟨v9, e9, h⟩ := h
          replace w := w v9 e9 
          obtain ⟨n9, h⟩ := h
          obtain ⟨n8, w⟩ := w
          exact vp_X11_addMethod_L186 n9 n8 h w
        · replace w := w.2 c
          rw [h]
          exact w
