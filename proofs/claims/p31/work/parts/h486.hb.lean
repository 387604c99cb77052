/-! Writer leaves all other Bytes as they were (laid by hb6.py) -/
def hB (H : List Nat) (S u : MS) : Prop := shx S u ∧ ∀ b j : Nat, qT S b = 40 → H.contains b = false → qI u b j = qI S b j ∧ qR u b j = qR S b j
section HB
variable {H H' : List Nat} {S u v U : MS} {a b c i j : Nat} {x : Int32}
theorem hB.rf : hB H S S := ⟨shx.rf, fun _ _ _ _ => ⟨rfl, rfl⟩⟩
theorem hB.tr (h : hB H S u) (k : hB H u v) : hB H S v := ⟨h.1.tr k.1, fun b j e n => by
  have p := h.2 b j e n
  have q := k.2 b j (h.1.T e (by decide)) n
  exact ⟨q.1.trans p.1, q.2.trans p.2⟩⟩
theorem hB.mo (h : hB H S u) (s : H.all (fun x => H'.contains x) = true) : hB H' S u := ⟨h.1, fun b j e n => h.2 b j e (by
  cases q : H.contains b with
  | false => rfl
  | true =>
    have := List.all_eq_true.mp s _ (List.contains_iff_mem.mp q)
    rw [n] at this
    cases this)⟩
theorem hB.of {K : List Nat} {F : List (Nat × Nat)} (f : cfr K F S u) (hK : K.contains 40 = false) (hF : ∀ j, F.contains (40, j) = false) : hB H S u := ⟨f.1, fun b j e _ => by
  have := f.2.2 b j (by rw [e]; decide) (by rw [e]; exact hK) (by rw [e]; exact hF j)
  exact ⟨this.1, this.2.2⟩⟩
theorem hB.i4 {v : Int32} (h : H.contains a = true) : hB H S (wI S a i v) := ⟨shx.rf, fun b j _ n => ⟨by rw [qI_wI, if_neg (fun z => by rw [z.1, h] at n; cases n)], rfl⟩⟩
theorem hB.r4 {v : Option Nat} (h : H.contains a = true) : hB H S (wR S a i v) := ⟨shx.rf, fun b j _ n => ⟨rfl, by rw [qR_wR, if_neg (fun z => by rw [z.1, h] at n; cases n)]⟩⟩
theorem hb_one : ([b] : List Nat).contains b = true := by simp
theorem hb_put30 {Q : MS → Prop} (f : hB [b] S U) (h : w_X0_put_J30 Q U b x) : w_X0_put_J30 (fun u => Q u ∧ hB [b] S u) U b x := by
  unfold w_X0_put_J30 at h ⊢
  intro w k
  replace h := h w k
  refine ⟨h.1, h.2.1, fun S7 e7 k7 w7 S9 e9 k9 w9 => ⟨h.2.2 S7 e7 k7 w7 S9 e9 k9 w9, ?_⟩⟩
  exact (f.tr (show hB [b] U S7 by rw [e7]; exact hB.of (K := [101]) (F := []) (cfr.aI k7 (by decide)) rfl (fun _ => rfl))).tr (by rw [e9]; exact hB.i4 hb_one)
theorem hb_put {Q : MS → Prop} (w : wfC S) (h : wX0_put S b x Q) : wX0_put S b x (fun u => Q u ∧ hB [b] S u) := by
  unfold wX0_put at h ⊢
  refine ⟨h.1, fun d => hb_put30 hB.rf (h.2.1 d), fun d => ?_⟩
  replace h := h.2.2 d
  refine ⟨h.1, h.2.1, fun k => ?_⟩
  obtain ⟨Q17, a1, a2⟩ := h.2.2 k
  refine ⟨_, frJ7_copyOf_9075b w a1, fun b22 S19 q19 w19 s19 k19 S23 e23 k23 w23 => hb_put30 ?_ (a2 b22 S19 q19.1 w19 s19 k19 S23 e23 k23 w23)⟩
  exact (hB.of q19.2 rfl (fun _ => rfl)).tr (by rw [e23]; exact hB.r4 hb_one)
theorem hb_put2 {Q : MS → Prop} (w : wfC S) (h : wX0_put2 S b x Q) : wX0_put2 S b x (fun u => Q u ∧ hB [b] S u) := by
  unfold wX0_put2 at h ⊢
  intro k
  obtain ⟨Q2, a1, a2⟩ := h k
  refine ⟨_, hb_put w a1, fun S3 q3 w3 s3 k3 => ?_⟩
  obtain ⟨Q6, b1, b2⟩ := a2 S3 q3.1 w3 s3 k3
  exact ⟨_, hb_put w3 b1, fun S7 q7 w7 s7 => ⟨b2 S7 q7.1 w7 s7, q3.2.tr q7.2⟩⟩
theorem hb_put4 {Q : MS → Prop} (w : wfC S) (h : wX0_put4 S b x Q) : wX0_put4 S b x (fun u => Q u ∧ hB [b] S u) := by
  unfold wX0_put4 at h ⊢
  intro k
  obtain ⟨Q2, a1, a2⟩ := h k
  refine ⟨_, hb_put2 w a1, fun S3 q3 w3 s3 k3 => ?_⟩
  obtain ⟨Q6, b1, b2⟩ := a2 S3 q3.1 w3 s3 k3
  exact ⟨_, hb_put2 w3 b1, fun S7 q7 w7 s7 => ⟨b2 S7 q7.1 w7 s7, q3.2.tr q7.2⟩⟩
theorem hb_all58 {Q : MS → Prop} (f : hB [b] S U) (h : w_X0_putAll_J58 Q U b c) : w_X0_putAll_J58 (fun u => Q u ∧ hB [b] S u) U b c := by
  unfold w_X0_putAll_J58 at h ⊢
  intro w kb kc
  replace h := h w kb kc
  refine ⟨h.1, h.2.1, h.2.2.1, fun S14 e14 k14 w14 S16 e16 k16 w16 => ⟨h.2.2.2 S14 e14 k14 w14 S16 e16 k16 w16, ?_⟩⟩
  exact (f.tr (show hB [b] U S14 by rw [e14]; exact hB.of (K := [101]) (F := []) (cfr.aC k14 (by decide)) rfl (fun _ => rfl))).tr (by rw [e16]; exact hB.i4 hb_one)
theorem hb_all37 {Q : MS → Prop} {v2 : Int32} (h : w_X0_putAll_J37 Q U b c v2) : w_X0_putAll_J37 (fun u => Q u ∧ hB [b] U u) U b c v2 := by
  unfold w_X0_putAll_J37 at h ⊢
  intro w kb kc
  replace h := h w kb kc
  refine ⟨h.1, fun d => hb_all58 hB.rf (h.2.1 d), fun d => ?_⟩
  replace h := h.2.2 d
  refine ⟨h.1, fun kk => ?_⟩
  obtain ⟨Q20, a1, a2⟩ := h.2 kk
  refine ⟨_, frJ7_copyOf_9075b w a1, fun b25 S22 q22 w22 s22 k22 S26 e26 k26 w26 => hb_all58 ?_ (a2 b25 S22 q22.1 w22 s22 k22 S26 e26 k26 w26)⟩
  exact (hB.of q22.2 rfl (fun _ => rfl)).tr (by rw [e26]; exact hB.r4 hb_one)
theorem hb_all8 {Q : MS → Prop} : ∀ (n : Nat) {v2 v3 : Int32}, w_X0_putAll_L8 Q n U b c v2 v3 → w_X0_putAll_L8 (fun u => Q u ∧ hB [b] U u) n U b c v2 v3 := by
  intro n
  induction n with
  | zero => intro v2 v3 h; unfold w_X0_putAll_L8 at h; exact h.elim
  | succ n ih =>
    intro v2 v3 h
    unfold w_X0_putAll_L8 at h ⊢
    intro w kb kc
    replace h := h w kb kc
    exact ⟨fun d => hb_all37 (h.1 d), fun d => ⟨fun e => hb_all37 ((h.2 d).1 e), fun e a ea a' ea' => ih ((h.2 d).2 e a ea a' ea')⟩⟩
theorem hb_putAll {Q : MS → Prop} (w : wfC U) (h : wX0_putAll U b c Q) : wX0_putAll U b c (fun u => Q u ∧ hB [b] U u) := by
  unfold wX0_putAll at h ⊢
  refine ⟨h.1, fun a ea => ?_⟩
  obtain ⟨n, hn⟩ := h.2 a ea
  exact ⟨n, hb_all8 n hn⟩
end HB
set_option maxRecDepth 100000 in
theorem hb_X11_entryOfWanted_J166 {S0 : MS} {Q : Int32 → MS → Prop} {U166 : MS} {v166_1 : Int32} (f : hB [26, 28, 30] S0 U166) (h : w_X11_entryOfWanted_J166 Q U166 v166_1) : w_X11_entryOfWanted_J166 (fun r u => Q r u ∧ hB [26, 28, 30] S0 u) U166 v166_1 := by
  unfold w_X11_entryOfWanted_J166 at h ⊢
  intro y1_
  replace h := h y1_
  exact ⟨h, f⟩
set_option maxRecDepth 100000 in
theorem hb_X11_entryOfWanted_J52 {S0 : MS} {Q : Int32 → MS → Prop} {U52 : MS} {t52_0 : Int32} (f : hB [26, 28, 30] S0 U52) (h : w_X11_entryOfWanted_J52 Q U52 t52_0) : w_X11_entryOfWanted_J52 (fun r u => Q r u ∧ hB [26, 28, 30] S0 u) U52 t52_0 := by
  unfold w_X11_entryOfWanted_J52 at h ⊢
  intro y2_
  replace h := h y2_
  refine ⟨fun c => ?_, fun c => ?_⟩
  · replace h := h.1 c
    refine ⟨h.1, ?_⟩
    replace h := h.2
    intro S7 eS7 y3_ y4_
    replace h := h S7 eS7 y3_ y4_
    replace f := f.tr (show hB [26, 28, 30] U52 S7 by rw [eS7]; exact hB.of (K := [238]) (F := []) (cfr.aI y3_ (by decide)) rfl (fun _ => rfl))
    intro y5_ y6_
    replace h := h y5_ y6_
    obtain ⟨Q9, h0, h⟩ := h
    refine ⟨_, hb_putAll y4_ h0, ?_⟩
    intro S9 q7_ y8_ y9_
    replace h := h S9 q7_.1 y8_ y9_
    replace f := f.tr (q7_.2.mo (by decide))
    refine ⟨h.1, ?_⟩
    replace h := h.2
    intro S13 eS13 y10_ y11_
    replace h := h S13 eS13 y10_ y11_
    replace f := f.tr (show hB [26, 28, 30] S9 S13 by rw [eS13]; exact hB.of (K := [239]) (F := []) (cfr.aI y10_ (by decide)) rfl (fun _ => rfl))
    intro S15 eS15 y12_ y13_
    replace h := h S15 eS15 y12_ y13_
    replace f := f.tr (show hB [26, 28, 30] S13 S15 by rw [eS15]; exact hB.of (K := []) (F := [(50, 5)]) (cfr.oI y12_ (by decide)) rfl (fun _ => rfl))
    refine ⟨fun c => ?_, fun c => ?_⟩
    · replace h := h.1 c
      refine ⟨h.1, ?_⟩
      replace h := h.2
      intro S20 eS20 y14_ y15_
      replace h := h S20 eS20 y14_ y15_
      replace f := f.tr (show hB [26, 28, 30] S15 S20 by rw [eS20]; exact hB.of (K := [238]) (F := []) (cfr.aI y14_ (by decide)) rfl (fun _ => rfl))
      refine ⟨h.1, ?_⟩
      replace h := h.2
      intro S23 eS23 y16_ y17_
      replace h := h S23 eS23 y16_ y17_
      replace f := f.tr (show hB [26, 28, 30] S20 S23 by rw [eS23]; exact hB.of (K := [239]) (F := []) (cfr.aI y16_ (by decide)) rfl (fun _ => rfl))
      exact hb_X11_entryOfWanted_J166 f h
    · replace h := h.2 c
      exact hb_X11_entryOfWanted_J166 f h
  · replace h := h.2 c
    intro S24 eS24 y18_ y19_
    replace h := h S24 eS24 y18_ y19_
    replace f := f.tr (show hB [26, 28, 30] U52 S24 by rw [eS24]; exact hB.of (K := []) (F := [(50, 6)]) (cfr.oI y18_ (by decide)) rfl (fun _ => rfl))
    exact ⟨h, f⟩
set_option maxRecDepth 100000 in
theorem hb_X11_entryOfWanted_J35 {S0 : MS} {Q : Int32 → MS → Prop} {U35 : MS} (f : hB [26, 28, 30] S0 U35) (h : w_X11_entryOfWanted_J35 Q U35) : w_X11_entryOfWanted_J35 (fun r u => Q r u ∧ hB [26, 28, 30] S0 u) U35 := by
  unfold w_X11_entryOfWanted_J35 at h ⊢
  intro y20_
  replace h := h y20_
  refine ⟨h.1, ?_⟩
  replace h := h.2
  refine ⟨fun c => ?_, fun c => ?_⟩
  · replace h := h.1 c
    exact hb_X11_entryOfWanted_J52 f h
  · replace h := h.2 c
    exact hb_X11_entryOfWanted_J52 f h
set_option maxRecDepth 100000 in
theorem hb_X11_entryOfWanted_L2 {S0 : MS} {Q : Int32 → MS → Prop} : ∀ (n : Nat) {U2 : MS} {v2_1 : Int32}, hB [26, 28, 30] S0 U2 → w_X11_entryOfWanted_L2 Q n U2 v2_1 → w_X11_entryOfWanted_L2 (fun r u => Q r u ∧ hB [26, 28, 30] S0 u) n U2 v2_1 := by
  intro n
  induction n with
  | zero => intro U2 v2_1 f h; unfold w_X11_entryOfWanted_L2 at h; exact h.elim
  | succ n ih =>
    intro U2 v2_1 f h
    unfold w_X11_entryOfWanted_L2 at h ⊢
    intro y21_
    replace h := h y21_
    refine ⟨fun c => ?_, fun c => ?_⟩
    · replace h := h.1 c
      exact hb_X11_entryOfWanted_J35 f h
    · replace h := h.2 c
      refine ⟨fun c => ?_, fun c => ?_⟩
      · replace h := h.1 c
        exact hb_X11_entryOfWanted_J35 f h
      · replace h := h.2 c
        obtain ⟨Q9, h0, h⟩ := h
        refine ⟨_, frX11_isWanted y21_ h0, ?_⟩
        intro r29 S30 q22_ y23_ y24_
        replace h := h r29 S30 q22_.1 y23_ y24_
        replace f := f.tr (hB.of q22_.2 rfl (fun _ => rfl))
        refine ⟨fun c => ?_, fun c => ?_⟩
        · replace h := h.1 c
          intro a33 ea33 
          replace h := h a33 ea33 
          exact ih f h
        · replace h := h.2 c
          exact ⟨h, f⟩
set_option maxRecDepth 100000 in
theorem hbX11_entryOfWanted {S : MS} {Q : Int32 → MS → Prop} (hw : wfC S) (h : wX11_entryOfWanted S Q) : wX11_entryOfWanted S (fun r u => Q r u ∧ hB [26, 28, 30] S u) := by
  have f : hB [26, 28, 30] S S := hB.rf
  unfold wX11_entryOfWanted at h ⊢
  obtain ⟨n9, h⟩ := h
  exact ⟨n9, hb_X11_entryOfWanted_L2 n9 f h⟩
set_option maxRecDepth 100000 in
theorem hbX11_want {S : MS} {x1 : Int32} {Q : MS → Prop} (hw : wfC S) (h : wX11_want S x1 Q) : wX11_want S x1 (fun u => Q u ∧ hB [26, 28, 30] S u) := by
  have f : hB [26, 28, 30] S S := hB.rf
  unfold wX11_want at h ⊢
  intro S1 eS1 y1_ y2_
  replace h := h S1 eS1 y1_ y2_
  replace f := f.tr (show hB [26, 28, 30] S S1 by rw [eS1]; exact hB.i4 (by decide))
  intro y3_
  replace h := h y3_
  obtain ⟨Q9, h0, h⟩ := h
  refine ⟨_, hb_put y2_ h0, ?_⟩
  intro S3 q4_ y5_ y6_
  replace h := h S3 q4_.1 y5_ y6_
  replace f := f.tr (q4_.2.mo (by decide))
  exact ⟨h, f⟩
set_option maxRecDepth 100000 in
theorem hb_X11_counterEntry_J52 {S0 : MS} {Q : Int32 → MS → Prop} {U52 : MS} {v52_1 : Int32} (f : hB [26, 28, 30] S0 U52) (h : w_X11_counterEntry_J52 Q U52 v52_1) : w_X11_counterEntry_J52 (fun r u => Q r u ∧ hB [26, 28, 30] S0 u) U52 v52_1 := by
  unfold w_X11_counterEntry_J52 at h ⊢
  intro y1_
  replace h := h y1_
  intro y2_
  replace h := h y2_
  obtain ⟨Q9, h0, h⟩ := h
  refine ⟨_, hb_put y1_ h0, ?_⟩
  intro S16 q3_ y4_ y5_
  replace h := h S16 q3_.1 y4_ y5_
  replace f := f.tr (q3_.2.mo (by decide))
  obtain ⟨Q9, h0, h⟩ := h
  refine ⟨_, hbX11_entryOfWanted y4_ h0, ?_⟩
  intro r20 S21 q6_ y7_ y8_
  replace h := h r20 S21 q6_.1 y7_ y8_
  replace f := f.tr q6_.2
  exact ⟨h, f⟩
set_option maxRecDepth 100000 in
theorem hb_X11_counterEntry_J20 {S0 : MS} {Q : Int32 → MS → Prop} {U20 : MS} {t20_0 : Int32} {v20_1 : Int32} (f : hB [26, 28, 30] S0 U20) (h : w_X11_counterEntry_J20 Q U20 t20_0 v20_1) : w_X11_counterEntry_J20 (fun r u => Q r u ∧ hB [26, 28, 30] S0 u) U20 t20_0 v20_1 := by
  unfold w_X11_counterEntry_J20 at h ⊢
  intro y9_
  replace h := h y9_
  intro y10_
  replace h := h y10_
  obtain ⟨Q9, h0, h⟩ := h
  refine ⟨_, hb_put2 y9_ h0, ?_⟩
  intro S6 q11_ y12_ y13_
  replace h := h S6 q11_.1 y12_ y13_
  replace f := f.tr (q11_.2.mo (by decide))
  intro y14_
  replace h := h y14_
  obtain ⟨Q9, h0, h⟩ := h
  refine ⟨_, hb_put y12_ h0, ?_⟩
  intro S10 q15_ y16_ y17_
  replace h := h S10 q15_.1 y16_ y17_
  replace f := f.tr (q15_.2.mo (by decide))
  refine ⟨fun c => ?_, fun c => ?_⟩
  · replace h := h.1 c
    exact hb_X11_counterEntry_J52 f h
  · replace h := h.2 c
    intro y18_
    replace h := h y18_
    obtain ⟨Q9, h0, h⟩ := h
    refine ⟨_, hb_put y16_ h0, ?_⟩
    intro S28 q19_ y20_ y21_
    replace h := h S28 q19_.1 y20_ y21_
    replace f := f.tr (q19_.2.mo (by decide))
    exact hb_X11_counterEntry_J52 f h
set_option maxRecDepth 100000 in
theorem hbX11_counterEntry {S : MS} {x1 : Int32} {Q : Int32 → MS → Prop} (hw : wfC S) (h : wX11_counterEntry S x1 Q) : wX11_counterEntry S x1 (fun r u => Q r u ∧ hB [26, 28, 30] S u) := by
  have f : hB [26, 28, 30] S S := hB.rf
  unfold wX11_counterEntry at h ⊢
  obtain ⟨Q9, h0, h⟩ := h
  refine ⟨_, hbX11_want hw h0, ?_⟩
  intro S2 q22_ y23_ y24_
  replace h := h S2 q22_.1 y23_ y24_
  replace f := f.tr q22_.2
  refine ⟨fun c => ?_, fun c => ?_⟩
  · replace h := h.1 c
    exact hb_X11_counterEntry_J20 f h
  · replace h := h.2 c
    exact hb_X11_counterEntry_J20 f h
set_option maxRecDepth 100000 in
theorem hb_X11_nameEntry_L26 {S0 : MS} {Q : Int32 → MS → Prop} : ∀ (n : Nat) {U26 : MS} {v26_1 : Int32} {v26_2 : Int32} {v26_3 : Int32}, hB [26, 28, 30] S0 U26 → w_X11_nameEntry_L26 Q n U26 v26_1 v26_2 v26_3 → w_X11_nameEntry_L26 (fun r u => Q r u ∧ hB [26, 28, 30] S0 u) n U26 v26_1 v26_2 v26_3 := by
  intro n
  induction n with
  | zero => intro U26 v26_1 v26_2 v26_3 f h; unfold w_X11_nameEntry_L26 at h; exact h.elim
  | succ n ih =>
    intro U26 v26_1 v26_2 v26_3 f h
    unfold w_X11_nameEntry_L26 at h ⊢
    intro y1_
    replace h := h y1_
    refine ⟨fun c => ?_, fun c => ?_⟩
    · replace h := h.1 c
      obtain ⟨Q9, h0, h⟩ := h
      refine ⟨_, hbX11_entryOfWanted y1_ h0, ?_⟩
      intro r21 S22 q2_ y3_ y4_
      replace h := h r21 S22 q2_.1 y3_ y4_
      replace f := f.tr q2_.2
      exact ⟨h, f⟩
    · replace h := h.2 c
      refine ⟨h.1, ?_⟩
      replace h := h.2
      intro a29 ea29 
      replace h := h a29 ea29 
      intro y5_
      replace h := h y5_
      obtain ⟨Q9, h0, h⟩ := h
      refine ⟨_, hb_put y1_ h0, ?_⟩
      intro S31 q6_ y7_ y8_
      replace h := h S31 q6_.1 y7_ y8_
      replace f := f.tr (q6_.2.mo (by decide))
      intro a34 ea34 
      replace h := h a34 ea34 
      exact ih f h
set_option maxRecDepth 100000 in
theorem hbX11_nameEntry {S : MS} {x1 : Int32} {Q : Int32 → MS → Prop} (hw : wfC S) (h : wX11_nameEntry S x1 Q) : wX11_nameEntry S x1 (fun r u => Q r u ∧ hB [26, 28, 30] S u) := by
  have f : hB [26, 28, 30] S S := hB.rf
  unfold wX11_nameEntry at h ⊢
  obtain ⟨Q9, h0, h⟩ := h
  refine ⟨_, hbX11_want hw h0, ?_⟩
  intro S2 q9_ y10_ y11_
  replace h := h S2 q9_.1 y10_ y11_
  replace f := f.tr q9_.2
  refine ⟨h.1, ?_⟩
  replace h := h.2
  intro a9 ea9 
  replace h := h a9 ea9 
  refine ⟨h.1, ?_⟩
  replace h := h.2
  intro a15 ea15 
  replace h := h a15 ea15 
  intro a17 ea17 
  replace h := h a17 ea17 
  obtain ⟨n9, h⟩ := h
  exact ⟨n9, hb_X11_nameEntry_L26 n9 f h⟩
set_option maxRecDepth 100000 in
theorem hbX11_pointerEntry {S : MS} {x1 : Int32} {x2 : Int32} {Q : Int32 → MS → Prop} (hw : wfC S) (h : wX11_pointerEntry S x1 x2 Q) : wX11_pointerEntry S x1 x2 (fun r u => Q r u ∧ hB [26, 28, 30] S u) := by
  have f : hB [26, 28, 30] S S := hB.rf
  unfold wX11_pointerEntry at h ⊢
  obtain ⟨Q9, h0, h⟩ := h
  refine ⟨_, hbX11_want hw h0, ?_⟩
  intro S2 q1_ y2_ y3_
  replace h := h S2 q1_.1 y2_ y3_
  replace f := f.tr q1_.2
  intro y4_
  replace h := h y4_
  obtain ⟨Q9, h0, h⟩ := h
  refine ⟨_, hb_put2 y2_ h0, ?_⟩
  intro S6 q5_ y6_ y7_
  replace h := h S6 q5_.1 y6_ y7_
  replace f := f.tr (q5_.2.mo (by decide))
  obtain ⟨Q9, h0, h⟩ := h
  refine ⟨_, hbX11_entryOfWanted y6_ h0, ?_⟩
  intro r10 S11 q8_ y9_ y10_
  replace h := h r10 S11 q8_.1 y9_ y10_
  replace f := f.tr q8_.2
  exact ⟨h, f⟩
set_option maxRecDepth 100000 in
theorem hbX11_putMember {S : MS} {x1 : Int32} {x2 : Int32} {x3 : Int32} {Q : MS → Prop} (hw : wfC S) (h : wX11_putMember S x1 x2 x3 Q) : wX11_putMember S x1 x2 x3 (fun u => Q u ∧ hB [26, 28, 30] S u) := by
  have f : hB [26, 28, 30] S S := hB.rf
  unfold wX11_putMember at h ⊢
  intro y1_
  replace h := h y1_
  obtain ⟨Q9, h0, h⟩ := h
  refine ⟨_, hb_put2 hw h0, ?_⟩
  intro S2 q2_ y3_ y4_
  replace h := h S2 q2_.1 y3_ y4_
  replace f := f.tr (q2_.2.mo (by decide))
  intro y5_
  replace h := h y5_
  obtain ⟨Q9, h0, h⟩ := h
  refine ⟨_, hb_put2 y3_ h0, ?_⟩
  intro S6 q6_ y7_ y8_
  replace h := h S6 q6_.1 y7_ y8_
  replace f := f.tr (q6_.2.mo (by decide))
  intro y9_
  replace h := h y9_
  obtain ⟨Q9, h0, h⟩ := h
  refine ⟨_, hb_put2 y7_ h0, ?_⟩
  intro S10 q10_ y11_ y12_
  replace h := h S10 q10_.1 y11_ y12_
  replace f := f.tr (q10_.2.mo (by decide))
  intro y13_
  replace h := h y13_
  obtain ⟨Q9, h0, h⟩ := h
  refine ⟨_, hb_put2 y11_ h0, ?_⟩
  intro S14 q14_ y15_ y16_
  replace h := h S14 q14_.1 y15_ y16_
  replace f := f.tr (q14_.2.mo (by decide))
  exact ⟨h, f⟩
set_option maxRecDepth 100000 in
theorem hb_X11_textEntry_L18 {S0 : MS} {Q : Int32 → MS → Prop} : ∀ (n : Nat) {U18 : MS} {v18_1 : Nat} {v18_2 : Int32}, hB [26, 28, 30] S0 U18 → w_X11_textEntry_L18 Q n U18 v18_1 v18_2 → w_X11_textEntry_L18 (fun r u => Q r u ∧ hB [26, 28, 30] S0 u) n U18 v18_1 v18_2 := by
  intro n
  induction n with
  | zero => intro U18 v18_1 v18_2 f h; unfold w_X11_textEntry_L18 at h; exact h.elim
  | succ n ih =>
    intro U18 v18_1 v18_2 f h
    unfold w_X11_textEntry_L18 at h ⊢
    intro y1_ y2_
    replace h := h y1_ y2_
    refine ⟨fun c => ?_, fun c => ?_⟩
    · replace h := h.1 c
      obtain ⟨Q9, h0, h⟩ := h
      refine ⟨_, hbX11_entryOfWanted y1_ h0, ?_⟩
      intro r13 S14 q3_ y4_ y5_
      replace h := h r13 S14 q3_.1 y4_ y5_
      replace f := f.tr q3_.2
      exact ⟨h, f⟩
    · replace h := h.2 c
      refine ⟨h.1, ?_⟩
      replace h := h.2
      intro y6_
      replace h := h y6_
      obtain ⟨Q9, h0, h⟩ := h
      refine ⟨_, hb_put y1_ h0, ?_⟩
      intro S20 q7_ y8_ y9_
      replace h := h S20 q7_.1 y8_ y9_
      replace f := f.tr (q7_.2.mo (by decide))
      intro a23 ea23 
      replace h := h a23 ea23 
      exact ih f h
set_option maxRecDepth 100000 in
theorem hbX11_textEntry {S : MS} {p1 : Nat} {Q : Int32 → MS → Prop} (hw : wfC S) (h : wX11_textEntry S p1 Q) : wX11_textEntry S p1 (fun r u => Q r u ∧ hB [26, 28, 30] S u) := by
  have f : hB [26, 28, 30] S S := hB.rf
  unfold wX11_textEntry at h ⊢
  obtain ⟨Q9, h0, h⟩ := h
  refine ⟨_, hbX11_want hw h0, ?_⟩
  intro S2 q10_ y11_ y12_
  replace h := h S2 q10_.1 y11_ y12_
  replace f := f.tr q10_.2
  intro y13_
  replace h := h y13_
  obtain ⟨Q9, h0, h⟩ := h
  refine ⟨_, hb_put2 y11_ h0, ?_⟩
  intro S7 q14_ y15_ y16_
  replace h := h S7 q14_.1 y15_ y16_
  replace f := f.tr (q14_.2.mo (by decide))
  obtain ⟨n9, h⟩ := h
  exact ⟨n9, hb_X11_textEntry_L18 n9 f h⟩
set_option maxRecDepth 100000 in
theorem hb_X11_begin_J293 {S0 : MS} {Q : MS → Prop} {U293 : MS} (f : hB [26, 28, 30] S0 U293) (h : w_X11_begin_J293 Q U293) : w_X11_begin_J293 (fun u => Q u ∧ hB [26, 28, 30] S0 u) U293 := by
  unfold w_X11_begin_J293 at h ⊢
  intro y1_
  replace h := h y1_
  refine ⟨h.1, ?_⟩
  replace h := h.2
  intro y2_
  replace h := h y2_
  obtain ⟨Q9, h0, h⟩ := h
  refine ⟨_, hb_put2 y1_ h0, ?_⟩
  intro S71 q3_ y4_ y5_
  replace h := h S71 q3_.1 y4_ y5_
  replace f := f.tr (q3_.2.mo (by decide))
  exact ⟨h, f⟩
set_option maxRecDepth 100000 in
theorem hb_X11_begin_J267 {S0 : MS} {Q : MS → Prop} {k155 k155' : MS → Int32 → Int32 → Prop} {U267 : MS} {t267_0 : Int32} {t267_1 : Int32} {v267_4 : Int32} {v267_5 : Int32} (hk155 : ∀ (u : MS) (z0) (z1), hB [26, 28, 30] S0 u → k155 u z0 z1 → k155' u z0 z1) (f : hB [26, 28, 30] S0 U267) (h : w_X11_begin_J267 Q k155 U267 t267_0 t267_1 v267_4 v267_5) : w_X11_begin_J267 (fun u => Q u ∧ hB [26, 28, 30] S0 u) k155' U267 t267_0 t267_1 v267_4 v267_5 := by
  unfold w_X11_begin_J267 at h ⊢
  intro y6_
  replace h := h y6_
  refine ⟨h.1, ?_⟩
  replace h := h.2
  intro S84 eS84 y7_ y8_
  replace h := h S84 eS84 y7_ y8_
  replace f := f.tr (show hB [26, 28, 30] U267 S84 by rw [eS84]; exact hB.of (K := [241]) (F := []) (cfr.aI y7_ (by decide)) rfl (fun _ => rfl))
  refine ⟨h.1, ?_⟩
  replace h := h.2
  refine ⟨h.1, ?_⟩
  replace h := h.2
  obtain ⟨Q9, h0, h⟩ := h
  refine ⟨_, hbX11_putMember y8_ h0, ?_⟩
  intro S90 q9_ y10_ y11_
  replace h := h S90 q9_.1 y10_ y11_
  replace f := f.tr q9_.2
  intro a93 ea93 
  replace h := h a93 ea93 
  exact hk155 _ _ _ f h
set_option maxRecDepth 100000 in
theorem hb_X11_begin_J232 {S0 : MS} {Q : MS → Prop} {k155 k155' : MS → Int32 → Int32 → Prop} {U232 : MS} {t232_0 : Int32} {t232_1 : Int32} {v232_4 : Int32} {v232_5 : Int32} {v232_6 : Int32} (hk155 : ∀ (u : MS) (z0) (z1), hB [26, 28, 30] S0 u → k155 u z0 z1 → k155' u z0 z1) (f : hB [26, 28, 30] S0 U232) (h : w_X11_begin_J232 Q k155 U232 t232_0 t232_1 v232_4 v232_5 v232_6) : w_X11_begin_J232 (fun u => Q u ∧ hB [26, 28, 30] S0 u) k155' U232 t232_0 t232_1 v232_4 v232_5 v232_6 := by
  unfold w_X11_begin_J232 at h ⊢
  intro y12_ y13_
  replace h := h y12_ y13_
  refine ⟨h.1, ?_⟩
  replace h := h.2
  intro S82 eS82 y14_ y15_
  replace h := h S82 eS82 y14_ y15_
  replace f := f.tr (show hB [26, 28, 30] U232 S82 by rw [eS82]; exact hB.of (K := [240]) (F := []) (cfr.aI y14_ (by decide)) rfl (fun _ => rfl))
  refine ⟨fun c => ?_, fun c => ?_⟩
  · replace h := h.1 c
    intro y16_
    replace h := h y16_
    obtain ⟨Q9, h0, h⟩ := h
    refine ⟨_, hbX11_textEntry y15_ h0, ?_⟩
    intro r97 S98 q17_ y18_ y19_
    replace h := h r97 S98 q17_.1 y18_ y19_
    replace f := f.tr q17_.2
    exact hb_X11_begin_J267 hk155 f h
  · replace h := h.2 c
    refine ⟨h.1, ?_⟩
    replace h := h.2
    refine ⟨h.1, ?_⟩
    replace h := h.2
    refine ⟨h.1, ?_⟩
    replace h := h.2
    obtain ⟨Q9, h0, h⟩ := h
    refine ⟨_, hbX11_nameEntry y15_ h0, ?_⟩
    intro r108 S109 q20_ y21_ y22_
    replace h := h r108 S109 q20_.1 y21_ y22_
    replace f := f.tr q20_.2
    exact hb_X11_begin_J267 hk155 f h
set_option maxRecDepth 100000 in
theorem hb_X11_begin_J187 {S0 : MS} {Q : MS → Prop} {k155 k155' : MS → Int32 → Int32 → Prop} {U187 : MS} {t187_0 : Int32} {v187_4 : Int32} {v187_5 : Int32} (hk155 : ∀ (u : MS) (z0) (z1), hB [26, 28, 30] S0 u → k155 u z0 z1 → k155' u z0 z1) (f : hB [26, 28, 30] S0 U187) (h : w_X11_begin_J187 Q k155 U187 t187_0 v187_4 v187_5) : w_X11_begin_J187 (fun u => Q u ∧ hB [26, 28, 30] S0 u) k155' U187 t187_0 v187_4 v187_5 := by
  unfold w_X11_begin_J187 at h ⊢
  intro y23_ y24_
  replace h := h y23_ y24_
  refine ⟨fun c => ?_, fun c => ?_⟩
  · replace h := h.1 c
    refine ⟨h.1, ?_⟩
    replace h := h.2
    refine ⟨h.1, ?_⟩
    replace h := h.2
    obtain ⟨Q9, h0, h⟩ := h
    refine ⟨_, hbX11_counterEntry y23_ h0, ?_⟩
    intro r120 S121 q25_ y26_ y27_
    replace h := h r120 S121 q25_.1 y26_ y27_
    replace f := f.tr q25_.2
    exact hb_X11_begin_J232 hk155 f h
  · replace h := h.2 c
    refine ⟨h.1, ?_⟩
    replace h := h.2
    refine ⟨h.1, ?_⟩
    replace h := h.2
    refine ⟨h.1, ?_⟩
    replace h := h.2
    obtain ⟨Q9, h0, h⟩ := h
    refine ⟨_, hbX11_nameEntry y23_ h0, ?_⟩
    intro r131 S132 q28_ y29_ y30_
    replace h := h r131 S132 q28_.1 y29_ y30_
    replace f := f.tr q28_.2
    exact hb_X11_begin_J232 hk155 f h
set_option maxRecDepth 100000 in
theorem hb_X11_begin_L155 {S0 : MS} {Q : MS → Prop} : ∀ (n : Nat) {U155 : MS} {v155_4 : Int32} {v155_5 : Int32}, hB [26, 28, 30] S0 U155 → w_X11_begin_L155 Q n U155 v155_4 v155_5 → w_X11_begin_L155 (fun u => Q u ∧ hB [26, 28, 30] S0 u) n U155 v155_4 v155_5 := by
  intro n
  induction n with
  | zero => intro U155 v155_4 v155_5 f h; unfold w_X11_begin_L155 at h; exact h.elim
  | succ n ih =>
    intro U155 v155_4 v155_5 f h
    unfold w_X11_begin_L155 at h ⊢
    intro y31_
    replace h := h y31_
    refine ⟨fun c => ?_, fun c => ?_⟩
    · replace h := h.1 c
      exact hb_X11_begin_J293 f h
    · replace h := h.2 c
      refine ⟨fun c => ?_, fun c => ?_⟩
      · replace h := h.1 c
        exact hb_X11_begin_J293 f h
      · replace h := h.2 c
        refine ⟨h.1, ?_⟩
        replace h := h.2
        refine ⟨h.1, ?_⟩
        replace h := h.2
        refine ⟨fun c => ?_, fun c => ?_⟩
        · replace h := h.1 c
          exact hb_X11_begin_J187 (fun _ _ _ f h => ih f h) f h
        · replace h := h.2 c
          exact hb_X11_begin_J187 (fun _ _ _ f h => ih f h) f h
set_option maxRecDepth 100000 in
theorem hbX11_begin {S : MS} {p1 : Nat} {x2 : Int32} {Q : MS → Prop} (hw : wfC S) (h : wX11_begin S p1 x2 Q) : wX11_begin S p1 x2 (fun u => Q u ∧ hB [26, 28, 30] S u) := by
  have f : hB [26, 28, 30] S S := hB.rf
  unfold wX11_begin at h ⊢
  intro S1 eS1 y32_ y33_
  replace h := h S1 eS1 y32_ y33_
  replace f := f.tr (show hB [26, 28, 30] S S1 by rw [eS1]; exact hB.of (K := []) (F := [(50, 7)]) (cfr.oR y32_ (by decide)) rfl (fun _ => rfl))
  intro S2 eS2 y34_ y35_
  replace h := h S2 eS2 y34_ y35_
  replace f := f.tr (show hB [26, 28, 30] S1 S2 by rw [eS2]; exact hB.i4 (by decide))
  intro S3 eS3 y36_ y37_
  replace h := h S3 eS3 y36_ y37_
  replace f := f.tr (show hB [26, 28, 30] S2 S3 by rw [eS3]; exact hB.i4 (by decide))
  intro S4 eS4 y38_ y39_
  replace h := h S4 eS4 y38_ y39_
  replace f := f.tr (show hB [26, 28, 30] S3 S4 by rw [eS4]; exact hB.of (K := []) (F := [(50, 5)]) (cfr.oI y38_ (by decide)) rfl (fun _ => rfl))
  intro S5 eS5 y40_ y41_
  replace h := h S5 eS5 y40_ y41_
  replace f := f.tr (show hB [26, 28, 30] S4 S5 by rw [eS5]; exact hB.of (K := []) (F := [(50, 6)]) (cfr.oI y40_ (by decide)) rfl (fun _ => rfl))
  intro y42_
  replace h := h y42_
  obtain ⟨Q9, h0, h⟩ := h
  refine ⟨_, frJ7_fill_53178 y42_ (by decide) h0, ?_⟩
  intro S7 q43_ y44_ y45_
  replace h := h S7 q43_.1 y44_ y45_
  replace f := f.tr (hB.of q43_.2 rfl (fun _ => rfl))
  intro y46_
  replace h := h y46_
  obtain ⟨Q9, h0, h⟩ := h
  refine ⟨_, frJ7_fill_53178 y46_ (by decide) h0, ?_⟩
  intro S10 q47_ y48_ y49_
  replace h := h S10 q47_.1 y48_ y49_
  replace f := f.tr (hB.of q47_.2 rfl (fun _ => rfl))
  intro y50_
  replace h := h y50_
  obtain ⟨Q9, h0, h⟩ := h
  refine ⟨_, hbX11_textEntry y48_ h0, ?_⟩
  intro r14 S15 q51_ y52_ y53_
  replace h := h r14 S15 q51_.1 y52_ y53_
  replace f := f.tr q51_.2
  intro S18 eS18 y54_ y55_
  replace h := h S18 eS18 y54_ y55_
  replace f := f.tr (show hB [26, 28, 30] S15 S18 by rw [eS18]; exact hB.of (K := []) (F := [(50, 8)]) (cfr.oI y54_ (by decide)) rfl (fun _ => rfl))
  refine ⟨h.1, ?_⟩
  replace h := h.2
  obtain ⟨Q9, h0, h⟩ := h
  refine ⟨_, hbX11_nameEntry y55_ h0, ?_⟩
  intro r22 S23 q56_ y57_ y58_
  replace h := h r22 S23 q56_.1 y57_ y58_
  replace f := f.tr q56_.2
  obtain ⟨Q9, h0, h⟩ := h
  refine ⟨_, hbX11_pointerEntry y57_ h0, ?_⟩
  intro r27 S28 q59_ y60_ y61_
  replace h := h r27 S28 q59_.1 y60_ y61_
  replace f := f.tr q59_.2
  intro S31 eS31 y62_ y63_
  replace h := h S31 eS31 y62_ y63_
  replace f := f.tr (show hB [26, 28, 30] S28 S31 by rw [eS31]; exact hB.of (K := []) (F := [(50, 9)]) (cfr.oI y62_ (by decide)) rfl (fun _ => rfl))
  refine ⟨h.1, ?_⟩
  replace h := h.2
  obtain ⟨Q9, h0, h⟩ := h
  refine ⟨_, hbX11_nameEntry y63_ h0, ?_⟩
  intro r35 S36 q64_ y65_ y66_
  replace h := h r35 S36 q64_.1 y65_ y66_
  replace f := f.tr q64_.2
  obtain ⟨Q9, h0, h⟩ := h
  refine ⟨_, hbX11_pointerEntry y65_ h0, ?_⟩
  intro r40 S41 q67_ y68_ y69_
  replace h := h r40 S41 q67_.1 y68_ y69_
  replace f := f.tr q67_.2
  intro y70_
  replace h := h y70_
  obtain ⟨Q9, h0, h⟩ := h
  refine ⟨_, hb_put2 y68_ h0, ?_⟩
  intro S45 q71_ y72_ y73_
  replace h := h S45 q71_.1 y72_ y73_
  replace f := f.tr (q71_.2.mo (by decide))
  intro y74_
  replace h := h y74_
  obtain ⟨Q9, h0, h⟩ := h
  refine ⟨_, hb_put2 y72_ h0, ?_⟩
  intro S49 q75_ y76_ y77_
  replace h := h S49 q75_.1 y76_ y77_
  replace f := f.tr (q75_.2.mo (by decide))
  intro y78_
  replace h := h y78_
  obtain ⟨Q9, h0, h⟩ := h
  refine ⟨_, hb_put2 y76_ h0, ?_⟩
  intro S53 q79_ y80_ y81_
  replace h := h S53 q79_.1 y80_ y81_
  replace f := f.tr (q79_.2.mo (by decide))
  intro y82_
  replace h := h y82_
  obtain ⟨Q9, h0, h⟩ := h
  refine ⟨_, hb_put2 y80_ h0, ?_⟩
  intro S57 q83_ y84_ y85_
  replace h := h S57 q83_.1 y84_ y85_
  replace f := f.tr (q83_.2.mo (by decide))
  refine ⟨h.1, ?_⟩
  replace h := h.2
  intro a63 ea63 
  replace h := h a63 ea63 
  intro y86_
  replace h := h y86_
  obtain ⟨Q9, h0, h⟩ := h
  refine ⟨_, hb_put2 y84_ h0, ?_⟩
  intro S65 q87_ y88_ y89_
  replace h := h S65 q87_.1 y88_ y89_
  replace f := f.tr (q87_.2.mo (by decide))
  obtain ⟨n9, h⟩ := h
  exact ⟨n9, hb_X11_begin_L155 n9 f h⟩
set_option maxRecDepth 100000 in
theorem hbX11_classOf {S : MS} {x1 : Int32} {Q : Int32 → MS → Prop} (hw : wfC S) (h : wX11_classOf S x1 Q) : wX11_classOf S x1 (fun r u => Q r u ∧ hB [26, 28, 30] S u) := by
  have f : hB [26, 28, 30] S S := hB.rf
  unfold wX11_classOf at h ⊢
  refine ⟨fun c => ?_, fun c => ?_⟩
  · replace h := h.1 c
    exact ⟨h, f⟩
  · replace h := h.2 c
    refine ⟨h.1, ?_⟩
    replace h := h.2
    intro y1_
    replace h := h y1_
    obtain ⟨Q9, h0, h⟩ := h
    refine ⟨_, hbX11_textEntry hw h0, ?_⟩
    intro r6 S7 q2_ y3_ y4_
    replace h := h r6 S7 q2_.1 y3_ y4_
    replace f := f.tr q2_.2
    obtain ⟨Q9, h0, h⟩ := h
    refine ⟨_, hbX11_pointerEntry y3_ h0, ?_⟩
    intro r11 S12 q5_ y6_ y7_
    replace h := h r11 S12 q5_.1 y6_ y7_
    replace f := f.tr q5_.2
    exact ⟨h, f⟩
set_option maxRecDepth 100000 in
theorem hbX11_pointersEntry {S : MS} {x1 : Int32} {x2 : Int32} {x3 : Int32} {Q : Int32 → MS → Prop} (hw : wfC S) (h : wX11_pointersEntry S x1 x2 x3 Q) : wX11_pointersEntry S x1 x2 x3 (fun r u => Q r u ∧ hB [26, 28, 30] S u) := by
  have f : hB [26, 28, 30] S S := hB.rf
  unfold wX11_pointersEntry at h ⊢
  obtain ⟨Q9, h0, h⟩ := h
  refine ⟨_, hbX11_want hw h0, ?_⟩
  intro S2 q1_ y2_ y3_
  replace h := h S2 q1_.1 y2_ y3_
  replace f := f.tr q1_.2
  intro y4_
  replace h := h y4_
  obtain ⟨Q9, h0, h⟩ := h
  refine ⟨_, hb_put2 y2_ h0, ?_⟩
  intro S6 q5_ y6_ y7_
  replace h := h S6 q5_.1 y6_ y7_
  replace f := f.tr (q5_.2.mo (by decide))
  intro y8_
  replace h := h y8_
  obtain ⟨Q9, h0, h⟩ := h
  refine ⟨_, hb_put2 y6_ h0, ?_⟩
  intro S10 q9_ y10_ y11_
  replace h := h S10 q9_.1 y10_ y11_
  replace f := f.tr (q9_.2.mo (by decide))
  obtain ⟨Q9, h0, h⟩ := h
  refine ⟨_, hbX11_entryOfWanted y10_ h0, ?_⟩
  intro r14 S15 q12_ y13_ y14_
  replace h := h r14 S15 q12_.1 y13_ y14_
  replace f := f.tr q12_.2
  exact ⟨h, f⟩
set_option maxRecDepth 100000 in
theorem hb_X11_fieldEntryOf_J60 {S0 : MS} {Q : Int32 → MS → Prop} {U60 : MS} {v60_1 : Int32} (f : hB [26, 28, 30] S0 U60) (h : w_X11_fieldEntryOf_J60 Q U60 v60_1) : w_X11_fieldEntryOf_J60 (fun r u => Q r u ∧ hB [26, 28, 30] S0 u) U60 v60_1 := by
  unfold w_X11_fieldEntryOf_J60 at h ⊢
  intro y1_
  replace h := h y1_
  refine ⟨h.1, ?_⟩
  replace h := h.2
  exact ⟨h, f⟩
set_option maxRecDepth 100000 in
theorem hbX11_fieldEntryOf {S : MS} {x1 : Int32} {Q : Int32 → MS → Prop} (hw : wfC S) (h : wX11_fieldEntryOf S x1 Q) : wX11_fieldEntryOf S x1 (fun r u => Q r u ∧ hB [26, 28, 30] S u) := by
  have f : hB [26, 28, 30] S S := hB.rf
  unfold wX11_fieldEntryOf at h ⊢
  refine ⟨fun c => ?_, fun c => ?_⟩
  · replace h := h.1 c
    exact ⟨h, f⟩
  · replace h := h.2 c
    refine ⟨fun c => ?_, fun c => ?_⟩
    · replace h := h.1 c
      refine ⟨h.1, ?_⟩
      replace h := h.2
      refine ⟨fun c => ?_, fun c => ?_⟩
      · replace h := h.1 c
        refine ⟨h.1, ?_⟩
        replace h := h.2
        refine ⟨h.1, ?_⟩
        replace h := h.2
        obtain ⟨Q9, h0, h⟩ := h
        refine ⟨_, hbX11_pointersEntry hw h0, ?_⟩
        intro r13 S14 q2_ y3_ y4_
        replace h := h r13 S14 q2_.1 y3_ y4_
        replace f := f.tr q2_.2
        obtain ⟨Q9, h0, h⟩ := h
        refine ⟨_, hbX11_pointersEntry y3_ h0, ?_⟩
        intro r18 S19 q5_ y6_ y7_
        replace h := h r18 S19 q5_.1 y6_ y7_
        replace f := f.tr q5_.2
        refine ⟨h.1, ?_⟩
        replace h := h.2
        intro S23 eS23 y8_ y9_
        replace h := h S23 eS23 y8_ y9_
        replace f := f.tr (show hB [26, 28, 30] S19 S23 by rw [eS23]; exact hB.of (K := [242]) (F := []) (cfr.aI y8_ (by decide)) rfl (fun _ => rfl))
        exact hb_X11_fieldEntryOf_J60 f h
      · replace h := h.2 c
        exact hb_X11_fieldEntryOf_J60 f h
    · replace h := h.2 c
      exact ⟨h, f⟩
set_option maxRecDepth 100000 in
theorem hbX11_intEntry {S : MS} {x1 : Int32} {Q : Int32 → MS → Prop} (hw : wfC S) (h : wX11_intEntry S x1 Q) : wX11_intEntry S x1 (fun r u => Q r u ∧ hB [26, 28, 30] S u) := by
  have f : hB [26, 28, 30] S S := hB.rf
  unfold wX11_intEntry at h ⊢
  obtain ⟨Q9, h0, h⟩ := h
  refine ⟨_, hbX11_want hw h0, ?_⟩
  intro S2 q1_ y2_ y3_
  replace h := h S2 q1_.1 y2_ y3_
  replace f := f.tr q1_.2
  intro y4_
  replace h := h y4_
  obtain ⟨Q9, h0, h⟩ := h
  refine ⟨_, hb_put4 y2_ h0, ?_⟩
  intro S6 q5_ y6_ y7_
  replace h := h S6 q5_.1 y6_ y7_
  replace f := f.tr (q5_.2.mo (by decide))
  obtain ⟨Q9, h0, h⟩ := h
  refine ⟨_, hbX11_entryOfWanted y6_ h0, ?_⟩
  intro r10 S11 q8_ y9_ y10_
  replace h := h r10 S11 q8_.1 y9_ y10_
  replace f := f.tr q8_.2
  exact ⟨h, f⟩
set_option maxRecDepth 100000 in
theorem hbX11_longEntry {S : MS} {y1 : Int64} {Q : Int32 → MS → Prop} (hw : wfC S) (h : wX11_longEntry S y1 Q) : wX11_longEntry S y1 (fun r u => Q r u ∧ hB [26, 28, 30] S u) := by
  have f : hB [26, 28, 30] S S := hB.rf
  unfold wX11_longEntry at h ⊢
  obtain ⟨Q9, h0, h⟩ := h
  refine ⟨_, hbX11_want hw h0, ?_⟩
  intro S2 q1_ y2_ y3_
  replace h := h S2 q1_.1 y2_ y3_
  replace f := f.tr q1_.2
  intro y4_
  replace h := h y4_
  obtain ⟨Q9, h0, h⟩ := h
  refine ⟨_, hb_put4 y2_ h0, ?_⟩
  intro S6 q5_ y6_ y7_
  replace h := h S6 q5_.1 y6_ y7_
  replace f := f.tr (q5_.2.mo (by decide))
  intro y8_
  replace h := h y8_
  obtain ⟨Q9, h0, h⟩ := h
  refine ⟨_, hb_put4 y6_ h0, ?_⟩
  intro S10 q9_ y10_ y11_
  replace h := h S10 q9_.1 y10_ y11_
  replace f := f.tr (q9_.2.mo (by decide))
  obtain ⟨Q9, h0, h⟩ := h
  refine ⟨_, hbX11_entryOfWanted y10_ h0, ?_⟩
  intro r14 S15 q12_ y13_ y14_
  replace h := h r14 S15 q12_.1 y13_ y14_
  replace f := f.tr q12_.2
  exact ⟨h, f⟩
set_option maxRecDepth 100000 in
theorem hb_X11_methodEntryOf_J88 {S0 : MS} {Q : Int32 → MS → Prop} {U88 : MS} {v88_1 : Int32} (f : hB [26, 28, 30] S0 U88) (h : w_X11_methodEntryOf_J88 Q U88 v88_1) : w_X11_methodEntryOf_J88 (fun r u => Q r u ∧ hB [26, 28, 30] S0 u) U88 v88_1 := by
  unfold w_X11_methodEntryOf_J88 at h ⊢
  intro y1_
  replace h := h y1_
  refine ⟨h.1, ?_⟩
  replace h := h.2
  exact ⟨h, f⟩
set_option maxRecDepth 100000 in
theorem hbX11_methodEntryOf {S : MS} {x1 : Int32} {Q : Int32 → MS → Prop} (hw : wfC S) (h : wX11_methodEntryOf S x1 Q) : wX11_methodEntryOf S x1 (fun r u => Q r u ∧ hB [26, 28, 30] S u) := by
  have f : hB [26, 28, 30] S S := hB.rf
  unfold wX11_methodEntryOf at h ⊢
  refine ⟨fun c => ?_, fun c => ?_⟩
  · replace h := h.1 c
    exact ⟨h, f⟩
  · replace h := h.2 c
    refine ⟨fun c => ?_, fun c => ?_⟩
    · replace h := h.1 c
      exact ⟨h, f⟩
    · replace h := h.2 c
      refine ⟨h.1, ?_⟩
      replace h := h.2
      refine ⟨h.1, ?_⟩
      replace h := h.2
      refine ⟨fun c => ?_, fun c => ?_⟩
      · replace h := h.1 c
        refine ⟨h.1, ?_⟩
        replace h := h.2
        refine ⟨fun c => ?_, fun c => ?_⟩
        · replace h := h.1 c
          refine ⟨h.1, ?_⟩
          replace h := h.2
          refine ⟨h.1, ?_⟩
          replace h := h.2
          refine ⟨h.1, ?_⟩
          replace h := h.2
          obtain ⟨Q9, h0, h⟩ := h
          refine ⟨_, hbX11_nameEntry hw h0, ?_⟩
          intro r21 S22 q2_ y3_ y4_
          replace h := h r21 S22 q2_.1 y3_ y4_
          replace f := f.tr q2_.2
          refine ⟨h.1, ?_⟩
          replace h := h.2
          refine ⟨h.1, ?_⟩
          replace h := h.2
          refine ⟨h.1, ?_⟩
          replace h := h.2
          obtain ⟨Q9, h0, h⟩ := h
          refine ⟨_, hbX11_nameEntry y3_ h0, ?_⟩
          intro r32 S33 q5_ y6_ y7_
          replace h := h r32 S33 q5_.1 y6_ y7_
          replace f := f.tr q5_.2
          obtain ⟨Q9, h0, h⟩ := h
          refine ⟨_, hbX11_pointersEntry y6_ h0, ?_⟩
          intro r37 S38 q8_ y9_ y10_
          replace h := h r37 S38 q8_.1 y9_ y10_
          replace f := f.tr q8_.2
          obtain ⟨Q9, h0, h⟩ := h
          refine ⟨_, hbX11_pointersEntry y9_ h0, ?_⟩
          intro r42 S43 q11_ y12_ y13_
          replace h := h r42 S43 q11_.1 y12_ y13_
          replace f := f.tr q11_.2
          refine ⟨h.1, ?_⟩
          replace h := h.2
          intro S47 eS47 y14_ y15_
          replace h := h S47 eS47 y14_ y15_
          replace f := f.tr (show hB [26, 28, 30] S43 S47 by rw [eS47]; exact hB.of (K := [243]) (F := []) (cfr.aI y14_ (by decide)) rfl (fun _ => rfl))
          exact hb_X11_methodEntryOf_J88 f h
        · replace h := h.2 c
          exact hb_X11_methodEntryOf_J88 f h
      · replace h := h.2 c
        exact ⟨h, f⟩
set_option maxRecDepth 100000 in
theorem hb_X11_needOf_J110 {S0 : MS} {Q : Int32 → MS → Prop} {U110 : MS} {v110_2 : Int64} (f : hB [26, 28, 30] S0 U110) (h : w_X11_needOf_J110 Q U110 v110_2) : w_X11_needOf_J110 (fun r u => Q r u ∧ hB [26, 28, 30] S0 u) U110 v110_2 := by
  unfold w_X11_needOf_J110 at h ⊢
  intro y1_
  replace h := h y1_
  obtain ⟨Q9, h0, h⟩ := h
  refine ⟨_, hbX11_fieldEntryOf y1_ h0, ?_⟩
  intro r13 S14 q2_ y3_ y4_
  replace h := h r13 S14 q2_.1 y3_ y4_
  replace f := f.tr q2_.2
  exact ⟨h, f⟩
set_option maxRecDepth 100000 in
theorem hb_X11_needOf_J100 {S0 : MS} {Q : Int32 → MS → Prop} {U100 : MS} (f : hB [26, 28, 30] S0 U100) (h : w_X11_needOf_J100 Q U100) : w_X11_needOf_J100 (fun r u => Q r u ∧ hB [26, 28, 30] S0 u) U100 := by
  unfold w_X11_needOf_J100 at h ⊢
  intro y5_
  replace h := h y5_
  exact ⟨h, f⟩
set_option maxRecDepth 100000 in
theorem hbX11_needOf {S : MS} {x1 : Int32} {Q : Int32 → MS → Prop} (hw : wfC S) (h : wX11_needOf S x1 Q) : wX11_needOf S x1 (fun r u => Q r u ∧ hB [26, 28, 30] S u) := by
  have f : hB [26, 28, 30] S S := hB.rf
  unfold wX11_needOf at h ⊢
  refine ⟨h.1, ?_⟩
  replace h := h.2
  refine ⟨h.1, ?_⟩
  replace h := h.2
  intro a6 ea6 
  replace h := h a6 ea6 
  refine ⟨h.1, ?_⟩
  replace h := h.2
  refine ⟨h.1, ?_⟩
  replace h := h.2
  refine ⟨fun c => ?_, fun c => ?_⟩
  · replace h := h.1 c
    refine ⟨fun c => ?_, fun c => ?_⟩
    · replace h := h.1 c
      exact ⟨h, f⟩
    · replace h := h.2 c
      obtain ⟨Q9, h0, h⟩ := h
      refine ⟨_, hbX11_intEntry hw h0, ?_⟩
      intro r20 S21 q6_ y7_ y8_
      replace h := h r20 S21 q6_.1 y7_ y8_
      replace f := f.tr q6_.2
      exact ⟨h, f⟩
  · replace h := h.2 c
    refine ⟨fun c => ?_, fun c => ?_⟩
    · replace h := h.1 c
      refine ⟨fun c => ?_, fun c => ?_⟩
      · replace h := h.1 c
        exact hb_X11_needOf_J100 f h
      · replace h := h.2 c
        refine ⟨fun c => ?_, fun c => ?_⟩
        · replace h := h.1 c
          exact hb_X11_needOf_J100 f h
        · replace h := h.2 c
          obtain ⟨Q9, h0, h⟩ := h
          refine ⟨_, hbX11_longEntry hw h0, ?_⟩
          intro r29 S30 q9_ y10_ y11_
          replace h := h r29 S30 q9_.1 y10_ y11_
          replace f := f.tr q9_.2
          exact ⟨h, f⟩
    · replace h := h.2 c
      refine ⟨fun c => ?_, fun c => ?_⟩
      · replace h := h.1 c
        exact hb_X11_needOf_J110 f h
      · replace h := h.2 c
        refine ⟨fun c => ?_, fun c => ?_⟩
        · replace h := h.1 c
          exact hb_X11_needOf_J110 f h
        · replace h := h.2 c
          refine ⟨fun c => ?_, fun c => ?_⟩
          · replace h := h.1 c
            obtain ⟨Q9, h0, h⟩ := h
            refine ⟨_, hbX11_methodEntryOf hw h0, ?_⟩
            intro r34 S35 q12_ y13_ y14_
            replace h := h r34 S35 q12_.1 y13_ y14_
            replace f := f.tr q12_.2
            exact ⟨h, f⟩
          · replace h := h.2 c
            exact ⟨h, f⟩
set_option maxRecDepth 100000 in
theorem hb_X11_layOut_L53 {S0 : MS} {Q : Int32 → MS → Prop} : ∀ (n : Nat) {U53 : MS} {v53_1 : Int32} {v53_2 : Int32}, hB [26, 28, 30] S0 U53 → w_X11_layOut_L53 Q n U53 v53_1 v53_2 → w_X11_layOut_L53 (fun r u => Q r u ∧ hB [26, 28, 30] S0 u) n U53 v53_1 v53_2 := by
  intro n
  induction n with
  | zero => intro U53 v53_1 v53_2 f h; unfold w_X11_layOut_L53 at h; exact h.elim
  | succ n ih =>
    intro U53 v53_1 v53_2 f h
    unfold w_X11_layOut_L53 at h ⊢
    intro y1_
    replace h := h y1_
    refine ⟨h.1, ?_⟩
    replace h := h.2
    refine ⟨fun c => ?_, fun c => ?_⟩
    · replace h := h.1 c
      refine ⟨h.1, ?_⟩
      replace h := h.2
      refine ⟨h.1, ?_⟩
      replace h := h.2
      intro S12 eS12 y2_ y3_
      replace h := h S12 eS12 y2_ y3_
      replace f := f.tr (show hB [26, 28, 30] U53 S12 by rw [eS12]; exact hB.of (K := [245]) (F := []) (cfr.aI y2_ (by decide)) rfl (fun _ => rfl))
      exact ⟨h, f⟩
    · replace h := h.2 c
      refine ⟨h.1, ?_⟩
      replace h := h.2
      intro S15 eS15 y4_ y5_
      replace h := h S15 eS15 y4_ y5_
      replace f := f.tr (show hB [26, 28, 30] U53 S15 by rw [eS15]; exact hB.of (K := [245]) (F := []) (cfr.aI y4_ (by decide)) rfl (fun _ => rfl))
      obtain ⟨Q9, h0, h⟩ := h
      refine ⟨_, hbX11_needOf y5_ h0, ?_⟩
      intro r18 S19 q6_ y7_ y8_
      replace h := h r18 S19 q6_.1 y7_ y8_
      replace f := f.tr q6_.2
      refine ⟨h.1, ?_⟩
      replace h := h.2
      intro S23 eS23 y9_ y10_
      replace h := h S23 eS23 y9_ y10_
      replace f := f.tr (show hB [26, 28, 30] S19 S23 by rw [eS23]; exact hB.of (K := [244]) (F := []) (cfr.aI y9_ (by decide)) rfl (fun _ => rfl))
      refine ⟨h.1, ?_⟩
      replace h := h.2
      intro a28 ea28 
      replace h := h a28 ea28 
      intro a29 ea29 
      replace h := h a29 ea29 
      exact ih f h
set_option maxRecDepth 100000 in
theorem hb_X11_layOut_J49 {S0 : MS} {Q : Int32 → MS → Prop} {U49 : MS} (f : hB [26, 28, 30] S0 U49) (h : w_X11_layOut_J49 Q U49) : w_X11_layOut_J49 (fun r u => Q r u ∧ hB [26, 28, 30] S0 u) U49 := by
  unfold w_X11_layOut_J49 at h ⊢
  intro y11_
  replace h := h y11_
  obtain ⟨n9, h⟩ := h
  exact ⟨n9, hb_X11_layOut_L53 n9 f h⟩
set_option maxRecDepth 100000 in
theorem hbX11_layOut {S : MS} {Q : Int32 → MS → Prop} (hw : wfC S) (h : wX11_layOut S Q) : wX11_layOut S (fun r u => Q r u ∧ hB [26, 28, 30] S u) := by
  have f : hB [26, 28, 30] S S := hB.rf
  unfold wX11_layOut at h ⊢
  refine ⟨h.1, ?_⟩
  replace h := h.2
  refine ⟨fun c => ?_, fun c => ?_⟩
  · replace h := h.1 c
    exact hb_X11_layOut_J49 f h
  · replace h := h.2 c
    refine ⟨h.1, ?_⟩
    replace h := h.2
    refine ⟨h.1, ?_⟩
    replace h := h.2
    intro S38 eS38 y12_
    replace h := h S38 eS38 y12_
    replace f := f.tr (show hB [26, 28, 30] S S38 by rw [eS38]; exact hB.of (K := []) (F := []) (cfr.new hw (eS38 ▸ y12_)) rfl (fun _ => rfl))
    intro S40 eS40 y13_ y14_
    replace h := h S40 eS40 y13_ y14_
    replace f := f.tr (show hB [26, 28, 30] S38 S40 by rw [eS40]; exact hB.of (K := []) (F := [(50, 17)]) (cfr.oR y13_ (by decide)) rfl (fun _ => rfl))
    refine ⟨h.1, ?_⟩
    replace h := h.2
    refine ⟨h.1, ?_⟩
    replace h := h.2
    intro S48 eS48 y15_
    replace h := h S48 eS48 y15_
    replace f := f.tr (show hB [26, 28, 30] S40 S48 by rw [eS48]; exact hB.of (K := []) (F := []) (cfr.new y14_ (eS48 ▸ y15_)) rfl (fun _ => rfl))
    intro S50 eS50 y16_ y17_
    replace h := h S50 eS50 y16_ y17_
    replace f := f.tr (show hB [26, 28, 30] S48 S50 by rw [eS50]; exact hB.of (K := []) (F := [(50, 16)]) (cfr.oR y16_ (by decide)) rfl (fun _ => rfl))
    exact hb_X11_layOut_J49 f h
set_option maxRecDepth 100000 in
theorem hbX11_putGrow {S : MS} {x1 : Int32} {x2 : Int32} {Q : MS → Prop} (hw : wfC S) (h : wX11_putGrow S x1 x2 Q) : wX11_putGrow S x1 x2 (fun u => Q u ∧ hB [26, 28, 30] S u) := by
  have f : hB [26, 28, 30] S S := hB.rf
  unfold wX11_putGrow at h ⊢
  refine ⟨h.1, ?_⟩
  replace h := h.2
  refine ⟨fun c => ?_, fun c => ?_⟩
  · replace h := h.1 c
    intro y1_
    replace h := h y1_
    obtain ⟨Q9, h0, h⟩ := h
    refine ⟨_, hb_put hw h0, ?_⟩
    intro S6 q2_ y3_ y4_
    replace h := h S6 q2_.1 y3_ y4_
    replace f := f.tr (q2_.2.mo (by decide))
    intro y5_
    replace h := h y5_
    obtain ⟨Q9, h0, h⟩ := h
    refine ⟨_, hb_put y3_ h0, ?_⟩
    intro S10 q6_ y7_ y8_
    replace h := h S10 q6_.1 y7_ y8_
    replace f := f.tr (q6_.2.mo (by decide))
    intro y9_
    replace h := h y9_
    obtain ⟨Q9, h0, h⟩ := h
    refine ⟨_, hb_put2 y7_ h0, ?_⟩
    intro S14 q10_ y11_ y12_
    replace h := h S14 q10_.1 y11_ y12_
    replace f := f.tr (q10_.2.mo (by decide))
    intro y13_
    replace h := h y13_
    obtain ⟨Q9, h0, h⟩ := h
    refine ⟨_, hb_put2 y11_ h0, ?_⟩
    intro S18 q14_ y15_ y16_
    replace h := h S18 q14_.1 y15_ y16_
    replace f := f.tr (q14_.2.mo (by decide))
    exact ⟨h, f⟩
  · replace h := h.2 c
    intro y17_
    replace h := h y17_
    obtain ⟨Q9, h0, h⟩ := h
    refine ⟨_, hb_put hw h0, ?_⟩
    intro S22 q18_ y19_ y20_
    replace h := h S22 q18_.1 y19_ y20_
    replace f := f.tr (q18_.2.mo (by decide))
    intro y21_
    replace h := h y21_
    obtain ⟨Q9, h0, h⟩ := h
    refine ⟨_, hb_put y19_ h0, ?_⟩
    intro S26 q22_ y23_ y24_
    replace h := h S26 q22_.1 y23_ y24_
    replace f := f.tr (q22_.2.mo (by decide))
    intro y25_
    replace h := h y25_
    obtain ⟨Q9, h0, h⟩ := h
    refine ⟨_, hb_put y23_ h0, ?_⟩
    intro S30 q26_ y27_ y28_
    replace h := h S30 q26_.1 y27_ y28_
    replace f := f.tr (q26_.2.mo (by decide))
    exact ⟨h, f⟩
set_option maxRecDepth 100000 in
theorem hb_X11_putInt_J23 {S0 : MS} {Q : MS → Prop} {U23 : MS} {v23_1 : Int32} {v23_2 : Int32} (f : hB [26, 28, 30] S0 U23) (h : w_X11_putInt_J23 Q U23 v23_1 v23_2) : w_X11_putInt_J23 (fun u => Q u ∧ hB [26, 28, 30] S0 u) U23 v23_1 v23_2 := by
  unfold w_X11_putInt_J23 at h ⊢
  intro y1_
  replace h := h y1_
  refine ⟨h.1, ?_⟩
  replace h := h.2
  refine ⟨fun c => ?_, fun c => ?_⟩
  · replace h := h.1 c
    refine ⟨fun c => ?_, fun c => ?_⟩
    · replace h := h.1 c
      intro y2_
      replace h := h y2_
      obtain ⟨Q9, h0, h⟩ := h
      refine ⟨_, hb_put y1_ h0, ?_⟩
      intro S24 q3_ y4_ y5_
      replace h := h S24 q3_.1 y4_ y5_
      replace f := f.tr (q3_.2.mo (by decide))
      intro y6_
      replace h := h y6_
      obtain ⟨Q9, h0, h⟩ := h
      refine ⟨_, hb_put2 y4_ h0, ?_⟩
      intro S28 q7_ y8_ y9_
      replace h := h S28 q7_.1 y8_ y9_
      replace f := f.tr (q7_.2.mo (by decide))
      exact ⟨h, f⟩
    · replace h := h.2 c
      refine ⟨fun c => ?_, fun c => ?_⟩
      · replace h := h.1 c
        intro y10_
        replace h := h y10_
        obtain ⟨Q9, h0, h⟩ := h
        refine ⟨_, hb_put y1_ h0, ?_⟩
        intro S8 q11_ y12_ y13_
        replace h := h S8 q11_.1 y12_ y13_
        replace f := f.tr (q11_.2.mo (by decide))
        intro y14_
        replace h := h y14_
        obtain ⟨Q9, h0, h⟩ := h
        refine ⟨_, hb_put2 y12_ h0, ?_⟩
        intro S12 q15_ y16_ y17_
        replace h := h S12 q15_.1 y16_ y17_
        replace f := f.tr (q15_.2.mo (by decide))
        exact ⟨h, f⟩
      · replace h := h.2 c
        intro y18_
        replace h := h y18_
        obtain ⟨Q9, h0, h⟩ := h
        refine ⟨_, hb_put y1_ h0, ?_⟩
        intro S16 q19_ y20_ y21_
        replace h := h S16 q19_.1 y20_ y21_
        replace f := f.tr (q19_.2.mo (by decide))
        intro y22_
        replace h := h y22_
        obtain ⟨Q9, h0, h⟩ := h
        refine ⟨_, hb_put y20_ h0, ?_⟩
        intro S20 q23_ y24_ y25_
        replace h := h S20 q23_.1 y24_ y25_
        replace f := f.tr (q23_.2.mo (by decide))
        exact ⟨h, f⟩
  · replace h := h.2 c
    intro y26_
    replace h := h y26_
    obtain ⟨Q9, h0, h⟩ := h
    refine ⟨_, hb_put y1_ h0, ?_⟩
    intro S32 q27_ y28_ y29_
    replace h := h S32 q27_.1 y28_ y29_
    replace f := f.tr (q27_.2.mo (by decide))
    intro y30_
    replace h := h y30_
    obtain ⟨Q9, h0, h⟩ := h
    refine ⟨_, hb_put y28_ h0, ?_⟩
    intro S36 q31_ y32_ y33_
    replace h := h S36 q31_.1 y32_ y33_
    replace f := f.tr (q31_.2.mo (by decide))
    exact ⟨h, f⟩
set_option maxRecDepth 100000 in
theorem hbX11_putInt {S : MS} {x1 : Int32} {x2 : Int32} {Q : MS → Prop} (hw : wfC S) (h : wX11_putInt S x1 x2 Q) : wX11_putInt S x1 x2 (fun u => Q u ∧ hB [26, 28, 30] S u) := by
  have f : hB [26, 28, 30] S S := hB.rf
  unfold wX11_putInt at h ⊢
  refine ⟨fun c => ?_, fun c => ?_⟩
  · replace h := h.1 c
    exact hb_X11_putInt_J23 f h
  · replace h := h.2 c
    refine ⟨fun c => ?_, fun c => ?_⟩
    · replace h := h.1 c
      exact hb_X11_putInt_J23 f h
    · replace h := h.2 c
      intro y34_
      replace h := h y34_
      obtain ⟨Q9, h0, h⟩ := h
      refine ⟨_, hb_put hw h0, ?_⟩
      intro S43 q35_ y36_ y37_
      replace h := h S43 q35_.1 y36_ y37_
      replace f := f.tr (q35_.2.mo (by decide))
      exact ⟨h, f⟩
set_option maxRecDepth 100000 in
theorem hbX11_putLocal {S : MS} {x1 : Int32} {x2 : Int32} {Q : MS → Prop} (hw : wfC S) (h : wX11_putLocal S x1 x2 Q) : wX11_putLocal S x1 x2 (fun u => Q u ∧ hB [26, 28, 30] S u) := by
  have f : hB [26, 28, 30] S S := hB.rf
  unfold wX11_putLocal at h ⊢
  refine ⟨fun c => ?_, fun c => ?_⟩
  · replace h := h.1 c
    refine ⟨fun c => ?_, fun c => ?_⟩
    · replace h := h.1 c
      intro y1_
      replace h := h y1_
      obtain ⟨Q9, h0, h⟩ := h
      refine ⟨_, hb_put hw h0, ?_⟩
      intro S4 q2_ y3_ y4_
      replace h := h S4 q2_.1 y3_ y4_
      replace f := f.tr (q2_.2.mo (by decide))
      exact ⟨h, f⟩
    · replace h := h.2 c
      refine ⟨fun c => ?_, fun c => ?_⟩
      · replace h := h.1 c
        intro y5_
        replace h := h y5_
        obtain ⟨Q9, h0, h⟩ := h
        refine ⟨_, hb_put hw h0, ?_⟩
        intro S9 q6_ y7_ y8_
        replace h := h S9 q6_.1 y7_ y8_
        replace f := f.tr (q6_.2.mo (by decide))
        exact ⟨h, f⟩
      · replace h := h.2 c
        refine ⟨fun c => ?_, fun c => ?_⟩
        · replace h := h.1 c
          intro y9_
          replace h := h y9_
          obtain ⟨Q9, h0, h⟩ := h
          refine ⟨_, hb_put hw h0, ?_⟩
          intro S14 q10_ y11_ y12_
          replace h := h S14 q10_.1 y11_ y12_
          replace f := f.tr (q10_.2.mo (by decide))
          exact ⟨h, f⟩
        · replace h := h.2 c
          refine ⟨fun c => ?_, fun c => ?_⟩
          · replace h := h.1 c
            intro y13_
            replace h := h y13_
            obtain ⟨Q9, h0, h⟩ := h
            refine ⟨_, hb_put hw h0, ?_⟩
            intro S19 q14_ y15_ y16_
            replace h := h S19 q14_.1 y15_ y16_
            replace f := f.tr (q14_.2.mo (by decide))
            exact ⟨h, f⟩
          · replace h := h.2 c
            refine ⟨fun c => ?_, fun c => ?_⟩
            · replace h := h.1 c
              intro y17_
              replace h := h y17_
              obtain ⟨Q9, h0, h⟩ := h
              refine ⟨_, hb_put hw h0, ?_⟩
              intro S24 q18_ y19_ y20_
              replace h := h S24 q18_.1 y19_ y20_
              replace f := f.tr (q18_.2.mo (by decide))
              exact ⟨h, f⟩
            · replace h := h.2 c
              intro y21_
              replace h := h y21_
              obtain ⟨Q9, h0, h⟩ := h
              refine ⟨_, hb_put hw h0, ?_⟩
              intro S29 q22_ y23_ y24_
              replace h := h S29 q22_.1 y23_ y24_
              replace f := f.tr (q22_.2.mo (by decide))
              exact ⟨h, f⟩
  · replace h := h.2 c
    intro y25_
    replace h := h y25_
    obtain ⟨Q9, h0, h⟩ := h
    refine ⟨_, hb_put hw h0, ?_⟩
    intro S33 q26_ y27_ y28_
    replace h := h S33 q26_.1 y27_ y28_
    replace f := f.tr (q26_.2.mo (by decide))
    intro y29_
    replace h := h y29_
    obtain ⟨Q9, h0, h⟩ := h
    refine ⟨_, hb_put y27_ h0, ?_⟩
    intro S37 q30_ y31_ y32_
    replace h := h S37 q30_.1 y31_ y32_
    replace f := f.tr (q30_.2.mo (by decide))
    exact ⟨h, f⟩
set_option maxRecDepth 100000 in
theorem hb_X11_putLong_J12 {S0 : MS} {Q : MS → Prop} {U12 : MS} {v12_1 : Int64} (f : hB [26, 28, 30] S0 U12) (h : w_X11_putLong_J12 Q U12 v12_1) : w_X11_putLong_J12 (fun u => Q u ∧ hB [26, 28, 30] S0 u) U12 v12_1 := by
  unfold w_X11_putLong_J12 at h ⊢
  intro y1_
  replace h := h y1_
  intro y2_
  replace h := h y2_
  obtain ⟨Q9, h0, h⟩ := h
  refine ⟨_, hb_put y1_ h0, ?_⟩
  intro S4 q3_ y4_ y5_
  replace h := h S4 q3_.1 y4_ y5_
  replace f := f.tr (q3_.2.mo (by decide))
  exact ⟨h, f⟩
set_option maxRecDepth 100000 in
theorem hbX11_putLong {S : MS} {y1 : Int64} {x3 : Int32} {Q : MS → Prop} (hw : wfC S) (h : wX11_putLong S y1 x3 Q) : wX11_putLong S y1 x3 (fun u => Q u ∧ hB [26, 28, 30] S u) := by
  have f : hB [26, 28, 30] S S := hB.rf
  unfold wX11_putLong at h ⊢
  refine ⟨fun c => ?_, fun c => ?_⟩
  · replace h := h.1 c
    exact hb_X11_putLong_J12 f h
  · replace h := h.2 c
    refine ⟨fun c => ?_, fun c => ?_⟩
    · replace h := h.1 c
      exact hb_X11_putLong_J12 f h
    · replace h := h.2 c
      intro y6_
      replace h := h y6_
      obtain ⟨Q9, h0, h⟩ := h
      refine ⟨_, hb_put hw h0, ?_⟩
      intro S11 q7_ y8_ y9_
      replace h := h S11 q7_.1 y8_ y9_
      replace f := f.tr (q7_.2.mo (by decide))
      intro y10_
      replace h := h y10_
      obtain ⟨Q9, h0, h⟩ := h
      refine ⟨_, hb_put2 y8_ h0, ?_⟩
      intro S15 q11_ y12_ y13_
      replace h := h S15 q11_.1 y12_ y13_
      replace f := f.tr (q11_.2.mo (by decide))
      exact ⟨h, f⟩
set_option maxRecDepth 100000 in
theorem hb_X11_putSwitch_J215 {S0 : MS} {Q : MS → Prop} {k180 k180' : MS → Int32 → Int32 → Int32 → Int32 → Int32 → Prop} {U215 : MS} {v215_1 : Int32} {v215_3 : Int32} {v215_4 : Int32} {v215_5 : Int32} {v215_6 : Int32} (hk180 : ∀ (u : MS) (z0) (z1) (z2) (z3) (z4), hB [26, 28, 30] S0 u → k180 u z0 z1 z2 z3 z4 → k180' u z0 z1 z2 z3 z4) (f : hB [26, 28, 30] S0 U215) (h : w_X11_putSwitch_J215 Q k180 U215 v215_1 v215_3 v215_4 v215_5 v215_6) : w_X11_putSwitch_J215 (fun u => Q u ∧ hB [26, 28, 30] S0 u) k180' U215 v215_1 v215_3 v215_4 v215_5 v215_6 := by
  unfold w_X11_putSwitch_J215 at h ⊢
  intro y1_ y2_
  replace h := h y1_ y2_
  refine ⟨h.1, ?_⟩
  replace h := h.2
  refine ⟨h.1, ?_⟩
  replace h := h.2
  intro a57 ea57 
  replace h := h a57 ea57 
  refine ⟨h.1, ?_⟩
  replace h := h.2
  intro a61 ea61 
  replace h := h a61 ea61 
  refine ⟨h.1, ?_⟩
  replace h := h.2
  intro a65 ea65 
  replace h := h a65 ea65 
  intro y3_
  replace h := h y3_
  obtain ⟨Q9, h0, h⟩ := h
  refine ⟨_, hb_put4 y1_ h0, ?_⟩
  intro S68 q4_ y5_ y6_
  replace h := h S68 q4_.1 y5_ y6_
  replace f := f.tr (q4_.2.mo (by decide))
  intro a71 ea71 
  replace h := h a71 ea71 
  exact hk180 _ _ _ _ _ _ f h
set_option maxRecDepth 100000 in
theorem hb_X11_putSwitch_L180 {S0 : MS} {Q : MS → Prop} : ∀ (n : Nat) {U180 : MS} {v180_1 : Int32} {v180_3 : Int32} {v180_4 : Int32} {v180_5 : Int32} {v180_6 : Int32}, hB [26, 28, 30] S0 U180 → w_X11_putSwitch_L180 Q n U180 v180_1 v180_3 v180_4 v180_5 v180_6 → w_X11_putSwitch_L180 (fun u => Q u ∧ hB [26, 28, 30] S0 u) n U180 v180_1 v180_3 v180_4 v180_5 v180_6 := by
  intro n
  induction n with
  | zero => intro U180 v180_1 v180_3 v180_4 v180_5 v180_6 f h; unfold w_X11_putSwitch_L180 at h; exact h.elim
  | succ n ih =>
    intro U180 v180_1 v180_3 v180_4 v180_5 v180_6 f h
    unfold w_X11_putSwitch_L180 at h ⊢
    intro y7_ y8_
    replace h := h y7_ y8_
    refine ⟨fun c => ?_, fun c => ?_⟩
    · replace h := h.1 c
      exact ⟨h, f⟩
    · replace h := h.2 c
      refine ⟨fun c => ?_, fun c => ?_⟩
      · replace h := h.1 c
        refine ⟨h.1, ?_⟩
        replace h := h.2
        refine ⟨h.1, ?_⟩
        replace h := h.2
        intro a81 ea81 
        replace h := h a81 ea81 
        intro y9_
        replace h := h y9_
        obtain ⟨Q9, h0, h⟩ := h
        refine ⟨_, hb_put4 y7_ h0, ?_⟩
        intro S83 q10_ y11_ y12_
        replace h := h S83 q10_.1 y11_ y12_
        replace f := f.tr (q10_.2.mo (by decide))
        exact hb_X11_putSwitch_J215 (fun _ _ _ _ _ _ f h => ih f h) f h
      · replace h := h.2 c
        exact hb_X11_putSwitch_J215 (fun _ _ _ _ _ _ f h => ih f h) f h
set_option maxRecDepth 100000 in
theorem hb_X11_putSwitch_J177 {S0 : MS} {Q : MS → Prop} {U177 : MS} {v177_1 : Int32} {v177_3 : Int32} {v177_4 : Int32} {v177_5 : Int32} (f : hB [26, 28, 30] S0 U177) (h : w_X11_putSwitch_J177 Q U177 v177_1 v177_3 v177_4 v177_5) : w_X11_putSwitch_J177 (fun u => Q u ∧ hB [26, 28, 30] S0 u) U177 v177_1 v177_3 v177_4 v177_5 := by
  unfold w_X11_putSwitch_J177 at h ⊢
  intro y13_ y14_
  replace h := h y13_ y14_
  obtain ⟨n9, h⟩ := h
  exact ⟨n9, hb_X11_putSwitch_L180 n9 f h⟩
set_option maxRecDepth 100000 in
theorem hb_X11_putSwitch_J95 {S0 : MS} {Q : MS → Prop} {U95 : MS} {v95_1 : Int32} {v95_3 : Int32} {v95_4 : Int32} {v95_5 : Int32} (f : hB [26, 28, 30] S0 U95) (h : w_X11_putSwitch_J95 Q U95 v95_1 v95_3 v95_4 v95_5) : w_X11_putSwitch_J95 (fun u => Q u ∧ hB [26, 28, 30] S0 u) U95 v95_1 v95_3 v95_4 v95_5 := by
  unfold w_X11_putSwitch_J95 at h ⊢
  intro y15_ y16_
  replace h := h y15_ y16_
  refine ⟨h.1, ?_⟩
  replace h := h.2
  refine ⟨h.1, ?_⟩
  replace h := h.2
  intro a37 ea37 
  replace h := h a37 ea37 
  refine ⟨h.1, ?_⟩
  replace h := h.2
  intro a41 ea41 
  replace h := h a41 ea41 
  refine ⟨h.1, ?_⟩
  replace h := h.2
  intro a45 ea45 
  replace h := h a45 ea45 
  intro y17_
  replace h := h y17_
  obtain ⟨Q9, h0, h⟩ := h
  refine ⟨_, hb_put4 y15_ h0, ?_⟩
  intro S48 q18_ y19_ y20_
  replace h := h S48 q18_.1 y19_ y20_
  replace f := f.tr (q18_.2.mo (by decide))
  refine ⟨fun c => ?_, fun c => ?_⟩
  · replace h := h.1 c
    intro y21_
    replace h := h y21_
    obtain ⟨Q9, h0, h⟩ := h
    refine ⟨_, hb_put4 y19_ h0, ?_⟩
    intro S88 q22_ y23_ y24_
    replace h := h S88 q22_.1 y23_ y24_
    replace f := f.tr (q22_.2.mo (by decide))
    exact hb_X11_putSwitch_J177 f h
  · replace h := h.2 c
    refine ⟨h.1, ?_⟩
    replace h := h.2
    refine ⟨h.1, ?_⟩
    replace h := h.2
    intro a97 ea97 
    replace h := h a97 ea97 
    intro y25_
    replace h := h y25_
    obtain ⟨Q9, h0, h⟩ := h
    refine ⟨_, hb_put4 y19_ h0, ?_⟩
    intro S99 q26_ y27_ y28_
    replace h := h S99 q26_.1 y27_ y28_
    replace f := f.tr (q26_.2.mo (by decide))
    refine ⟨h.1, ?_⟩
    replace h := h.2
    refine ⟨h.1, ?_⟩
    replace h := h.2
    intro a108 ea108 
    replace h := h a108 ea108 
    intro y29_
    replace h := h y29_
    obtain ⟨Q9, h0, h⟩ := h
    refine ⟨_, hb_put4 y27_ h0, ?_⟩
    intro S112 q30_ y31_ y32_
    replace h := h S112 q30_.1 y31_ y32_
    replace f := f.tr (q30_.2.mo (by decide))
    exact hb_X11_putSwitch_J177 f h
set_option maxRecDepth 100000 in
theorem hb_X11_putSwitch_L61 {S0 : MS} {Q : MS → Prop} : ∀ (n : Nat) {U61 : MS} {v61_1 : Int32} {v61_2 : Int32} {v61_3 : Int32} {v61_4 : Int32} {v61_5 : Int32} {v61_6 : Int32}, hB [26, 28, 30] S0 U61 → w_X11_putSwitch_L61 Q n U61 v61_1 v61_2 v61_3 v61_4 v61_5 v61_6 → w_X11_putSwitch_L61 (fun u => Q u ∧ hB [26, 28, 30] S0 u) n U61 v61_1 v61_2 v61_3 v61_4 v61_5 v61_6 := by
  intro n
  induction n with
  | zero => intro U61 v61_1 v61_2 v61_3 v61_4 v61_5 v61_6 f h; unfold w_X11_putSwitch_L61 at h; exact h.elim
  | succ n ih =>
    intro U61 v61_1 v61_2 v61_3 v61_4 v61_5 v61_6 f h
    unfold w_X11_putSwitch_L61 at h ⊢
    intro y33_ y34_
    replace h := h y33_ y34_
    refine ⟨fun c => ?_, fun c => ?_⟩
    · replace h := h.1 c
      exact hb_X11_putSwitch_J95 f h
    · replace h := h.2 c
      refine ⟨fun c => ?_, fun c => ?_⟩
      · replace h := h.1 c
        exact hb_X11_putSwitch_J95 f h
      · replace h := h.2 c
        intro y35_
        replace h := h y35_
        obtain ⟨Q9, h0, h⟩ := h
        refine ⟨_, hb_put y33_ h0, ?_⟩
        intro S120 q36_ y37_ y38_
        replace h := h S120 q36_.1 y37_ y38_
        replace f := f.tr (q36_.2.mo (by decide))
        intro a123 ea123 
        replace h := h a123 ea123 
        exact ih f h
set_option maxRecDepth 100000 in
theorem hb_X11_putSwitch_J41 {S0 : MS} {Q : MS → Prop} {U41 : MS} {t41_0 : Int32} {v41_1 : Int32} {v41_2 : Int32} {v41_3 : Int32} {v41_4 : Int32} (f : hB [26, 28, 30] S0 U41) (h : w_X11_putSwitch_J41 Q U41 t41_0 v41_1 v41_2 v41_3 v41_4) : w_X11_putSwitch_J41 (fun u => Q u ∧ hB [26, 28, 30] S0 u) U41 t41_0 v41_1 v41_2 v41_3 v41_4 := by
  unfold w_X11_putSwitch_J41 at h ⊢
  intro y39_ y40_
  replace h := h y39_ y40_
  refine ⟨h.1, ?_⟩
  replace h := h.2
  refine ⟨h.1, ?_⟩
  replace h := h.2
  intro a27 ea27 
  replace h := h a27 ea27 
  intro y41_
  replace h := h y41_
  obtain ⟨Q9, h0, h⟩ := h
  refine ⟨_, hb_put y39_ h0, ?_⟩
  intro S29 q42_ y43_ y44_
  replace h := h S29 q42_.1 y43_ y44_
  replace f := f.tr (q42_.2.mo (by decide))
  obtain ⟨n9, h⟩ := h
  exact ⟨n9, hb_X11_putSwitch_L61 n9 f h⟩
set_option maxRecDepth 100000 in
theorem hbX11_putSwitch {S : MS} {x1 : Int32} {x2 : Int32} {Q : MS → Prop} (hw : wfC S) (h : wX11_putSwitch S x1 x2 Q) : wX11_putSwitch S x1 x2 (fun u => Q u ∧ hB [26, 28, 30] S u) := by
  have f : hB [26, 28, 30] S S := hB.rf
  unfold wX11_putSwitch at h ⊢
  refine ⟨h.1, ?_⟩
  replace h := h.2
  refine ⟨h.1, ?_⟩
  replace h := h.2
  intro a6 ea6 
  replace h := h a6 ea6 
  intro a7 ea7 
  replace h := h a7 ea7 
  refine ⟨h.1, ?_⟩
  replace h := h.2
  refine ⟨h.1, ?_⟩
  replace h := h.2
  intro a13 ea13 
  replace h := h a13 ea13 
  intro a15 ea15 
  replace h := h a15 ea15 
  refine ⟨h.1, ?_⟩
  replace h := h.2
  refine ⟨h.1, ?_⟩
  replace h := h.2
  intro a21 ea21 
  replace h := h a21 ea21 
  refine ⟨fun c => ?_, fun c => ?_⟩
  · replace h := h.1 c
    exact hb_X11_putSwitch_J41 f h
  · replace h := h.2 c
    exact hb_X11_putSwitch_J41 f h
set_option maxRecDepth 100000 in
theorem hb_X11_putInstruction_J33 {S0 : MS} {Q : MS → Prop} {U33 : MS} {v33_3 : Int32} {v33_4 : Int64} (f : hB [26, 28, 30] S0 U33) (h : w_X11_putInstruction_J33 Q U33 v33_3 v33_4) : w_X11_putInstruction_J33 (fun u => Q u ∧ hB [26, 28, 30] S0 u) U33 v33_3 v33_4 := by
  unfold w_X11_putInstruction_J33 at h ⊢
  intro y1_
  replace h := h y1_
  obtain ⟨Q9, h0, h⟩ := h
  refine ⟨_, hbX11_putLocal y1_ h0, ?_⟩
  intro S18 q2_ y3_ y4_
  replace h := h S18 q2_.1 y3_ y4_
  replace f := f.tr q2_.2
  exact ⟨h, f⟩
set_option maxRecDepth 100000 in
theorem hb_X11_putInstruction_J200 {S0 : MS} {Q : MS → Prop} {U200 : MS} {v200_1 : Int32} (f : hB [26, 28, 30] S0 U200) (h : w_X11_putInstruction_J200 Q U200 v200_1) : w_X11_putInstruction_J200 (fun u => Q u ∧ hB [26, 28, 30] S0 u) U200 v200_1 := by
  unfold w_X11_putInstruction_J200 at h ⊢
  intro y5_
  replace h := h y5_
  refine ⟨h.1, ?_⟩
  replace h := h.2
  intro y6_
  replace h := h y6_
  obtain ⟨Q9, h0, h⟩ := h
  refine ⟨_, hb_put2 y5_ h0, ?_⟩
  intro S48 q7_ y8_ y9_
  replace h := h S48 q7_.1 y8_ y9_
  replace f := f.tr (q7_.2.mo (by decide))
  exact ⟨h, f⟩
set_option maxRecDepth 100000 in
theorem hbX11_putInstruction {S : MS} {x1 : Int32} {x2 : Int32} {Q : MS → Prop} (hw : wfC S) (h : wX11_putInstruction S x1 x2 Q) : wX11_putInstruction S x1 x2 (fun u => Q u ∧ hB [26, 28, 30] S u) := by
  have f : hB [26, 28, 30] S S := hB.rf
  unfold wX11_putInstruction at h ⊢
  refine ⟨h.1, ?_⟩
  replace h := h.2
  refine ⟨h.1, ?_⟩
  replace h := h.2
  intro a6 ea6 
  replace h := h a6 ea6 
  refine ⟨h.1, ?_⟩
  replace h := h.2
  refine ⟨h.1, ?_⟩
  replace h := h.2
  intro a12 ea12 
  replace h := h a12 ea12 
  refine ⟨h.1, ?_⟩
  replace h := h.2
  intro a16 ea16 
  replace h := h a16 ea16 
  refine ⟨fun c => ?_, fun c => ?_⟩
  · replace h := h.1 c
    refine ⟨h.1, ?_⟩
    replace h := h.2
    intro a25 ea25 
    replace h := h a25 ea25 
    refine ⟨fun c => ?_, fun c => ?_⟩
    · replace h := h.1 c
      refine ⟨h.1, ?_⟩
      replace h := h.2
      intro a30 ea30 
      replace h := h a30 ea30 
      refine ⟨fun c => ?_, fun c => ?_⟩
      · replace h := h.1 c
        refine ⟨h.1, ?_⟩
        replace h := h.2
        intro a35 ea35 
        replace h := h a35 ea35 
        refine ⟨fun c => ?_, fun c => ?_⟩
        · replace h := h.1 c
          refine ⟨fun c => ?_, fun c => ?_⟩
          · replace h := h.1 c
            refine ⟨h.1, ?_⟩
            replace h := h.2
            obtain ⟨Q9, h0, h⟩ := h
            refine ⟨_, hbX11_putInt hw h0, ?_⟩
            intro S86 q10_ y11_ y12_
            replace h := h S86 q10_.1 y11_ y12_
            replace f := f.tr q10_.2
            exact ⟨h, f⟩
          · replace h := h.2 c
            refine ⟨fun c => ?_, fun c => ?_⟩
            · replace h := h.1 c
              refine ⟨h.1, ?_⟩
              replace h := h.2
              obtain ⟨Q9, h0, h⟩ := h
              refine ⟨_, hbX11_putLong hw h0, ?_⟩
              intro S79 q13_ y14_ y15_
              replace h := h S79 q13_.1 y14_ y15_
              replace f := f.tr q13_.2
              exact ⟨h, f⟩
            · replace h := h.2 c
              refine ⟨fun c => ?_, fun c => ?_⟩
              · replace h := h.1 c
                refine ⟨h.1, ?_⟩
                replace h := h.2
                refine ⟨h.1, ?_⟩
                replace h := h.2
                intro a64 ea64 
                replace h := h a64 ea64 
                refine ⟨h.1, ?_⟩
                replace h := h.2
                refine ⟨h.1, ?_⟩
                replace h := h.2
                intro a70 ea70 
                replace h := h a70 ea70 
                obtain ⟨Q9, h0, h⟩ := h
                refine ⟨_, hbX11_putGrow hw h0, ?_⟩
                intro S72 q16_ y17_ y18_
                replace h := h S72 q16_.1 y17_ y18_
                replace f := f.tr q16_.2
                exact ⟨h, f⟩
              · replace h := h.2 c
                intro y19_
                replace h := h y19_
                obtain ⟨Q9, h0, h⟩ := h
                refine ⟨_, hb_put hw h0, ?_⟩
                intro S41 q20_ y21_ y22_
                replace h := h S41 q20_.1 y21_ y22_
                replace f := f.tr (q20_.2.mo (by decide))
                refine ⟨fun c => ?_, fun c => ?_⟩
                · replace h := h.1 c
                  exact hb_X11_putInstruction_J200 f h
                · replace h := h.2 c
                  refine ⟨fun c => ?_, fun c => ?_⟩
                  · replace h := h.1 c
                    exact hb_X11_putInstruction_J200 f h
                  · replace h := h.2 c
                    refine ⟨fun c => ?_, fun c => ?_⟩
                    · replace h := h.1 c
                      exact hb_X11_putInstruction_J200 f h
                    · replace h := h.2 c
                      refine ⟨fun c => ?_, fun c => ?_⟩
                      · replace h := h.1 c
                        intro y23_
                        replace h := h y23_
                        obtain ⟨Q9, h0, h⟩ := h
                        refine ⟨_, hb_put y21_ h0, ?_⟩
                        intro S56 q24_ y25_ y26_
                        replace h := h S56 q24_.1 y25_ y26_
                        replace f := f.tr (q24_.2.mo (by decide))
                        exact ⟨h, f⟩
                      · replace h := h.2 c
                        exact ⟨h, f⟩
        · replace h := h.2 c
          obtain ⟨Q9, h0, h⟩ := h
          refine ⟨_, hbX11_putSwitch hw h0, ?_⟩
          intro S90 q27_ y28_ y29_
          replace h := h S90 q27_.1 y28_ y29_
          replace f := f.tr q27_.2
          exact ⟨h, f⟩
      · replace h := h.2 c
        intro y30_
        replace h := h y30_
        obtain ⟨Q9, h0, h⟩ := h
        refine ⟨_, hb_put hw h0, ?_⟩
        intro S94 q31_ y32_ y33_
        replace h := h S94 q31_.1 y32_ y33_
        replace f := f.tr (q31_.2.mo (by decide))
        refine ⟨h.1, ?_⟩
        replace h := h.2
        intro a100 ea100 
        replace h := h a100 ea100 
        refine ⟨h.1, ?_⟩
        replace h := h.2
        intro a104 ea104 
        replace h := h a104 ea104 
        intro y34_
        replace h := h y34_
        obtain ⟨Q9, h0, h⟩ := h
        refine ⟨_, hb_put2 y32_ h0, ?_⟩
        intro S107 q35_ y36_ y37_
        replace h := h S107 q35_.1 y36_ y37_
        replace f := f.tr (q35_.2.mo (by decide))
        exact ⟨h, f⟩
    · replace h := h.2 c
      exact hb_X11_putInstruction_J33 f h
  · replace h := h.2 c
    exact hb_X11_putInstruction_J33 f h
set_option maxRecDepth 100000 in
theorem hb_X11_addMethod_L229 {S0 : MS} {Q : MS → Prop} : ∀ (n : Nat) {U229 : MS} {v229_5 : Int32}, hB [26, 28, 30] S0 U229 → w_X11_addMethod_L229 Q n U229 v229_5 → w_X11_addMethod_L229 (fun u => Q u ∧ hB [26, 28, 30] S0 u) n U229 v229_5 := by
  intro n
  induction n with
  | zero => intro U229 v229_5 f h; unfold w_X11_addMethod_L229 at h; exact h.elim
  | succ n ih =>
    intro U229 v229_5 f h
    unfold w_X11_addMethod_L229 at h ⊢
    intro y1_
    replace h := h y1_
    refine ⟨h.1, ?_⟩
    replace h := h.2
    refine ⟨fun c => ?_, fun c => ?_⟩
    · replace h := h.1 c
      intro y2_
      replace h := h y2_
      obtain ⟨Q9, h0, h⟩ := h
      refine ⟨_, hb_put2 y1_ h0, ?_⟩
      intro S102 q3_ y4_ y5_
      replace h := h S102 q3_.1 y4_ y5_
      replace f := f.tr (q3_.2.mo (by decide))
      exact ⟨h, f⟩
    · replace h := h.2 c
      refine ⟨h.1, ?_⟩
      replace h := h.2
      refine ⟨h.1, ?_⟩
      replace h := h.2
      refine ⟨h.1, ?_⟩
      replace h := h.2
      refine ⟨h.1, ?_⟩
      replace h := h.2
      intro a114 ea114 
      replace h := h a114 ea114 
      intro y6_
      replace h := h y6_
      obtain ⟨Q9, h0, h⟩ := h
      refine ⟨_, hb_put2 y1_ h0, ?_⟩
      intro S116 q7_ y8_ y9_
      replace h := h S116 q7_.1 y8_ y9_
      replace f := f.tr (q7_.2.mo (by decide))
      refine ⟨h.1, ?_⟩
      replace h := h.2
      refine ⟨h.1, ?_⟩
      replace h := h.2
      refine ⟨h.1, ?_⟩
      replace h := h.2
      refine ⟨h.1, ?_⟩
      replace h := h.2
      intro a128 ea128 
      replace h := h a128 ea128 
      intro y10_
      replace h := h y10_
      obtain ⟨Q9, h0, h⟩ := h
      refine ⟨_, hb_put2 y8_ h0, ?_⟩
      intro S130 q11_ y12_ y13_
      replace h := h S130 q11_.1 y12_ y13_
      replace f := f.tr (q11_.2.mo (by decide))
      refine ⟨h.1, ?_⟩
      replace h := h.2
      refine ⟨h.1, ?_⟩
      replace h := h.2
      refine ⟨h.1, ?_⟩
      replace h := h.2
      refine ⟨h.1, ?_⟩
      replace h := h.2
      intro a142 ea142 
      replace h := h a142 ea142 
      intro y14_
      replace h := h y14_
      obtain ⟨Q9, h0, h⟩ := h
      refine ⟨_, hb_put2 y12_ h0, ?_⟩
      intro S144 q15_ y16_ y17_
      replace h := h S144 q15_.1 y16_ y17_
      replace f := f.tr (q15_.2.mo (by decide))
      refine ⟨h.1, ?_⟩
      replace h := h.2
      refine ⟨h.1, ?_⟩
      replace h := h.2
      refine ⟨h.1, ?_⟩
      replace h := h.2
      obtain ⟨Q9, h0, h⟩ := h
      refine ⟨_, hbX11_classOf y16_ h0, ?_⟩
      intro r154 S155 q18_ y19_ y20_
      replace h := h r154 S155 q18_.1 y19_ y20_
      replace f := f.tr q18_.2
      intro y21_
      replace h := h y21_
      obtain ⟨Q9, h0, h⟩ := h
      refine ⟨_, hb_put2 y19_ h0, ?_⟩
      intro S159 q22_ y23_ y24_
      replace h := h S159 q22_.1 y23_ y24_
      replace f := f.tr (q22_.2.mo (by decide))
      intro a162 ea162 
      replace h := h a162 ea162 
      exact ih f h
set_option maxRecDepth 100000 in
theorem hb_X11_addMethod_L186 {S0 : MS} {Q : MS → Prop} : ∀ (n : Nat) {U186 : MS} {v186_4 : Int32} {v186_5 : Int32}, hB [26, 28, 30] S0 U186 → w_X11_addMethod_L186 Q n U186 v186_4 v186_5 → w_X11_addMethod_L186 (fun u => Q u ∧ hB [26, 28, 30] S0 u) n U186 v186_4 v186_5 := by
  intro n
  induction n with
  | zero => intro U186 v186_4 v186_5 f h; unfold w_X11_addMethod_L186 at h; exact h.elim
  | succ n ih =>
    intro U186 v186_4 v186_5 f h
    unfold w_X11_addMethod_L186 at h ⊢
    intro y25_
    replace h := h y25_
    refine ⟨h.1, ?_⟩
    replace h := h.2
    refine ⟨fun c => ?_, fun c => ?_⟩
    · replace h := h.1 c
      refine ⟨h.1, ?_⟩
      replace h := h.2
      intro y26_
      replace h := h y26_
      obtain ⟨Q9, h0, h⟩ := h
      refine ⟨_, hb_put2 y25_ h0, ?_⟩
      intro S95 q27_ y28_ y29_
      replace h := h S95 q27_.1 y28_ y29_
      replace f := f.tr (q27_.2.mo (by decide))
      obtain ⟨n9, h⟩ := h
      exact ⟨n9, hb_X11_addMethod_L229 n9 f h⟩
    · replace h := h.2 c
      obtain ⟨Q9, h0, h⟩ := h
      refine ⟨_, hbX11_putInstruction y25_ h0, ?_⟩
      intro S164 q30_ y31_ y32_
      replace h := h S164 q30_.1 y31_ y32_
      replace f := f.tr q30_.2
      intro a167 ea167 
      replace h := h a167 ea167 
      exact ih f h
set_option maxRecDepth 100000 in
theorem hbX11_addMethod {S : MS} {p1 : Option Nat} {Q : MS → Prop} (hw : wfC S) (h : wX11_addMethod S p1 Q) : wX11_addMethod S p1 (fun u => Q u ∧ hB [26, 28, 30] S u) := by
  have f : hB [26, 28, 30] S S := hB.rf
  unfold wX11_addMethod at h ⊢
  refine ⟨fun c => ?_, fun c => ?_⟩
  · replace h := h.1 c
    intro S2 eS2 y33_ y34_
    replace h := h S2 eS2 y33_ y34_
    replace f := f.tr (show hB [26, 28, 30] S S2 by rw [eS2]; exact hB.of (K := []) (F := [(50, 15)]) (cfr.oR y33_ (by decide)) rfl (fun _ => rfl))
    refine ⟨fun c => ?_, fun c => ?_⟩
    · replace h := h.1 c
      exact ⟨h, f⟩
    · replace h := h.2 c
      refine ⟨h.1, ?_⟩
      replace h := h.2
      refine ⟨fun c => ?_, fun c => ?_⟩
      · replace h := h.1 c
        exact ⟨h, f⟩
      · replace h := h.2 c
        refine ⟨h.1, ?_⟩
        replace h := h.2
        refine ⟨h.1, ?_⟩
        replace h := h.2
        refine ⟨h.1, ?_⟩
        replace h := h.2
        refine ⟨fun c => ?_, fun c => ?_⟩
        · replace h := h.1 c
          refine ⟨h.1, ?_⟩
          replace h := h.2
          refine ⟨h.1, ?_⟩
          replace h := h.2
          refine ⟨h.1, ?_⟩
          replace h := h.2
          refine ⟨h.1, ?_⟩
          replace h := h.2
          obtain ⟨Q9, h0, h⟩ := h
          refine ⟨_, hbX11_nameEntry y34_ h0, ?_⟩
          intro r25 S26 q35_ y36_ y37_
          replace h := h r25 S26 q35_.1 y36_ y37_
          replace f := f.tr q35_.2
          refine ⟨h.1, ?_⟩
          replace h := h.2
          refine ⟨h.1, ?_⟩
          replace h := h.2
          refine ⟨h.1, ?_⟩
          replace h := h.2
          refine ⟨h.1, ?_⟩
          replace h := h.2
          obtain ⟨Q9, h0, h⟩ := h
          refine ⟨_, hbX11_nameEntry y36_ h0, ?_⟩
          intro r38 S39 q38_ y39_ y40_
          replace h := h r38 S39 q38_.1 y39_ y40_
          replace f := f.tr q38_.2
          obtain ⟨Q9, h0, h⟩ := h
          refine ⟨_, hbX11_putMember y39_ h0, ?_⟩
          intro S43 q41_ y42_ y43_
          replace h := h S43 q41_.1 y42_ y43_
          replace f := f.tr q41_.2
          obtain ⟨Q9, h0, h⟩ := h
          refine ⟨_, hbX11_layOut y42_ h0, ?_⟩
          intro r47 S48 q44_ y45_ y46_
          replace h := h r47 S48 q44_.1 y45_ y46_
          replace f := f.tr q44_.2
          refine ⟨h.1, ?_⟩
          replace h := h.2
          refine ⟨h.1, ?_⟩
          replace h := h.2
          intro y47_ y48_ y49_
          replace h := h y47_ y48_ y49_
          obtain ⟨Q9, h0, h⟩ := h
          refine ⟨_, frX4_seek y45_ h0, ?_⟩
          intro S56 q50_ y51_ y52_
          replace h := h S56 q50_.1 y51_ y52_
          replace f := f.tr (hB.of q50_.2 rfl (fun _ => rfl))
          intro y53_
          replace h := h y53_
          obtain ⟨Q9, h0, h⟩ := h
          refine ⟨_, hb_put2 y51_ h0, ?_⟩
          intro S60 q54_ y55_ y56_
          replace h := h S60 q54_.1 y55_ y56_
          replace f := f.tr (q54_.2.mo (by decide))
          refine ⟨h.1, ?_⟩
          replace h := h.2
          intro y57_
          replace h := h y57_
          obtain ⟨Q9, h0, h⟩ := h
          refine ⟨_, hb_put4 y55_ h0, ?_⟩
          intro S69 q58_ y59_ y60_
          replace h := h S69 q58_.1 y59_ y60_
          replace f := f.tr (q58_.2.mo (by decide))
          intro y61_
          replace h := h y61_
          obtain ⟨Q9, h0, h⟩ := h
          refine ⟨_, hb_put2 y59_ h0, ?_⟩
          intro S73 q62_ y63_ y64_
          replace h := h S73 q62_.1 y63_ y64_
          replace f := f.tr (q62_.2.mo (by decide))
          obtain ⟨Q9, h0, h⟩ := h
          refine ⟨_, frX11_leastLocals y63_ h0, ?_⟩
          intro r77 S78 q65_ y66_ y67_
          replace h := h r77 S78 q65_.1 y66_ y67_
          replace f := f.tr (hB.of q65_.2 rfl (fun _ => rfl))
          intro y68_
          replace h := h y68_
          obtain ⟨Q9, h0, h⟩ := h
          refine ⟨_, hb_put2 y66_ h0, ?_⟩
          intro S81 q69_ y70_ y71_
          replace h := h S81 q69_.1 y70_ y71_
          replace f := f.tr (q69_.2.mo (by decide))
          intro y72_
          replace h := h y72_
          obtain ⟨Q9, h0, h⟩ := h
          refine ⟨_, hb_put4 y70_ h0, ?_⟩
          intro S85 q73_ y74_ y75_
          replace h := h S85 q73_.1 y74_ y75_
          replace f := f.tr (q73_.2.mo (by decide))
          intro a88 ea88 
          replace h := h a88 ea88 
          obtain ⟨n9, h⟩ := h
          exact ⟨n9, hb_X11_addMethod_L186 n9 f h⟩
        · replace h := h.2 c
          exact ⟨h, f⟩
  · replace h := h.2 c
    intro S168 eS168 y76_ y77_
    replace h := h S168 eS168 y76_ y77_
    replace f := f.tr (show hB [26, 28, 30] S S168 by rw [eS168]; exact hB.of (K := []) (F := [(50, 15)]) (cfr.oR y76_ (by decide)) rfl (fun _ => rfl))
    refine ⟨fun c => ?_, fun c => ?_⟩
    · replace h := h.1 c
      exact ⟨h, f⟩
    · replace h := h.2 c
      refine ⟨h.1, ?_⟩
      replace h := h.2
      refine ⟨fun c => ?_, fun c => ?_⟩
      · replace h := h.1 c
        exact ⟨h, f⟩
      · replace h := h.2 c
        refine ⟨h.1, ?_⟩
        replace h := h.2
        refine ⟨h.1, ?_⟩
        replace h := h.2
        refine ⟨h.1, ?_⟩
        replace h := h.2
        refine ⟨fun c => ?_, fun c => ?_⟩
        · replace h := h.1 c
          refine ⟨h.1, ?_⟩
          replace h := h.2
          refine ⟨h.1, ?_⟩
          replace h := h.2
          refine ⟨h.1, ?_⟩
          replace h := h.2
          refine ⟨h.1, ?_⟩
          replace h := h.2
          obtain ⟨Q9, h0, h⟩ := h
          refine ⟨_, hbX11_nameEntry y77_ h0, ?_⟩
          intro r191 S192 q78_ y79_ y80_
          replace h := h r191 S192 q78_.1 y79_ y80_
          replace f := f.tr q78_.2
          refine ⟨h.1, ?_⟩
          replace h := h.2
          refine ⟨h.1, ?_⟩
          replace h := h.2
          refine ⟨h.1, ?_⟩
          replace h := h.2
          refine ⟨h.1, ?_⟩
          replace h := h.2
          obtain ⟨Q9, h0, h⟩ := h
          refine ⟨_, hbX11_nameEntry y79_ h0, ?_⟩
          intro r204 S205 q81_ y82_ y83_
          replace h := h r204 S205 q81_.1 y82_ y83_
          replace f := f.tr q81_.2
          obtain ⟨Q9, h0, h⟩ := h
          refine ⟨_, hbX11_putMember y82_ h0, ?_⟩
          intro S209 q84_ y85_ y86_
          replace h := h S209 q84_.1 y85_ y86_
          replace f := f.tr q84_.2
          obtain ⟨Q9, h0, h⟩ := h
          refine ⟨_, hbX11_layOut y85_ h0, ?_⟩
          intro r213 S214 q87_ y88_ y89_
          replace h := h r213 S214 q87_.1 y88_ y89_
          replace f := f.tr q87_.2
          refine ⟨h.1, ?_⟩
          replace h := h.2
          refine ⟨h.1, ?_⟩
          replace h := h.2
          intro y90_ y91_ y92_
          replace h := h y90_ y91_ y92_
          obtain ⟨Q9, h0, h⟩ := h
          refine ⟨_, frX4_seek y88_ h0, ?_⟩
          intro S222 q93_ y94_ y95_
          replace h := h S222 q93_.1 y94_ y95_
          replace f := f.tr (hB.of q93_.2 rfl (fun _ => rfl))
          intro y96_
          replace h := h y96_
          obtain ⟨Q9, h0, h⟩ := h
          refine ⟨_, hb_put2 y94_ h0, ?_⟩
          intro S226 q97_ y98_ y99_
          replace h := h S226 q97_.1 y98_ y99_
          replace f := f.tr (q97_.2.mo (by decide))
          refine ⟨h.1, ?_⟩
          replace h := h.2
          intro y100_
          replace h := h y100_
          obtain ⟨Q9, h0, h⟩ := h
          refine ⟨_, hb_put4 y98_ h0, ?_⟩
          intro S235 q101_ y102_ y103_
          replace h := h S235 q101_.1 y102_ y103_
          replace f := f.tr (q101_.2.mo (by decide))
          intro y104_
          replace h := h y104_
          obtain ⟨Q9, h0, h⟩ := h
          refine ⟨_, hb_put2 y102_ h0, ?_⟩
          intro S239 q105_ y106_ y107_
          replace h := h S239 q105_.1 y106_ y107_
          replace f := f.tr (q105_.2.mo (by decide))
          obtain ⟨Q9, h0, h⟩ := h
          refine ⟨_, frX11_leastLocals y106_ h0, ?_⟩
          intro r243 S244 q108_ y109_ y110_
          replace h := h r243 S244 q108_.1 y109_ y110_
          replace f := f.tr (hB.of q108_.2 rfl (fun _ => rfl))
          intro y111_
          replace h := h y111_
          obtain ⟨Q9, h0, h⟩ := h
          refine ⟨_, hb_put2 y109_ h0, ?_⟩
          intro S247 q112_ y113_ y114_
          replace h := h S247 q112_.1 y113_ y114_
          replace f := f.tr (q112_.2.mo (by decide))
          intro y115_
          replace h := h y115_
          obtain ⟨Q9, h0, h⟩ := h
          refine ⟨_, hb_put4 y113_ h0, ?_⟩
          intro S251 q116_ y117_ y118_
          replace h := h S251 q116_.1 y117_ y118_
          replace f := f.tr (q116_.2.mo (by decide))
          intro a254 ea254 
          replace h := h a254 ea254 
          obtain ⟨n9, h⟩ := h
          exact ⟨n9, hb_X11_addMethod_L186 n9 f h⟩
        · replace h := h.2 c
          exact ⟨h, f⟩
/-! write: its loop -/
section XE
variable {B : Nat × Nat} {H : List Nat} {S u v U V : MS} {i j p q o cap : Nat} {x y a r z : Int32}
theorem ByI.hb (h : ByI V o cap) (w : wfC V) (k : qT V o = 40) (f : hB H V u) (n : H.contains o = false) : ByI u o cap := by
  have e := f.2 o
  have o' : qO u o 0 = qO V o 0 := qO_eq (e 0 k n).2
  have l : qN u (qO V o 0) = qN V (qO V o 0) := (f.1.1 _ (by rw [h.kr w k]; decide)).2
  unfold ByI
  rw [o', l, (e 0 k n).2, (e 1 k n).1]
  exact h
theorem WbI.hb (h : WbI V) (w : wfC V) (f : hB [] V u) : WbI u := by
  obtain ⟨⟨b26, b28, b30⟩, n30, n28⟩ := h
  refine ⟨⟨b26.hb w w.k26 f rfl, b28.hb w w.k28 f rfl, b30.hb w w.k30 f rfl⟩, ?_, ?_⟩
  · rw [qO_eq (f.2 26 0 w.k26 rfl).2, qO_eq (f.2 30 0 w.k30 rfl).2]; exact n30
  · rw [qO_eq (f.2 26 0 w.k26 rfl).2, qO_eq (f.2 28 0 w.k28 rfl).2]; exact n28
/-- a Unit on its way into 'rest' *-/
def WyI (B : Nat × Nat) (o p t : Nat) (V : MS) : Prop := (∃ S, WvI B S V) ∧ UtK V p ∧ ByI V o 65536 ∧ 2 * (qI V 28 1).toInt ≤ 408 + 3908 * t
theorem WyI.bg (g : ShC B U) (w : wfC U) (kp : qT U p = 49) (ut : UtK U p) (ho : o = 3 ∨ o = 5) (bo : ByI U o 65536) (q : ((∃ S, WvI B S u ∧ qR S 25 7 = some p ∧ (qI u 28 1).toInt ≤ 204) ∧ cfr [101, 238, 239, 240, 241, 242, 243] [(40, 0), (40, 1), (50, 5), (50, 6), (50, 7), (50, 8), (50, 9)] U u) ∧ hB [26, 28, 30] U u) : WyI B o p 0 u := by
  obtain ⟨⟨⟨S, v, -, b⟩, f⟩, h⟩ := q
  have ko : qT U o = 40 := by
    rcases ho with rfl | rfl
    · exact w.k3
    · exact w.k5
  refine ⟨⟨S, v⟩, UtK.mv w g kp ut (uOld.fr f rfl rfl) f.1 (fun q kq => rSm.fr w kq (g.row kq) f rfl rfl rfl), bo.hb w ko h ?_, by omega⟩
  rcases ho with rfl | rfl <;> rfl
end XE
/-! improve: its loop -/
section XF
variable {B : Nat × Nat} {K : List Nat} {F : List (Nat × Nat)} {S u v U V : MS} {i j p q o cap t : Nat} {x y a r z : Int32}
/-- Smith's Row, once it is wide, has a wide table -/
def SmT (V : MS) : Prop := (qN V (qO V (qO V 66 0) 0) : Int) = 1296 → (qN V (qO V (qO V 66 0) 3) : Int) = 1200
/-- no Row of the Unit is Smith's -/
def NsR (V : MS) (p : Nat) : Prop := ∀ (j r : Nat), (j : Int) < (qI V p 8).toInt → qR V (qO V p 13) j = some r → r ≠ qO V 66 0
theorem UtK.mv2 (w : wfC S) (g : ShC B S) (k : qT S p = 49) (h : UtK S p) (o : uOld S u) (s : shx S u) (rows : ∀ j r : Nat, (j : Int) < (qI S p 8).toInt → qR S (qO S p 13) j = some r → qT S r = 47 → rSm S u r) : UtK u p := by
  have R := g.unit k
  refine ⟨h.1.mv w k R o s, fun j hj => ?_⟩
  have f0 : ∀ j, qI u p j = qI S p j ∧ qR u p j = qR S p j := fun j => o p j (by rw [k]; rfl)
  rw [(f0 8).1] at hj
  obtain ⟨r, e, hr⟩ := h.2 j hj
  have k13 : qT S (qO S p 13) = 6 := w.ref R.1.2.2.2.2.2.2.2.2 k
  refine ⟨r, ?_, hr.mv (rows j r hj e (w.ref e k13))⟩
  rw [qO_eq (f0 13).2, (o _ j (by rw [k13]; rfl)).2]; exact e
/-- the Unit's Rows are the same ones -/
theorem uOld.rw (w : wfC S) (g : ShC B S) (k : qT S p = 49) (o : uOld S u) : qI u p 8 = qI S p 8 ∧ ∀ j, qR u (qO u p 13) j = qR S (qO S p 13) j := by
  have R := g.unit k
  have f0 : ∀ j, qI u p j = qI S p j ∧ qR u p j = qR S p j := fun j => o p j (by rw [k]; rfl)
  have k13 : qT S (qO S p 13) = 6 := w.ref R.1.2.2.2.2.2.2.2.2 k
  refine ⟨(f0 8).1, fun j => ?_⟩
  rw [qO_eq (f0 13).2, (o _ j (by rw [k13]; rfl)).2]
theorem SmT.fr (w : wfC V) (g : ShC B V) (h : SmT V) (f : cfr K F V u) (h1 : K.contains 48 = false) (h2 : F.contains (48, 0) = false) (h3 : K.contains 47 = false) (h4 : F.contains (47, 0) = false) (h5 : F.contains (47, 3) = false) : SmT u ∧ qO u 66 0 = qO V 66 0 := by
  have e0 : qO u 66 0 = qO V 66 0 := qO_eq (f.kO w.k66 h1 h2)
  have ks := k66 w
  have R := g.row ks
  have a0 : qO u (qO V 66 0) 0 = qO V (qO V 66 0) 0 := qO_eq (f.kO ks h3 h4)
  have a3 : qO u (qO V 66 0) 3 = qO V (qO V 66 0) 3 := qO_eq (f.kO ks h3 h5)
  have n0 := f.1.N9 w R.1.1
  have n3 := f.1.N9 w R.1.2.2.1
  refine ⟨?_, e0⟩
  unfold SmT
  rw [e0, a0, a3, n0, n3]
  exact h
end XF
