/-! the Units of improve and count -/
section N6A
variable {S S0 u v U V : MS} {p q r : Nat} {o : Option Nat} {x x1 x2 : Int32} {Q1 : Int32 → MS → Prop}
def U5 (S u : MS) : Prop := qI u 0 11 = qI S 0 11 ∧ (∀ j, qR u 7 j = qR S 7 j) ∧ shx S u ∧ X16 S u
theorem U5.fr {K : List Nat} {F : List (Nat × Nat)} (h : U5 S u) (w : wfC u) (f : cfr K F u v) (h1 : K.contains 51 = false) (h2 : F.contains (51, 11) = false) (h3 : K.contains 5 = false) (h4 : okO F = true) (h5 : K.contains 49 = false) (h6 : F.contains (49, 16) = false) : U5 S v := ⟨(f.kI w.k0 h1 h2).trans h.1, fun j => (f.kO w.k7 h3 (okO_n h4 (by decide))).trans (h.2.1 j), h.2.2.1.tr f.1, h.2.2.2.fr f h5 h6⟩
theorem n6_fin {n0 : 0 ≤ (qI S0 0 11).toInt} (i : U5 S0 U) (h : d_X11_fits U ∧ (((fX11_fits U).toInt = 0 → Q1 (-3 : Int32) U) ∧ (¬ (fX11_fits U).toInt = 0 → (qT U 5 = 40 → (∃ Q25, wX11_finish U 5 Q25 ∧ ∀ S26, Q25 S26 → wfC S26 → shx U S26 → (qT S26 5 = 40 → (∃ Q29, wX2_unitOf S26 5 Q29 ∧ ∀ b34 S31, Q29 b34 S31 → wfC S31 → shx S26 S31 → (∀ z, b34 = some z → qT S31 z = 49) → (∃ Q35, wX12_keep S31 b34 (-3 : Int32) Q35 ∧ ∀ r36 S37, Q35 r36 S37 → wfC S37 → shy S31 S37 → Q1 r36 S37)))))))) (w : wfC U) : d_X11_fits U ∧ (((fX11_fits U).toInt = 0 → (fun r u => Q1 r u ∧ N5 S0 u ∧ X16 S0 u) (-3 : Int32) U) ∧ (¬ (fX11_fits U).toInt = 0 → (qT U 5 = 40 → (∃ Q25, wX11_finish U 5 Q25 ∧ ∀ S26, Q25 S26 → wfC S26 → shx U S26 → (qT S26 5 = 40 → (∃ Q29, wX2_unitOf S26 5 Q29 ∧ ∀ b34 S31, Q29 b34 S31 → wfC S31 → shx S26 S31 → (∀ z, b34 = some z → qT S31 z = 49) → (∃ Q35, wX12_keep S31 b34 (-3 : Int32) Q35 ∧ ∀ r36 S37, Q35 r36 S37 → wfC S37 → shy S31 S37 → (fun r u => Q1 r u ∧ N5 S0 u ∧ X16 S0 u) r36 S37))))))) := by
  obtain ⟨d, h1, h2⟩ := h
  refine ⟨d, fun c => ⟨h1 c, N5.same i.1 i.2.1, i.2.2.2⟩, fun c k => ?_⟩
  obtain ⟨Q25, p25, h25⟩ := h2 c k
  refine ⟨_, frX11_finish w p25, ?_⟩
  rintro S26 ⟨g26, f26⟩ w26 s26 k26
  obtain ⟨Q29, p29, h29⟩ := h25 S26 g26 w26 s26 k26
  refine ⟨_, frX2_unitOf w26 (bv_unitOf w26 p29), ?_⟩
  rintro b34 S31 ⟨⟨⟨g31, x31⟩, z31⟩, f31⟩ w31 s31 k31
  obtain ⟨Q35, p35, h35⟩ := h29 b34 S31 g31 w31 s31 k31
  have i26 := i.fr w f26 rfl rfl rfl rfl rfl rfl
  have i31 : qI S31 0 11 = qI S0 0 11 ∧ ∀ j, qR S31 7 j = qR S0 7 j := ⟨(f31.kI w26.k0 rfl rfl).trans i26.1, fun j => (f31.kO w26.k7 rfl rfl).trans (i26.2.1 j)⟩
  exact ⟨_, n5_keep w31 n0 i31.1 i31.2 (fun q e => ⟨(z31 q e).1, (z31 q e).2.1, Classical.byContradiction fun ne => ne ((i26.2.2.1.1 q ne).1.symm.trans (z31 q e).2.2)⟩) (i26.2.2.2.tr x31) p35, fun r36 S37 g37 w37 s37 => ⟨h35 r36 S37 g37.1 w37 s37, g37.2⟩⟩
theorem n6_L73 (n0 : 0 ≤ (qI S0 0 11).toInt) : ∀ (n : Nat) {U : MS} {v2 : Int32} {v3 : Nat} {v4 : Int32}, U5 S0 U → w_X12_improve_L73 Q1 n U v2 v3 v4 → w_X12_improve_L73 (fun r u => Q1 r u ∧ N5 S0 u ∧ X16 S0 u) n U v2 v3 v4 := by
  intro n
  induction n with
  | zero => intro U v2 v3 v4 _ h; exact h
  | succ n ih =>
    intro U v2 v3 v4 i h
    unfold w_X12_improve_L73 at h ⊢
    intro w k
    obtain ⟨h1, h2⟩ := h w k
    refine ⟨fun c => n6_fin (n0 := n0) i (h1 c) w, fun c k2 => ?_⟩
    obtain ⟨Q39, p39, h39⟩ := h2 c k2
    refine ⟨_, frX10_rowAt w p39, ?_⟩
    rintro b43 S41 ⟨g41, f41⟩ w41 s41 k41
    obtain ⟨h3, h4⟩ := h39 b43 S41 g41 w41 s41 k41
    refine ⟨fun c2 => h3 c2, fun c2 k3 => ?_⟩
    obtain ⟨Q45, p45, h45⟩ := h4 c2 k3
    refine ⟨_, frX9_makeBetter w41 p45, ?_⟩
    rintro S46 ⟨g46, f46⟩ w46 s46
    obtain ⟨Q50, p50, h50⟩ := h45 S46 g46 w46 s46
    refine ⟨_, frX11_addMethod w46 p50, ?_⟩
    rintro S51 ⟨g51, f51⟩ w51 s51 a54 e54
    exact ih (((i.fr w f41 rfl rfl rfl rfl rfl rfl).fr w41 f46 rfl rfl rfl rfl rfl rfl).fr w46 f51 rfl rfl rfl rfl rfl rfl) (h50 S51 g51 w51 s51 a54 e54)
theorem n6_improve (w : wfC S) (n0 : 0 ≤ (qI S 0 11).toInt) (h : wX12_improve S x1 x2 Q1) : wX12_improve S x1 x2 (fun r u => Q1 r u ∧ N5 S u ∧ X16 S u) := by
  unfold wX12_improve at h ⊢
  obtain ⟨Q0, p0, h0⟩ := h
  refine ⟨_, frX9_forgetApplied w p0, ?_⟩
  rintro S2 ⟨g2, f2⟩ w2 s2
  obtain ⟨Q4, p4, h4⟩ := h0 S2 g2 w2 s2
  refine ⟨_, frX12_soundUnitAt w2 p4, ?_⟩
  rintro b8 S6 ⟨g6, f6⟩ w6 s6 k6
  obtain ⟨h7, h8⟩ := h4 b8 S6 g6 w6 s6 k6
  have i0 : U5 S S := ⟨rfl, fun _ => rfl, shx.rf, X16.rf⟩
  have i6 : U5 S S6 := (i0.fr w f2 rfl rfl rfl rfl rfl rfl).fr w2 f6 rfl rfl rfl rfl rfl rfl
  have nn : N5 S S6 ∧ X16 S S6 := ⟨N5.same i6.1 i6.2.1, i6.2.2.2⟩
  refine ⟨fun c => ⟨h7 c, nn⟩, fun c => ?_⟩
  obtain ⟨h9, h10⟩ := h8 c
  refine ⟨fun c => ⟨h9 c, nn⟩, fun c => ?_⟩
  obtain ⟨h9, h11⟩ := h10 c
  refine ⟨fun c => ?_, fun c => ⟨h11 c, nn⟩⟩
  obtain ⟨h9, h10⟩ := h9 c
  refine ⟨fun c => ⟨h9 c, nn⟩, fun c => ?_⟩
  obtain ⟨h9, h10⟩ := h10 c
  refine ⟨fun c S15 e15 k15 w15 k49 => ?_, fun c => ⟨h10 c, nn⟩⟩
  obtain ⟨Q16, p16, h16⟩ := h9 c S15 e15 k15 w15 k49
  have f15 : cfr [] [(51, 12)] S6 S15 := by rw [e15]; exact cfr.oI k15 rfl
  refine ⟨_, frX11_begin w15 p16, ?_⟩
  rintro S17 ⟨g17, f17⟩ w17 s17
  obtain ⟨n, h17⟩ := h16 S17 g17 w17 s17
  exact ⟨n, n6_L73 n0 n ((i6.fr w6 f15 rfl rfl rfl rfl rfl rfl).fr w15 f17 rfl rfl rfl rfl rfl rfl) h17⟩
theorem n6_L81 (n0 : 0 ≤ (qI S0 0 11).toInt) : ∀ (n : Nat) {U : MS} {v2 : Nat} {v4 v5 : Int32}, U5 S0 U → w_X12_count_L81 Q1 n U v2 v4 v5 → w_X12_count_L81 (fun r u => Q1 r u ∧ N5 S0 u ∧ X16 S0 u) n U v2 v4 v5 := by
  intro n
  induction n with
  | zero => intro U v2 v4 v5 _ h; exact h
  | succ n ih =>
    intro U v2 v4 v5 i h
    unfold w_X12_count_L81 at h ⊢
    intro w k
    obtain ⟨h1, h2⟩ := h w k
    refine ⟨fun c => n6_fin (n0 := n0) i (h1 c) w, fun c k2 => ?_⟩
    obtain ⟨Q42, p42, h42⟩ := h2 c k2
    refine ⟨_, frX10_rowAt w p42, ?_⟩
    rintro b46 S44 ⟨g44, f44⟩ w44 s44 k44
    obtain ⟨h3, h4⟩ := h42 b46 S44 g44 w44 s44 k44
    refine ⟨fun c2 => h3 c2, fun c2 => ?_⟩
    obtain ⟨Q52, p52, h52⟩ := h4 c2
    refine ⟨_, frX3_draw w44 p52, ?_⟩
    rintro S53 ⟨g53, f53⟩ w53 s53 k53
    obtain ⟨Q56, p56, h56⟩ := h52 S53 g53 w53 s53 k53
    refine ⟨_, frX9_putCounters w53 p56, ?_⟩
    rintro S57 ⟨g57, f57⟩ w57 s57
    obtain ⟨Q60, p60, h60⟩ := h56 S57 g57 w57 s57
    refine ⟨_, frX3_reachedCount w57 p60, ?_⟩
    rintro r61 S62 ⟨g62, f62⟩ w62 s62 a65 e65
    obtain ⟨Q67, p67, h67⟩ := h60 r61 S62 g62 w62 s62 a65 e65
    refine ⟨_, frX11_addMethod w62 p67, ?_⟩
    rintro S68 ⟨g68, f68⟩ w68 s68 a71 e71
    exact ih (((((i.fr w f44 rfl rfl rfl rfl rfl rfl).fr w44 f53 rfl rfl rfl rfl rfl rfl).fr w53 f57 rfl rfl rfl rfl rfl rfl).fr w57 f62 rfl rfl rfl rfl rfl rfl).fr w62 f68 rfl rfl rfl rfl rfl rfl) (h67 S68 g68 w68 s68 a71 e71)
theorem n6_count (w : wfC S) (n0 : 0 ≤ (qI S 0 11).toInt) (h : wX12_count S x1 Q1) : wX12_count S x1 (fun r u => Q1 r u ∧ N5 S u ∧ X16 S u) := by
  unfold wX12_count at h ⊢
  obtain ⟨Q4, p4, h4⟩ := h
  refine ⟨_, frX12_soundUnitAt w p4, ?_⟩
  rintro b5 S3 ⟨g3, f3⟩ w3 s3 k3
  obtain ⟨h7, h8⟩ := h4 b5 S3 g3 w3 s3 k3
  have i0 : U5 S S := ⟨rfl, fun _ => rfl, shx.rf, X16.rf⟩
  have i3 : U5 S S3 := i0.fr w f3 rfl rfl rfl rfl rfl rfl
  have nn : N5 S S3 ∧ X16 S S3 := ⟨N5.same i3.1 i3.2.1, i3.2.2.2⟩
  refine ⟨fun c => ⟨h7 c, nn⟩, fun c => ?_⟩
  obtain ⟨h9, h10⟩ := h8 c
  refine ⟨fun c => ⟨h9 c, nn⟩, fun c => ?_⟩
  obtain ⟨h9, h11⟩ := h10 c
  refine ⟨fun c S10 e10 k10 w10 k49 => ?_, fun c => ⟨h11 c, nn⟩⟩
  obtain ⟨Q11, p11, h12⟩ := h9 c S10 e10 k10 w10 k49
  have f10 : cfr [] [(51, 12)] S3 S10 := by rw [e10]; exact cfr.oI k10 rfl
  have i10 := i3.fr w3 f10 rfl rfl rfl rfl rfl rfl
  refine ⟨_, frX12_countersOf w10 p11, ?_⟩
  rintro r12 S13 ⟨g13, f13⟩ w13 s13
  obtain ⟨h13, h14⟩ := h12 r12 S13 g13 w13 s13
  have i13 := i10.fr w10 f13 rfl rfl rfl rfl rfl rfl
  refine ⟨fun c k => ?_, fun c => ⟨h14 c, N5.same i13.1 i13.2.1, i13.2.2.2⟩⟩
  obtain ⟨Q18, p18, h18⟩ := h13 c k
  refine ⟨_, frX11_begin w13 p18, ?_⟩
  rintro S19 ⟨g19, f19⟩ w19 s19 a22 e22
  obtain ⟨n, h19⟩ := h18 S19 g19 w19 s19 a22 e22
  exact ⟨n, n6_L81 n0 n (i13.fr w13 f19 rfl rfl rfl rfl rfl rfl) h19⟩
end N6A
/-! the heights of other Rows stay -/
section HOA
variable {S S0 u v U V : MS} {p q r b0 : Nat} {x : Int32} {Q : MS → Prop} {Q1 : Int32 → MS → Prop}
def HoF (r : Nat) (S u : MS) : Prop := (∀ a, a ≠ r → qT S a = 47 → qR u a 12 = qR S a 12) ∧ ∀ b, qT S b = 104 → qI u b = qI S b
theorem HoF.of {K : List Nat} {F : List (Nat × Nat)} (f : cfr K F S u) (h1 : K.contains 47 = false) (h2 : F.contains (47, 12) = false) (h3 : K.contains 104 = false) (h4 : okO F = true) : HoF r S u := ⟨fun a _ k => f.kO k h1 h2, fun b k => funext fun j => f.kI k h3 (okO_n h4 (by decide))⟩
theorem HoF.tr (h : HoF r S u) (s : shx S u) (k : HoF r u v) : HoF r S v := ⟨fun a ne ka => (k.1 a ne (s.T ka (by decide))).trans (h.1 a ne ka), fun b kb => (k.2 b (s.T kb (by decide))).trans (h.2 b kb)⟩
/-- while the heights are kept: the array is a new one -/
def HkI (r b0 : Nat) (S U : MS) : Prop := HoF r S U ∧ shx S U ∧ qO U 16 9 = r ∧ qO U r 12 = b0 ∧ qT S b0 = 0 ∧ qT U r = 47
theorem HkI.fr {K : List Nat} {F : List (Nat × Nat)} (h : HkI r b0 S U) (w : wfC U) (f : cfr K F U V) (h1 : K.contains 47 = false) (h2 : F.contains (47, 12) = false) (h3 : K.contains 104 = false) (h4 : okO F = true) (h5 : K.contains 41 = false) (h6 : F.contains (41, 9) = false) : HkI r b0 S V := by
  obtain ⟨a, b, c, d, e, g⟩ := h
  exact ⟨a.tr b (HoF.of f h1 h2 h3 h4), b.tr f.1, (qO_eq (f.kO w.k16 h5 h6)).trans c, (qO_eq (f.kO g h1 h2)).trans d, e, f.1.T g (by decide)⟩
theorem ho_kt81 {k50 k50' : MS → Int32 → Prop} {v1 : Int32} (hk : ∀ (U : MS) (a : Int32), HkI r b0 S U → k50 U a → k50' U a) : ∀ (n : Nat) {U : MS} {v2 : Int32}, HkI r b0 S U → w_X1_keepTypes_L81 Q k50 n U v1 v2 → w_X1_keepTypes_L81 Q k50' n U v1 v2 := by
  intro n
  induction n with
  | zero => intro U v2 _ h; exact h
  | succ n ih =>
    intro U v2 i h
    unfold w_X1_keepTypes_L81 at h ⊢
    intro w
    obtain ⟨b, h1, h2⟩ := h w
    have J161 : w_X1_keepTypes_J161 Q k50 U v1 → w_X1_keepTypes_J161 Q k50' U v1 := fun hj => by
      unfold w_X1_keepTypes_J161 at hj ⊢
      exact fun w' a e => hk U a i (hj w' a e)
    have J155 : ∀ V : MS, HkI r b0 S V → w_X1_keepTypes_J155 Q (w_X1_keepTypes_L81 Q k50 n) V v1 v2 → w_X1_keepTypes_J155 Q (w_X1_keepTypes_L81 Q k50' n) V v1 v2 := fun V iV hj => by
      unfold w_X1_keepTypes_J155 at hj ⊢
      exact fun w' a e => ih iV (hj w' a e)
    refine ⟨b, fun c => J161 (h1 c), fun c => ?_⟩
    obtain ⟨h3, h4⟩ := h2 c
    refine ⟨fun c2 => J161 (h3 c2), fun c2 => ?_⟩
    obtain ⟨b2, h5⟩ := h4 c2
    refine ⟨b2, fun a55 e55 => ?_⟩
    obtain ⟨h6, h7⟩ := h5 a55 e55
    refine ⟨fun c3 => ?_, fun c3 => ?_⟩
    · obtain ⟨r1, r2, b3, b4, h8⟩ := h6 c3
      refine ⟨r1, r2, b3, b4, fun S68 e68 k68 w68 => J155 S68 (i.fr w (show cfr [408] [] U S68 by rw [e68]; exact cfr.aJ k68 rfl) rfl rfl rfl rfl rfl rfl) (h8 S68 e68 k68 w68)⟩
    · obtain ⟨r1, r2, b3, b4, h8⟩ := h7 c3
      refine ⟨r1, r2, b3, b4, fun S78 e78 k78 w78 => J155 S78 (i.fr w (show cfr [407] [] U S78 by rw [e78]; exact cfr.aJ k78 rfl) rfl rfl rfl rfl rfl rfl) (h8 S78 e78 k78 w78)⟩
theorem ho_kt50 : ∀ (n : Nat) {U : MS} {v1 : Int32}, HkI r b0 S U → w_X1_keepTypes_L50 Q n U v1 → w_X1_keepTypes_L50 (fun u => Q u ∧ HoF r S u) n U v1 := by
  intro n
  induction n with
  | zero => intro U v1 _ h; exact h
  | succ n ih =>
    intro U v1 i h
    unfold w_X1_keepTypes_L50 at h ⊢
    intro w
    obtain ⟨r9, h1, h2⟩ := h w
    refine ⟨r9, fun c => ⟨h1 c, i.1⟩, fun c => ?_⟩
    obtain ⟨r9', r12, d, b, h3⟩ := h2 c
    refine ⟨r9', r12, d, b, fun S42 e42 k42 w42 => ?_⟩
    obtain ⟨m, hm⟩ := h3 S42 e42 k42 w42
    obtain ⟨a1, a2, a3, a4, a5, a6⟩ := i
    rw [a3, a4] at e42
    have nb : ∀ b, qT S b = 104 → b ≠ b0 := fun b kb z => by rw [z, a5] at kb; cases kb
    have R : ∀ a j, qR S42 a j = qR U a j := fun a j => by rw [e42]; rfl
    have i42 : HkI r b0 S S42 := ⟨⟨fun a ne ka => (R a 12).trans (a1.1 a ne ka), fun b kb => by
      rw [← a1.2 b kb]
      funext j
      rw [e42, qI_wI, if_neg (fun z => nb b kb z.1)]⟩, a2.tr (by rw [e42]; exact shx.rf), (qO_eq (R 16 9)).trans a3, (qO_eq (R r 12)).trans a4, a5, by rw [e42]; exact a6⟩
    have mono : ∀ (m : Nat) {W : MS} {a c : Int32} {k k' : MS → Int32 → Prop}, (∀ X y, k X y → k' X y) → w_X1_keepTypes_L81 Q k m W a c → w_X1_keepTypes_L81 (fun u => Q u ∧ HoF r S u) k' m W a c := by
      intro m
      induction m with
      | zero => intro W a c k k' _ h; exact h
      | succ m ih2 =>
        intro W a c k k' hk h
        unfold w_X1_keepTypes_L81 at h ⊢
        intro ww
        obtain ⟨g0, g1, g2⟩ := h ww
        have J161 : w_X1_keepTypes_J161 Q k W a → w_X1_keepTypes_J161 (fun u => Q u ∧ HoF r S u) k' W a := fun hj => by
          unfold w_X1_keepTypes_J161 at hj ⊢
          exact fun w' y e => hk W y (hj w' y e)
        have J155 : ∀ V : MS, w_X1_keepTypes_J155 Q (w_X1_keepTypes_L81 Q k m) V a c → w_X1_keepTypes_J155 (fun u => Q u ∧ HoF r S u) (w_X1_keepTypes_L81 (fun u => Q u ∧ HoF r S u) k' m) V a c := fun V hj => by
          unfold w_X1_keepTypes_J155 at hj ⊢
          exact fun w' y e => ih2 hk (hj w' y e)
        refine ⟨g0, fun c1 => J161 (g1 c1), fun c1 => ⟨fun c2 => J161 ((g2 c1).1 c2), fun c2 => ?_⟩⟩
        obtain ⟨b2, h5⟩ := (g2 c1).2 c2
        refine ⟨b2, fun a55 e55 => ⟨fun c3 => ?_, fun c3 => ?_⟩⟩
        · obtain ⟨r1, r2, b3, b4, h8⟩ := (h5 a55 e55).1 c3
          exact ⟨r1, r2, b3, b4, fun S68 e68 k68 w68 => J155 S68 (h8 S68 e68 k68 w68)⟩
        · obtain ⟨r1, r2, b3, b4, h8⟩ := (h5 a55 e55).2 c3
          exact ⟨r1, r2, b3, b4, fun S78 e78 k78 w78 => J155 S78 (h8 S78 e78 k78 w78)⟩
    exact ⟨m, mono m (fun _ _ h => h) (ho_kt81 (r := r) (b0 := b0) (S := S) (k50' := fun X y => w_X1_keepTypes_L50 (fun u => Q u ∧ HoF r S u) n X y) (fun V a iV hV => ih iV hV) m i42 hm)⟩
theorem ho_keep (w : wfC U) (e9 : qO U 16 9 = r) (kr : qT U r = 47) (h : wX1_keepTypes U Q) : wX1_keepTypes U (fun u => Q u ∧ HoF r U u) := by
  unfold wX1_keepTypes at h ⊢
  rw [e9] at h ⊢
  obtain ⟨c9, c9', bb, h⟩ := h
  refine ⟨c9, c9', bb, fun S8 e8 w8 S10 e10 k10 w10 => ?_⟩
  have hT : qn U < TXB := KC_TX (n := qn U) (by have : KCC = 300000 := rfl; omega)
  have z0 : qT U (qn U) = 0 := w.nx hT
  have f8 : cfr [] [] U S8 := by rw [e8]; exact cfr.new w (e8 ▸ w8)
  have rn : r ≠ qn U := fun z => by rw [z, z0] at kr; cases kr
  have n10 : ∀ a j, a ≠ r → qR S10 a j = qR S8 a j := fun a j ne => by rw [e10, qR_wR, if_neg (fun z => ne z.1)]
  have r10 : ∀ j, j ≠ 12 → qR S10 r j = qR S8 r j := fun j ne => by rw [e10, qR_wR, if_neg (fun z => ne z.2)]
  have sx10 : shx U S10 := f8.1.tr (by rw [e10]; exact shx.rf)
  have n16 : (16 : Nat) ≠ r := fun z => by rw [← z, w.k16] at kr; cases kr
  have o9 : qO S10 16 9 = r := by rw [qO_eq (n10 16 9 n16), qO_eq (f8.kO w.k16 (by decide) (by decide))]; exact e9
  have o12 : qO S10 r 12 = qn U := qO_of (by rw [e10, qR_wR, if_pos ⟨rfl, rfl⟩])
  have i10 : HkI r (qn U) U S10 := ⟨⟨fun a ne ka => (n10 a 12 ne).trans (f8.kO ka (by decide) (by decide)), fun b kb => by
    have : qI S10 b = qI S8 b := by rw [e10]; rfl
    rw [this]
    exact funext fun j => f8.kI kb (by decide) (by rfl)⟩, sx10, o9, o12, z0, sx10.T kr (by decide)⟩
  obtain ⟨d9, d9', bb2, h⟩ := h S8 e8 w8 S10 e10 k10 w10
  rw [o9] at d9 d9' bb2 h ⊢
  refine ⟨d9, d9', bb2, fun S18 e18 w18 S20 e20 k20 w20 => ?_⟩
  obtain ⟨x9, x9', bb3, h⟩ := h S18 e18 w18 S20 e20 k20 w20
  have f18 : cfr [] [] S10 S18 := by rw [e18]; exact cfr.new w10 (e18 ▸ w18)
  have f20 : cfr [] [(47, 13)] S18 S20 := by rw [e20]; exact cfr.oR k20 rfl
  have i20 := (i10.fr w10 f18 rfl rfl rfl rfl rfl rfl).fr w18 f20 rfl rfl rfl rfl rfl rfl
  have p9 := i20.2.2.1
  rw [p9] at x9 x9' bb3 h ⊢
  refine ⟨x9, x9', bb3, fun S28 e28 w28 S30 e30 k30 w30 => ?_⟩
  obtain ⟨n, h⟩ := h S28 e28 w28 S30 e30 k30 w30
  have f28 : cfr [] [] S20 S28 := by rw [e28]; exact cfr.new w20 (e28 ▸ w28)
  have f30 : cfr [] [(47, 14)] S28 S30 := by rw [e30]; exact cfr.oR k30 rfl
  have i30 := (i20.fr w20 f28 rfl rfl rfl rfl rfl rfl).fr w28 f30 rfl rfl rfl rfl rfl rfl
  exact ⟨n, ho_kt50 n i30 h⟩
/-- before the heights are kept -/
def HpI (r : Nat) (S U : MS) : Prop := HoF r S U ∧ shx S U ∧ qO U 16 9 = r ∧ qT U r = 47
theorem HpI.fr {K : List Nat} {F : List (Nat × Nat)} (h : HpI r S U) (w : wfC U) (f : cfr K F U V) (h1 : K.contains 47 = false) (h2 : F.contains (47, 12) = false) (h3 : K.contains 104 = false) (h4 : okO F = true) (h5 : K.contains 41 = false) (h6 : F.contains (41, 9) = false) : HpI r S V := by
  obtain ⟨a, b, c, g⟩ := h
  exact ⟨a.tr b (HoF.of f h1 h2 h3 h4), b.tr f.1, (qO_eq (f.kO w.k16 h5 h6)).trans c, f.1.T g (by decide)⟩
theorem ho_131 : ∀ (n : Nat) {U : MS} {v3 : Int32}, HpI r S U → 0 ≤ v3.toInt → w_X1_firstFault_L131 Q1 n U v3 → w_X1_firstFault_L131 (fun z u => Q1 z u ∧ HoF r S u ∧ (z.toInt < 0 → z.toInt = -1)) n U v3 := by
  intro n
  induction n with
  | zero => intro U v3 _ _ h; exact h
  | succ n ih =>
    intro U v3 i v0 h
    unfold w_X1_firstFault_L131 at h ⊢
    intro w
    obtain ⟨e9, h1, h2⟩ := h w
    refine ⟨e9, fun c => ?_, fun c => ?_⟩
    · obtain ⟨Q28, p28, h28⟩ := h1 c
      refine ⟨_, ho_keep w i.2.2.1 i.2.2.2 p28, ?_⟩
      rintro S29 ⟨g29, f29⟩ w29 s29
      exact ⟨h28 S29 g29 w29 s29, i.1.tr i.2.1 f29, fun _ => by decide⟩
    · obtain ⟨d, h3, h4⟩ := h2 c
      refine ⟨d, fun c2 => ?_, fun c2 => ⟨h4 c2, i.1, fun y => by omega⟩⟩
      obtain ⟨Q36, p36, h36⟩ := h3 c2
      refine ⟨_, frX1_hasBadTypes w p36, ?_⟩
      rintro r37 S38 ⟨g38, f38⟩ w38 s38
      have i38 := i.fr w f38 rfl rfl rfl rfl rfl rfl
      obtain ⟨h5, h6⟩ := h36 r37 S38 g38 w38 s38
      have rb := rgI (qI U (qO U 16 9) 2)
      exact ⟨fun c3 a e => ih i38 (by rw [e, t_addk (by rw [lo_1k]; omega), lo_1k]; omega) (h5 c3 a e), fun c3 => ⟨h6 c3, i38.1, fun y => by omega⟩⟩
theorem ho_81 {Q2 : Int32 → MS → Prop} {k60 k60' : MS → Int32 → Prop} {v3 : Int32} (hk : ∀ (U : MS) (a : Int32), HpI r S U → k60 U a → k60' U a) : ∀ (n : Nat) {U : MS} {v4 : Int32}, HpI r S U → w_X1_firstFault_L81 Q1 k60 n U v3 v4 → w_X1_firstFault_L81 Q2 k60' n U v3 v4 := by
  intro n
  induction n with
  | zero => intro U v4 _ h; exact h
  | succ n ih =>
    intro U v4 i h
    unfold w_X1_firstFault_L81 at h ⊢
    intro w
    obtain ⟨e9, h1, h2⟩ := h w
    refine ⟨e9, fun c a e => hk U a i (h1 c a e), fun c => ?_⟩
    obtain ⟨b, h3, h4⟩ := h2 c
    have J : ∀ V : MS, HpI r S V → w_X1_firstFault_J117 Q1 (w_X1_firstFault_L81 Q1 k60 n) V v3 v4 → w_X1_firstFault_J117 Q2 (w_X1_firstFault_L81 Q2 k60' n) V v3 v4 := fun V iV hj => by
      unfold w_X1_firstFault_J117 at hj ⊢
      exact fun w' a e => ih iV (hj w' a e)
    refine ⟨b, fun c2 => J U i (h3 c2), fun c2 => ?_⟩
    obtain ⟨b2, h5⟩ := h4 c2
    refine ⟨b2, fun S57 e57 k57 w57 => ?_⟩
    obtain ⟨Q58, p58, h58⟩ := h5 S57 e57 k57 w57
    have i57 := i.fr w (show cfr [302] [] U S57 by rw [e57]; exact cfr.aI k57 rfl) rfl rfl rfl rfl rfl rfl
    refine ⟨_, frX1_flowFrom w57 p58, ?_⟩
    rintro S59 ⟨g59, f59⟩ w59 s59
    exact J S59 (i57.fr w57 f59 rfl rfl rfl rfl rfl rfl) (h58 S59 g59 w59 s59)
theorem ho_60 : ∀ (n : Nat) {U : MS} {v3 : Int32}, HpI r S U → w_X1_firstFault_L60 Q1 n U v3 → w_X1_firstFault_L60 (fun z u => Q1 z u ∧ HoF r S u ∧ (z.toInt < 0 → z.toInt = -1)) n U v3 := by
  intro n
  induction n with
  | zero => intro U v3 _ h; exact h
  | succ n ih =>
    intro U v3 i h
    unfold w_X1_firstFault_L60 at h ⊢
    intro w
    have J : w_X1_firstFault_J129 Q1 U → w_X1_firstFault_J129 (fun z u => Q1 z u ∧ HoF r S u ∧ (z.toInt < 0 → z.toInt = -1)) U := fun hj => by
      unfold w_X1_firstFault_J129 at hj ⊢
      intro w'
      obtain ⟨m, hm⟩ := hj w'
      exact ⟨m, ho_131 m i (by rw [li_0k]; omega) hm⟩
    obtain ⟨h1, h2⟩ := h w
    refine ⟨fun c => J (h1 c), fun c => ⟨fun c2 => J ((h2 c).1 c2), fun c2 S44 e44 k44 w44 => ?_⟩⟩
    obtain ⟨m, hm⟩ := (h2 c).2 c2 S44 e44 k44 w44
    exact ⟨m, ho_81 (fun V a iV hV => ih iV hV) m (i.fr w (show cfr [] [(41, 7)] U S44 by rw [e44]; exact cfr.oI k44 rfl) rfl rfl rfl rfl rfl rfl) hm⟩
theorem ho_firstFault (w : wfC S) (kr : qT S r = 47) (h : wX1_firstFault S p (some r) Q1) : wX1_firstFault S p (some r) (fun z u => Q1 z u ∧ HoF r S u ∧ (z.toInt < 0 → z.toInt = -1)) := by
  unfold wX1_firstFault at h ⊢
  refine ⟨fun c => (by cases c), fun c S2 e2 k2 w2 S3 e3 k3 w3 => ?_⟩
  have f2 : cfr [] [(41, 8)] S S2 := by rw [e2]; exact cfr.oR k2 rfl
  have f3 : cfr [] [(41, 9)] S2 S3 := by rw [e3]; exact cfr.oR k3 rfl
  have o9 : qO S3 16 9 = r := qO_of (by rw [e3, qR_wR, if_pos ⟨rfl, rfl⟩]; rfl)
  have sx3 : shx S S3 := f2.1.tr f3.1
  have i3 : HpI r S S3 := ⟨(HoF.of f2 rfl rfl rfl rfl).tr f2.1 (HoF.of f3 rfl rfl rfl rfl), sx3, o9, sx3.T kr (by decide)⟩
  obtain ⟨r1, r2, r3, h4⟩ := h.2 c S2 e2 k2 w2 S3 e3 k3 w3
  refine ⟨r1, r2, r3, fun t1 t2 t3 => ?_⟩
  obtain ⟨Q10, p10, h10⟩ := h4 t1 t2 t3
  refine ⟨_, frX4_seek w3 p10, ?_⟩
  rintro S11 ⟨g11, f11⟩ w11 s11
  have i11 := i3.fr w3 f11 rfl rfl rfl rfl rfl rfl
  obtain ⟨r4, Q16, p16, h16⟩ := h10 S11 g11 w11 s11
  refine ⟨r4, _, frX1_makeRoom w11 p16, ?_⟩
  rintro S17 ⟨g17, f17⟩ w17 s17
  have i17 := i11.fr w11 f17 rfl rfl rfl rfl rfl rfl
  obtain ⟨Q20, p20, h20⟩ := h16 S17 g17 w17 s17
  refine ⟨_, frX1_beginBody w17 p20, ?_⟩
  rintro S21 ⟨g21, f21⟩ w21 s21 S23 e23 k23 w23
  have i21 := i17.fr w17 f21 rfl rfl rfl rfl rfl rfl
  obtain ⟨n, h23⟩ := h20 S21 g21 w21 s21 S23 e23 k23 w23
  exact ⟨n, ho_60 n (i21.fr w21 (show cfr [] [(41, 7)] S21 S23 by rw [e23]; exact cfr.oI k23 rfl) rfl rfl rfl rfl rfl rfl) h23⟩
end HOA
/-! what was checked stays checked -/
section CJP
variable {B B' : Nat × Nat} {A S u v U V : MS} {q r p m : Nat} {x : Int32} {C : Nat → Nat → Prop} {D : Nat → Prop} {K : List Nat} {F : List (Nat × Nat)}
theorem HgS.mv {h : Int} (rc : rC S u r) (uc : uC S u q) (e10 : qI u r 10 = qI S r 10) (hx : ∀ y, fX8_heightAt u r y = fX8_heightAt S r y) (H : HgS S q r D x h) : HgS u q r D x h := by
  obtain ⟨⟨h1, h2, h3⟩, g, t, k⟩ := H
  have nd : ndW u q r x = ndW S q r x := by unfold ndW; rw [(uc.tk rc).1]
  have pg : pgV u q r x = pgV S q r x := by unfold pgV; rw [rc.op, (uc.tk rc).2]
  have lf : ∀ h, lfV u q r x h = lfV S q r x h := fun h => by unfold lfV; rw [nd, pg]
  have e9 : qI u r 9 = qI S r 9 := rc.2.1
  have e7 : qI u (qO u r 7) = qI S (qO S r 7) := by rw [rc.2.2.1.2.2, rc.2.2.2.2.2]
  refine ⟨⟨h1, by rw [nd]; exact h2, by rw [lf, e10]; exact h3⟩, fun a => ?_, fun j a b t0 t1 => ?_, fun c a b d t0 t1 => ?_⟩
  · rw [rc.op] at a
    obtain ⟨a1, a2, a3⟩ := g a
    exact ⟨by rw [rc.nE]; exact a1, a2, by rw [hx, lf]; exact a3⟩
  · rw [rc.tc] at b
    rw [rc.ta] at t0 t1 ⊢
    rw [rc.nE] at t1
    obtain ⟨b1, b2⟩ := t j a b t0 t1
    exact ⟨b1, by rw [hx, lf]; exact b2⟩
  · rw [e9] at b
    rw [rc.ch] at d
    rw [e7] at t0 t1 ⊢
    rw [rc.nE] at t1
    obtain ⟨b1, b2⟩ := k c a b d t0 t1
    exact ⟨b1, by rw [hx]; exact b2⟩
theorem ChC.mv (rc : rC S u r) (uc : uC S u q) (e10 : qI u r 10 = qI S r 10) (e11 : qI u r 11 = qI S r 11) (hx : ∀ y, fX8_heightAt u r y = fX8_heightAt S r y) (H : ChC S q r D) : ChC u q r D := by
  refine ⟨fun t => ?_, fun i hi c => ?_⟩
  · rw [rc.nE] at t
    exact ⟨(H.1 t).1, by rw [hx]; exact (H.1 t).2⟩
  · rw [rc.nE] at hi
    obtain ⟨a, b⟩ := H.2 i hi c
    refine ⟨by rw [hx]; exact a.mv rc uc e10 hx, fun y y' => ?_⟩
    rw [rc.op] at y y'
    rw [(uc.tk rc).1, e11, uc.fk.2.2]
    exact b y y'
theorem hx_eq (w : wfC S) (k : qT S r = 47) (s : shx S u) (g : qR u r 12 = qR S r 12) (i : ∀ b, qR S r 12 = some b → qI u b = qI S b) : fX8_heightAt u r x = fX8_heightAt S r x := by
  unfold fX8_heightAt
  by_cases z : qR S r 12 = none
  · rw [if_pos z, if_pos (g.trans z)]; rfl
  · obtain ⟨b, hb⟩ := Option.ne_none_iff_exists'.mp z
    have kb : qT S b = etgC 47 12 := w.ref hb k
    have o : qO S r 12 = b := qO_of hb
    have o' : qO u r 12 = b := qO_of (g.trans hb)
    have n : qN u b = qN S b := (s.1 _ (by rw [kb]; decide)).2
    rw [if_neg z, if_neg (by rw [g]; exact z), o, o', n, i b hb]
    rfl
theorem oU.uc (w : wfC S) (R : UnK S q) (k : qT S q = 49) (s : shx S u) (h : oU S u q) : uC S u q := by
  obtain ⟨a1, a2, a3, a4⟩ := h k
  have o : ∀ j, j < 14 → qO u q j = qO S q j := fun j hj => qO_eq (a1 j hj).2
  have n : ∀ (j t : Nat), qT S (qO S q j) = t → t ≠ 0 → qN u (qO S q j) = qN S (qO S q j) := fun j t e ht => (s.1 _ (by rw [e]; exact ht)).2
  exact ⟨⟨o 7 (by decide), o 11 (by decide), o 12 (by decide)⟩, a3, n 7 233 (w.ref R.1.2.2.2.1 k) (by decide), n 11 236 (w.ref R.1.2.2.2.2.2.2.1 k) (by decide), n 12 237 (w.ref R.1.2.2.2.2.2.2.2.1 k) (by decide)⟩
theorem oU.rw (k : qT S q = 49) (h : oU S u q) : qI u q 8 = qI S q 8 ∧ (∀ i, qR u (qO u q 13) i = qR S (qO S q 13) i) ∧ ∀ m, rwM u q m = rwM S q m := by
  obtain ⟨a1, a2, a3, a4⟩ := h k
  have o13 : qO u q 13 = qO S q 13 := qO_eq (a1 13 (by decide)).2
  have r : ∀ i, qR u (qO u q 13) i = qR S (qO S q 13) i := fun i => by rw [o13, a2]
  exact ⟨(a1 8 (by decide)).1, r, fun m => qO_eq (r m)⟩
theorem MdA.mv (w : wfC S) (wu : wfC u) (g : ShC B u) (M : MdA S q C) (s : shx S u) (un : UN S u q) (ho : ∀ (m r : Nat), (m : Int) < (qI S q 8).toInt → qR S (qO S q 13) m = some r → qR u r 12 = qR S r 12 ∧ ∀ b, qR S r 12 = some b → qI u b = qI S b) : MdA u q C := by
  have k := M.1.1
  have ku : qT u q = 49 := s.T k (by decide)
  obtain ⟨e8, er, em⟩ := un.2.2.2.1.rw k
  have uc := un.2.2.2.1.uc w M.1.2.1 k s
  refine ⟨⟨ku, g.unit ku, un.2.2.1.1⟩, fun m hm => ?_⟩
  obtain ⟨md, pt, _, _⟩ := un.mdr wu g ku hm
  rw [e8] at hm
  obtain ⟨mS, ch, _⟩ := M.2 m hm
  refine ⟨md, ?_, pt⟩
  have rk := (un.2.2.2.1 k).2.2.2 m _ hm mS.1
  obtain ⟨h1, h2⟩ := ho m _ hm mS.1
  rw [em]
  exact ch.mv rk.1 uc rk.2.1 rk.2.2 (fun y => hx_eq w mS.2.1 s h1 h2)
/-- a Unit that was checked without a fault -/
def QsU (S : MS) (p : Nat) : Prop := ¬ (qI S p 15).toInt = 0 → (qI S p 16).toInt < 0 → ∃ C, MdA S p C
def MqK (S : MS) : Prop := (∀ k : Nat, (k : Int) < (qI S 0 11).toInt → ∀ p, qR S 7 k = some p → QsU S p) ∧ ∀ p, qR S 44 0 = some p → ∃ k : Nat, (k : Int) < (qI S 0 11).toInt ∧ qR S 7 k = some p ∧ ¬ (qI S p 15).toInt = 0 ∧ (qI S p 16).toInt < 0
theorem MqK.st (h : MqK S) (e : qR S 44 0 = some p) : ∃ C, MdA S p C := by
  obtain ⟨k, a, b, c, d⟩ := h.2 p e
  exact h.1 k a p b c d
/-- no two Units have a Row together -/
def RdIk (S : MS) : Prop := ∀ (k k' p p' m m' r : Nat), (k : Int) < (qI S 0 11).toInt → (k' : Int) < (qI S 0 11).toInt → qR S 7 k = some p → qR S 7 k' = some p' → (m : Int) < (qI S p 8).toInt → (m' : Int) < (qI S p' 8).toInt → qR S (qO S p 13) m = some r → qR S (qO S p' 13) m' = some r → k = k'
def CJ (S : MS) : Prop := CI S S ∧ (MqK S ∧ RdIk S) ∧ ArIk S ∧ qI S 44 19 = 0
theorem UN.rb (w : wfC S) (k : qT S p = 49) (h : UN A S p) : UN S S p := ⟨h.1, h.2.1, h.2.2.1, fun _ => ⟨fun _ _ => ⟨rfl, rfl⟩, fun _ => rfl, ⟨rfl, rfl, rfl⟩, fun _ _ _ _ => rKm.rf⟩, fun z => by rw [k] at z; cases z⟩
theorem CI.rb (w : wfC S) (h : CI A S) : CI S S := by
  obtain ⟨B, h1, h2, ⟨u1, u2, u3, u4⟩, h4⟩ := h
  refine ⟨B, h1, h2, ⟨u1, fun f hf => ?_, fun p e => (u3 p e).rb w (w.ref e w.k44), shx.rf⟩, h4⟩
  obtain ⟨p, e, un⟩ := u2 f hf
  exact ⟨p, e, un.rb w (w.ref e w.k7)⟩
theorem RdIk.mv (w : wfC S) (g : ShC B S) (h : RdIk S) (us : UsI S u) (n5 : N5 S u) : RdIk u := by
  have old : ∀ (k p : Nat), (k : Int) < (qI u 0 11).toInt → qR u 7 k = some p → ((k : Int) < (qI S 0 11).toInt ∧ qR S 7 k = some p ∧ qI u p 8 = qI S p 8 ∧ (∀ i, qR u (qO u p 13) i = qR S (qO S p 13) i) ∧ ∀ (m r : Nat), (m : Int) < (qI u p 8).toInt → qR u (qO u p 13) m = some r → ¬ qT S r = 0) ∨ ((k : Int) = (qI S 0 11).toInt ∧ ∀ (m r : Nat), (m : Int) < (qI u p 8).toInt → qR u (qO u p 13) m = some r → qT S r = 0) := fun k p hk e => by
    obtain ⟨p', e', un⟩ := us.2.1 k hk
    have ep : p' = p := Option.some.inj (e'.symm.trans e)
    subst ep
    rcases n5.2 k hk with ⟨a, b⟩ | ⟨a, p2, b, c, d⟩
    · have eS : qR S 7 k = some p' := b.symm.trans e
      have kS : qT S p' = 49 := w.ref eS w.k7
      obtain ⟨e8, er, em⟩ := un.2.2.2.1.rw kS
      refine Or.inl ⟨a, eS, e8, er, fun m r hm hr z => ?_⟩
      rw [er] at hr
      have k13 : qT S (qO S p' 13) = 6 := w.ref (g.unit kS).1.2.2.2.2.2.2.2.2 kS
      have kr : qT S r = 47 := w.ref hr k13
      rw [kr] at z
      cases z
    · have ez : p2 = p' := Option.some.inj (b.symm.trans e)
      subst ez
      exact Or.inr ⟨a, fun m r hm hr => un.2.2.2.2 d m r hm hr⟩
  intro k k' p p' m m' r hk hk' e e' hm hm' hr hr'
  rcases old k p hk e with ⟨a1, a2, a3, a4, a5⟩ | ⟨a1, a2⟩
  · rcases old k' p' hk' e' with ⟨b1, b2, b3, b4, b5⟩ | ⟨b1, b2⟩
    · exact h k k' p p' m m' r a1 b1 a2 b2 (by rw [← a3]; exact hm) (by rw [← b3]; exact hm') (by rw [← a4]; exact hr) (by rw [← b4]; exact hr')
    · exact absurd (b2 m' r hm' hr') (a5 m r hm hr)
  · rcases old k' p' hk' e' with ⟨b1, b2, b3, b4, b5⟩ | ⟨b1, b2⟩
    · exact absurd (a2 m r hm hr) (b5 m' r hm' hr')
    · omega
/-- every call that does not check -/
theorem CJ.mv0 (w : wfC S) (wu : wfC u) (h : CJ S) (hu : CI S u) (n5 : N5 S u) (f : cfr K F S u) (h1 : noK [47, 49, 104] K = true) (h2 : okL [(47, 12), (49, 15)] F = true) (hA : okO F = true) (e16 : ∀ a, qT S a = 49 → qI u a 16 = qI S a 16) (hs : ∀ p, qR u 44 0 = some p → ∃ k : Nat, (k : Int) < (qI S 0 11).toInt ∧ qR S 7 k = some p ∧ ¬ (qI S p 15).toInt = 0 ∧ (qI S p 16).toInt < 0) (aru : ArIk u) (stu : qI u 44 19 = 0) : CJ u := by
  obtain ⟨⟨BS, cS⟩, ⟨⟨mq, ms⟩, rd⟩, ar, st⟩ := h
  obtain ⟨B, cu⟩ := hu
  have us := cu.2.2.1
  have g := cu.2.1.1.1
  have gS := cS.2.1.1.1
  have ho : ∀ p, qT S p = 49 → UnK S p → ∀ (m r : Nat), (m : Int) < (qI S p 8).toInt → qR S (qO S p 13) m = some r → qR u r 12 = qR S r 12 ∧ ∀ b, qR S r 12 = some b → qI u b = qI S b := fun p kp R m r hm hr => by
    have k13 : qT S (qO S p 13) = 6 := w.ref R.1.2.2.2.2.2.2.2.2 kp
    have kr : qT S r = 47 := w.ref hr k13
    refine ⟨f.kO kr (noK_n h1 (by decide)) (okL_n h2 (by decide)), fun b hb => funext fun j => ?_⟩
    have kb : qT S b = 104 := w.ref hb kr
    exact f.kI kb (noK_n h1 (by decide)) (okO_n hA (by decide))
  refine ⟨CI.rb wu ⟨B, cu⟩, ⟨⟨fun k hk p e n15 n16 => ?_, fun p e => ?_⟩, rd.mv w gS us n5⟩, aru, stu⟩
  · obtain ⟨p', e', un⟩ := us.2.1 k hk
    have ep : p' = p := Option.some.inj (e'.symm.trans e)
    subst ep
    rcases n5.2 k hk with ⟨a, b⟩ | ⟨a, p2, b, c, d⟩
    · have eS : qR S 7 k = some p' := b.symm.trans e
      have kS : qT S p' = 49 := w.ref eS w.k7
      rw [f.kI kS (noK_n h1 (by decide)) (okL_n h2 (by decide))] at n15
      rw [e16 p' kS] at n16
      obtain ⟨C, M⟩ := mq k a p' eS n15 n16
      exact ⟨C, M.mv w wu g f.1 un (ho p' kS (gS.unit kS))⟩
    · have ez : p2 = p' := Option.some.inj (b.symm.trans e)
      subst ez
      rw [c] at n15
      exact absurd rfl n15
  · obtain ⟨k, a, b, c, d⟩ := hs p e
    have kS : qT S p = 49 := w.ref b w.k7
    refine ⟨k, by have := n5.1; omega, ?_, by rw [f.kI kS (noK_n h1 (by decide)) (okL_n h2 (by decide))]; exact c, by rw [e16 p kS]; exact d⟩
    rcases n5.2 k (by have := n5.1; omega) with ⟨_, y⟩ | ⟨y, _⟩
    · exact y.trans b
    · omega
/-- every call that does not check, run, stage or ask an element -/
theorem CJ.mv (w : wfC S) (wu : wfC u) (h : CJ S) (hu : CI S u) (n5 : N5 S u) (f : cfr K F S u) (h1 : noK [47, 49, 45, 104, 216] K = true) (h2 : okL [(47, 12), (49, 15), (49, 16), (45, 0), (45, 2), (45, 3), (45, 4), (45, 5), (45, 19)] F = true) (hA : okO F = true) : CJ u := by
  have e0 : qR u 44 0 = qR S 44 0 := f.kO w.k44 (noK_n h1 (by decide)) (okL_n h2 (by decide))
  exact h.mv0 w wu hu n5 f (noK_mo h1 (by decide)) (okL_mo h2 (by decide)) hA (fun a ka => f.kI ka (noK_n h1 (by decide)) (okL_n h2 (by decide))) (fun p e => h.2.1.1.2 p (e0.symm.trans e)) (h.2.2.1.mv w f (noK_n h1 (by decide)) (noK_n h1 (by decide)) (okL_mo h2 (by decide)) hA) ((f.kI w.k44 (noK_n h1 (by decide)) (okL_n h2 (by decide))).trans h.2.2.2)
end CJP
/-! verify: what it finds -/
def KvV : List Nat := [102, 103, 104, 213, 214, 301, 302, 304, 407, 408]
def FvV : List (Nat × Nat) := [(41, 1), (41, 2), (41, 3), (41, 5), (41, 6), (41, 7), (41, 8), (41, 9), (44, 0), (44, 1), (44, 2), (44, 3), (44, 4), (44, 5), (44, 6), (44, 7), (47, 12), (47, 13), (47, 14), (49, 16), (49, 17)]
def FvE : List (Nat × Nat) := [(41, 1), (41, 2), (41, 3), (41, 5), (41, 6), (41, 7), (41, 8), (41, 9), (44, 0), (44, 1), (44, 2), (44, 3), (44, 4), (44, 5), (44, 6), (44, 7), (47, 12), (47, 13), (47, 14), (49, 15), (49, 16), (49, 17), (51, 15), (51, 16)]
def VqH (S0 : MS) (p : Nat) (U : MS) : Prop := (∀ a, qT S0 a = 47 → (∀ j : Nat, (j : Int) < (qI S0 p 8).toInt → a ≠ rwM S0 p j) → qR U a 12 = qR S0 a 12) ∧ (∀ b, qT S0 b = 104 → qI U b = qI S0 b) ∧ ∀ a, qT S0 a = 49 → a ≠ p → qI U a 16 = qI S0 a 16
def VqI (S0 : MS) (p m : Nat) (U : MS) : Prop := cfr KvV FvV S0 U ∧ VqH S0 p U ∧ ((qI U p 16).toInt < 0 → ∀ j : Nat, j < m → ∃ D, ChC U p (rwM S0 p j) D)
def VqE (S0 : MS) (p : Nat) (u : MS) : Prop := cfr KvV FvE S0 u ∧ VqH S0 p u ∧ ((∀ a, qT S0 a = 49 → a ≠ p → qI u a 15 = qI S0 a 15) ∧ qI u p 15 = 1 ∧ (¬ (qI S0 p 15).toInt = 0 → qI u p 16 = qI S0 p 16)) ∧ ((qI u p 16).toInt < 0 → ∀ j : Nat, (j : Int) < (qI S0 p 8).toInt → ∃ D, ChC u p (rwM S0 p j) D)
section VQA
variable {B B' : Nat × Nat} {A S S0 u v U V : MS} {a q r p m : Nat} {x x1 : Int32} {C : Nat → Nat → Prop} {D : Nat → Prop} {K : List Nat} {F : List (Nat × Nat)} {Q : Int32 → MS → Prop}
theorem uC.fg (w : wfC S) (k : qT S q = 49) (R : UnK S q) (f : cfr K F S u) (hK : noK [49, 233, 236, 237] K = true) (hF : okL [(49, 7), (49, 11), (49, 12)] F = true) (hA : okO F = true) : uC S u q := by
  have o7 : qO u q 7 = qO S q 7 := qO_eq (f.kO k (noK_n hK (by decide)) (okL_n hF (by decide)))
  have o11 : qO u q 11 = qO S q 11 := qO_eq (f.kO k (noK_n hK (by decide)) (okL_n hF (by decide)))
  have o12 : qO u q 12 = qO S q 12 := qO_eq (f.kO k (noK_n hK (by decide)) (okL_n hF (by decide)))
  have k7 : qT S (qO S q 7) = 233 := w.ref R.1.2.2.2.1 k
  have k11 : qT S (qO S q 11) = 236 := w.ref R.1.2.2.2.2.2.2.1 k
  have k12 : qT S (qO S q 12) = 237 := w.ref R.1.2.2.2.2.2.2.2.1 k
  exact ⟨⟨o7, o11, o12⟩, ⟨funext fun j => f.kI k7 (noK_n hK (by decide)) (okO_n hA (by decide)), funext fun j => f.kI k11 (noK_n hK (by decide)) (okO_n hA (by decide)), funext fun j => f.kI k12 (noK_n hK (by decide)) (okO_n hA (by decide))⟩, (f.1.1 _ (by rw [k7]; decide)).2, (f.1.1 _ (by rw [k11]; decide)).2, (f.1.1 _ (by rw [k12]; decide)).2⟩
/-- a Row's promise, along what checking touches -/
theorem ChC.vf (w : wfC U) (g : ShC B U) (kp : qT U p = 49) (kr : qT U r = 47) (f : cfr KvV FvE U V) (h1 : qR V r 12 = qR U r 12) (h2 : ∀ b, qT U b = 104 → qI V b = qI U b) (H : ChC U p r D) : ChC V p r D :=
  H.mv (rC.fr w kr (g.row kr) f rfl rfl rfl rfl rfl) (uC.fg w kp (g.unit kp) f rfl rfl rfl) (f.kI kr rfl rfl) (f.kI kr rfl rfl) (fun y => hx_eq w kr f.1 h1 (fun b hb => h2 b (w.ref hb kr)))
theorem vq_J85 (w0 : wfC U) (kp0 : qT S0 p = 49) (rs : RsI S0 B U) (kp : qT U p = 49) (bd : BgI B (wI U p 15 1)) (f : cfr KvV FvV S0 U) (hh : VqH S0 p U) (hr : ∀ j : Nat, (j : Int) < (qI S0 p 8).toInt → qT U (rwM S0 p j) = 47) (hd : (qI U p 16).toInt < 0 → ∀ j : Nat, (j : Int) < (qI S0 p 8).toInt → ∃ D, ChC U p (rwM S0 p j) D) (h16 : ¬ (qI S0 p 15).toInt = 0 → qI U p 16 = qI S0 p 16) (hQ : ∀ r u, wfC u → CI S0 u → VqE S0 p u → Q r u) : w_X12_verify_J85 Q U p := by
  unfold w_X12_verify_J85
  intro w k S10 e10 k10 w10 S11 e11 k11 w11 S12 e12 k12 w12
  have f10 : cfr [] [(49, 15)] U S10 := by rw [e10]; exact cfr.oI k10 rfl
  have t10 := rs.fr w (ShC.ws w rs.g f10 (by rw [e10]; rfl) (by rw [e10]; rfl) (by rw [e10]; rfl) rfl rfl) f10 rfl rfl rfl rfl rfl
  have h10 : CIB S0 B S10 := ⟨by rw [e10]; exact bd, t10.1⟩
  obtain ⟨t11, b1, b2, b3⟩ := h10.rs.w51 w10 (Or.inr (Or.inr (Or.inl rfl))) e11
  have h11 : CIB S0 B S11 := h10.mv w10 t11 b1 b2 b3
  obtain ⟨t12, c1, c2, c3⟩ := h11.rs.w51 w11 (Or.inr (Or.inr (Or.inr (Or.inl rfl)))) e12
  have h12 : CIB S0 B S12 := h11.mv w11 t12 c1 c2 c3
  have f11 : cfr [] [(51, 15)] S10 S11 := by rw [e11]; exact cfr.oI k11 rfl
  have f12 : cfr [] [(51, 16)] S11 S12 := by rw [e12]; exact cfr.oI k12 rfl
  have G : cfr [] [(49, 15), (51, 15), (51, 16)] U S12 := ((f10.mo rfl rfl).tr (f11.mo rfl rfl)).tr (f12.mo rfl rfl)
  have i15 : ∀ a, qT S0 a = 49 → a ≠ p → qI S12 a 15 = qI S0 a 15 := fun a ka ne => by
    have kU : qT U a = 49 := f.1.T ka (by decide)
    have k10' : qT S10 a = 49 := f10.1.T kU (by decide)
    rw [f12.kI (f11.1.T k10' (by decide)) rfl rfl, f11.kI k10' rfl rfl, e10, qI_wI, if_neg (fun z => ne z.1)]
    exact f.kI ka rfl rfl
  have v : VqE S0 p S12 := by
    obtain ⟨q1, q2, q3⟩ := hh
    refine ⟨(f.mo rfl rfl).tr (G.mo rfl rfl), ⟨fun a ka ne => ?_, fun b kb => ?_, fun a ka ne => ?_⟩, ⟨i15, ?_, fun z => ?_⟩, fun z j hj => ?_⟩
    · rw [G.kO (f.1.T ka (by decide)) rfl rfl]; exact q1 a ka ne
    · rw [← q2 b kb]; exact funext fun j => G.kI (f.1.T kb (by decide)) rfl rfl
    · rw [G.kI (f.1.T ka (by decide)) rfl rfl]; exact q3 a ka ne
    · rw [f12.kI (f11.1.T (f10.1.T kp (by decide)) (by decide)) rfl rfl, f11.kI (f10.1.T kp (by decide)) rfl rfl, e10, qI_wI, if_pos ⟨rfl, rfl⟩]
    · rw [G.kI kp rfl rfl]; exact h16 z
    · rw [G.kI kp rfl rfl] at z
      obtain ⟨D, H⟩ := hd z j hj
      exact ⟨D, H.vf w rs.g kp (hr j hj) (G.mo rfl rfl) (G.kO (hr j hj) rfl rfl) (fun b kb => funext fun j => G.kI kb rfl rfl)⟩
  exact ⟨fun _ => hQ _ _ w12 ⟨B, h12⟩ v, fun _ => hQ _ _ w12 ⟨B, h12⟩ v⟩
theorem vq_L24 (w00 : wfC S0) (kp0 : qT S0 p = 49) (hQ : ∀ r u, wfC u → CI S0 u → VqE S0 p u → Q r u) : ∀ (n : Nat) {U : MS} {v3 : Int32} (t : Nat), VfJ S0 B p a t U → VqI S0 p t U → v3.toInt = (t : Int) → t ≤ 24 → 2147483648 - v3.toInt < n → w_X12_verify_L24 Q n U p v3 := by
  intro n
  induction n with
  | zero => intro U v3 t _ _ _ _ hm; have := rgI v3; omega
  | succ n ih =>
    intro U v3 t h vq h3 ht hm
    unfold w_X12_verify_L24
    intro w kp
    have h' := h
    obtain ⟨rs, bd, ⟨_, e, ha, un⟩, z⟩ := h
    obtain ⟨f0, hh, hd⟩ := vq
    have g := rs.g
    have uk := g.unit kp
    have u2 := uk.2
    obtain ⟨e8, er, em⟩ := un.2.2.2.1.rw kp0
    have kj : ∀ j : Nat, (j : Int) < (qI S0 p 8).toInt → qT U (rwM S0 p j) = 47 := fun j hj => by
      have := (un.mdr w g kp (m := j) (by rw [e8]; exact hj)).1.2.1
      rw [em] at this
      exact this
    have J : ((qI U p 16).toInt < 0 → ∀ j : Nat, (j : Int) < (qI S0 p 8).toInt → ∃ D, ChC U p (rwM S0 p j) D) → w_X12_verify_J85 Q U p := fun hd' => vq_J85 w kp0 rs kp (h'.bd ht) f0 hh kj hd' (fun y => absurd (show (qI S0 p 15).toInt = 0 by rw [← f0.kI kp0 rfl rfl]; exact z) y) hQ
    refine ⟨fun _ => ⟨fun c => J (fun y => by omega), fun c16 => ⟨fun c8 => J (fun y j hj => hd y j (by rw [e8] at c8; omega)), fun c8 _ => ?_⟩⟩, fun c => absurd z c⟩
    have hm8 : (t : Int) < (qI U p 8).toInt := by omega
    obtain ⟨md, pt, rv, erow⟩ := un.mdr w g kp hm8
    have kr := md.2.1
    refine ⟨_, ct_mrow w kp uk (x := v3) (by omega) (by rw [show v3.toInt.toNat = t by omega]; exact erow) (ci_rowU w g kp un), fun b21 S19 q19 w19 s19 k19 => ?_⟩
    obtain ⟨⟨_, hb⟩, eb, e19⟩ := q19
    subst e19
    subst eb
    intro _
    have rm := h'.rm (by omega)
    have P0 := sgX1_firstFault (B := (B.1 + 3600 * t, B.2 + 192 * t)) (p2 := some (rwM S19 p t)) ⟨by show B.1 + 3600 * t ≤ B.1 + 3600 * t + 3600; omega, by show B.1 + 3600 * t + 3600 ≤ KSC; omega, by show B.2 + 192 * t ≤ B.2 + 192 * t + 192; omega, by show B.2 + 192 * t + 192 ≤ 64 * KCC; omega⟩ w g kp (fun y ey => k19 y ey) (fun y ey => (hb y ey).2.2.1.1.2.2)
    have P1 := ct_firstFault w g.dn ⟨w.lt kr (by decide) (by decide) (by decide), w.lt w.k17 (by decide) (by decide) (by decide)⟩ kp kr (g.hts w.k17) (g.row kr) uk (by have := pt.1; omega) (fun y => tc_few (g.row kr) rv) P0
    refine ⟨_, frX1_firstFault w (ho_firstFault w kr P1), fun r23 S24 q24 w24 s24 S27 e27 k27 w27 => ?_⟩
    obtain ⟨⟨⟨⟨g24, _⟩, c24⟩, ho24, z24⟩, f24⟩ := q24
    have eB : ((B.1 + 3600 * t, B.2 + 192 * t).1 + 3600, (B.1 + 3600 * t, B.2 + 192 * t).2 + 192) = (B.1 + 3600 * (t + 1), B.2 + 192 * (t + 1)) := Prod.ext (by show B.1 + 3600 * t + 3600 = B.1 + 3600 * (t + 1); omega) (by show B.2 + 192 * t + 192 = B.2 + 192 * (t + 1); omega)
    rw [eB] at g24
    have t24 := rs.fr w g24 f24 rfl rfl rfl rfl rfl
    have f27 : cfr [] [(49, 16), (49, 17)] S24 S27 := by rw [e27]; exact cfr.oI k27 rfl
    have g27 : ShC (B.1 + 3600 * (t + 1), B.2 + 192 * (t + 1)) S27 := ShC.ws w24 g24 f27 (by rw [e27]; rfl) (by rw [e27]; rfl) (by rw [e27]; rfl) rfl rfl
    have t27 := t24.1.fr w24 g27 f27 rfl rfl rfl rfl rfl
    have i17 : qI S27 p 17 = r23 := by rw [e27, qI_wI, if_pos ⟨rfl, rfl⟩]
    have K76 : ∀ y : Int32, (y.toInt < 0 → r23.toInt = -1) → w_X12_verify_J76 Q (w_X12_verify_L24 Q n) S27 y p p v3 := fun y hy => by
      unfold w_X12_verify_J76
      intro _ _ _ S28 e28 k28 w28 a29 e29
      have ei := t_inc e29 (by omega)
      have f28 : cfr [] [(49, 16), (49, 17)] S27 S28 := by rw [e28]; exact cfr.oI k28 rfl
      have g28 : ShC (B.1 + 3600 * (t + 1), B.2 + 192 * (t + 1)) S28 := ShC.ws w27 g27 f28 (by rw [e28]; rfl) (by rw [e28]; rfl) (by rw [e28]; rfl) rfl rfl
      have t28 := t27.1.fr w27 g28 f28 rfl rfl rfl rfl rfl
      have m := (t24.2.tr t27.2).tr t28.2
      have i11 : qI S28 0 11 = qI S19 0 11 := by rw [f28.kI w27.k0 rfl rfl, f27.kI w24.k0 rfl rfl, f24.kI w.k0 rfl rfl]
      have r7 : ∀ j, qR S28 7 j = qR S19 7 j := fun j => by rw [f28.kO w27.k7 rfl rfl, f27.kO w24.k7 rfl rfl, f24.kO w.k7 rfl rfl]
      have i15 : ∀ d, qT S19 d = 49 → qI S28 d 15 = qI S19 d 15 := fun d kd => by
        have k24 := f24.1.T kd (by decide)
        rw [f28.kI (f27.1.T k24 (by decide)) rfl rfl, f27.kI k24 rfl rfl, f24.kI kd rfl rfl]
      have g2 : cfr [] [(49, 16), (49, 17)] S24 S28 := f27.tr f28
      have fU : cfr KvV FvV S19 S28 := (f24.mo rfl rfl).tr (g2.mo rfl rfl)
      have kp24 : qT S24 p = 49 := f24.1.T kp (by decide)
      have i16 : qI S28 p 16 = y := by rw [e28, qI_wI, if_pos ⟨rfl, rfl⟩]
      refine ih (t + 1) ⟨t28.1, bd.eq i11 (rs.2.1.e15 w r7 i15), ⟨m.1.T kp (by decide), by rw [r7]; exact e, by rw [i11]; exact ha, un.mv w g kp m⟩, by rw [i15 p kp]; exact z⟩ ⟨f0.tr fU, ⟨fun a ka ne => ?_, fun b kb => ?_, fun a ka ne => ?_⟩, fun yn j hj => ?_⟩ (by omega) (by omega) (by omega)
      · have kU : qT S19 a = 47 := f0.1.T ka (by decide)
        rw [g2.kO (f24.1.T kU (by decide)) rfl rfl, ho24.1 a (by rw [em]; exact ne t (by rw [← e8]; exact hm8)) kU]
        exact hh.1 a ka ne
      · have kU : qT S19 b = 104 := f0.1.T kb (by decide)
        rw [← hh.2.1 b kb, ← ho24.2 b kU]
        exact funext fun j => g2.kI (f24.1.T kU (by decide)) rfl rfl
      · have kU : qT S19 a = 49 := f0.1.T ka (by decide)
        rw [e28, qI_wI, if_neg (fun z => ne z.1), e27, qI_wI, if_neg (fun z => ne z.1), f24.kI kU rfl rfl]
        exact hh.2.2 a ka ne
      · rw [i16] at yn
        by_cases ej : j = t
        · obtain ⟨D0, d1, d2, d3, d4⟩ := c24 (hy yn)
          have l10 : qI S24 (rwM S19 p t) 10 = qI S19 (rwM S19 p t) 10 := f24.kI kr rfl rfl
          obtain ⟨D, H⟩ := ChC.of d1 d2 d3 d4 (by rw [l10]) (by have := pt.1; omega)
          refine ⟨D, ?_⟩
          rw [ej, ← em]
          exact H.vf w24 g24 kp24 (f24.1.T kr (by decide)) (g2.mo rfl rfl) (g2.kO (f24.1.T kr (by decide)) rfl rfl) (fun b kb => funext fun j => g2.kI kb rfl rfl)
        · have j8 : (j : Int) < (qI S19 p 8).toInt := by omega
          obtain ⟨D, H⟩ := hd (by omega) j (by omega)
          have mj := (un.mdr w g kp j8).1
          have krj : qT S19 (rwM S0 p j) = 47 := kj j (by rw [← e8]; exact j8)
          have ne : rwM S0 p j ≠ rwM S19 p t := fun q => by
            have a := mj.2.2.2.2
            rw [em, q, md.2.2.2.2] at a
            omega
          refine ⟨D, H.vf w g kp krj (fU.mo rfl rfl) ?_ (fun b kb => ?_)⟩
          · rw [g2.kO (f24.1.T krj (by decide)) rfl rfl, ho24.1 _ ne krj]
          · rw [← ho24.2 b kb]
            exact funext fun j => g2.kI (f24.1.T kb (by decide)) rfl rfl
    have l1 : (-1 : Int32).toInt = -1 := by decide
    exact ⟨fun c => K76 _ (fun y => by omega), fun c => K76 _ (fun _ => z24 (by rw [i17] at c; omega))⟩
end VQA
/-! verify, between two calls -/
section CVA
variable {B B' : Nat × Nat} {A S S0 u v U V : MS} {a q r p m : Nat} {x x1 : Int32} {Q : Int32 → MS → Prop}
theorem VqE.cj (w : wfC S0) (wu : wfC u) (h : CJ S0) (hp : ∃ k : Nat, (k : Int) < (qI S0 0 11).toInt ∧ qR S0 7 k = some p) (hu : CI S0 u) (v : VqE S0 p u) : CJ u := by
  obtain ⟨⟨BS, cS⟩, ⟨⟨mq, ms⟩, rd⟩, ar, st⟩ := h
  obtain ⟨B, cu⟩ := hu
  have us := cu.2.2.1
  have g := cu.2.1.1.1
  have gS := cS.2.1.1.1
  obtain ⟨f, ⟨v1, v2, v3⟩, ⟨v4, v4', v4''⟩, v5⟩ := v
  obtain ⟨k0, hk0, ep⟩ := hp
  have kp : qT S0 p = 49 := w.ref ep w.k7
  have e11 : qI u 0 11 = qI S0 0 11 := f.kI w.k0 rfl rfl
  have e7 : ∀ j, qR u 7 j = qR S0 7 j := fun j => f.kO w.k7 rfl rfl
  have e0 : qR u 44 0 = qR S0 44 0 := f.kO w.k44 rfl rfl
  have n5 : N5 S0 u := N5.same e11 e7
  have row : ∀ q, qT S0 q = 49 → ∀ (m r : Nat), (m : Int) < (qI S0 q 8).toInt → qR S0 (qO S0 q 13) m = some r → qT S0 r = 47 := fun q kq m r _ hr => w.ref hr (w.ref (gS.unit kq).1.2.2.2.2.2.2.2.2 kq : qT S0 (qO S0 q 13) = 6)
  have unp : UN S0 u p := by
    obtain ⟨p', e', un⟩ := us.2.1 k0 (by rw [e11]; exact hk0)
    rw [e7, ep] at e'
    have : p = p' := Option.some.inj e'
    rw [this]
    exact un
  have unS : UN S0 S0 p := by
    obtain ⟨p', e', un⟩ := cS.2.2.1.2.1 k0 hk0
    rw [ep] at e'
    have : p = p' := Option.some.inj e'
    rw [this]
    exact un
  -- a Unit with no Row of p's
  have other : ∀ q, qT S0 q = 49 → UN S0 u q → (∀ (m j r : Nat), (m : Int) < (qI S0 q 8).toInt → (j : Int) < (qI S0 p 8).toInt → qR S0 (qO S0 q 13) m = some r → qR S0 (qO S0 p 13) j = some r → False) → (∃ C, MdA S0 q C) → ∃ C, MdA u q C := fun q kq un nd hC => by
    obtain ⟨C, M⟩ := hC
    refine ⟨C, M.mv w wu g f.1 un (fun m r hm hr => ⟨v1 r (row q kq m r hm hr) (fun j hj z => ?_), fun b hb => v2 b (w.ref hb (row q kq m r hm hr))⟩)⟩
    obtain ⟨_, _, _, er⟩ := unS.mdr w gS kp hj
    exact nd m j r hm hj hr (by rw [z]; exact er)
  have self : (qI u p 16).toInt < 0 → ∃ C, MdA u p C := fun z => by
    have z5 := v5 z
    have ku : qT u p = 49 := f.1.T kp (by decide)
    obtain ⟨e8, er, em⟩ := unp.2.2.2.1.rw kp
    let C : Nat → Nat → Prop := fun j => if hj : (j : Int) < (qI S0 p 8).toInt then Classical.choose (z5 j hj) else fun _ => True
    refine ⟨C, ⟨ku, g.unit ku, unp.2.2.1.1⟩, fun j hj => ?_⟩
    obtain ⟨md, pt, _, _⟩ := unp.mdr wu g ku hj
    rw [e8] at hj
    refine ⟨md, ?_, pt⟩
    rw [em]
    have cc : C j = Classical.choose (z5 j hj) := by
      show (if hj : (j : Int) < (qI S0 p 8).toInt then Classical.choose (z5 j hj) else fun _ => True) = _
      rw [dif_pos hj]
    rw [cc]
    exact Classical.choose_spec (z5 j hj)
  have pk : ∀ (k : Nat) (q : Nat), (k : Int) < (qI S0 0 11).toInt → qR S0 7 k = some q → q ≠ p → ∀ (m j r : Nat), (m : Int) < (qI S0 q 8).toInt → (j : Int) < (qI S0 p 8).toInt → qR S0 (qO S0 q 13) m = some r → qR S0 (qO S0 p 13) j = some r → False := fun k q hk eq ne m j r hm hj hr hr' => by
    have := rd k k0 q p m j r hk hk0 eq ep hm hj hr hr'
    rw [this, ep] at eq
    exact ne (Option.some.inj eq).symm
  refine ⟨CI.rb wu ⟨B, cu⟩, ⟨⟨fun k hk q eq n15 n16 => ?_, fun q eq => ?_⟩, rd.mv w gS us n5⟩, ar.mv w f rfl rfl rfl rfl, (f.kI w.k44 rfl rfl).trans st⟩
  · by_cases z : q = p
    · rw [z] at n16 ⊢
      exact self n16
    · obtain ⟨q', e', un⟩ := us.2.1 k hk
      have : q' = q := Option.some.inj (e'.symm.trans eq)
      subst this
      rw [e11] at hk
      rw [e7] at eq
      have kq : qT S0 q' = 49 := w.ref eq w.k7
      rw [v4 q' kq z] at n15
      rw [v3 q' kq z] at n16
      exact other q' kq un (pk k q' hk eq z) (mq k hk q' eq n15 n16)
  · rw [e0] at eq
    obtain ⟨k, b1, b2, b3, b4⟩ := ms q eq
    refine ⟨k, by rw [e11]; exact b1, (e7 k).trans b2, ?_, ?_⟩
    · by_cases z : q = p
      · rw [z, v4']; decide
      · rw [v4 q (w.ref b2 w.k7) z]; exact b3
    · by_cases z : q = p
      · rw [z] at b3 b4 ⊢
        rw [v4'' b3]; exact b4
      · rw [v3 q (w.ref b2 w.k7) z]; exact b4
/-- what a call leaves, when it is given a state that is one -/
theorem cj_verify (w : wfC S) (h : CJ S) : wX12_verify S x1 (fun _ u => wfC u → CJ u) := by
  have h0 := h
  obtain ⟨⟨B, hc⟩, _⟩ := h
  unfold wX12_verify
  intro S1 e1 k1 w1 S2 e2 k2 w2
  obtain ⟨t1, b1, b2, b3⟩ := hc.rs.w51 w (Or.inr (Or.inr (Or.inl rfl))) e1
  have h1 : CIB S B S1 := hc.mv w t1 b1 b2 b3
  obtain ⟨t2, c1, c2, c3⟩ := h1.rs.w51 w1 (Or.inr (Or.inr (Or.inr (Or.inl rfl)))) e2
  have h2 : CIB S B S2 := h1.mv w1 t2 c1 c2 c3
  have f1 : cfr [] [(51, 15)] S S1 := by rw [e1]; exact cfr.oI k1 rfl
  have f2 : cfr [] [(51, 16)] S1 S2 := by rw [e2]; exact cfr.oI k2 rfl
  have F : cfr [] [(51, 15), (51, 16)] S S2 := (f1.mo rfl rfl).tr (f2.mo rfl rfl)
  have J2 : CJ S2 := h0.mv w w2 ⟨B, h2⟩ (N5.same (F.kI w.k0 rfl rfl) (fun j => F.kO w.k7 rfl rfl)) F rfl rfl rfl
  obtain ⟨⟨B2, c2'⟩, _⟩ := id J2
  refine ⟨_, ci_unitAt w2 c2', fun b7 S5 q5 w5 s5 k5 => ?_⟩
  obtain ⟨e5, hb⟩ := q5
  subst e5
  rcases b7 with _ | p
  · exact ⟨fun _ _ => J2, fun c => absurd rfl c⟩
  obtain ⟨⟨x0, x9⟩, e7, un, kp⟩ := hb p rfl
  refine ⟨fun c => (by cases c), fun _ => ?_⟩
  have hp : ∃ k : Nat, (k : Int) < (qI S5 0 11).toInt ∧ qR S5 7 k = some p := ⟨x1.toInt.toNat, by omega, e7⟩
  have hQ : ∀ (r : Int32) (u : MS), wfC u → CI S5 u → VqE S5 p u → (fun (_ : Int32) (u : MS) => wfC u → CJ u) r u := fun r u wu hu v _ => v.cj w2 wu J2 hp hu
  have VI : VqH S5 p S5 := ⟨fun _ _ _ => rfl, fun _ _ => rfl, fun _ _ _ => rfl⟩
  show ∃ n, w_X12_verify_L24 (fun _ u => wfC u → CJ u) n S5 p 0
  by_cases z : (qI S5 p 15).toInt = 0
  · exact ⟨2147483649, vq_L24 (a := x1.toInt.toNat) w2 kp hQ _ 0 ⟨c2'.rs, c2'.1, ⟨kp, e7, by omega, un⟩, z⟩ ⟨cfr.rf, VI, fun _ j hj => by omega⟩ rfl (by decide) (by rw [li_0k]; decide)⟩
  · refine ⟨1, ?_⟩
    have bd : BgI B2 (wI S5 p 15 1) := by
      have l1 : (1 : Int32).toInt = 1 := rfl
      refine c2'.1.eq (by rw [qI_wI, if_neg (fun w => absurd w.2 (by decide))]) (fun k hk => ?_)
      show (qI (wI S5 p 15 1) (qO S5 7 k) 15).toInt = _
      rw [qI_wI]
      by_cases y : qO S5 7 k = p
      · rw [if_pos ⟨y, rfl⟩, y, l1]
        rcases w5.bit (j := 15) kp rfl with d | d
        · rw [d] at z; exact absurd rfl z
        · rw [d]; rfl
      · rw [if_neg (fun w => y w.1)]
    have g := c2'.g
    have J := vq_J85 (Q := fun _ u => wfC u → CJ u) w5 kp c2'.rs kp bd cfr.rf VI (fun j hj => (un.mdr w5 g kp hj).1.2.1) (fun y j hj => by
      obtain ⟨k, hk, ek⟩ := hp
      obtain ⟨C, M⟩ := J2.2.1.1.1 k hk p ek z y
      exact ⟨C j, (M.2 j hj).2.1⟩) (fun _ => rfl) hQ
    unfold w_X12_verify_L24
    exact fun _ _ => ⟨fun c => absurd c z, fun _ => J⟩
end CVA
/-! run, stage, an element -/
section CRA
variable {B B' : Nat × Nat} {A S S0 u v U V : MS} {a q r p m : Nat} {x x1 x2 : Int32} {Q : Int32 → MS → Prop} {Qo : Option Nat → MS → Prop}
def RnY (u : MS) : Prop := qI u 44 19 = 0 ∧ ArIk u
theorem rn_Y24 (h : RnY U) (hj : w_X12_run_J24 Q U x) : w_X12_run_J24 (fun r u => Q r u ∧ RnY u) U x := by
  unfold w_X12_run_J24 at hj ⊢
  intro w S5 e5 k5 w5
  have f : cfr [] [(45, 7)] U S5 := by rw [e5]; exact cfr.oI k5 rfl
  exact ⟨hj w S5 e5 k5 w5, (f.kI w.k44 rfl rfl).trans h.1, h.2.mv w f rfl rfl rfl rfl⟩
theorem rn_run (w : wfC S) (h : CJ S) : wX12_run S x1 x2 (fun _ u => (CI S u ∧ qI u 44 7 = 0) ∧ RnY u) := by
  obtain ⟨⟨B, c⟩, ⟨mq, rd⟩, ar, st⟩ := h
  have c0 := c
  have mono : ∀ {U : MS} {y : Int32}, w_X12_run_J24 (fun _ u => CIB S B u ∧ qI u 44 7 = 0) U y → w_X12_run_J24 (fun _ u => CI S u ∧ qI u 44 7 = 0) U y := fun {U y} hj => by
    unfold w_X12_run_J24 at hj ⊢
    exact fun w S5 e5 k5 w5 => ⟨⟨B, (hj w S5 e5 k5 w5).1⟩, (hj w S5 e5 k5 w5).2⟩
  unfold wX12_run
  refine ⟨_, ci_refusal w c, fun r2 S3 q3 w3 s3 => ?_⟩
  obtain ⟨⟨f, sy⟩, hz⟩ := q3
  have h3 : CIB S B S3 := c.fr w (ShC.ca w c.g f sy w3 rfl rfl) f rfl rfl rfl rfl rfl
  have ar3 : ArIk S3 := ar.mv w f rfl rfl rfl rfl
  have st3 : qI S3 44 19 = 0 := (f.kI w.k44 rfl rfl).trans st
  refine ⟨fun z => ?_, fun _ => rn_Y24 ⟨st3, ar3⟩ (mono (rn_J24 h3))⟩
  obtain ⟨hp, hx⟩ := hz z
  have kp : qT S (qO S 44 0) = 49 := w.ref hp w.k44
  have hp3 : qR S3 44 0 = some (qO S3 44 0) := f.kP w.k44 hp rfl rfl
  have o3 : qO S3 44 0 = qO S 44 0 := qO_eq (f.kO w.k44 rfl rfl)
  have x3 : qI S3 (qO S3 44 0) 8 = qI S (qO S 44 0) 8 := by rw [o3]; exact f.kI kp rfl rfl
  have gS := c.g
  have un3 := h3.2.2.1.2.2.1 _ hp3
  obtain ⟨C, M⟩ := mq.st hp
  have ho : ∀ (m r : Nat), (m : Int) < (qI S (qO S 44 0) 8).toInt → qR S (qO S (qO S 44 0) 13) m = some r → qR S3 r 12 = qR S r 12 ∧ ∀ b, qR S r 12 = some b → qI S3 b = qI S b := fun m r hm hr => by
    have kr : qT S r = 47 := w.ref hr (w.ref (gS.unit kp).1.2.2.2.2.2.2.2.2 kp : qT S (qO S (qO S 44 0) 13) = 6)
    exact ⟨f.kO kr rfl rfl, fun b hb => funext fun j => f.kI (w.ref hb kr : qT S b = 104) rfl rfl⟩
  have M3 : MdA S3 (qO S3 44 0) C := by
    rw [o3] at un3 ⊢
    exact M.mv w w3 h3.g f.1 un3 ho
  obtain ⟨bd, gn, us, sm, ms, bs⟩ := id h3
  have mi : MsI S3 := ⟨ms.1, ms.2.1, Or.inr ⟨hp3, (us.2.2.1 _ hp3).full⟩, ms.2.2⟩
  refine ⟨_, frX5_play w3 (ct_play M3 w3 hp3 ar3 (by rw [x3]; exact hx) ms.2.2 (sgX5_play w3 h3.g mi hp3 (by rw [x3]; exact hx))), fun r8 S9 q9 w9 s9 => ?_⟩
  obtain ⟨⟨⟨g9, mc⟩, ye⟩, f9⟩ := q9
  have m : MvR S3 S9 := MvR.fo w3 h3.g f9 rfl rfl rfl rfl rfl
  have i7 : qI S9 44 7 = qI S3 44 7 := f9.kI w3.k44 rfl rfl
  have num := mc.num
  exact rn_Y24 ⟨ye.2.2.1.trans st3, ye.2.2.2.2⟩ (mono (rn_J24 (h3.of w3 g9 m (gn.mv w3 g9 (Gs3.fr w3 f9 rfl rfl rfl) m) (f9.kI w3.k0 rfl rfl) (fun j => f9.kO w3.k7 rfl rfl) (fun a ka => f9.kI ka rfl rfl) (fun p e => Or.inl (by rw [← f9.kO w3.k44 rfl rfl]; exact e)) (SmT.fr w3 h3.g sm f9 rfl rfl rfl rfl rfl).1 ⟨mc.2.2.2.2.2.2, by rw [i7]; exact ms.2.1, Or.inr (by omega)⟩ (bs.hb w3 (hB.of f9 rfl (fun _ => rfl))))))
theorem cj_run (w : wfC S) (h : CJ S) : wX12_run S x1 x2 (fun _ u => (wfC u → CJ u) ∧ qI u 44 7 = 0) := by
  have z := frX12_run w (rn_run (x1 := x1) (x2 := x2) w h)
  have e : ∀ (u : MS), ((CI S u ∧ qI u 44 7 = 0) ∧ RnY u) ∧ cfr [215, 216, 217, 402, 404, 405] [(45, 2), (45, 3), (45, 4), (45, 5), (45, 7), (45, 8), (45, 9), (45, 11), (45, 12), (45, 13), (45, 14), (45, 15), (45, 16), (45, 17), (45, 18), (45, 19)] S u → (wfC u → CJ u) ∧ qI u 44 7 = 0 := fun u q => by
    obtain ⟨⟨⟨c, i7⟩, st, ar⟩, f⟩ := q
    refine ⟨fun wu => h.mv0 w wu c (N5.same (f.kI w.k0 rfl rfl) (fun j => f.kO w.k7 rfl rfl)) f rfl rfl rfl (fun a ka => f.kI ka rfl rfl) (fun p ep => h.2.1.1.2 p ?_) ar st, i7⟩
    rw [← f.kO w.k44 rfl rfl]
    exact ep
  unfold wX12_run at z ⊢
  obtain ⟨Q1, p1, h1⟩ := z
  refine ⟨Q1, p1, fun r2 S3 g3 w3 s3 => ?_⟩
  obtain ⟨h2, h3⟩ := h1 r2 S3 g3 w3 s3
  have J : ∀ {U : MS} {y : Int32}, w_X12_run_J24 (fun r u => ((CI S u ∧ qI u 44 7 = 0) ∧ RnY u) ∧ cfr [215, 216, 217, 402, 404, 405] [(45, 2), (45, 3), (45, 4), (45, 5), (45, 7), (45, 8), (45, 9), (45, 11), (45, 12), (45, 13), (45, 14), (45, 15), (45, 16), (45, 17), (45, 18), (45, 19)] S u) U y → w_X12_run_J24 (fun _ u => (wfC u → CJ u) ∧ qI u 44 7 = 0) U y := fun {U y} hj => by
    unfold w_X12_run_J24 at hj ⊢
    exact fun w S5 e5 k5 w5 => e _ (hj w S5 e5 k5 w5)
  refine ⟨fun c => ?_, fun c => J (h3 c)⟩
  obtain ⟨Q7, p7, h7⟩ := h2 c
  exact ⟨Q7, p7, fun r8 S9 g9 w9 s9 => J (h7 r8 S9 g9 w9 s9)⟩
theorem st_unitAt (h : wX12_unitAt S x Qo) : wX12_unitAt S x (fun b u => (Qo b u ∧ u = S) ∧ ∀ p, b = some p → ∃ k : Nat, (k : Int) < (qI S 0 11).toInt ∧ qR S 7 k = some p) := by
  have J : w_X12_unitAt_J12 Qo S → w_X12_unitAt_J12 (fun b u => (Qo b u ∧ u = S) ∧ ∀ p, b = some p → ∃ k : Nat, (k : Int) < (qI S 0 11).toInt ∧ qR S 7 k = some p) S := fun hj => by
    unfold w_X12_unitAt_J12 at hj ⊢
    exact fun w => ⟨⟨hj w, rfl⟩, fun p e => by cases e⟩
  unfold wX12_unitAt at h ⊢
  refine ⟨fun c => J (h.1 c), fun c => ?_⟩
  obtain ⟨h1, h2⟩ := h.2 c
  refine ⟨fun c2 => ?_, fun c2 => J (h2 c2)⟩
  obtain ⟨b, h3, h4⟩ := h1 c2
  refine ⟨b, fun c3 => ⟨⟨h3 c3, rfl⟩, fun p e => by cases e⟩, fun c3 => ⟨⟨h4 c3, rfl⟩, fun p e => ⟨x.toInt.toNat, by omega, ?_⟩⟩⟩
  obtain ⟨p', hp'⟩ := Option.ne_none_iff_exists'.mp c3
  rw [hp'] at e ⊢
  exact e
theorem st_sound (h : wX12_soundUnitAt S x Qo) : wX12_soundUnitAt S x (fun b u => (Qo b u ∧ u = S) ∧ ∀ p, b = some p → ∃ k : Nat, (k : Int) < (qI S 0 11).toInt ∧ qR S 7 k = some p ∧ ¬ (qI S p 15).toInt = 0 ∧ (qI S p 16).toInt < 0) := by
  unfold wX12_soundUnitAt at h ⊢
  obtain ⟨Q1, p1, h1⟩ := h
  refine ⟨_, st_unitAt p1, ?_⟩
  rintro b5 S3 ⟨⟨g3, e3⟩, k3⟩ w3 s3 t3
  obtain ⟨h2, h3⟩ := h1 b5 S3 g3 w3 s3 t3
  subst e3
  have J : w_X12_soundUnitAt_J24 Qo S3 → w_X12_soundUnitAt_J24 (fun b u => (Qo b u ∧ u = S3) ∧ ∀ p, b = some p → ∃ k : Nat, (k : Int) < (qI S3 0 11).toInt ∧ qR S3 7 k = some p ∧ ¬ (qI S3 p 15).toInt = 0 ∧ (qI S3 p 16).toInt < 0) S3 := fun hj => by
    unfold w_X12_soundUnitAt_J24 at hj ⊢
    exact fun w => ⟨⟨hj w, rfl⟩, fun p e => by cases e⟩
  refine ⟨fun c => J (h2 c), fun c => ?_⟩
  obtain ⟨h4, h5⟩ := h3 c
  refine ⟨fun c2 => J (h4 c2), fun c2 => ?_⟩
  obtain ⟨h6, h7⟩ := h5 c2
  refine ⟨fun c3 => ⟨⟨h6 c3, rfl⟩, fun p e => ?_⟩, fun c3 => J (h7 c3)⟩
  obtain ⟨p', hp'⟩ := Option.ne_none_iff_exists'.mp c
  rw [hp'] at e c2 c3 k3
  have ep : p' = p := Option.some.inj e
  subst ep
  obtain ⟨k, a, b⟩ := k3 p' rfl
  exact ⟨k, a, b, c2, c3⟩
/-- what is on stage after a stage -/
def StQ (S u : MS) : Prop := (qR u 44 0 = qR S 44 0 ∧ qI u 44 3 = qI S 44 3 ∧ qI u 44 5 = qI S 44 5) ∨ (∃ p, qR u 44 0 = some p ∧ ∃ k : Nat, (k : Int) < (qI S 0 11).toInt ∧ qR S 7 k = some p ∧ ¬ (qI S p 15).toInt = 0 ∧ (qI S p 16).toInt < 0) ∧ qI u 44 3 = 0 ∧ qI u 44 5 = 0
theorem st_stage (w : wfC S) (h : wX12_stage S x1 Q) : wX12_stage S x1 (fun r u => (Q r u ∧ StQ S u) ∧ cfr [402] [(45, 0), (45, 3), (45, 5)] S u) := by
  refine frX12_stage w ?_
  unfold wX12_stage at h ⊢
  obtain ⟨Q1, p1, h1⟩ := h
  refine ⟨_, st_sound p1, ?_⟩
  rintro b5 S3 ⟨⟨g3, e3⟩, k3⟩ w3 s3 t3
  obtain ⟨h2, h3⟩ := h1 b5 S3 g3 w3 s3 t3
  subst e3
  refine ⟨fun c => ⟨h2 c, Or.inl ⟨rfl, rfl, rfl⟩⟩, fun c k49 => ?_⟩
  obtain ⟨p', hp'⟩ := Option.ne_none_iff_exists'.mp c
  obtain ⟨Q7, p7, h7⟩ := h3 c k49
  refine ⟨fun u => Q7 u ∧ qR u 44 0 = some ((b5).getD 0) ∧ qI u 44 3 = 0 ∧ qI u 44 5 = 0, ?_, fun S8 g8 w8 s8 => ⟨h7 S8 g8.1 w8 s8, Or.inr ⟨⟨(b5).getD 0, g8.2.1, ?_⟩, g8.2.2⟩⟩⟩
  · unfold wX5_setStage at p7 ⊢
    intro S1 e1 k1 w1 k45
    obtain ⟨Q2, p2, h8⟩ := p7 S1 e1 k1 w1 k45
    refine ⟨_, frJ7_fill_d0a16 k45 (by decide) p2, ?_⟩
    rintro S4 ⟨g4, f4⟩ w4 s4 S5 e5 k5 w5 S6 e6 k6 w6
    refine ⟨h8 S4 g4 w4 s4 S5 e5 k5 w5 S6 e6 k6 w6, ?_, ?_, ?_⟩
    · have a : qR S6 44 0 = qR S4 44 0 := by rw [e6, e5]; rfl
      rw [a, f4.kO w1.k44 (by decide) rfl, e1, qR_wR, if_pos ⟨rfl, rfl⟩]
    · rw [e6, qI_wI, if_neg (fun z => absurd z.2 (by decide)), e5, qI_wI, if_pos ⟨rfl, rfl⟩]
    · rw [e6, qI_wI, if_pos ⟨rfl, rfl⟩]
  · have ep : (b5).getD 0 = p' := by rw [hp']; rfl
    rw [ep]
    exact k3 p' hp'
theorem st_elem (ar : ArIk S) (h : wX12_element S x1 x2 Q) : wX12_element S x1 x2 (fun r u => Q r u ∧ u = S) := by
  unfold wX12_element at h ⊢
  obtain ⟨Q1, p1, h1⟩ := h
  refine ⟨fun r u => Q1 r u ∧ u = S, ?_, fun r2 S3 g3 w3 s3 => ⟨h1 r2 S3 g3.1 w3 s3, g3.2⟩⟩
  have J : w_X5_elementAt_J13 Q1 S → w_X5_elementAt_J13 (fun r u => Q1 r u ∧ u = S) S := fun hj => by
    unfold w_X5_elementAt_J13 at hj ⊢
    exact fun w => ⟨hj w, rfl⟩
  unfold wX5_elementAt at p1 ⊢
  refine ⟨fun c => J (p1.1 c), fun c => ?_⟩
  obtain ⟨d, h2, h3⟩ := p1.2 c
  refine ⟨d, fun c2 => ?_, fun c2 => J (h3 c2)⟩
  obtain ⟨d2, Q10, p10, h10⟩ := h2 c2
  refine ⟨d2, _, ct_mheap (ar.el (by omega) c2) p10, ?_⟩
  rintro r11 S12 ⟨g12, e12⟩ w12 s12
  exact ⟨h10 r11 S12 g12 w12 s12, e12⟩
end CRA
/-! every call, for the law: nothing strays -/
section CSA
variable {A S : MS} {x1 x2 x3 x4 x5 : Int32}
theorem CJ.n0 (h : CJ S) : 0 ≤ (qI S 0 11).toInt := by
  obtain ⟨⟨B, c⟩, _⟩ := h
  exact c.2.2.1.1.1
theorem cj_feed (w : wfC S) (h : CJ S) : ∃ Q, wX12_feed S x1 x2 x3 x4 x5 Q ∧ ∀ r u, Q r u → (wfC u → CJ u) ∧ qI u 44 7 = qI S 44 7 := by
  obtain ⟨⟨B, c⟩, _⟩ := id h
  exact ⟨_, frX12_feed w (ci_feed w c), fun r u q => ⟨fun wu => h.mv w wu ⟨B, q.1⟩ (N5.same (q.2.kI w.k0 rfl rfl) (fun j => q.2.kO w.k7 rfl rfl)) q.2 rfl rfl rfl, q.2.kI w.k44 rfl rfl⟩⟩
theorem cj_end (w : wfC S) (h : CJ S) : ∃ Q, wX12_end S x1 Q ∧ ∀ r u, Q r u → (wfC u → CJ u) ∧ qI u 44 7 = qI S 44 7 := by
  obtain ⟨⟨B, c⟩, _⟩ := id h
  exact ⟨_, frX12_end w (ci_end w c), fun r u q => ⟨fun wu => h.mv w wu ⟨B, q.1⟩ (N5.same (q.2.kI w.k0 rfl rfl) (fun j => q.2.kO w.k7 rfl rfl)) q.2 rfl rfl rfl, q.2.kI w.k44 rfl rfl⟩⟩
theorem cj_size (w : wfC S) (h : CJ S) : ∃ Q, wX12_size S x1 x2 Q ∧ ∀ r u, Q r u → (wfC u → CJ u) ∧ qI u 44 7 = qI S 44 7 := by
  obtain ⟨⟨B, c⟩, _⟩ := id h
  exact ⟨_, frX12_size w (ci_size w c), fun r u q => ⟨fun wu => h.mv w wu ⟨B, q.1⟩ (N5.same (q.2.kI w.k0 rfl rfl) (fun j => q.2.kO w.k7 rfl rfl)) q.2 rfl rfl rfl, q.2.kI w.k44 rfl rfl⟩⟩
theorem cj_length (w : wfC S) (h : CJ S) : ∃ Q, wX12_length S x1 x2 Q ∧ ∀ r u, Q r u → (wfC u → CJ u) ∧ qI u 44 7 = qI S 44 7 := by
  obtain ⟨⟨B, c⟩, _⟩ := id h
  exact ⟨_, frX12_length w (ci_length w c), fun r u q => ⟨fun wu => h.mv w wu ⟨B, q.1⟩ (N5.same (q.2.kI w.k0 rfl rfl) (fun j => q.2.kO w.k7 rfl rfl)) q.2 rfl rfl rfl, q.2.kI w.k44 rfl rfl⟩⟩
theorem cj_height (w : wfC S) (h : CJ S) : ∃ Q, wX12_height S x1 x2 x3 Q ∧ ∀ r u, Q r u → (wfC u → CJ u) ∧ qI u 44 7 = qI S 44 7 := by
  obtain ⟨⟨B, c⟩, _⟩ := id h
  exact ⟨_, frX12_height w (ci_height w c), fun r u q => ⟨fun wu => h.mv w wu ⟨B, q.1⟩ (N5.same (q.2.kI w.k0 rfl rfl) (fun j => q.2.kO w.k7 rfl rfl)) q.2 rfl rfl rfl, q.2.kI w.k44 rfl rfl⟩⟩
theorem cj_local (w : wfC S) (h : CJ S) : ∃ Q, wX12_local S x1 x2 x3 x4 Q ∧ ∀ r u, Q r u → (wfC u → CJ u) ∧ qI u 44 7 = qI S 44 7 := by
  obtain ⟨⟨B, c⟩, _⟩ := id h
  exact ⟨_, frX12_local w (ci_local w c), fun r u q => ⟨fun wu => h.mv w wu ⟨B, q.1⟩ (N5.same (q.2.kI w.k0 rfl rfl) (fun j => q.2.kO w.k7 rfl rfl)) q.2 rfl rfl rfl, q.2.kI w.k44 rfl rfl⟩⟩
theorem cj_write (w : wfC S) (h : CJ S) : ∃ Q, wX12_write S x1 Q ∧ ∀ r u, Q r u → (wfC u → CJ u) ∧ qI u 44 7 = qI S 44 7 := by
  obtain ⟨⟨B, c⟩, _⟩ := id h
  exact ⟨_, frX12_write w (ci_write w c), fun r u q => ⟨fun wu => h.mv w wu ⟨B, q.1⟩ (N5.same (q.2.kI w.k0 rfl rfl) (fun j => q.2.kO w.k7 rfl rfl)) q.2 rfl rfl rfl, q.2.kI w.k44 rfl rfl⟩⟩
theorem cj_blocks (w : wfC S) (h : CJ S) : ∃ Q, wX12_blocks S x1 x2 Q ∧ ∀ r u, Q r u → (wfC u → CJ u) ∧ qI u 44 7 = qI S 44 7 := by
  obtain ⟨⟨B, c⟩, _⟩ := id h
  exact ⟨_, frX12_blocks w (ci_blocks w c), fun r u q => ⟨fun wu => h.mv w wu ⟨B, q.1⟩ (N5.same (q.2.kI w.k0 rfl rfl) (fun j => q.2.kO w.k7 rfl rfl)) q.2 rfl rfl rfl, q.2.kI w.k44 rfl rfl⟩⟩
theorem cj_block (w : wfC S) (h : CJ S) : ∃ Q, wX12_block S x1 x2 x3 x4 Q ∧ ∀ r u, Q r u → (wfC u → CJ u) ∧ qI u 44 7 = qI S 44 7 := by
  obtain ⟨⟨B, c⟩, _⟩ := id h
  exact ⟨_, frX12_block w (ci_block w c), fun r u q => ⟨fun wu => h.mv w wu ⟨B, q.1⟩ (N5.same (q.2.kI w.k0 rfl rfl) (fun j => q.2.kO w.k7 rfl rfl)) q.2 rfl rfl rfl, q.2.kI w.k44 rfl rfl⟩⟩
theorem cj_edge (w : wfC S) (h : CJ S) : ∃ Q, wX12_edge S x1 x2 x3 x4 Q ∧ ∀ r u, Q r u → (wfC u → CJ u) ∧ qI u 44 7 = qI S 44 7 := by
  obtain ⟨⟨B, c⟩, _⟩ := id h
  exact ⟨_, frX12_edge w (ci_edge w c), fun r u q => ⟨fun wu => h.mv w wu ⟨B, q.1⟩ (N5.same (q.2.kI w.k0 rfl rfl) (fun j => q.2.kO w.k7 rfl rfl)) q.2 rfl rfl rfl, q.2.kI w.k44 rfl rfl⟩⟩
theorem cj_file (w : wfC S) (h : CJ S) : ∃ Q, wX12_file S Q ∧ ∀ r u, Q r u → (wfC u → CJ u) ∧ qI u 44 7 = qI S 44 7 := by
  obtain ⟨⟨B, c⟩, _⟩ := id h
  exact ⟨_, frX12_file w (n5_file w h.n0 (ci_file w c)), fun r u q => ⟨fun wu => h.mv0 w wu q.1.1 q.1.2.1 q.2 rfl rfl rfl (fun a ka => (q.1.2.2 a ka).2) (fun p e => h.2.1.1.2 p ((q.2.kO w.k44 rfl rfl).symm.trans e)) (h.2.2.1.mv w q.2 rfl rfl rfl rfl) ((q.2.kI w.k44 rfl rfl).trans h.2.2.2), q.2.kI w.k44 rfl rfl⟩⟩
theorem cj_improve (w : wfC S) (h : CJ S) : ∃ Q, wX12_improve S x1 x2 Q ∧ ∀ r u, Q r u → (wfC u → CJ u) ∧ qI u 44 7 = qI S 44 7 := by
  obtain ⟨⟨B, c⟩, _⟩ := id h
  exact ⟨_, frX12_improve w (n6_improve w h.n0 (ci_improve w c)), fun r u q => ⟨fun wu => h.mv0 w wu q.1.1 q.1.2.1 q.2 rfl rfl rfl (fun a ka => (q.1.2.2 a ka).2) (fun p e => h.2.1.1.2 p ((q.2.kO w.k44 rfl rfl).symm.trans e)) (h.2.2.1.mv w q.2 rfl rfl rfl rfl) ((q.2.kI w.k44 rfl rfl).trans h.2.2.2), q.2.kI w.k44 rfl rfl⟩⟩
theorem cj_count (w : wfC S) (h : CJ S) : ∃ Q, wX12_count S x1 Q ∧ ∀ r u, Q r u → (wfC u → CJ u) ∧ qI u 44 7 = qI S 44 7 := by
  obtain ⟨⟨B, c⟩, _⟩ := id h
  exact ⟨_, frX12_count w (n6_count w h.n0 (ci_count w c)), fun r u q => ⟨fun wu => h.mv0 w wu q.1.1 q.1.2.1 q.2 rfl rfl rfl (fun a ka => (q.1.2.2 a ka).2) (fun p e => h.2.1.1.2 p ((q.2.kO w.k44 rfl rfl).symm.trans e)) (h.2.2.1.mv w q.2 rfl rfl rfl rfl) ((q.2.kI w.k44 rfl rfl).trans h.2.2.2), q.2.kI w.k44 rfl rfl⟩⟩
theorem cj_verify9 (w : wfC S) (h : CJ S) : ∃ Q, wX12_verify S x1 Q ∧ ∀ r u, Q r u → (wfC u → CJ u) ∧ qI u 44 7 = qI S 44 7 :=
  ⟨_, frX12_verify w (cj_verify w h), fun r u q => ⟨q.1, q.2.kI w.k44 rfl rfl⟩⟩
theorem cj_run9 (w : wfC S) (h : CJ S) : ∃ Q, wX12_run S x1 x2 Q ∧ ∀ r u, Q r u → (wfC u → CJ u) ∧ qI u 44 7 = 0 := ⟨_, cj_run w h, fun r u q => q⟩
theorem cj_stage (w : wfC S) (h : CJ S) : ∃ Q, wX12_stage S x1 Q ∧ ∀ r u, Q r u → (wfC u → CJ u) ∧ qI u 44 7 = qI S 44 7 := by
  obtain ⟨⟨B, c⟩, mq, ar, st⟩ := id h
  refine ⟨_, st_stage w (ci_stage w c), fun r u q => ?_⟩
  obtain ⟨⟨cu, sq⟩, f⟩ := q
  have o4 : qO u 44 4 = qO S 44 4 := qO_eq (f.kO w.k44 rfl rfl)
  have k4 : qT S (qO S 44 4) = 216 := w.ref (w.ptr (by decide)) w.k44
  have l4 := f.kL (j := 4) w w.k44 (w.ptr (by decide)) (by decide) (by decide)
  have l2 := f.kL (j := 2) w w.k44 (w.ptr (by decide)) (by decide) (by decide)
  have i4 : ∀ j, qI u (qO S 44 4) j = qI S (qO S 44 4) j := fun j => f.kI k4 (by decide) (by rfl)
  refine ⟨fun wu => h.mv0 w wu ⟨B, cu⟩ (N5.same (f.kI w.k0 rfl rfl) (fun j => f.kO w.k7 rfl rfl)) f rfl rfl rfl (fun a ka => f.kI ka rfl rfl) (fun p ep => ?_) ?_ ((f.kI w.k44 rfl rfl).trans st), f.kI w.k44 rfl rfl⟩
  · rcases sq with ⟨a, _⟩ | ⟨⟨p', a, k⟩, _⟩
    · exact mq.1.2 p (a.symm.trans ep)
    · have e : p' = p := Option.some.inj (a.symm.trans ep)
      rw [← e]
      exact k
  · obtain ⟨a1, a2, a3⟩ := ar
    rcases sq with ⟨_, e3, e5⟩ | ⟨_, e3, e5⟩
    · refine ⟨by rw [e5, l4]; exact a1, by rw [e3, l2]; exact a2, fun j h1 h2 => ?_⟩
      rw [o4, i4, e3]
      rw [e5] at h2
      exact a3 j h1 h2
    · have z := li_0k
      exact ⟨by rw [e5, l4, z]; omega, by rw [e3, l2, z]; omega, fun j h1 h2 => by rw [e5, z] at h2; omega⟩
theorem cj_element (w : wfC S) (h : CJ S) : ∃ Q, wX12_element S x1 x2 Q ∧ ∀ r u, Q r u → (wfC u → CJ u) ∧ qI u 44 7 = qI S 44 7 := by
  obtain ⟨⟨B, c⟩, mq, ar, st⟩ := id h
  refine ⟨_, st_elem ar (ci_element w c), fun r u q => ?_⟩
  rw [q.2]
  exact ⟨fun _ => h, rfl⟩
theorem cj_argument {y1 : Int64} (w : wfC S) (h : CJ S) : ∃ Q, wX12_argument S y1 Q ∧ ∀ r u, Q r u → (wfC u → CJ u) ∧ qI u 44 7 = agN (qI S 44 7) ∧ r = if (qI S 44 7).toInt < 8 then qI S 44 7 + 1 else -1 := by
  obtain ⟨⟨B, c⟩, _⟩ := id h
  exact ⟨_, frX12_argument w (ci_argument w c), fun r u q => ⟨fun wu => h.mv w wu ⟨B, q.1.1⟩ (N5.same (q.2.kI w.k0 rfl rfl) (fun j => q.2.kO w.k7 rfl rfl)) q.2 rfl rfl rfl, q.1.2⟩⟩
theorem cj_field (w : wfC S) (h : CJ S) : d_X12_field S x1 := cl_field w h.1
theorem cj_byteAt (h : CJ S) : d_X12_byteAt S x1 := cl_byteAt h.1
theorem CJ.st (h : CJ S) : fX12_strays S = 0 := h.2.2.2
theorem zf_CJ {u : MS} (w : wfC u) (h : StC 80 0 0 3745 u) : CJ u := by
  have i11 : qI u 0 11 = 0 := h.I (by decide) (by decide +kernel)
  have i19 : qI u 44 19 = 0 := h.I (by decide) (by decide +kernel)
  have i5 : qI u 44 5 = 0 := h.I (by decide) (by decide +kernel)
  have i3 : qI u 44 3 = 0 := h.I (by decide) (by decide +kernel)
  have s0 : qR u 44 0 = none := h.R0 (by decide) (by decide +kernel)
  have o4 : qO u 44 4 = 47 := qO_of (h.R (by decide) (by decide +kernel))
  have n4 : qN u 47 = 8 := h.N (by decide) (by decide +kernel)
  have z := li_0k
  refine ⟨zf_CI w h, ⟨⟨fun k hk => ?_, fun p e => ?_⟩, fun k k' p p' m m' r hk => ?_⟩, ⟨?_, ?_, fun j h1 h2 => ?_⟩, i19⟩
  · rw [i11, z] at hk; omega
  · rw [s0] at e; cases e
  · rw [i11, z] at hk; omega
  · rw [i5, o4, n4, z]; omega
  · rw [i3, z]; omega
  · rw [i5, z] at h2; omega
theorem cj_new (h : StC 1 79 6 18 S) : ∃ Q, zX12_init S 0 Q ∧ ∀ u, Q u → wfC u ∧ CJ u ∧ qI u 44 7 = 0 := ⟨_, zf_new h, fun _ q => ⟨zf_wfC q.1 q.2, zf_CJ (zf_wfC q.1 q.2) q.2, zf_a7 q.2⟩⟩
end CSA
