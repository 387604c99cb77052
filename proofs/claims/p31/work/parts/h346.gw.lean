/-! the shape, where a row grows -/
def Lg_h17 : List (Nat × Nat) := [(47, 0), (47, 1), (47, 2), (47, 3), (47, 4), (47, 5), (47, 6), (47, 7), (47, 8), (47, 9), (49, 0), (49, 4), (49, 5), (49, 6), (49, 7), (49, 8), (49, 9), (49, 10), (49, 11), (49, 12), (49, 13), (41, 1), (41, 2), (41, 3), (50, 16), (50, 17), (48, 0), (48, 2), (48, 3), (48, 4), (48, 5), (40, 0), (43, 3), (43, 5), (43, 7), (43, 9), (43, 13), (45, 2), (45, 4), (45, 8), (45, 9)]
theorem ShC.g_h17 {B : Nat × Nat} {K : List Nat} {S u : MS} (w : wfC S) (h : ShC B S) (f : cfr K [(44, 0), (44, 1), (44, 2)] S u) (n : nkC S u) (hK : okK K = true) (x38_0 : qN u (qO u 38 0) = qN S (qO S 38 0)) (hh : ∀ p, qT u p = 44 → HtK u p) (r0 : 2 * qN S (qO S 17 0) + 2 ≤ qN u (qO u 17 0)) (r1 : qN u (qO u 17 0) ≤ 2400) (r2 : qn u ≤ qn S + 3) (r3 : qu u ≤ qu S + 3 * qN u (qO u 17 0)) : ShC B u := by
  obtain ⟨h1, h2, h3, h4, h5, h6, h7, h8, h9⟩ := h
  have hF : okL Lg_h17 [(44, 0), (44, 1), (44, 2)] = true := rfl
  have e1_0 : qN u (qO u 1 0) = qN S (qO S 1 0) := fr_len w f hK hF w.k1 (by decide) (by decide) (by decide)
  have e3_0 : qN u (qO u 3 0) = qN S (qO S 3 0) := fr_len w f hK hF w.k3 (by decide) (by decide) (by decide)
  have e5_0 : qN u (qO u 5 0) = qN S (qO S 5 0) := fr_len w f hK hF w.k5 (by decide) (by decide) (by decide)
  have e26_0 : qN u (qO u 26 0) = qN S (qO S 26 0) := fr_len w f hK hF w.k26 (by decide) (by decide) (by decide)
  have e28_0 : qN u (qO u 28 0) = qN S (qO S 28 0) := fr_len w f hK hF w.k28 (by decide) (by decide) (by decide)
  have e30_0 : qN u (qO u 30 0) = qN S (qO S 30 0) := fr_len w f hK hF w.k30 (by decide) (by decide) (by decide)
  have e38_0 := x38_0
  have e16_2 : qN u (qO u 16 2) = qN S (qO S 16 2) := fr_len w f hK hF w.k16 (by decide) (by decide) (by decide)
  have e25_17 : qN u (qO u 25 17) = qN S (qO S 25 17) := fr_len w f hK hF w.k25 (by decide) (by decide) (by decide)
  have e52_3 : qN u (qO u 52 3) = qN S (qO S 52 3) := fr_len w f hK hF w.k52 (by decide) (by decide) (by decide)
  have e52_13 : qN u (qO u 52 13) = qN S (qO S 52 13) := fr_len w f hK hF w.k52 (by decide) (by decide) (by decide)
  have e52_9 : qN u (qO u 52 9) = qN S (qO S 52 9) := fr_len w f hK hF w.k52 (by decide) (by decide) (by decide)
  have e52_5 : qN u (qO u 52 5) = qN S (qO S 52 5) := fr_len w f hK hF w.k52 (by decide) (by decide) (by decide)
  have e52_7 : qN u (qO u 52 7) = qN S (qO S 52 7) := fr_len w f hK hF w.k52 (by decide) (by decide) (by decide)
  have e44_2 : qN u (qO u 44 2) = qN S (qO S 44 2) := fr_len w f hK hF w.k44 (by decide) (by decide) (by decide)
  have e44_4 : qN u (qO u 44 4) = qN S (qO S 44 4) := fr_len w f hK hF w.k44 (by decide) (by decide) (by decide)
  have e44_8 : qN u (qO u 44 8) = qN S (qO S 44 8) := fr_len w f hK hF w.k44 (by decide) (by decide) (by decide)
  have e44_9 : qN u (qO u 44 9) = qN S (qO S 44 9) := fr_len w f hK hF w.k44 (by decide) (by decide) (by decide)
  have e66_2 : qN u (qO u 66 2) = qN S (qO S 66 2) := fr_len w f hK hF w.k66 (by decide) (by decide) (by decide)
  have e9 : hp2 u = hp2 S := by unfold hp2; rw [e44_2]
  unfold CpK at h8
  unfold RmK PSc PNc at h9
  refine ⟨fr_rows w h1 f n hK (okL_mo hF (by decide)), fr_units w h2 f n hK (okL_mo hF (by decide)), hh, (by unfold ChKk; rw [show qN u (qO u 16 1) = qN S (qO S 16 1) from fr_len w f hK hF w.k16 (by decide) (by decide) (by decide), show qN u (qO u 16 3) = qN S (qO S 16 3) from fr_len w f hK hF w.k16 (by decide) (by decide) (by decide), e16_2]; exact h4), (by unfold WrK; rw [show qN u (qO u 25 16) = qN S (qO S 25 16) from fr_len w f hK hF w.k25 (by decide) (by decide) (by decide), e25_17]; exact h5), fr_smith w (h1 _ w.k67) h6 f hK hF (by decide), fr_dn h7 f.1 n, ?_, ?_⟩
  · unfold CpK; rw [e1_0, e3_0, e5_0, e26_0, e28_0, e30_0, e38_0, e16_2, e25_17, e52_3, e52_13, e52_9, e52_5, e52_7, e44_2, e44_4, e44_8, e44_9, e66_2]; omega
  · unfold RmK PSc PNc; rw [e1_0, e3_0, e5_0, e26_0, e28_0, e30_0, e38_0, e16_2, e25_17, e52_3, e52_13, e52_9, e52_5, e52_7, e44_2, e44_4, e44_8, e44_9, e66_2, e9]; omega
def Lg_h38 : List (Nat × Nat) := [(47, 0), (47, 1), (47, 2), (47, 3), (47, 4), (47, 5), (47, 6), (47, 7), (47, 8), (47, 9), (49, 0), (49, 4), (49, 5), (49, 6), (49, 7), (49, 8), (49, 9), (49, 10), (49, 11), (49, 12), (49, 13), (41, 1), (41, 2), (41, 3), (50, 16), (50, 17), (48, 0), (48, 2), (48, 3), (48, 4), (48, 5), (40, 0), (43, 3), (43, 5), (43, 7), (43, 9), (43, 13), (45, 2), (45, 4), (45, 8), (45, 9)]
theorem ShC.g_h38 {B : Nat × Nat} {K : List Nat} {S u : MS} (w : wfC S) (h : ShC B S) (f : cfr K [(44, 0), (44, 1), (44, 2)] S u) (n : nkC S u) (hK : okK K = true) (x17_0 : qN u (qO u 17 0) = qN S (qO S 17 0)) (hh : ∀ p, qT u p = 44 → HtK u p) (r0 : 2 * qN S (qO S 38 0) + 2 ≤ qN u (qO u 38 0)) (r1 : qN u (qO u 38 0) ≤ 2592) (r2 : qn u ≤ qn S + 3) (r3 : qu u ≤ qu S + 3 * qN u (qO u 38 0)) : ShC B u := by
  obtain ⟨h1, h2, h3, h4, h5, h6, h7, h8, h9⟩ := h
  have hF : okL Lg_h38 [(44, 0), (44, 1), (44, 2)] = true := rfl
  have e1_0 : qN u (qO u 1 0) = qN S (qO S 1 0) := fr_len w f hK hF w.k1 (by decide) (by decide) (by decide)
  have e3_0 : qN u (qO u 3 0) = qN S (qO S 3 0) := fr_len w f hK hF w.k3 (by decide) (by decide) (by decide)
  have e5_0 : qN u (qO u 5 0) = qN S (qO S 5 0) := fr_len w f hK hF w.k5 (by decide) (by decide) (by decide)
  have e26_0 : qN u (qO u 26 0) = qN S (qO S 26 0) := fr_len w f hK hF w.k26 (by decide) (by decide) (by decide)
  have e28_0 : qN u (qO u 28 0) = qN S (qO S 28 0) := fr_len w f hK hF w.k28 (by decide) (by decide) (by decide)
  have e30_0 : qN u (qO u 30 0) = qN S (qO S 30 0) := fr_len w f hK hF w.k30 (by decide) (by decide) (by decide)
  have e17_0 := x17_0
  have e16_2 : qN u (qO u 16 2) = qN S (qO S 16 2) := fr_len w f hK hF w.k16 (by decide) (by decide) (by decide)
  have e25_17 : qN u (qO u 25 17) = qN S (qO S 25 17) := fr_len w f hK hF w.k25 (by decide) (by decide) (by decide)
  have e52_3 : qN u (qO u 52 3) = qN S (qO S 52 3) := fr_len w f hK hF w.k52 (by decide) (by decide) (by decide)
  have e52_13 : qN u (qO u 52 13) = qN S (qO S 52 13) := fr_len w f hK hF w.k52 (by decide) (by decide) (by decide)
  have e52_9 : qN u (qO u 52 9) = qN S (qO S 52 9) := fr_len w f hK hF w.k52 (by decide) (by decide) (by decide)
  have e52_5 : qN u (qO u 52 5) = qN S (qO S 52 5) := fr_len w f hK hF w.k52 (by decide) (by decide) (by decide)
  have e52_7 : qN u (qO u 52 7) = qN S (qO S 52 7) := fr_len w f hK hF w.k52 (by decide) (by decide) (by decide)
  have e44_2 : qN u (qO u 44 2) = qN S (qO S 44 2) := fr_len w f hK hF w.k44 (by decide) (by decide) (by decide)
  have e44_4 : qN u (qO u 44 4) = qN S (qO S 44 4) := fr_len w f hK hF w.k44 (by decide) (by decide) (by decide)
  have e44_8 : qN u (qO u 44 8) = qN S (qO S 44 8) := fr_len w f hK hF w.k44 (by decide) (by decide) (by decide)
  have e44_9 : qN u (qO u 44 9) = qN S (qO S 44 9) := fr_len w f hK hF w.k44 (by decide) (by decide) (by decide)
  have e66_2 : qN u (qO u 66 2) = qN S (qO S 66 2) := fr_len w f hK hF w.k66 (by decide) (by decide) (by decide)
  have e9 : hp2 u = hp2 S := by unfold hp2; rw [e44_2]
  unfold CpK at h8
  unfold RmK PSc PNc at h9
  refine ⟨fr_rows w h1 f n hK (okL_mo hF (by decide)), fr_units w h2 f n hK (okL_mo hF (by decide)), hh, (by unfold ChKk; rw [show qN u (qO u 16 1) = qN S (qO S 16 1) from fr_len w f hK hF w.k16 (by decide) (by decide) (by decide), show qN u (qO u 16 3) = qN S (qO S 16 3) from fr_len w f hK hF w.k16 (by decide) (by decide) (by decide), e16_2]; exact h4), (by unfold WrK; rw [show qN u (qO u 25 16) = qN S (qO S 25 16) from fr_len w f hK hF w.k25 (by decide) (by decide) (by decide), e25_17]; exact h5), fr_smith w (h1 _ w.k67) h6 f hK hF (by decide), fr_dn h7 f.1 n, ?_, ?_⟩
  · unfold CpK; rw [e1_0, e3_0, e5_0, e26_0, e28_0, e30_0, e17_0, e16_2, e25_17, e52_3, e52_13, e52_9, e52_5, e52_7, e44_2, e44_4, e44_8, e44_9, e66_2]; omega
  · unfold RmK PSc PNc; rw [e1_0, e3_0, e5_0, e26_0, e28_0, e30_0, e17_0, e16_2, e25_17, e52_3, e52_13, e52_9, e52_5, e52_7, e44_2, e44_4, e44_8, e44_9, e66_2, e9]; omega
def Lg_chk : List (Nat × Nat) := [(47, 0), (47, 1), (47, 2), (47, 3), (47, 4), (47, 5), (47, 6), (47, 7), (47, 8), (47, 9), (49, 0), (49, 4), (49, 5), (49, 6), (49, 7), (49, 8), (49, 9), (49, 10), (49, 11), (49, 12), (49, 13), (44, 0), (44, 1), (44, 2), (50, 16), (50, 17), (48, 0), (48, 2), (48, 3), (48, 4), (48, 5), (40, 0), (43, 3), (43, 5), (43, 7), (43, 9), (43, 13), (45, 2), (45, 4), (45, 8), (45, 9)]
theorem ShC.g_chk {B : Nat × Nat} {K : List Nat} {S u : MS} (w : wfC S) (h : ShC B S) (f : cfr K [(41, 1), (41, 2), (41, 3)] S u) (n : nkC S u) (hK : okK K = true) (ck : ChKk u) (r0 : 2 * qN S (qO S 16 2) + 2 ≤ qN u (qO u 16 2)) (r1 : qN u (qO u 16 2) ≤ 2400) (r2 : qn u ≤ qn S + 3) (r3 : qu u ≤ qu S + 50 * qN u (qO u 16 2)) : ShC B u := by
  obtain ⟨h1, h2, h3, h4, h5, h6, h7, h8, h9⟩ := h
  have hF : okL Lg_chk [(41, 1), (41, 2), (41, 3)] = true := rfl
  have e1_0 : qN u (qO u 1 0) = qN S (qO S 1 0) := fr_len w f hK hF w.k1 (by decide) (by decide) (by decide)
  have e3_0 : qN u (qO u 3 0) = qN S (qO S 3 0) := fr_len w f hK hF w.k3 (by decide) (by decide) (by decide)
  have e5_0 : qN u (qO u 5 0) = qN S (qO S 5 0) := fr_len w f hK hF w.k5 (by decide) (by decide) (by decide)
  have e26_0 : qN u (qO u 26 0) = qN S (qO S 26 0) := fr_len w f hK hF w.k26 (by decide) (by decide) (by decide)
  have e28_0 : qN u (qO u 28 0) = qN S (qO S 28 0) := fr_len w f hK hF w.k28 (by decide) (by decide) (by decide)
  have e30_0 : qN u (qO u 30 0) = qN S (qO S 30 0) := fr_len w f hK hF w.k30 (by decide) (by decide) (by decide)
  have e17_0 : qN u (qO u 17 0) = qN S (qO S 17 0) := fr_len w f hK hF w.k17 (by decide) (by decide) (by decide)
  have e38_0 : qN u (qO u 38 0) = qN S (qO S 38 0) := fr_len w f hK hF w.k38 (by decide) (by decide) (by decide)
  have e25_17 : qN u (qO u 25 17) = qN S (qO S 25 17) := fr_len w f hK hF w.k25 (by decide) (by decide) (by decide)
  have e52_3 : qN u (qO u 52 3) = qN S (qO S 52 3) := fr_len w f hK hF w.k52 (by decide) (by decide) (by decide)
  have e52_13 : qN u (qO u 52 13) = qN S (qO S 52 13) := fr_len w f hK hF w.k52 (by decide) (by decide) (by decide)
  have e52_9 : qN u (qO u 52 9) = qN S (qO S 52 9) := fr_len w f hK hF w.k52 (by decide) (by decide) (by decide)
  have e52_5 : qN u (qO u 52 5) = qN S (qO S 52 5) := fr_len w f hK hF w.k52 (by decide) (by decide) (by decide)
  have e52_7 : qN u (qO u 52 7) = qN S (qO S 52 7) := fr_len w f hK hF w.k52 (by decide) (by decide) (by decide)
  have e44_2 : qN u (qO u 44 2) = qN S (qO S 44 2) := fr_len w f hK hF w.k44 (by decide) (by decide) (by decide)
  have e44_4 : qN u (qO u 44 4) = qN S (qO S 44 4) := fr_len w f hK hF w.k44 (by decide) (by decide) (by decide)
  have e44_8 : qN u (qO u 44 8) = qN S (qO S 44 8) := fr_len w f hK hF w.k44 (by decide) (by decide) (by decide)
  have e44_9 : qN u (qO u 44 9) = qN S (qO S 44 9) := fr_len w f hK hF w.k44 (by decide) (by decide) (by decide)
  have e66_2 : qN u (qO u 66 2) = qN S (qO S 66 2) := fr_len w f hK hF w.k66 (by decide) (by decide) (by decide)
  have e9 : hp2 u = hp2 S := by unfold hp2; rw [e44_2]
  unfold CpK at h8
  unfold RmK PSc PNc at h9
  refine ⟨fr_rows w h1 f n hK (okL_mo hF (by decide)), fr_units w h2 f n hK (okL_mo hF (by decide)), fr_hts w h3 f n hK (okL_mo hF (by decide)), ck, (by unfold WrK; rw [show qN u (qO u 25 16) = qN S (qO S 25 16) from fr_len w f hK hF w.k25 (by decide) (by decide) (by decide), e25_17]; exact h5), fr_smith w (h1 _ w.k67) h6 f hK hF (by decide), fr_dn h7 f.1 n, ?_, ?_⟩
  · unfold CpK; rw [e1_0, e3_0, e5_0, e26_0, e28_0, e30_0, e17_0, e38_0, e25_17, e52_3, e52_13, e52_9, e52_5, e52_7, e44_2, e44_4, e44_8, e44_9, e66_2]; omega
  · unfold RmK PSc PNc; rw [e1_0, e3_0, e5_0, e26_0, e28_0, e30_0, e17_0, e38_0, e25_17, e52_3, e52_13, e52_9, e52_5, e52_7, e44_2, e44_4, e44_8, e44_9, e66_2, e9]; omega
def Lg_wr : List (Nat × Nat) := [(47, 0), (47, 1), (47, 2), (47, 3), (47, 4), (47, 5), (47, 6), (47, 7), (47, 8), (47, 9), (49, 0), (49, 4), (49, 5), (49, 6), (49, 7), (49, 8), (49, 9), (49, 10), (49, 11), (49, 12), (49, 13), (44, 0), (44, 1), (44, 2), (41, 1), (41, 2), (41, 3), (48, 0), (48, 2), (48, 3), (48, 4), (48, 5), (40, 0), (43, 3), (43, 5), (43, 7), (43, 9), (43, 13), (45, 2), (45, 4), (45, 8), (45, 9)]
theorem ShC.g_wr {B : Nat × Nat} {K : List Nat} {S u : MS} (w : wfC S) (h : ShC B S) (f : cfr K [(50, 16), (50, 17)] S u) (n : nkC S u) (hK : okK K = true) (wk : WrK u) (r0 : 2 * qN S (qO S 25 17) + 2 ≤ qN u (qO u 25 17)) (r1 : qN u (qO u 25 17) ≤ 2594) (r2 : qn u ≤ qn S + 2) (r3 : qu u ≤ qu S + 2 * qN u (qO u 25 17)) : ShC B u := by
  obtain ⟨h1, h2, h3, h4, h5, h6, h7, h8, h9⟩ := h
  have hF : okL Lg_wr [(50, 16), (50, 17)] = true := rfl
  have e1_0 : qN u (qO u 1 0) = qN S (qO S 1 0) := fr_len w f hK hF w.k1 (by decide) (by decide) (by decide)
  have e3_0 : qN u (qO u 3 0) = qN S (qO S 3 0) := fr_len w f hK hF w.k3 (by decide) (by decide) (by decide)
  have e5_0 : qN u (qO u 5 0) = qN S (qO S 5 0) := fr_len w f hK hF w.k5 (by decide) (by decide) (by decide)
  have e26_0 : qN u (qO u 26 0) = qN S (qO S 26 0) := fr_len w f hK hF w.k26 (by decide) (by decide) (by decide)
  have e28_0 : qN u (qO u 28 0) = qN S (qO S 28 0) := fr_len w f hK hF w.k28 (by decide) (by decide) (by decide)
  have e30_0 : qN u (qO u 30 0) = qN S (qO S 30 0) := fr_len w f hK hF w.k30 (by decide) (by decide) (by decide)
  have e17_0 : qN u (qO u 17 0) = qN S (qO S 17 0) := fr_len w f hK hF w.k17 (by decide) (by decide) (by decide)
  have e38_0 : qN u (qO u 38 0) = qN S (qO S 38 0) := fr_len w f hK hF w.k38 (by decide) (by decide) (by decide)
  have e16_2 : qN u (qO u 16 2) = qN S (qO S 16 2) := fr_len w f hK hF w.k16 (by decide) (by decide) (by decide)
  have e52_3 : qN u (qO u 52 3) = qN S (qO S 52 3) := fr_len w f hK hF w.k52 (by decide) (by decide) (by decide)
  have e52_13 : qN u (qO u 52 13) = qN S (qO S 52 13) := fr_len w f hK hF w.k52 (by decide) (by decide) (by decide)
  have e52_9 : qN u (qO u 52 9) = qN S (qO S 52 9) := fr_len w f hK hF w.k52 (by decide) (by decide) (by decide)
  have e52_5 : qN u (qO u 52 5) = qN S (qO S 52 5) := fr_len w f hK hF w.k52 (by decide) (by decide) (by decide)
  have e52_7 : qN u (qO u 52 7) = qN S (qO S 52 7) := fr_len w f hK hF w.k52 (by decide) (by decide) (by decide)
  have e44_2 : qN u (qO u 44 2) = qN S (qO S 44 2) := fr_len w f hK hF w.k44 (by decide) (by decide) (by decide)
  have e44_4 : qN u (qO u 44 4) = qN S (qO S 44 4) := fr_len w f hK hF w.k44 (by decide) (by decide) (by decide)
  have e44_8 : qN u (qO u 44 8) = qN S (qO S 44 8) := fr_len w f hK hF w.k44 (by decide) (by decide) (by decide)
  have e44_9 : qN u (qO u 44 9) = qN S (qO S 44 9) := fr_len w f hK hF w.k44 (by decide) (by decide) (by decide)
  have e66_2 : qN u (qO u 66 2) = qN S (qO S 66 2) := fr_len w f hK hF w.k66 (by decide) (by decide) (by decide)
  have e9 : hp2 u = hp2 S := by unfold hp2; rw [e44_2]
  unfold CpK at h8
  unfold RmK PSc PNc at h9
  refine ⟨fr_rows w h1 f n hK (okL_mo hF (by decide)), fr_units w h2 f n hK (okL_mo hF (by decide)), fr_hts w h3 f n hK (okL_mo hF (by decide)), (by unfold ChKk; rw [show qN u (qO u 16 1) = qN S (qO S 16 1) from fr_len w f hK hF w.k16 (by decide) (by decide) (by decide), show qN u (qO u 16 3) = qN S (qO S 16 3) from fr_len w f hK hF w.k16 (by decide) (by decide) (by decide), e16_2]; exact h4), wk, fr_smith w (h1 _ w.k67) h6 f hK hF (by decide), fr_dn h7 f.1 n, ?_, ?_⟩
  · unfold CpK; rw [e1_0, e3_0, e5_0, e26_0, e28_0, e30_0, e17_0, e38_0, e16_2, e52_3, e52_13, e52_9, e52_5, e52_7, e44_2, e44_4, e44_8, e44_9, e66_2]; omega
  · unfold RmK PSc PNc; rw [e1_0, e3_0, e5_0, e26_0, e28_0, e30_0, e17_0, e38_0, e16_2, e52_3, e52_13, e52_9, e52_5, e52_7, e44_2, e44_4, e44_8, e44_9, e66_2, e9]; omega
def Lg_gb : List (Nat × Nat) := [(47, 0), (47, 1), (47, 2), (47, 3), (47, 4), (47, 5), (47, 6), (47, 7), (47, 8), (47, 9), (49, 0), (49, 4), (49, 5), (49, 6), (49, 7), (49, 8), (49, 9), (49, 10), (49, 11), (49, 12), (49, 13), (44, 0), (44, 1), (44, 2), (41, 1), (41, 2), (41, 3), (50, 16), (50, 17), (48, 0), (48, 2), (48, 3), (48, 4), (48, 5), (40, 0), (43, 5), (43, 7), (43, 9), (43, 13), (45, 2), (45, 4), (45, 8), (45, 9)]
theorem ShC.g_gb {B : Nat × Nat} {K : List Nat} {S u : MS} (w : wfC S) (h : ShC B S) (f : cfr K [(43, 2), (43, 3)] S u) (n : nkC S u) (hK : okK K = true) (r0 : 2 * qN S (qO S 52 3) + 2 ≤ qN u (qO u 52 3)) (r1 : qN u (qO u 52 3) ≤ 2400) (r2 : qn u ≤ qn S + 2) (r3 : qu u ≤ qu S + 2 * qN u (qO u 52 3)) : ShC B u := by
  obtain ⟨h1, h2, h3, h4, h5, h6, h7, h8, h9⟩ := h
  have hF : okL Lg_gb [(43, 2), (43, 3)] = true := rfl
  have e1_0 : qN u (qO u 1 0) = qN S (qO S 1 0) := fr_len w f hK hF w.k1 (by decide) (by decide) (by decide)
  have e3_0 : qN u (qO u 3 0) = qN S (qO S 3 0) := fr_len w f hK hF w.k3 (by decide) (by decide) (by decide)
  have e5_0 : qN u (qO u 5 0) = qN S (qO S 5 0) := fr_len w f hK hF w.k5 (by decide) (by decide) (by decide)
  have e26_0 : qN u (qO u 26 0) = qN S (qO S 26 0) := fr_len w f hK hF w.k26 (by decide) (by decide) (by decide)
  have e28_0 : qN u (qO u 28 0) = qN S (qO S 28 0) := fr_len w f hK hF w.k28 (by decide) (by decide) (by decide)
  have e30_0 : qN u (qO u 30 0) = qN S (qO S 30 0) := fr_len w f hK hF w.k30 (by decide) (by decide) (by decide)
  have e17_0 : qN u (qO u 17 0) = qN S (qO S 17 0) := fr_len w f hK hF w.k17 (by decide) (by decide) (by decide)
  have e38_0 : qN u (qO u 38 0) = qN S (qO S 38 0) := fr_len w f hK hF w.k38 (by decide) (by decide) (by decide)
  have e16_2 : qN u (qO u 16 2) = qN S (qO S 16 2) := fr_len w f hK hF w.k16 (by decide) (by decide) (by decide)
  have e25_17 : qN u (qO u 25 17) = qN S (qO S 25 17) := fr_len w f hK hF w.k25 (by decide) (by decide) (by decide)
  have e52_13 : qN u (qO u 52 13) = qN S (qO S 52 13) := fr_len w f hK hF w.k52 (by decide) (by decide) (by decide)
  have e52_9 : qN u (qO u 52 9) = qN S (qO S 52 9) := fr_len w f hK hF w.k52 (by decide) (by decide) (by decide)
  have e52_5 : qN u (qO u 52 5) = qN S (qO S 52 5) := fr_len w f hK hF w.k52 (by decide) (by decide) (by decide)
  have e52_7 : qN u (qO u 52 7) = qN S (qO S 52 7) := fr_len w f hK hF w.k52 (by decide) (by decide) (by decide)
  have e44_2 : qN u (qO u 44 2) = qN S (qO S 44 2) := fr_len w f hK hF w.k44 (by decide) (by decide) (by decide)
  have e44_4 : qN u (qO u 44 4) = qN S (qO S 44 4) := fr_len w f hK hF w.k44 (by decide) (by decide) (by decide)
  have e44_8 : qN u (qO u 44 8) = qN S (qO S 44 8) := fr_len w f hK hF w.k44 (by decide) (by decide) (by decide)
  have e44_9 : qN u (qO u 44 9) = qN S (qO S 44 9) := fr_len w f hK hF w.k44 (by decide) (by decide) (by decide)
  have e66_2 : qN u (qO u 66 2) = qN S (qO S 66 2) := fr_len w f hK hF w.k66 (by decide) (by decide) (by decide)
  have e9 : hp2 u = hp2 S := by unfold hp2; rw [e44_2]
  unfold CpK at h8
  unfold RmK PSc PNc at h9
  refine ⟨fr_rows w h1 f n hK (okL_mo hF (by decide)), fr_units w h2 f n hK (okL_mo hF (by decide)), fr_hts w h3 f n hK (okL_mo hF (by decide)), (by unfold ChKk; rw [show qN u (qO u 16 1) = qN S (qO S 16 1) from fr_len w f hK hF w.k16 (by decide) (by decide) (by decide), show qN u (qO u 16 3) = qN S (qO S 16 3) from fr_len w f hK hF w.k16 (by decide) (by decide) (by decide), e16_2]; exact h4), (by unfold WrK; rw [show qN u (qO u 25 16) = qN S (qO S 25 16) from fr_len w f hK hF w.k25 (by decide) (by decide) (by decide), e25_17]; exact h5), fr_smith w (h1 _ w.k67) h6 f hK hF (by decide), fr_dn h7 f.1 n, ?_, ?_⟩
  · unfold CpK; rw [e1_0, e3_0, e5_0, e26_0, e28_0, e30_0, e17_0, e38_0, e16_2, e25_17, e52_13, e52_9, e52_5, e52_7, e44_2, e44_4, e44_8, e44_9, e66_2]; omega
  · unfold RmK PSc PNc; rw [e1_0, e3_0, e5_0, e26_0, e28_0, e30_0, e17_0, e38_0, e16_2, e25_17, e52_13, e52_9, e52_5, e52_7, e44_2, e44_4, e44_8, e44_9, e66_2, e9]; omega
def Lg_gd : List (Nat × Nat) := [(47, 0), (47, 1), (47, 2), (47, 3), (47, 4), (47, 5), (47, 6), (47, 7), (47, 8), (47, 9), (49, 0), (49, 4), (49, 5), (49, 6), (49, 7), (49, 8), (49, 9), (49, 10), (49, 11), (49, 12), (49, 13), (44, 0), (44, 1), (44, 2), (41, 1), (41, 2), (41, 3), (50, 16), (50, 17), (48, 0), (48, 2), (48, 3), (48, 4), (48, 5), (40, 0), (43, 3), (43, 5), (43, 7), (43, 9), (45, 2), (45, 4), (45, 8), (45, 9)]
theorem ShC.g_gd {B : Nat × Nat} {K : List Nat} {S u : MS} (w : wfC S) (h : ShC B S) (f : cfr K [(43, 4), (43, 6), (43, 8), (43, 11), (43, 12), (43, 13), (43, 14), (43, 15)] S u) (n : nkC S u) (hK : okK K = true) (r0 : 2 * qN S (qO S 52 13) + 2 ≤ qN u (qO u 52 13)) (r1 : qN u (qO u 52 13) ≤ 2400) (r2 : qn u ≤ qn S + 8) (r3 : qu u ≤ qu S + 8 * qN u (qO u 52 13) + 2) : ShC B u := by
  obtain ⟨h1, h2, h3, h4, h5, h6, h7, h8, h9⟩ := h
  have hF : okL Lg_gd [(43, 4), (43, 6), (43, 8), (43, 11), (43, 12), (43, 13), (43, 14), (43, 15)] = true := rfl
  have e1_0 : qN u (qO u 1 0) = qN S (qO S 1 0) := fr_len w f hK hF w.k1 (by decide) (by decide) (by decide)
  have e3_0 : qN u (qO u 3 0) = qN S (qO S 3 0) := fr_len w f hK hF w.k3 (by decide) (by decide) (by decide)
  have e5_0 : qN u (qO u 5 0) = qN S (qO S 5 0) := fr_len w f hK hF w.k5 (by decide) (by decide) (by decide)
  have e26_0 : qN u (qO u 26 0) = qN S (qO S 26 0) := fr_len w f hK hF w.k26 (by decide) (by decide) (by decide)
  have e28_0 : qN u (qO u 28 0) = qN S (qO S 28 0) := fr_len w f hK hF w.k28 (by decide) (by decide) (by decide)
  have e30_0 : qN u (qO u 30 0) = qN S (qO S 30 0) := fr_len w f hK hF w.k30 (by decide) (by decide) (by decide)
  have e17_0 : qN u (qO u 17 0) = qN S (qO S 17 0) := fr_len w f hK hF w.k17 (by decide) (by decide) (by decide)
  have e38_0 : qN u (qO u 38 0) = qN S (qO S 38 0) := fr_len w f hK hF w.k38 (by decide) (by decide) (by decide)
  have e16_2 : qN u (qO u 16 2) = qN S (qO S 16 2) := fr_len w f hK hF w.k16 (by decide) (by decide) (by decide)
  have e25_17 : qN u (qO u 25 17) = qN S (qO S 25 17) := fr_len w f hK hF w.k25 (by decide) (by decide) (by decide)
  have e52_3 : qN u (qO u 52 3) = qN S (qO S 52 3) := fr_len w f hK hF w.k52 (by decide) (by decide) (by decide)
  have e52_9 : qN u (qO u 52 9) = qN S (qO S 52 9) := fr_len w f hK hF w.k52 (by decide) (by decide) (by decide)
  have e52_5 : qN u (qO u 52 5) = qN S (qO S 52 5) := fr_len w f hK hF w.k52 (by decide) (by decide) (by decide)
  have e52_7 : qN u (qO u 52 7) = qN S (qO S 52 7) := fr_len w f hK hF w.k52 (by decide) (by decide) (by decide)
  have e44_2 : qN u (qO u 44 2) = qN S (qO S 44 2) := fr_len w f hK hF w.k44 (by decide) (by decide) (by decide)
  have e44_4 : qN u (qO u 44 4) = qN S (qO S 44 4) := fr_len w f hK hF w.k44 (by decide) (by decide) (by decide)
  have e44_8 : qN u (qO u 44 8) = qN S (qO S 44 8) := fr_len w f hK hF w.k44 (by decide) (by decide) (by decide)
  have e44_9 : qN u (qO u 44 9) = qN S (qO S 44 9) := fr_len w f hK hF w.k44 (by decide) (by decide) (by decide)
  have e66_2 : qN u (qO u 66 2) = qN S (qO S 66 2) := fr_len w f hK hF w.k66 (by decide) (by decide) (by decide)
  have e9 : hp2 u = hp2 S := by unfold hp2; rw [e44_2]
  unfold CpK at h8
  unfold RmK PSc PNc at h9
  refine ⟨fr_rows w h1 f n hK (okL_mo hF (by decide)), fr_units w h2 f n hK (okL_mo hF (by decide)), fr_hts w h3 f n hK (okL_mo hF (by decide)), (by unfold ChKk; rw [show qN u (qO u 16 1) = qN S (qO S 16 1) from fr_len w f hK hF w.k16 (by decide) (by decide) (by decide), show qN u (qO u 16 3) = qN S (qO S 16 3) from fr_len w f hK hF w.k16 (by decide) (by decide) (by decide), e16_2]; exact h4), (by unfold WrK; rw [show qN u (qO u 25 16) = qN S (qO S 25 16) from fr_len w f hK hF w.k25 (by decide) (by decide) (by decide), e25_17]; exact h5), fr_smith w (h1 _ w.k67) h6 f hK hF (by decide), fr_dn h7 f.1 n, ?_, ?_⟩
  · unfold CpK; rw [e1_0, e3_0, e5_0, e26_0, e28_0, e30_0, e17_0, e38_0, e16_2, e25_17, e52_3, e52_9, e52_5, e52_7, e44_2, e44_4, e44_8, e44_9, e66_2]; omega
  · unfold RmK PSc PNc; rw [e1_0, e3_0, e5_0, e26_0, e28_0, e30_0, e17_0, e38_0, e16_2, e25_17, e52_3, e52_9, e52_5, e52_7, e44_2, e44_4, e44_8, e44_9, e66_2, e9]; omega
def Lg_gm : List (Nat × Nat) := [(47, 0), (47, 1), (47, 2), (47, 3), (47, 4), (47, 5), (47, 6), (47, 7), (47, 8), (47, 9), (49, 0), (49, 4), (49, 5), (49, 6), (49, 7), (49, 8), (49, 9), (49, 10), (49, 11), (49, 12), (49, 13), (44, 0), (44, 1), (44, 2), (41, 1), (41, 2), (41, 3), (50, 16), (50, 17), (48, 0), (48, 2), (48, 3), (48, 4), (48, 5), (40, 0), (43, 3), (43, 5), (43, 7), (43, 13), (45, 2), (45, 4), (45, 8), (45, 9)]
theorem ShC.g_gm {B : Nat × Nat} {K : List Nat} {S u : MS} (w : wfC S) (h : ShC B S) (f : cfr K [(43, 9)] S u) (n : nkC S u) (hK : okK K = true) (r0 : 2 * qN S (qO S 52 9) + 2 ≤ qN u (qO u 52 9)) (r1 : qN u (qO u 52 9) ≤ 45600) (r2 : qn u ≤ qn S + 1) (r3 : qu u ≤ qu S + 1 * qN u (qO u 52 9)) : ShC B u := by
  obtain ⟨h1, h2, h3, h4, h5, h6, h7, h8, h9⟩ := h
  have hF : okL Lg_gm [(43, 9)] = true := rfl
  have e1_0 : qN u (qO u 1 0) = qN S (qO S 1 0) := fr_len w f hK hF w.k1 (by decide) (by decide) (by decide)
  have e3_0 : qN u (qO u 3 0) = qN S (qO S 3 0) := fr_len w f hK hF w.k3 (by decide) (by decide) (by decide)
  have e5_0 : qN u (qO u 5 0) = qN S (qO S 5 0) := fr_len w f hK hF w.k5 (by decide) (by decide) (by decide)
  have e26_0 : qN u (qO u 26 0) = qN S (qO S 26 0) := fr_len w f hK hF w.k26 (by decide) (by decide) (by decide)
  have e28_0 : qN u (qO u 28 0) = qN S (qO S 28 0) := fr_len w f hK hF w.k28 (by decide) (by decide) (by decide)
  have e30_0 : qN u (qO u 30 0) = qN S (qO S 30 0) := fr_len w f hK hF w.k30 (by decide) (by decide) (by decide)
  have e17_0 : qN u (qO u 17 0) = qN S (qO S 17 0) := fr_len w f hK hF w.k17 (by decide) (by decide) (by decide)
  have e38_0 : qN u (qO u 38 0) = qN S (qO S 38 0) := fr_len w f hK hF w.k38 (by decide) (by decide) (by decide)
  have e16_2 : qN u (qO u 16 2) = qN S (qO S 16 2) := fr_len w f hK hF w.k16 (by decide) (by decide) (by decide)
  have e25_17 : qN u (qO u 25 17) = qN S (qO S 25 17) := fr_len w f hK hF w.k25 (by decide) (by decide) (by decide)
  have e52_3 : qN u (qO u 52 3) = qN S (qO S 52 3) := fr_len w f hK hF w.k52 (by decide) (by decide) (by decide)
  have e52_13 : qN u (qO u 52 13) = qN S (qO S 52 13) := fr_len w f hK hF w.k52 (by decide) (by decide) (by decide)
  have e52_5 : qN u (qO u 52 5) = qN S (qO S 52 5) := fr_len w f hK hF w.k52 (by decide) (by decide) (by decide)
  have e52_7 : qN u (qO u 52 7) = qN S (qO S 52 7) := fr_len w f hK hF w.k52 (by decide) (by decide) (by decide)
  have e44_2 : qN u (qO u 44 2) = qN S (qO S 44 2) := fr_len w f hK hF w.k44 (by decide) (by decide) (by decide)
  have e44_4 : qN u (qO u 44 4) = qN S (qO S 44 4) := fr_len w f hK hF w.k44 (by decide) (by decide) (by decide)
  have e44_8 : qN u (qO u 44 8) = qN S (qO S 44 8) := fr_len w f hK hF w.k44 (by decide) (by decide) (by decide)
  have e44_9 : qN u (qO u 44 9) = qN S (qO S 44 9) := fr_len w f hK hF w.k44 (by decide) (by decide) (by decide)
  have e66_2 : qN u (qO u 66 2) = qN S (qO S 66 2) := fr_len w f hK hF w.k66 (by decide) (by decide) (by decide)
  have e9 : hp2 u = hp2 S := by unfold hp2; rw [e44_2]
  unfold CpK at h8
  unfold RmK PSc PNc at h9
  refine ⟨fr_rows w h1 f n hK (okL_mo hF (by decide)), fr_units w h2 f n hK (okL_mo hF (by decide)), fr_hts w h3 f n hK (okL_mo hF (by decide)), (by unfold ChKk; rw [show qN u (qO u 16 1) = qN S (qO S 16 1) from fr_len w f hK hF w.k16 (by decide) (by decide) (by decide), show qN u (qO u 16 3) = qN S (qO S 16 3) from fr_len w f hK hF w.k16 (by decide) (by decide) (by decide), e16_2]; exact h4), (by unfold WrK; rw [show qN u (qO u 25 16) = qN S (qO S 25 16) from fr_len w f hK hF w.k25 (by decide) (by decide) (by decide), e25_17]; exact h5), fr_smith w (h1 _ w.k67) h6 f hK hF (by decide), fr_dn h7 f.1 n, ?_, ?_⟩
  · unfold CpK; rw [e1_0, e3_0, e5_0, e26_0, e28_0, e30_0, e17_0, e38_0, e16_2, e25_17, e52_3, e52_13, e52_5, e52_7, e44_2, e44_4, e44_8, e44_9, e66_2]; omega
  · unfold RmK PSc PNc; rw [e1_0, e3_0, e5_0, e26_0, e28_0, e30_0, e17_0, e38_0, e16_2, e25_17, e52_3, e52_13, e52_5, e52_7, e44_2, e44_4, e44_8, e44_9, e66_2, e9]; omega
def Lg_ge : List (Nat × Nat) := [(47, 0), (47, 1), (47, 2), (47, 3), (47, 4), (47, 5), (47, 6), (47, 7), (47, 8), (47, 9), (49, 0), (49, 4), (49, 5), (49, 6), (49, 7), (49, 8), (49, 9), (49, 10), (49, 11), (49, 12), (49, 13), (44, 0), (44, 1), (44, 2), (41, 1), (41, 2), (41, 3), (50, 16), (50, 17), (48, 0), (48, 2), (48, 3), (48, 4), (48, 5), (40, 0), (43, 3), (43, 7), (43, 9), (43, 13), (45, 2), (45, 4), (45, 8), (45, 9)]
theorem ShC.g_ge {B : Nat × Nat} {K : List Nat} {S u : MS} (w : wfC S) (h : ShC B S) (f : cfr K [(43, 5)] S u) (n : nkC S u) (hK : okK K = true) (r0 : qN u (qO u 52 5) = 2 * qN S (qO S 52 5)) (r1 : 16 ≤ qN S (qO S 52 5)) (r2 : qN u (qO u 52 5) ≤ 32768) (r3 : qn u ≤ qn S + 1) (r4 : qu u ≤ qu S + qN u (qO u 52 5)) : ShC B u := by
  obtain ⟨h1, h2, h3, h4, h5, h6, h7, h8, h9⟩ := h
  have hF : okL Lg_ge [(43, 5)] = true := rfl
  have e1_0 : qN u (qO u 1 0) = qN S (qO S 1 0) := fr_len w f hK hF w.k1 (by decide) (by decide) (by decide)
  have e3_0 : qN u (qO u 3 0) = qN S (qO S 3 0) := fr_len w f hK hF w.k3 (by decide) (by decide) (by decide)
  have e5_0 : qN u (qO u 5 0) = qN S (qO S 5 0) := fr_len w f hK hF w.k5 (by decide) (by decide) (by decide)
  have e26_0 : qN u (qO u 26 0) = qN S (qO S 26 0) := fr_len w f hK hF w.k26 (by decide) (by decide) (by decide)
  have e28_0 : qN u (qO u 28 0) = qN S (qO S 28 0) := fr_len w f hK hF w.k28 (by decide) (by decide) (by decide)
  have e30_0 : qN u (qO u 30 0) = qN S (qO S 30 0) := fr_len w f hK hF w.k30 (by decide) (by decide) (by decide)
  have e17_0 : qN u (qO u 17 0) = qN S (qO S 17 0) := fr_len w f hK hF w.k17 (by decide) (by decide) (by decide)
  have e38_0 : qN u (qO u 38 0) = qN S (qO S 38 0) := fr_len w f hK hF w.k38 (by decide) (by decide) (by decide)
  have e16_2 : qN u (qO u 16 2) = qN S (qO S 16 2) := fr_len w f hK hF w.k16 (by decide) (by decide) (by decide)
  have e25_17 : qN u (qO u 25 17) = qN S (qO S 25 17) := fr_len w f hK hF w.k25 (by decide) (by decide) (by decide)
  have e52_3 : qN u (qO u 52 3) = qN S (qO S 52 3) := fr_len w f hK hF w.k52 (by decide) (by decide) (by decide)
  have e52_13 : qN u (qO u 52 13) = qN S (qO S 52 13) := fr_len w f hK hF w.k52 (by decide) (by decide) (by decide)
  have e52_9 : qN u (qO u 52 9) = qN S (qO S 52 9) := fr_len w f hK hF w.k52 (by decide) (by decide) (by decide)
  have e52_7 : qN u (qO u 52 7) = qN S (qO S 52 7) := fr_len w f hK hF w.k52 (by decide) (by decide) (by decide)
  have e44_2 : qN u (qO u 44 2) = qN S (qO S 44 2) := fr_len w f hK hF w.k44 (by decide) (by decide) (by decide)
  have e44_4 : qN u (qO u 44 4) = qN S (qO S 44 4) := fr_len w f hK hF w.k44 (by decide) (by decide) (by decide)
  have e44_8 : qN u (qO u 44 8) = qN S (qO S 44 8) := fr_len w f hK hF w.k44 (by decide) (by decide) (by decide)
  have e44_9 : qN u (qO u 44 9) = qN S (qO S 44 9) := fr_len w f hK hF w.k44 (by decide) (by decide) (by decide)
  have e66_2 : qN u (qO u 66 2) = qN S (qO S 66 2) := fr_len w f hK hF w.k66 (by decide) (by decide) (by decide)
  have e9 : hp2 u = hp2 S := by unfold hp2; rw [e44_2]
  unfold CpK at h8
  unfold RmK PSc PNc at h9
  refine ⟨fr_rows w h1 f n hK (okL_mo hF (by decide)), fr_units w h2 f n hK (okL_mo hF (by decide)), fr_hts w h3 f n hK (okL_mo hF (by decide)), (by unfold ChKk; rw [show qN u (qO u 16 1) = qN S (qO S 16 1) from fr_len w f hK hF w.k16 (by decide) (by decide) (by decide), show qN u (qO u 16 3) = qN S (qO S 16 3) from fr_len w f hK hF w.k16 (by decide) (by decide) (by decide), e16_2]; exact h4), (by unfold WrK; rw [show qN u (qO u 25 16) = qN S (qO S 25 16) from fr_len w f hK hF w.k25 (by decide) (by decide) (by decide), e25_17]; exact h5), fr_smith w (h1 _ w.k67) h6 f hK hF (by decide), fr_dn h7 f.1 n, ?_, ?_⟩
  · unfold CpK; rw [e1_0, e3_0, e5_0, e26_0, e28_0, e30_0, e17_0, e38_0, e16_2, e25_17, e52_3, e52_13, e52_9, e52_7, e44_2, e44_4, e44_8, e44_9, e66_2]; omega
  · unfold RmK PSc PNc; rw [e1_0, e3_0, e5_0, e26_0, e28_0, e30_0, e17_0, e38_0, e16_2, e25_17, e52_3, e52_13, e52_9, e52_7, e44_2, e44_4, e44_8, e44_9, e66_2, e9]; omega
def Lg_gk : List (Nat × Nat) := [(47, 0), (47, 1), (47, 2), (47, 3), (47, 4), (47, 5), (47, 6), (47, 7), (47, 8), (47, 9), (49, 0), (49, 4), (49, 5), (49, 6), (49, 7), (49, 8), (49, 9), (49, 10), (49, 11), (49, 12), (49, 13), (44, 0), (44, 1), (44, 2), (41, 1), (41, 2), (41, 3), (50, 16), (50, 17), (48, 0), (48, 2), (48, 3), (48, 4), (48, 5), (40, 0), (43, 3), (43, 5), (43, 9), (43, 13), (45, 2), (45, 4), (45, 8), (45, 9)]
theorem ShC.g_gk {B : Nat × Nat} {K : List Nat} {S u : MS} (w : wfC S) (h : ShC B S) (f : cfr K [(43, 7)] S u) (n : nkC S u) (hK : okK K = true) (r0 : 2 * qN S (qO S 52 7) ≤ qN u (qO u 52 7)) (r1 : 16 ≤ qN u (qO u 52 7)) (r2 : qN S (qO S 52 7) = 0 ∨ 16 ≤ qN S (qO S 52 7)) (r3 : qN u (qO u 52 7) ≤ 32768) (r4 : qn u ≤ qn S + 1) (r5 : qu u ≤ qu S + qN u (qO u 52 7)) : ShC B u := by
  obtain ⟨h1, h2, h3, h4, h5, h6, h7, h8, h9⟩ := h
  have hF : okL Lg_gk [(43, 7)] = true := rfl
  have e1_0 : qN u (qO u 1 0) = qN S (qO S 1 0) := fr_len w f hK hF w.k1 (by decide) (by decide) (by decide)
  have e3_0 : qN u (qO u 3 0) = qN S (qO S 3 0) := fr_len w f hK hF w.k3 (by decide) (by decide) (by decide)
  have e5_0 : qN u (qO u 5 0) = qN S (qO S 5 0) := fr_len w f hK hF w.k5 (by decide) (by decide) (by decide)
  have e26_0 : qN u (qO u 26 0) = qN S (qO S 26 0) := fr_len w f hK hF w.k26 (by decide) (by decide) (by decide)
  have e28_0 : qN u (qO u 28 0) = qN S (qO S 28 0) := fr_len w f hK hF w.k28 (by decide) (by decide) (by decide)
  have e30_0 : qN u (qO u 30 0) = qN S (qO S 30 0) := fr_len w f hK hF w.k30 (by decide) (by decide) (by decide)
  have e17_0 : qN u (qO u 17 0) = qN S (qO S 17 0) := fr_len w f hK hF w.k17 (by decide) (by decide) (by decide)
  have e38_0 : qN u (qO u 38 0) = qN S (qO S 38 0) := fr_len w f hK hF w.k38 (by decide) (by decide) (by decide)
  have e16_2 : qN u (qO u 16 2) = qN S (qO S 16 2) := fr_len w f hK hF w.k16 (by decide) (by decide) (by decide)
  have e25_17 : qN u (qO u 25 17) = qN S (qO S 25 17) := fr_len w f hK hF w.k25 (by decide) (by decide) (by decide)
  have e52_3 : qN u (qO u 52 3) = qN S (qO S 52 3) := fr_len w f hK hF w.k52 (by decide) (by decide) (by decide)
  have e52_13 : qN u (qO u 52 13) = qN S (qO S 52 13) := fr_len w f hK hF w.k52 (by decide) (by decide) (by decide)
  have e52_9 : qN u (qO u 52 9) = qN S (qO S 52 9) := fr_len w f hK hF w.k52 (by decide) (by decide) (by decide)
  have e52_5 : qN u (qO u 52 5) = qN S (qO S 52 5) := fr_len w f hK hF w.k52 (by decide) (by decide) (by decide)
  have e44_2 : qN u (qO u 44 2) = qN S (qO S 44 2) := fr_len w f hK hF w.k44 (by decide) (by decide) (by decide)
  have e44_4 : qN u (qO u 44 4) = qN S (qO S 44 4) := fr_len w f hK hF w.k44 (by decide) (by decide) (by decide)
  have e44_8 : qN u (qO u 44 8) = qN S (qO S 44 8) := fr_len w f hK hF w.k44 (by decide) (by decide) (by decide)
  have e44_9 : qN u (qO u 44 9) = qN S (qO S 44 9) := fr_len w f hK hF w.k44 (by decide) (by decide) (by decide)
  have e66_2 : qN u (qO u 66 2) = qN S (qO S 66 2) := fr_len w f hK hF w.k66 (by decide) (by decide) (by decide)
  have e9 : hp2 u = hp2 S := by unfold hp2; rw [e44_2]
  unfold CpK at h8
  unfold RmK PSc PNc at h9
  refine ⟨fr_rows w h1 f n hK (okL_mo hF (by decide)), fr_units w h2 f n hK (okL_mo hF (by decide)), fr_hts w h3 f n hK (okL_mo hF (by decide)), (by unfold ChKk; rw [show qN u (qO u 16 1) = qN S (qO S 16 1) from fr_len w f hK hF w.k16 (by decide) (by decide) (by decide), show qN u (qO u 16 3) = qN S (qO S 16 3) from fr_len w f hK hF w.k16 (by decide) (by decide) (by decide), e16_2]; exact h4), (by unfold WrK; rw [show qN u (qO u 25 16) = qN S (qO S 25 16) from fr_len w f hK hF w.k25 (by decide) (by decide) (by decide), e25_17]; exact h5), fr_smith w (h1 _ w.k67) h6 f hK hF (by decide), fr_dn h7 f.1 n, ?_, ?_⟩
  · unfold CpK; rw [e1_0, e3_0, e5_0, e26_0, e28_0, e30_0, e17_0, e38_0, e16_2, e25_17, e52_3, e52_13, e52_9, e52_5, e44_2, e44_4, e44_8, e44_9, e66_2]; omega
  · unfold RmK PSc PNc; rw [e1_0, e3_0, e5_0, e26_0, e28_0, e30_0, e17_0, e38_0, e16_2, e25_17, e52_3, e52_13, e52_9, e52_5, e44_2, e44_4, e44_8, e44_9, e66_2, e9]; omega
def Lg_ma : List (Nat × Nat) := [(47, 0), (47, 1), (47, 2), (47, 3), (47, 4), (47, 5), (47, 6), (47, 7), (47, 8), (47, 9), (49, 0), (49, 4), (49, 5), (49, 6), (49, 7), (49, 8), (49, 9), (49, 10), (49, 11), (49, 12), (49, 13), (44, 0), (44, 1), (44, 2), (41, 1), (41, 2), (41, 3), (50, 16), (50, 17), (48, 0), (48, 2), (48, 3), (48, 4), (48, 5), (40, 0), (43, 3), (43, 5), (43, 7), (43, 9), (43, 13), (45, 2), (45, 8), (45, 9)]
theorem ShC.g_ma {B : Nat × Nat} {K : List Nat} {S u : MS} (w : wfC S) (h : ShC B S) (f : cfr K [(45, 4)] S u) (n : nkC S u) (hK : okK K = true) (r0 : qN u (qO u 44 4) = 2 * qN S (qO S 44 4)) (r1 : 8 ≤ qN S (qO S 44 4)) (r2 : qN u (qO u 44 4) ≤ 512) (r3 : qn u ≤ qn S + 1) (r4 : qu u ≤ qu S + qN u (qO u 44 4)) : ShC B u := by
  obtain ⟨h1, h2, h3, h4, h5, h6, h7, h8, h9⟩ := h
  have hF : okL Lg_ma [(45, 4)] = true := rfl
  have e1_0 : qN u (qO u 1 0) = qN S (qO S 1 0) := fr_len w f hK hF w.k1 (by decide) (by decide) (by decide)
  have e3_0 : qN u (qO u 3 0) = qN S (qO S 3 0) := fr_len w f hK hF w.k3 (by decide) (by decide) (by decide)
  have e5_0 : qN u (qO u 5 0) = qN S (qO S 5 0) := fr_len w f hK hF w.k5 (by decide) (by decide) (by decide)
  have e26_0 : qN u (qO u 26 0) = qN S (qO S 26 0) := fr_len w f hK hF w.k26 (by decide) (by decide) (by decide)
  have e28_0 : qN u (qO u 28 0) = qN S (qO S 28 0) := fr_len w f hK hF w.k28 (by decide) (by decide) (by decide)
  have e30_0 : qN u (qO u 30 0) = qN S (qO S 30 0) := fr_len w f hK hF w.k30 (by decide) (by decide) (by decide)
  have e17_0 : qN u (qO u 17 0) = qN S (qO S 17 0) := fr_len w f hK hF w.k17 (by decide) (by decide) (by decide)
  have e38_0 : qN u (qO u 38 0) = qN S (qO S 38 0) := fr_len w f hK hF w.k38 (by decide) (by decide) (by decide)
  have e16_2 : qN u (qO u 16 2) = qN S (qO S 16 2) := fr_len w f hK hF w.k16 (by decide) (by decide) (by decide)
  have e25_17 : qN u (qO u 25 17) = qN S (qO S 25 17) := fr_len w f hK hF w.k25 (by decide) (by decide) (by decide)
  have e52_3 : qN u (qO u 52 3) = qN S (qO S 52 3) := fr_len w f hK hF w.k52 (by decide) (by decide) (by decide)
  have e52_13 : qN u (qO u 52 13) = qN S (qO S 52 13) := fr_len w f hK hF w.k52 (by decide) (by decide) (by decide)
  have e52_9 : qN u (qO u 52 9) = qN S (qO S 52 9) := fr_len w f hK hF w.k52 (by decide) (by decide) (by decide)
  have e52_5 : qN u (qO u 52 5) = qN S (qO S 52 5) := fr_len w f hK hF w.k52 (by decide) (by decide) (by decide)
  have e52_7 : qN u (qO u 52 7) = qN S (qO S 52 7) := fr_len w f hK hF w.k52 (by decide) (by decide) (by decide)
  have e44_2 : qN u (qO u 44 2) = qN S (qO S 44 2) := fr_len w f hK hF w.k44 (by decide) (by decide) (by decide)
  have e44_8 : qN u (qO u 44 8) = qN S (qO S 44 8) := fr_len w f hK hF w.k44 (by decide) (by decide) (by decide)
  have e44_9 : qN u (qO u 44 9) = qN S (qO S 44 9) := fr_len w f hK hF w.k44 (by decide) (by decide) (by decide)
  have e66_2 : qN u (qO u 66 2) = qN S (qO S 66 2) := fr_len w f hK hF w.k66 (by decide) (by decide) (by decide)
  have e9 : hp2 u = hp2 S := by unfold hp2; rw [e44_2]
  unfold CpK at h8
  unfold RmK PSc PNc at h9
  refine ⟨fr_rows w h1 f n hK (okL_mo hF (by decide)), fr_units w h2 f n hK (okL_mo hF (by decide)), fr_hts w h3 f n hK (okL_mo hF (by decide)), (by unfold ChKk; rw [show qN u (qO u 16 1) = qN S (qO S 16 1) from fr_len w f hK hF w.k16 (by decide) (by decide) (by decide), show qN u (qO u 16 3) = qN S (qO S 16 3) from fr_len w f hK hF w.k16 (by decide) (by decide) (by decide), e16_2]; exact h4), (by unfold WrK; rw [show qN u (qO u 25 16) = qN S (qO S 25 16) from fr_len w f hK hF w.k25 (by decide) (by decide) (by decide), e25_17]; exact h5), fr_smith w (h1 _ w.k67) h6 f hK hF (by decide), fr_dn h7 f.1 n, ?_, ?_⟩
  · unfold CpK; rw [e1_0, e3_0, e5_0, e26_0, e28_0, e30_0, e17_0, e38_0, e16_2, e25_17, e52_3, e52_13, e52_9, e52_5, e52_7, e44_2, e44_8, e44_9, e66_2]; omega
  · unfold RmK PSc PNc; rw [e1_0, e3_0, e5_0, e26_0, e28_0, e30_0, e17_0, e38_0, e16_2, e25_17, e52_3, e52_13, e52_9, e52_5, e52_7, e44_2, e44_8, e44_9, e66_2, e9]; omega
def Lg_mh : List (Nat × Nat) := [(47, 0), (47, 1), (47, 2), (47, 3), (47, 4), (47, 5), (47, 6), (47, 7), (47, 8), (47, 9), (49, 0), (49, 4), (49, 5), (49, 6), (49, 7), (49, 8), (49, 9), (49, 10), (49, 11), (49, 12), (49, 13), (44, 0), (44, 1), (44, 2), (41, 1), (41, 2), (41, 3), (50, 16), (50, 17), (48, 0), (48, 2), (48, 3), (48, 4), (48, 5), (40, 0), (43, 3), (43, 5), (43, 7), (43, 9), (43, 13), (45, 4), (45, 8), (45, 9)]
theorem ShC.g_mh {B : Nat × Nat} {K : List Nat} {S u : MS} (w : wfC S) (h : ShC B S) (f : cfr K [(45, 2)] S u) (n : nkC S u) (hK : okK K = true) (r0 : qN S (qO S 44 2) < qN u (qO u 44 2)) (r1 : qN u (qO u 44 2) ≤ 20000) (r2 : qN u (qO u 44 2) = 20000 ∨ 2 * qN S (qO S 44 2) + 2 ≤ qN u (qO u 44 2)) (r3 : qn u ≤ qn S + 1) (r4 : qu u ≤ qu S + qN u (qO u 44 2)) : ShC B u := by
  obtain ⟨h1, h2, h3, h4, h5, h6, h7, h8, h9⟩ := h
  have hF : okL Lg_mh [(45, 2)] = true := rfl
  have e1_0 : qN u (qO u 1 0) = qN S (qO S 1 0) := fr_len w f hK hF w.k1 (by decide) (by decide) (by decide)
  have e3_0 : qN u (qO u 3 0) = qN S (qO S 3 0) := fr_len w f hK hF w.k3 (by decide) (by decide) (by decide)
  have e5_0 : qN u (qO u 5 0) = qN S (qO S 5 0) := fr_len w f hK hF w.k5 (by decide) (by decide) (by decide)
  have e26_0 : qN u (qO u 26 0) = qN S (qO S 26 0) := fr_len w f hK hF w.k26 (by decide) (by decide) (by decide)
  have e28_0 : qN u (qO u 28 0) = qN S (qO S 28 0) := fr_len w f hK hF w.k28 (by decide) (by decide) (by decide)
  have e30_0 : qN u (qO u 30 0) = qN S (qO S 30 0) := fr_len w f hK hF w.k30 (by decide) (by decide) (by decide)
  have e17_0 : qN u (qO u 17 0) = qN S (qO S 17 0) := fr_len w f hK hF w.k17 (by decide) (by decide) (by decide)
  have e38_0 : qN u (qO u 38 0) = qN S (qO S 38 0) := fr_len w f hK hF w.k38 (by decide) (by decide) (by decide)
  have e16_2 : qN u (qO u 16 2) = qN S (qO S 16 2) := fr_len w f hK hF w.k16 (by decide) (by decide) (by decide)
  have e25_17 : qN u (qO u 25 17) = qN S (qO S 25 17) := fr_len w f hK hF w.k25 (by decide) (by decide) (by decide)
  have e52_3 : qN u (qO u 52 3) = qN S (qO S 52 3) := fr_len w f hK hF w.k52 (by decide) (by decide) (by decide)
  have e52_13 : qN u (qO u 52 13) = qN S (qO S 52 13) := fr_len w f hK hF w.k52 (by decide) (by decide) (by decide)
  have e52_9 : qN u (qO u 52 9) = qN S (qO S 52 9) := fr_len w f hK hF w.k52 (by decide) (by decide) (by decide)
  have e52_5 : qN u (qO u 52 5) = qN S (qO S 52 5) := fr_len w f hK hF w.k52 (by decide) (by decide) (by decide)
  have e52_7 : qN u (qO u 52 7) = qN S (qO S 52 7) := fr_len w f hK hF w.k52 (by decide) (by decide) (by decide)
  have e44_4 : qN u (qO u 44 4) = qN S (qO S 44 4) := fr_len w f hK hF w.k44 (by decide) (by decide) (by decide)
  have e44_8 : qN u (qO u 44 8) = qN S (qO S 44 8) := fr_len w f hK hF w.k44 (by decide) (by decide) (by decide)
  have e44_9 : qN u (qO u 44 9) = qN S (qO S 44 9) := fr_len w f hK hF w.k44 (by decide) (by decide) (by decide)
  have e66_2 : qN u (qO u 66 2) = qN S (qO S 66 2) := fr_len w f hK hF w.k66 (by decide) (by decide) (by decide)
  unfold CpK at h8
  unfold RmK PSc PNc at h9
  refine ⟨fr_rows w h1 f n hK (okL_mo hF (by decide)), fr_units w h2 f n hK (okL_mo hF (by decide)), fr_hts w h3 f n hK (okL_mo hF (by decide)), (by unfold ChKk; rw [show qN u (qO u 16 1) = qN S (qO S 16 1) from fr_len w f hK hF w.k16 (by decide) (by decide) (by decide), show qN u (qO u 16 3) = qN S (qO S 16 3) from fr_len w f hK hF w.k16 (by decide) (by decide) (by decide), e16_2]; exact h4), (by unfold WrK; rw [show qN u (qO u 25 16) = qN S (qO S 25 16) from fr_len w f hK hF w.k25 (by decide) (by decide) (by decide), e25_17]; exact h5), fr_smith w (h1 _ w.k67) h6 f hK hF (by decide), fr_dn h7 f.1 n, ?_, ?_⟩
  · unfold CpK; rw [e1_0, e3_0, e5_0, e26_0, e28_0, e30_0, e17_0, e38_0, e16_2, e25_17, e52_3, e52_13, e52_9, e52_5, e52_7, e44_4, e44_8, e44_9, e66_2]; omega
  · have z1 : hp2 S = 0 := by unfold hp2; rw [if_neg (by omega)]
    have z2 : hp2 u = if qN u (qO u 44 2) = 20000 then 20000 else 0 := rfl
    unfold RmK PSc PNc; rw [e1_0, e3_0, e5_0, e26_0, e28_0, e30_0, e17_0, e38_0, e16_2, e25_17, e52_3, e52_13, e52_9, e52_5, e52_7, e44_4, e44_8, e44_9, e66_2, z2]; rw [z1] at h9; split <;> omega
def Lg_ms : List (Nat × Nat) := [(47, 0), (47, 1), (47, 2), (47, 3), (47, 4), (47, 5), (47, 6), (47, 7), (47, 8), (47, 9), (49, 0), (49, 4), (49, 5), (49, 6), (49, 7), (49, 8), (49, 9), (49, 10), (49, 11), (49, 12), (49, 13), (44, 0), (44, 1), (44, 2), (41, 1), (41, 2), (41, 3), (50, 16), (50, 17), (48, 0), (48, 2), (48, 3), (48, 4), (48, 5), (40, 0), (43, 3), (43, 5), (43, 7), (43, 9), (43, 13), (45, 2), (45, 4)]
theorem ShC.g_ms {B : Nat × Nat} {K : List Nat} {S u : MS} (w : wfC S) (h : ShC B S) (f : cfr K [(45, 8), (45, 9)] S u) (n : nkC S u) (hK : okK K = true) (r0 : qN S (qO S 44 8) = 0) (r1 : qN S (qO S 44 9) = 0) (r2 : qN u (qO u 44 8) = 1440) (r3 : qN u (qO u 44 9) = 1440) (r4 : qn u ≤ qn S + 2) (r5 : qu u ≤ qu S + 2880) : ShC B u := by
  obtain ⟨h1, h2, h3, h4, h5, h6, h7, h8, h9⟩ := h
  have hF : okL Lg_ms [(45, 8), (45, 9)] = true := rfl
  have e1_0 : qN u (qO u 1 0) = qN S (qO S 1 0) := fr_len w f hK hF w.k1 (by decide) (by decide) (by decide)
  have e3_0 : qN u (qO u 3 0) = qN S (qO S 3 0) := fr_len w f hK hF w.k3 (by decide) (by decide) (by decide)
  have e5_0 : qN u (qO u 5 0) = qN S (qO S 5 0) := fr_len w f hK hF w.k5 (by decide) (by decide) (by decide)
  have e26_0 : qN u (qO u 26 0) = qN S (qO S 26 0) := fr_len w f hK hF w.k26 (by decide) (by decide) (by decide)
  have e28_0 : qN u (qO u 28 0) = qN S (qO S 28 0) := fr_len w f hK hF w.k28 (by decide) (by decide) (by decide)
  have e30_0 : qN u (qO u 30 0) = qN S (qO S 30 0) := fr_len w f hK hF w.k30 (by decide) (by decide) (by decide)
  have e17_0 : qN u (qO u 17 0) = qN S (qO S 17 0) := fr_len w f hK hF w.k17 (by decide) (by decide) (by decide)
  have e38_0 : qN u (qO u 38 0) = qN S (qO S 38 0) := fr_len w f hK hF w.k38 (by decide) (by decide) (by decide)
  have e16_2 : qN u (qO u 16 2) = qN S (qO S 16 2) := fr_len w f hK hF w.k16 (by decide) (by decide) (by decide)
  have e25_17 : qN u (qO u 25 17) = qN S (qO S 25 17) := fr_len w f hK hF w.k25 (by decide) (by decide) (by decide)
  have e52_3 : qN u (qO u 52 3) = qN S (qO S 52 3) := fr_len w f hK hF w.k52 (by decide) (by decide) (by decide)
  have e52_13 : qN u (qO u 52 13) = qN S (qO S 52 13) := fr_len w f hK hF w.k52 (by decide) (by decide) (by decide)
  have e52_9 : qN u (qO u 52 9) = qN S (qO S 52 9) := fr_len w f hK hF w.k52 (by decide) (by decide) (by decide)
  have e52_5 : qN u (qO u 52 5) = qN S (qO S 52 5) := fr_len w f hK hF w.k52 (by decide) (by decide) (by decide)
  have e52_7 : qN u (qO u 52 7) = qN S (qO S 52 7) := fr_len w f hK hF w.k52 (by decide) (by decide) (by decide)
  have e44_2 : qN u (qO u 44 2) = qN S (qO S 44 2) := fr_len w f hK hF w.k44 (by decide) (by decide) (by decide)
  have e44_4 : qN u (qO u 44 4) = qN S (qO S 44 4) := fr_len w f hK hF w.k44 (by decide) (by decide) (by decide)
  have e66_2 : qN u (qO u 66 2) = qN S (qO S 66 2) := fr_len w f hK hF w.k66 (by decide) (by decide) (by decide)
  have e9 : hp2 u = hp2 S := by unfold hp2; rw [e44_2]
  unfold CpK at h8
  unfold RmK PSc PNc at h9
  refine ⟨fr_rows w h1 f n hK (okL_mo hF (by decide)), fr_units w h2 f n hK (okL_mo hF (by decide)), fr_hts w h3 f n hK (okL_mo hF (by decide)), (by unfold ChKk; rw [show qN u (qO u 16 1) = qN S (qO S 16 1) from fr_len w f hK hF w.k16 (by decide) (by decide) (by decide), show qN u (qO u 16 3) = qN S (qO S 16 3) from fr_len w f hK hF w.k16 (by decide) (by decide) (by decide), e16_2]; exact h4), (by unfold WrK; rw [show qN u (qO u 25 16) = qN S (qO S 25 16) from fr_len w f hK hF w.k25 (by decide) (by decide) (by decide), e25_17]; exact h5), fr_smith w (h1 _ w.k67) h6 f hK hF (by decide), fr_dn h7 f.1 n, ?_, ?_⟩
  · unfold CpK; rw [e1_0, e3_0, e5_0, e26_0, e28_0, e30_0, e17_0, e38_0, e16_2, e25_17, e52_3, e52_13, e52_9, e52_5, e52_7, e44_2, e44_4, e66_2]; omega
  · unfold RmK PSc PNc; rw [e1_0, e3_0, e5_0, e26_0, e28_0, e30_0, e17_0, e38_0, e16_2, e25_17, e52_3, e52_13, e52_9, e52_5, e52_7, e44_2, e44_4, e66_2, e9]; omega
set_option maxRecDepth 100000 in
theorem sg_X4_makeRoom_L54 {B : Nat × Nat} : ∀ (n : Nat) {U54 : MS} {v54_0 : Nat} {v54_2 : Int32}, ShC B U54 → 0 ≤ v54_2.toInt → 2147483648 - v54_2.toInt < n → w_X4_makeRoom_L54 (fun u => ShC B u ∧ (True)) n U54 v54_0 v54_2 := by
  intro n
  induction n with
  | zero => intro U54 v54_0 v54_2 g j0_ hm_; exfalso; have := rgI v54_2; omega
  | succ n ih54 =>
    intro U54 v54_0 v54_2 g j0_ hm_
    unfold w_X4_makeRoom_L54
    intro y1_ y2_
    refine ⟨?_, ?_⟩
    · exact (g.hts y2_).1.2.2
    refine ⟨fun c0_ => ?_, fun c0_ => ?_⟩
    · exact ⟨g, trivial⟩
    · refine ⟨?_, ?_⟩
      · exact (g.hts y2_).1.2.2
      refine ⟨?_, ?_⟩
      · have s1_ := (g.hts y2_).2
        have s2_ := y1_.len9 (y1_.ref (g.hts y2_).1.1 y2_) (by decide)
        have s3_ := y1_.len9 (y1_.ref (g.hts y2_).1.2.1 y2_) (by decide)
        have s4_ := y1_.len9 (y1_.ref (g.hts y2_).1.2.2 y2_) (by decide)
        have n1_ := rgI v54_2
        omega
      intro S21_5 eS21_5 y3_ y4_
      have f6_ : cfr [304] [] U54 S21_5 := by rw [eS21_5]; exact cfr.aI y3_ (by decide)
      have t7_ : (qI S21_5 v54_0 7).toInt = (qI U54 v54_0 7).toInt := congrArg Int32.toInt (f6_.kI (j := 7) y2_ (by decide) (by decide))
      have t8_ : (qI S21_5 v54_0 6).toInt = (qI U54 v54_0 6).toInt := congrArg Int32.toInt (f6_.kI (j := 6) y2_ (by decide) (by decide))
      have t9_ : (qI S21_5 v54_0 5).toInt = (qI U54 v54_0 5).toInt := congrArg Int32.toInt (f6_.kI (j := 5) y2_ (by decide) (by decide))
      have t10_ : (qN S21_5 (qO S21_5 v54_0 1) : Int) = (qN U54 (qO U54 v54_0 1) : Int) := f6_.kL (j := 1) y1_ y2_ (g.hts y2_).1.2.1 (by decide) (by decide)
      have t11_ : (qN S21_5 (qO S21_5 v54_0 0) : Int) = (qN U54 (qO U54 v54_0 0) : Int) := f6_.kL (j := 0) y1_ y2_ (g.hts y2_).1.1 (by decide) (by decide)
      have t12_ : (qN S21_5 (qO S21_5 v54_0 2) : Int) = (qN U54 (qO U54 v54_0 2) : Int) := f6_.kL (j := 2) y1_ y2_ (g.hts y2_).1.2.2 (by decide) (by decide)
      have k13_ : qT S21_5 v54_0 = 44 := f6_.1.T y2_ (by decide)
      have g : ShC B S21_5 := ShC.ws y1_ g f6_ (by rw [eS21_5]; rfl) (by rw [eS21_5]; rfl) (by rw [eS21_5]; rfl) rfl rfl
      intro a22_14 ea22_14 
      have ga22_14 := congrArg Int32.toInt ea22_14
      refine ih54 g ?_ ?_
      · have s15_ := (g.hts k13_).2
        have s16_ := y4_.len9 (y4_.ref (g.hts k13_).1.1 k13_) (by decide)
        have s17_ := y4_.len9 (y4_.ref (g.hts k13_).1.2.1 k13_) (by decide)
        have s18_ := y4_.len9 (y4_.ref (g.hts k13_).1.2.2 k13_) (by decide)
        have n1_ := rgI a22_14
        have n2_ := rgI v54_2
        have n4_ := lo_1k
        have n4_ := t_addD (a := v54_2) (b := Int32.ofInt 1)
        have n5_ := rgI (v54_2 + Int32.ofInt 1)
        omega
      · have s19_ := (g.hts k13_).2
        have s20_ := y4_.len9 (y4_.ref (g.hts k13_).1.1 k13_) (by decide)
        have s21_ := y4_.len9 (y4_.ref (g.hts k13_).1.2.1 k13_) (by decide)
        have s22_ := y4_.len9 (y4_.ref (g.hts k13_).1.2.2 k13_) (by decide)
        have n1_ := rgI a22_14
        have n2_ := rgI v54_2
        have n4_ := lo_1k
        have n4_ := t_addD (a := v54_2) (b := Int32.ofInt 1)
        have n5_ := rgI (v54_2 + Int32.ofInt 1)
        omega
set_option maxRecDepth 100000 in
theorem sg_X4_makeRoom_J36 {B : Nat × Nat} {U36 : MS} {v36_0 : Nat} (g : ShC B U36) : w_X4_makeRoom_J36 (fun u => ShC B u ∧ (True)) U36 v36_0 := by
  unfold w_X4_makeRoom_J36
  intro y5_ y6_
  refine ⟨?_, ?_⟩
  · exact (g.hts y6_).1.1
  intro y7_
  refine ⟨_, frJ7_fill_53178 y7_ (by decide) (sfJ7_fill_53178 y5_ y7_ (by decide)), ?_⟩
  intro S7_23 q8_ y9_ y10_
  have t24_ : (qI S7_23 v36_0 7).toInt = (qI U36 v36_0 7).toInt := congrArg Int32.toInt (q8_.2.kI (j := 7) y6_ (by decide) (by decide))
  have t25_ : (qI S7_23 v36_0 6).toInt = (qI U36 v36_0 6).toInt := congrArg Int32.toInt (q8_.2.kI (j := 6) y6_ (by decide) (by decide))
  have t26_ : (qI S7_23 v36_0 5).toInt = (qI U36 v36_0 5).toInt := congrArg Int32.toInt (q8_.2.kI (j := 5) y6_ (by decide) (by decide))
  have t27_ : (qN S7_23 (qO S7_23 v36_0 1) : Int) = (qN U36 (qO U36 v36_0 1) : Int) := q8_.2.kL (j := 1) y5_ y6_ (g.hts y6_).1.2.1 (by decide) (by decide)
  have t28_ : (qN S7_23 (qO S7_23 v36_0 0) : Int) = (qN U36 (qO U36 v36_0 0) : Int) := q8_.2.kL (j := 0) y5_ y6_ (g.hts y6_).1.1 (by decide) (by decide)
  have t29_ : (qN S7_23 (qO S7_23 v36_0 2) : Int) = (qN U36 (qO U36 v36_0 2) : Int) := q8_.2.kL (j := 2) y5_ y6_ (g.hts y6_).1.2.2 (by decide) (by decide)
  have k30_ : qT S7_23 v36_0 = 44 := q8_.2.1.T y6_ (by decide)
  have g : ShC B S7_23 := ShC.ca y5_ g q8_.2 y10_ y9_ rfl rfl
  refine ⟨?_, ?_⟩
  · exact (g.hts k30_).1.2.1
  intro y11_
  refine ⟨_, frJ7_fill_53178 y11_ (by decide) (sfJ7_fill_53178 y9_ y11_ (by decide)), ?_⟩
  intro S12_31 q12_ y13_ y14_
  have t32_ : (qI S12_31 v36_0 7).toInt = (qI S7_23 v36_0 7).toInt := congrArg Int32.toInt (q12_.2.kI (j := 7) k30_ (by decide) (by decide))
  have t33_ : (qI S12_31 v36_0 6).toInt = (qI S7_23 v36_0 6).toInt := congrArg Int32.toInt (q12_.2.kI (j := 6) k30_ (by decide) (by decide))
  have t34_ : (qI S12_31 v36_0 5).toInt = (qI S7_23 v36_0 5).toInt := congrArg Int32.toInt (q12_.2.kI (j := 5) k30_ (by decide) (by decide))
  have t35_ : (qN S12_31 (qO S12_31 v36_0 1) : Int) = (qN S7_23 (qO S7_23 v36_0 1) : Int) := q12_.2.kL (j := 1) y9_ k30_ (g.hts k30_).1.2.1 (by decide) (by decide)
  have t36_ : (qN S12_31 (qO S12_31 v36_0 0) : Int) = (qN S7_23 (qO S7_23 v36_0 0) : Int) := q12_.2.kL (j := 0) y9_ k30_ (g.hts k30_).1.1 (by decide) (by decide)
  have t37_ : (qN S12_31 (qO S12_31 v36_0 2) : Int) = (qN S7_23 (qO S7_23 v36_0 2) : Int) := q12_.2.kL (j := 2) y9_ k30_ (g.hts k30_).1.2.2 (by decide) (by decide)
  have k38_ : qT S12_31 v36_0 = 44 := q12_.2.1.T k30_ (by decide)
  have g : ShC B S12_31 := ShC.ca y9_ g q12_.2 y14_ y13_ rfl rfl
  refine ⟨(2147483648 - (0 : Int32).toInt).toNat + 1, ?_⟩
  refine sg_X4_makeRoom_L54  _ g ?_ ?_
  · have s39_ := (g.hts k38_).2
    have s40_ := y13_.len9 (y13_.ref (g.hts k38_).1.1 k38_) (by decide)
    have s41_ := y13_.len9 (y13_.ref (g.hts k38_).1.2.1 k38_) (by decide)
    have s42_ := y13_.len9 (y13_.ref (g.hts k38_).1.2.2 k38_) (by decide)
    have n1_ := li_0k
    omega
  · have s43_ := (g.hts k38_).2
    have s44_ := y13_.len9 (y13_.ref (g.hts k38_).1.1 k38_) (by decide)
    have s45_ := y13_.len9 (y13_.ref (g.hts k38_).1.2.1 k38_) (by decide)
    have s46_ := y13_.len9 (y13_.ref (g.hts k38_).1.2.2 k38_) (by decide)
    have n1_ := li_0k
    omega
set_option maxRecDepth 100000 in
theorem sg_X1_makeRoom_L39 {B : Nat × Nat} {z : Int} : ∀ (n : Nat) {U39 : MS} {v39_2 : Int32}, ShC B U39 → 0 ≤ v39_2.toInt → z ≤ (qN U39 (qO U39 16 2) : Int) → 2147483648 - v39_2.toInt < n → w_X1_makeRoom_L39 (fun u => ShC B u ∧ (z ≤ (qN u (qO u 16 2) : Int))) n U39 v39_2 := by
  intro n
  induction n with
  | zero => intro U39 v39_2 g j0_ j1_ hm_; exfalso; have := rgI v39_2; omega
  | succ n ih39 =>
    intro U39 v39_2 g j0_ j1_ hm_
    unfold w_X1_makeRoom_L39
    intro y1_
    refine ⟨fun c0_ => ?_, fun c0_ => ?_⟩
    · refine ⟨g, ?_⟩
      show z ≤ (qN U39 (qO U39 16 2) : Int)
      have s1_ := y1_.len9 (y1_.ref (y1_.ptr ptrC_5) (y1_.2.1 _ finC_27).2.1) (by decide)
      have s2_ := y1_.len9 (y1_.ref (y1_.ptr ptrC_6) (y1_.2.1 _ finC_27).2.1) (by decide)
      have s3_ := g.chk
      unfold ChKk at s3_
      have n1_ := rgI v39_2
      omega
    · refine ⟨?_, ?_⟩
      · have s4_ := y1_.len9 (y1_.ref (y1_.ptr ptrC_5) (y1_.2.1 _ finC_27).2.1) (by decide)
        have s5_ := y1_.len9 (y1_.ref (y1_.ptr ptrC_6) (y1_.2.1 _ finC_27).2.1) (by decide)
        have s6_ := g.chk
        unfold ChKk at s6_
        have n1_ := rgI v39_2
        omega
      intro S8_7 eS8_7 y2_ y3_
      have f8_ : cfr [301] [] U39 S8_7 := by rw [eS8_7]; exact cfr.aI y2_ (by decide)
      have t9_ : (qN S8_7 (qO S8_7 16 3) : Int) = (qN U39 (qO U39 16 3) : Int) := f8_.kL (j := 3) y1_ (y1_.2.1 _ finC_27).2.1 (y1_.ptr ptrC_6) (by decide) (by decide)
      have t10_ : (qN S8_7 (qO S8_7 16 2) : Int) = (qN U39 (qO U39 16 2) : Int) := f8_.kL (j := 2) y1_ (y1_.2.1 _ finC_27).2.1 (y1_.ptr ptrC_5) (by decide) (by decide)
      have g : ShC B S8_7 := ShC.ws y1_ g f8_ (by rw [eS8_7]; rfl) (by rw [eS8_7]; rfl) (by rw [eS8_7]; rfl) rfl rfl
      refine ⟨?_, ?_⟩
      · have s11_ := y3_.len9 (y3_.ref (y3_.ptr ptrC_5) (y3_.2.1 _ finC_27).2.1) (by decide)
        have s12_ := y3_.len9 (y3_.ref (y3_.ptr ptrC_6) (y3_.2.1 _ finC_27).2.1) (by decide)
        have s13_ := g.chk
        unfold ChKk at s13_
        have n1_ := rgI v39_2
        omega
      intro S11_14 eS11_14 y4_ y5_
      have f15_ : cfr [302] [] S8_7 S11_14 := by rw [eS11_14]; exact cfr.aI y4_ (by decide)
      have t16_ : (qN S11_14 (qO S11_14 16 3) : Int) = (qN S8_7 (qO S8_7 16 3) : Int) := f15_.kL (j := 3) y3_ (y3_.2.1 _ finC_27).2.1 (y3_.ptr ptrC_6) (by decide) (by decide)
      have t17_ : (qN S11_14 (qO S11_14 16 2) : Int) = (qN S8_7 (qO S8_7 16 2) : Int) := f15_.kL (j := 2) y3_ (y3_.2.1 _ finC_27).2.1 (y3_.ptr ptrC_5) (by decide) (by decide)
      have g : ShC B S11_14 := ShC.ws y3_ g f15_ (by rw [eS11_14]; rfl) (by rw [eS11_14]; rfl) (by rw [eS11_14]; rfl) rfl rfl
      intro a12_18 ea12_18 
      have ga12_18 := congrArg Int32.toInt ea12_18
      refine ih39 g ?_ ?_ ?_
      · have s19_ := y5_.len9 (y5_.ref (y5_.ptr ptrC_5) (y5_.2.1 _ finC_27).2.1) (by decide)
        have s20_ := y5_.len9 (y5_.ref (y5_.ptr ptrC_6) (y5_.2.1 _ finC_27).2.1) (by decide)
        have s21_ := g.chk
        unfold ChKk at s21_
        have n1_ := rgI a12_18
        have n2_ := rgI v39_2
        have n4_ := lo_1k
        have n4_ := t_addD (a := v39_2) (b := Int32.ofInt 1)
        have n5_ := rgI (v39_2 + Int32.ofInt 1)
        omega
      · have s22_ := y5_.len9 (y5_.ref (y5_.ptr ptrC_5) (y5_.2.1 _ finC_27).2.1) (by decide)
        have s23_ := y5_.len9 (y5_.ref (y5_.ptr ptrC_6) (y5_.2.1 _ finC_27).2.1) (by decide)
        have s24_ := g.chk
        unfold ChKk at s24_
        have n1_ := rgI v39_2
        have n2_ := rgI a12_18
        have n4_ := lo_1k
        have n4_ := t_addD (a := v39_2) (b := Int32.ofInt 1)
        have n5_ := rgI (v39_2 + Int32.ofInt 1)
        omega
      · have s25_ := y5_.len9 (y5_.ref (y5_.ptr ptrC_5) (y5_.2.1 _ finC_27).2.1) (by decide)
        have s26_ := y5_.len9 (y5_.ref (y5_.ptr ptrC_6) (y5_.2.1 _ finC_27).2.1) (by decide)
        have s27_ := g.chk
        unfold ChKk at s27_
        have n1_ := rgI a12_18
        have n2_ := rgI v39_2
        have n4_ := lo_1k
        have n4_ := t_addD (a := v39_2) (b := Int32.ofInt 1)
        have n5_ := rgI (v39_2 + Int32.ofInt 1)
        omega
set_option maxRecDepth 100000 in
theorem sg_X1_makeRoom_J37 {B : Nat × Nat} {z : Int} {U37 : MS} (g : ShC B U37) (j0_ : z ≤ (qN U37 (qO U37 16 2) : Int)) : w_X1_makeRoom_J37 (fun u => ShC B u ∧ (z ≤ (qN u (qO u 16 2) : Int))) U37 := by
  unfold w_X1_makeRoom_J37
  intro y6_
  refine ⟨(2147483648 - (0 : Int32).toInt).toNat + 1, ?_⟩
  refine sg_X1_makeRoom_L39  _ g ?_ ?_ ?_
  · have s28_ := y6_.len9 (y6_.ref (y6_.ptr ptrC_5) (y6_.2.1 _ finC_27).2.1) (by decide)
    have s29_ := y6_.len9 (y6_.ref (y6_.ptr ptrC_6) (y6_.2.1 _ finC_27).2.1) (by decide)
    have s30_ := g.chk
    unfold ChKk at s30_
    have n1_ := li_0k
    omega
  · have s31_ := y6_.len9 (y6_.ref (y6_.ptr ptrC_5) (y6_.2.1 _ finC_27).2.1) (by decide)
    have s32_ := y6_.len9 (y6_.ref (y6_.ptr ptrC_6) (y6_.2.1 _ finC_27).2.1) (by decide)
    have s33_ := g.chk
    unfold ChKk at s33_
    omega
  · have s34_ := y6_.len9 (y6_.ref (y6_.ptr ptrC_5) (y6_.2.1 _ finC_27).2.1) (by decide)
    have s35_ := y6_.len9 (y6_.ref (y6_.ptr ptrC_6) (y6_.2.1 _ finC_27).2.1) (by decide)
    have s36_ := g.chk
    unfold ChKk at s36_
    have n1_ := li_0k
    omega
/-! Heights and Checker make room -/
theorem wN_Tk {S : MS} {t n k a : Nat} (h : a ≠ qn S) : qT (wN S t n k) a = qT S a := if_neg h
theorem wN_N {S : MS} {t n k a : Nat} (h : a ≠ qn S) : qN (wN S t n k) a = qN S a := if_neg h
theorem wN_R {S : MS} {t n k a j : Nat} (h : a ≠ qn S) : qR (wN S t n k) a j = qR S a j := by show (if a = qn S then fun _ => none else qR S a) j = _; rw [if_neg h]
theorem wN_I {S : MS} {t n k a j : Nat} (h : a ≠ qn S) : qI (wN S t n k) a j = qI S a j := by show (if a = qn S then fun _ => 0 else qI S a) j = _; rw [if_neg h]
theorem wN_n {S : MS} {t n k : Nat} : qN (wN S t n k) (qn S) = n := if_pos rfl
theorem wN_t {S : MS} {t n k : Nat} : qT (wN S t n k) (qn S) = t := if_pos rfl
/-- one row of an object is made anew: the new row, and where it lies -/
theorem nw_step {S u v : MS} {t n k p j kp : Nat} {K : List Nat} {F : List (Nat × Nat)} (w : wfC S) (d : dnC S) (hu : u = wN S t n k) (wu : wfC u) (hv : v = wR u p j (some (qn S))) (kp9 : qT u p = kp) (hF : F.contains (kp, j) = true) (ht : t ≠ 0 ∧ t ≠ 47 ∧ t ≠ 49 ∧ t ≠ 44) : cfr K F S v ∧ nkC S v ∧ dnC v ∧ qn v = qn S + 1 ∧ qu v = qu S + k ∧ qR v p j = some (qn S) ∧ qN v (qn S) = n ∧ qT v (qn S) = t ∧ (∀ a i, (a = p → i ≠ j) → a ≠ qn S → qR v a i = qR S a i) := by
  have f1 : cfr K F S u := by rw [hu]; exact cfr.new w (hu ▸ wu)
  have f2 : cfr K F u v := by rw [hv]; exact cfr.oR kp9 hF
  have n1 : nkC S u := by rw [hu]; exact nkC.new d ht
  have eT : ∀ a, qT v a = qT u a := fun a => by rw [hv]; rfl
  have en : qn v = qn u := by rw [hv]; rfl
  have n2 : nkC S v := ⟨fun a e => by rw [eT]; exact n1.1 a e, fun a l e => by rw [eT]; exact n1.2 a (by rw [← en]; exact l) e⟩
  refine ⟨f1.tr f2, n2, fr_dn d (f1.tr f2).1 n2, by rw [en, hu]; rfl, by rw [hv, hu]; rfl, by rw [hv, qR_wR, if_pos ⟨rfl, rfl⟩], by rw [hv, hu]; exact wN_n, by rw [hv, hu]; exact wN_t, fun a i hai ha => ?_⟩
  rw [hv, qR_wR, if_neg (fun z => hai z.1 z.2), hu, wN_R ha]
theorem nkC.tr {S u v : MS} (h : nkC S u) (k : nkC u v) (s : shx u v) : nkC S v := by
  refine ⟨fun a e => ?_, fun a l e => ?_⟩
  · by_cases z : qT u a = 0
    · exact k.1 a z
    · rw [(s.1 a z).1]; exact h.1 a e
  · by_cases z : qT u a = 0
    · exact k.2 a l z
    · rw [(s.1 a z).1]; exact z
theorem mul2_of {x : Int32} (h : 0 ≤ x.toInt ∧ x.toInt ≤ 1000000) : ((2 : Int32) * x).toInt = 2 * x.toInt := by rw [t_mulk (by rw [li_2k]; omega), li_2k]
theorem sgX4_makeRoom {B : Nat × Nat} {S : MS} {p0 : Nat} {x1 : Int32} (w : wfC S) (g : ShC B S) (k0 : qT S p0 = 44) (hp : p0 = 17 ∧ x1.toInt ≤ 1200 ∨ p0 = 38 ∧ x1.toInt ≤ 1296) : wX4_makeRoom S p0 x1 (fun u => ShC B u ∧ True) := by
  have H := g.hts k0
  have rm := g.rm
  have cp := g.cap
  unfold wX4_makeRoom
  refine ⟨H.1.1, fun c => sg_X4_makeRoom_J36 g, fun c => ?_⟩
  have c0 : (qN S (qO S p0 0) : Int) < x1.toInt := by omega
  have m2 := mul2_of (x := x1) (by omega)
  obtain ⟨n, hn⟩ : ∃ n : Nat, n = ((2 : Int32) * x1).toInt.toNat := ⟨_, rfl⟩
  rw [m2, ← m2, ← hn]
  have hn2 : 2 * qN S (qO S p0 0) + 2 ≤ n ∧ (p0 = 17 ∧ n ≤ 2400 ∨ p0 = 38 ∧ n ≤ 2592) := by omega
  have hroom : qn S + 3 ≤ KCC ∧ qu S + 3 * n ≤ KSC := by
    unfold RmK PSc PNc at rm
    unfold CpK at cp
    have z : hp2 S ≤ 20000 := by unfold hp2; split <;> omega
    rcases hn2.2 with ⟨e, l⟩ | ⟨e, l⟩
    · rw [e] at hn2; omega
    · rw [e] at hn2; omega
  refine ⟨⟨by omega, by omega, by omega⟩, fun S28 e28 w28 S30 e30 k30 w30 => ?_⟩
  obtain ⟨f1, n1, d1, q1, u1, r1, l1, t1, o1⟩ := nw_step (K := []) (F := [(44, 0), (44, 1), (44, 2)]) w g.dn e28 w28 e30 k30 rfl (by decide)
  refine ⟨⟨by omega, by omega, by omega⟩, fun S35 e35 w35 S37 e37 k37 w37 => ?_⟩
  obtain ⟨f2, n2, d2, q2, u2, r2, l2, t2, o2⟩ := nw_step (K := []) (F := [(44, 0), (44, 1), (44, 2)]) w30 d1 e35 w35 e37 k37 rfl (by decide)
  refine ⟨⟨by omega, by omega, by omega⟩, fun S42 e42 w42 S44 e44 k44 w44 => ?_⟩
  obtain ⟨f3, n3, d3, q3, u3, r3, l3, t3, o3⟩ := nw_step (K := []) (F := [(44, 0), (44, 1), (44, 2)]) w37 d2 e42 w42 e44 k44 rfl (by decide)
  have hT := KC_TX (n := qn S) (by omega)
  have hT1 := KC_TX (n := qn S30) (by omega)
  have hT2 := KC_TX (n := qn S37) (by omega)
  have F := (f1.tr f2).tr f3
  have NK := (n1.tr n2 f2.1).tr n3 f3.1
  have ne0 := w.ne hT k0 (by decide)
  have ne1 := w30.ne hT1 (f1.1.T k0 (by decide)) (by decide)
  have ne2 := w37.ne hT2 ((f1.tr f2).1.T k0 (by decide)) (by decide)
  have R0 : qR S44 p0 0 = some (qn S) := by rw [o3 p0 0 (fun _ => by decide) ne2, o2 p0 0 (fun _ => by decide) ne1, r1]
  have R1 : qR S44 p0 1 = some (qn S30) := by rw [o3 p0 1 (fun _ => by decide) ne2, r2]
  have R2 : qR S44 p0 2 = some (qn S37) := r3
  have N0 : qN S44 (qn S) = n := by rw [(f3.1.1 _ (by rw [f2.1.T t1 (by decide)]; decide)).2, (f2.1.1 _ (by rw [t1]; decide)).2, l1]
  have N1 : qN S44 (qn S30) = n := by rw [(f3.1.1 _ (by rw [t2]; decide)).2, l2]
  have O0 := qO_of R0
  have O1 := qO_of R1
  have O2 := qO_of R2
  have RO : ∀ q j, qT S q = 44 → q ≠ p0 → qR S44 q j = qR S q j := fun q j kq hq => by
    rw [o3 q j (fun z => absurd z hq) (w37.ne hT2 ((f1.tr f2).1.T kq (by decide)) (by decide)), o2 q j (fun z => absurd z hq) (w30.ne hT1 (f1.1.T kq (by decide)) (by decide)), o1 q j (fun z => absurd z hq) (w.ne hT kq (by decide))]
  have hh : ∀ p, qT S44 p = 44 → HtK S44 p := fun p kp => by
    by_cases e : p = p0
    · subst e
      refine ⟨⟨by rw [O0]; exact R0, by rw [O1]; exact R1, by rw [O2]; exact R2⟩, ?_, ?_⟩
      · rw [O0, O1, N0, N1]
      · rw [O0, O2, N0, l3]
    · have kS := nz9 F.1 NK kp (by decide)
      exact (g.hts kS).mv w F.1 (fun j _ => RO p j kS e)
  have LO : ∀ q, qT S q = 44 → q ≠ p0 → (q, 0) ∈ ptrC → qN S44 (qO S44 q 0) = qN S (qO S q 0) := fun q kq hq hm => by
    have p := w.ptr hm
    have kb := w.rf3 q 0 _ p
    rw [qO_eq (RO q 0 kq hq), (F.1.1 _ (by rw [kb.1]; exact kb.2.1)).2]
  have NN : qN S44 (qO S44 p0 0) = n := by rw [O0]; exact N0
  have G : ShC B S44 := by
    rcases hn2.2 with ⟨e, l⟩ | ⟨e, l⟩
    · subst e
      exact ShC.g_h17 w g F NK rfl (LO 38 w.k38 (by decide) (by decide)) hh (by rw [NN]; omega) (by rw [NN]; omega) (by omega) (by rw [NN]; omega)
    · subst e
      exact ShC.g_h38 w g F NK rfl (LO 17 w.k17 (by decide) (by decide)) hh (by rw [NN]; omega) (by rw [NN]; omega) (by omega) (by rw [NN]; omega)
  exact sg_X4_makeRoom_J36 G
theorem mul96_of {x : Int32} (h : 0 ≤ x.toInt ∧ x.toInt ≤ 1000000) : ((96 : Int32) * x).toInt = 96 * x.toInt := by rw [t_mulk (by rw [li_96]; omega), li_96]
theorem sgX1_makeRoom {B : Nat × Nat} {z : Int} {S : MS} {x1 : Int32} (w : wfC S) (g : ShC B S) (hx : x1.toInt ≤ 1200) (hz : z ≤ x1.toInt := by omega) : wX1_makeRoom S x1 (fun u => ShC B u ∧ z ≤ (qN u (qO u 16 2) : Int)) := by
  have rm := g.rm
  have cp := g.cap
  have J : ∀ u : MS, ShC B u → x1.toInt ≤ (qN u (qO u 16 2) : Int) → w_X1_makeRoom_J37 (fun u => ShC B u ∧ z ≤ (qN u (qO u 16 2) : Int)) u := fun u gu hu => sg_X1_makeRoom_J37 gu (by omega)
  unfold wX1_makeRoom
  refine ⟨fun c => J S g c, fun c => ?_⟩
  have m2 := mul2_of (x := x1) (by omega)
  have m9 := mul96_of (x := x1) (by omega)
  obtain ⟨n, hn⟩ : ∃ n : Nat, n = ((2 : Int32) * x1).toInt.toNat := ⟨_, rfl⟩
  have h96 : ((96 : Int32) * x1).toInt.toNat = 48 * n := by omega
  rw [h96, ← hn]
  have hn2 : 2 * qN S (qO S 16 2) + 2 ≤ n ∧ n ≤ 2400 := by omega
  have hroom : qn S + 3 ≤ KCC ∧ qu S + 50 * n ≤ KSC := by
    unfold RmK PSc PNc at rm
    unfold CpK at cp
    have z : hp2 S ≤ 20000 := by unfold hp2; split <;> omega
    omega
  refine ⟨⟨by omega, by omega, by omega⟩, fun S28 e28 w28 S30 e30 k30 w30 => ?_⟩
  obtain ⟨f1, n1, d1, q1, u1, r1, l1, t1, o1⟩ := nw_step (K := []) (F := [(41, 1), (41, 2), (41, 3)]) w g.dn e28 w28 e30 k30 rfl (by decide)
  refine ⟨⟨by omega, by omega, by omega⟩, fun S35 e35 w35 S37 e37 k37 w37 => ?_⟩
  obtain ⟨f2, n2, d2, q2, u2, r2, l2, t2, o2⟩ := nw_step (K := []) (F := [(41, 1), (41, 2), (41, 3)]) w30 d1 e35 w35 e37 k37 rfl (by decide)
  refine ⟨⟨by omega, by omega, by omega⟩, fun S42 e42 w42 S44 e44 k44 w44 => ?_⟩
  obtain ⟨f3, n3, d3, q3, u3, r3, l3, t3, o3⟩ := nw_step (K := []) (F := [(41, 1), (41, 2), (41, 3)]) w37 d2 e42 w42 e44 k44 rfl (by decide)
  have hT1 := KC_TX (n := qn S30) (by omega)
  have hT2 := KC_TX (n := qn S37) (by omega)
  have F := (f1.tr f2).tr f3
  have NK := (n1.tr n2 f2.1).tr n3 f3.1
  have ne1 := w30.ne hT1 w30.k16 (by decide)
  have ne2 := w37.ne hT2 w37.k16 (by decide)
  have R1 : qR S44 16 1 = some (qn S) := by rw [o3 16 1 (fun _ => by decide) ne2, o2 16 1 (fun _ => by decide) ne1, r1]
  have R2 : qR S44 16 2 = some (qn S30) := by rw [o3 16 2 (fun _ => by decide) ne2, r2]
  have N1 : qN S44 (qn S) = 48 * n := by rw [(f3.1.1 _ (by rw [f2.1.T t1 (by decide)]; decide)).2, (f2.1.1 _ (by rw [t1]; decide)).2, l1]
  have N2 : qN S44 (qn S30) = n := by rw [(f3.1.1 _ (by rw [t2]; decide)).2, l2]
  have O1 := qO_of R1
  have O2 := qO_of R2
  have O3 := qO_of r3
  have G : ShC B S44 := ShC.g_chk w g F NK rfl ⟨by rw [O3, O2, l3, N2], by rw [O1, O2, N1, N2]; omega⟩ (by rw [O2, N2]; omega) (by rw [O2, N2]; omega) (by omega) (by rw [O2, N2]; omega)
  exact J S44 G (by rw [O2, N2]; omega)
