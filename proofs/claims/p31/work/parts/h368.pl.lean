/-! play -/
def MsI (S : MS) : Prop := MaI S ∧ (0 ≤ (qI S 44 7).toInt ∧ (qI S 44 7).toInt ≤ 8) ∧ (qR S 44 0 = none ∨ qR S 44 0 = some (qO S 44 0) ∧ FullU S (qO S 44 0)) ∧ ((qN S (qO S 44 8) = 0 ∧ qN S (qO S 44 9) = 0) ∨ (qN S (qO S 44 8) = 1440 ∧ qN S (qO S 44 9) = 1440))
theorem sg_plL68 {B : Nat × Nat} : ∀ (n : Nat) {U : MS} {v : Int32}, ShC B U → McIk U → 0 ≤ (qI U 44 18).toInt → 2147483648 - (qI U 44 18).toInt < n → w_X5_play_L68 (fun _ u => ShC B u ∧ McIk u) n U v := by
  intro n
  induction n with
  | zero => intro U v g m h0 hn; exfalso; have := rgI (qI U 44 18); omega
  | succ n ih =>
    intro U v g m h0 hn
    have J : w_X5_play_J100 (fun _ u => ShC B u ∧ McIk u) U := by
      unfold w_X5_play_J100
      exact fun _ => ⟨fun _ => ⟨g, m⟩, fun _ => ⟨g, m⟩⟩
    unfold w_X5_play_L68
    intro w
    refine ⟨fun _ => J, fun _ => ⟨fun _ => J, fun c S24 e24 k24 w24 => ?_⟩⟩
    have f : cfr [] [(45, 18)] U S24 := by rw [e24]; exact cfr.oI k24 rfl
    have G : ShC B S24 := ShC.ws w g f (by rw [e24]; rfl) (by rw [e24]; rfl) (by rw [e24]; rfl) rfl rfl
    have M : McIk S24 := McIk.frg w g m f rfl rfl rfl
    have rv := rgI v
    have e18 : (qI S24 44 18).toInt = (qI U 44 18).toInt + 1 := by rw [e24, qI_wI, if_pos ⟨rfl, rfl⟩, t_addk (by rw [li_1k]; omega), li_1k]
    refine ⟨_, frX5_step w24 (sgX5_step w24 G M), ?_⟩
    rintro S26 ⟨⟨g26, m26, _⟩, f26⟩ w26 _
    have e26 : qI S26 44 18 = qI S24 44 18 := f26.kI w24.k44 (by decide) (by decide)
    exact ih g26 m26 (by rw [e26]; omega) (by rw [e26]; omega)
theorem sg_pl26 {B : Nat × Nat} {U : MS} {x1 x2 : Int32} (g : ShC B U) (ha : MaI U) (hc : (qI U 44 7).toInt ≤ 8) (hu : qR U 44 0 = some (qO U 44 0)) (hF : FullU U (qO U 44 0)) (hN : qN U (qO U 44 8) = 1440 ∧ qN U (qO U 44 9) = 1440) (hx : 0 ≤ x1.toInt ∧ x1.toInt < (qI U (qO U 44 0) 8).toInt) : w_X5_play_J26 (fun _ u => ShC B u ∧ McIk u) U x1 x2 := by
  unfold w_X5_play_J26
  intro w S3 e3 k3 w3 S4 e4 k4 w4 S5 e5 k5 w5 S6 e6 k6 w6 S7 e7 k7 w7
  have k0 : qT U (qO U 44 0) = 49 := w.ref hu w.k44
  have f3 : cfr [] [(45, 16)] U S3 := by rw [e3]; exact cfr.oJ k3 rfl
  have f4 : cfr [] [(45, 17)] S3 S4 := by rw [e4]; exact cfr.oI k4 rfl
  have f5 : cfr [] [(45, 18)] S4 S5 := by rw [e5]; exact cfr.oI k5 rfl
  have f6 : cfr [] [(45, 15)] S5 S6 := by rw [e6]; exact cfr.oI k6 rfl
  have f7 : cfr [] [(45, 11)] S6 S7 := by rw [e7]; exact cfr.oI k7 rfl
  have f : cfr [] [(45, 16), (45, 17), (45, 18), (45, 15), (45, 11)] U S7 := ((((f3.mo rfl rfl).tr (f4.mo rfl rfl)).tr (f5.mo rfl rfl)).tr (f6.mo rfl rfl)).tr (f7.mo rfl rfl)
  have G : ShC B S7 := ShC.ws w g f (by rw [e7, e6, e5, e4, e3]; rfl) (by rw [e7, e6, e5, e4, e3]; rfl) (by rw [e7, e6, e5, e4, e3]; rfl) rfl rfl
  have z := li_0k
  have d7 : (qI S7 44 11).toInt = 0 := by rw [e7, qI_wI, if_pos ⟨rfl, rfl⟩, z]
  have P : McP U 0 := ⟨hu, hF, ⟨by rw [hN.1]; rfl, by rw [hN.2]; rfl⟩, fun d hd => absurd hd (by omega), ha⟩
  have P7 : McP S7 (qI S7 44 11).toInt := by rw [d7]; exact P.fr w g.1 g.2.1 f rfl rfl rfl
  have q7 : qO S7 44 0 = qO U 44 0 := qO_eq (f.kO w.k44 (by decide) (by decide))
  have e8 : qI S7 (qO U 44 0) 8 = qI U (qO U 44 0) 8 := f.kI k0 (by decide) (by decide)
  have c7 : qI S7 44 7 = qI U 44 7 := f.kI w.k44 (by decide) (by decide)
  have s7 : (qI S7 44 18).toInt = 0 := by
    have e5' : qI S5 44 18 = 0 := by rw [e5, qI_wI, if_pos ⟨rfl, rfl⟩]
    rw [f7.kI w6.k44 (by decide) (by decide), f6.kI w5.k44 (by decide) (by decide), e5', z]
  refine ⟨_, frX5_openFrame w7 (sgX5_openFrame w7 G P7 (by omega) (by rw [q7, e8]; exact hx)), ?_⟩
  rintro S9 ⟨⟨g9, m9⟩, f9⟩ w9 _
  have k9 : qT S9 (qO S9 44 0) = 49 := w9.ref m9.1 w9.k44
  have c9 : qI S9 44 7 = qI S7 44 7 := f9.kI w7.k44 (by decide) (by decide)
  have s9 : qI S9 44 18 = qI S7 44 18 := f9.kI w7.k44 (by decide) (by decide)
  refine ⟨m9.1, dd_X10_takesOfMethod w9 g9 k9, fun a16 _ => ⟨_, frX5_passArguments w9 (sgX5_passArguments w9 g9 m9 (by rw [c9, c7]; exact hc)), ?_⟩⟩
  rintro S18 ⟨⟨g18, m18, _⟩, f18⟩ w18 _
  have s18 : qI S18 44 18 = qI S9 44 18 := f18.kI w9.k44 (by decide) (by decide)
  refine ⟨2147483650, sg_plL68 _ g18 m18 (by rw [s18, s9, s7]; omega) (by rw [s18, s9, s7]; omega)⟩
theorem sgX5_play {B : Nat × Nat} {S : MS} {x1 x2 : Int32} (w : wfC S) (g : ShC B S) (m : MsI S) (hu : qR S 44 0 = some (qO S 44 0)) (hx : 0 ≤ x1.toInt ∧ x1.toInt < (qI S (qO S 44 0) 8).toInt) : wX5_play S x1 x2 (fun _ u => ShC B u ∧ McIk u) := by
  have cp := g.cap
  have rm := g.rm
  have k0 : qT S (qO S 44 0) = 49 := w.ref hu w.k44
  have hF : FullU S (qO S 44 0) := by
    rcases m.2.2.1 with h | h
    · rw [h] at hu; cases hu
    · exact h.2
  unfold wX5_play
  refine ⟨fun c => ?_, fun c => ?_⟩
  · have hz : qN S (qO S 44 8) = 0 ∧ qN S (qO S 44 9) = 0 := by
      rcases m.2.2.2 with h | h
      · exact h
      · exfalso; omega
    have hroom : qn S + 2 ≤ KCC ∧ qu S + 2880 ≤ KSC := by
      unfold RmK PSc PNc at rm
      unfold CpK at cp
      have z : hp2 S ≤ 20000 := by unfold hp2; split <;> omega
      omega
    refine ⟨⟨by omega, by omega⟩, fun S33 e33 w33 S35 e35 k35 w35 => ?_⟩
    obtain ⟨f1, n1, d1, q1, u1, r1, l1, t1, o1⟩ := nw_step (K := []) (F := [(45, 8), (45, 9)]) w g.dn e33 w33 e35 k35 rfl (by decide)
    refine ⟨⟨by omega, by omega⟩, fun S39 e39 w39 S41 e41 k41 w41 => ?_⟩
    obtain ⟨f2, n2, d2, q2, u2, r2, l2, t2, o2⟩ := nw_step (K := []) (F := [(45, 8), (45, 9)]) w35 d1 e39 w39 e41 k41 rfl (by decide)
    have hT1 := KC_TX (n := qn S35) (by omega)
    have ne1 := w35.ne hT1 w35.k44 (by decide)
    have R9 : qR S41 44 9 = some (qn S) := by rw [o2 44 9 (fun _ => by decide) ne1, r1]
    have N9 : qN S41 (qn S) = 1440 := by rw [(f2.1.1 _ (by rw [t1]; decide)).2, l1]
    have f := f1.tr f2
    have nk := n1.tr n2 f2.1
    have O8 := qO_of r2
    have O9 := qO_of R9
    have G : ShC B S41 := ShC.g_ms w g f nk rfl hz.1 hz.2 (by rw [O8]; exact l2) (by rw [O9]; exact N9) (by omega) (by omega)
    have q0 : qO S41 44 0 = qO S 44 0 := qO_eq (f.kO w.k44 (by decide) (by decide))
    have c7 : qI S41 44 7 = qI S 44 7 := f.kI w.k44 (by decide) (by decide)
    have e8 : qI S41 (qO S 44 0) 8 = qI S (qO S 44 0) 8 := f.kI k0 (by decide) (by decide)
    refine sg_pl26 G ?_ (by rw [c7]; exact m.2.1.2) (f.kP w.k44 hu (by decide) (by decide)) (by rw [q0]; exact hF.mv w g.1 k0 (g.unit k0) f rfl rfl rfl) ⟨by rw [O8]; exact l2, by rw [O9]; exact N9⟩ (by rw [q0, e8]; exact hx)
    unfold MaI
    have e4 : qN S41 (qO S41 44 4) = qN S (qO S 44 4) := by
      have := f.kL (j := 4) w w.k44 (w.ptr (by decide)) (by decide) (by decide)
      omega
    rw [f.kI (j := 5) w.k44 (by decide) (by decide), f.kI (j := 3) w.k44 (by decide) (by decide), e4]
    exact m.1
  · have hz : qN S (qO S 44 8) = 1440 ∧ qN S (qO S 44 9) = 1440 := by
      rcases m.2.2.2 with h | h
      · exfalso; omega
      · exact h
    exact sg_pl26 g m.1 m.2.1.2 hu hF hz hx
/-! a new Row; firstFault -/
theorem nwr {S v : MS} {t n k p j : Nat} (hv : v = wR (wN S t n k) p j (some (qn S))) (hp : p ≠ qn S) : (∀ a, a ≠ qn S → a ≠ p → qI v a = qI S a ∧ qJ v a = qJ S a ∧ qR v a = qR S a) ∧ (∀ a, a ≠ qn S → qT v a = qT S a ∧ qN v a = qN S a) ∧ qI v p = qI S p ∧ (∀ i, i ≠ j → qR v p i = qR S p i) ∧ qR v p j = some (qn S) ∧ qT v (qn S) = t ∧ qN v (qn S) = n ∧ qn v = qn S + 1 ∧ qu v = qu S + k := by
  refine ⟨fun a h1 h2 => ⟨?_, ?_, ?_⟩, fun a h1 => ⟨?_, ?_⟩, ?_, fun i hi => ?_, ?_, ?_, ?_, ?_, ?_⟩
  · rw [hv]; exact if_neg h1
  · rw [hv]; exact if_neg h1
  · funext i
    rw [hv, qR_wR, if_neg (fun z => h2 z.1), wN_R h1]
  · rw [hv]; exact if_neg h1
  · rw [hv]; exact if_neg h1
  · rw [hv]; exact if_neg hp
  · rw [hv, qR_wR, if_neg (fun z => hi z.2), wN_R hp]
  · rw [hv, qR_wR, if_pos ⟨rfl, rfl⟩]
  · rw [hv]; exact wN_t
  · rw [hv]; exact wN_n
  · rw [hv]; rfl
  · rw [hv]; rfl
/-- what the making of a Row leaves -/
def NwRk (S u : MS) (p a b c : Nat) : Prop := (∀ x, x < p ∨ p + 8 ≤ x → qI u x = qI S x ∧ qJ u x = qJ S x ∧ qR u x = qR S x ∧ qT u x = qT S x ∧ qN u x = qN S x) ∧ qT u p = 47 ∧ qI u p = qI S p ∧ (qR u p 0 = some (p + 1) ∧ qR u p 1 = some (p + 2) ∧ qR u p 3 = some (p + 3) ∧ qR u p 5 = some (p + 4) ∧ qR u p 6 = some (p + 5) ∧ qR u p 7 = some (p + 6) ∧ qR u p 8 = some (p + 7)) ∧ (qN u (p + 1) = a ∧ qN u (p + 2) = a ∧ qN u (p + 3) = b ∧ qN u (p + 4) = c ∧ qN u (p + 5) = c ∧ qN u (p + 6) = c ∧ qN u (p + 7) = c) ∧ (qT u (p + 1) = 222 ∧ qT u (p + 2) = 406 ∧ qT u (p + 3) = 223 ∧ qT u (p + 4) = 224 ∧ qT u (p + 5) = 225 ∧ qT u (p + 6) = 226 ∧ qT u (p + 7) = 227) ∧ qn u = p + 8 ∧ qu u = qu S + (2 * a + b + 4 * c)
theorem sp_initR {S : MS} {p : Nat} {x1 x2 x3 : Int32} {Q : MS → Prop} (hk : qT S p = 47) (hp : qn S = p + 1) (h1 : 0 ≤ x1.toInt) (h2 : 0 ≤ x2.toInt) (h3 : 0 ≤ x3.toInt) (hr : qn S + 7 ≤ KCC ∧ qu S + (2 * x1.toInt.toNat + x2.toInt.toNat + 4 * x3.toInt.toNat) ≤ KSC) (hQ : ∀ u, wfC u → NwRk S u p x1.toInt.toNat x2.toInt.toNat x3.toInt.toNat → Q u) : wX8_init S p x1 x2 x3 Q := by
  obtain ⟨a, ea⟩ : ∃ a : Nat, a = x1.toInt.toNat := ⟨_, rfl⟩
  obtain ⟨b, eb⟩ : ∃ b : Nat, b = x2.toInt.toNat := ⟨_, rfl⟩
  obtain ⟨c, ec⟩ : ∃ c : Nat, c = x3.toInt.toNat := ⟨_, rfl⟩
  rw [← ea, ← eb, ← ec] at hr hQ
  unfold wX8_init
  rw [← ea, ← eb, ← ec]
  refine ⟨⟨h1, by omega, by omega⟩, fun S4 e4 w4 => ⟨hp, fun S7 e7 k7 w7 => ?_⟩⟩
  rw [e4] at e7
  obtain ⟨a1, b1, c1, d1, r1, t1, l1, q1, u1⟩ := nwr e7 (by omega)
  refine ⟨⟨h1, by omega, by omega⟩, fun S11 e11 w11 => ⟨by omega, fun S14 e14 k14 w14 => ?_⟩⟩
  rw [e11] at e14
  obtain ⟨a2, b2, c2, d2, r2, t2, l2, q2, u2⟩ := nwr e14 (by omega)
  refine ⟨⟨h2, by omega, by omega⟩, fun S18 e18 w18 => ⟨by omega, fun S21 e21 k21 w21 => ?_⟩⟩
  rw [e18] at e21
  obtain ⟨a3, b3, c3, d3, r3, t3, l3, q3, u3⟩ := nwr e21 (by omega)
  refine ⟨⟨h3, by omega, by omega⟩, fun S25 e25 w25 => ⟨by omega, fun S28 e28 k28 w28 => ?_⟩⟩
  rw [e25] at e28
  obtain ⟨a4, b4, c4, d4, r4, t4, l4, q4, u4⟩ := nwr e28 (by omega)
  refine ⟨⟨h3, by omega, by omega⟩, fun S32 e32 w32 => ⟨by omega, fun S35 e35 k35 w35 => ?_⟩⟩
  rw [e32] at e35
  obtain ⟨a5, b5, c5, d5, r5, t5, l5, q5, u5⟩ := nwr e35 (by omega)
  refine ⟨⟨h3, by omega, by omega⟩, fun S39 e39 w39 => ⟨by omega, fun S42 e42 k42 w42 => ?_⟩⟩
  rw [e39] at e42
  obtain ⟨a6, b6, c6, d6, r6, t6, l6, q6, u6⟩ := nwr e42 (by omega)
  refine ⟨⟨h3, by omega, by omega⟩, fun S46 e46 w46 => ⟨by omega, fun S49 e49 k49 w49 => hQ S49 w49 ?_⟩⟩
  rw [e46] at e49
  obtain ⟨a7, b7, c7, d7, r7, t7, l7, q7, u7⟩ := nwr e49 (by omega)
  have n0 : qn S = p + 1 := hp
  have n1 : qn S7 = p + 2 := by omega
  have n2 : qn S14 = p + 3 := by omega
  have n3 : qn S21 = p + 4 := by omega
  have n4 : qn S28 = p + 5 := by omega
  have n5 : qn S35 = p + 6 := by omega
  have n6 : qn S42 = p + 7 := by omega
  rw [n0] at r1 t1 l1
  rw [n1] at r2 t2 l2
  rw [n2] at r3 t3 l3
  rw [n3] at r4 t4 l4
  rw [n4] at r5 t5 l5
  rw [n5] at r6 t6 l6
  rw [n6] at r7 t7 l7
  have T : ∀ x, x < p + 1 ∨ p + 8 ≤ x → qT S49 x = qT S x ∧ qN S49 x = qN S x := fun x hx => by
    rw [(b7 x (by omega)).1, (b7 x (by omega)).2, (b6 x (by omega)).1, (b6 x (by omega)).2, (b5 x (by omega)).1, (b5 x (by omega)).2, (b4 x (by omega)).1, (b4 x (by omega)).2, (b3 x (by omega)).1, (b3 x (by omega)).2, (b2 x (by omega)).1, (b2 x (by omega)).2]
    exact b1 x (by omega)
  refine ⟨fun x hx => ?_, by rw [(T p (Or.inl (by omega))).1]; exact hk, by rw [c7, c6, c5, c4, c3, c2, c1], ⟨?_, ?_, ?_, ?_, ?_, ?_, r7⟩, ⟨?_, ?_, ?_, ?_, ?_, ?_, l7⟩, ⟨?_, ?_, ?_, ?_, ?_, ?_, t7⟩, by omega, by omega⟩
  · obtain ⟨i7, j7, k7'⟩ := a7 x (by omega) (by omega)
    obtain ⟨i6, j6, k6'⟩ := a6 x (by omega) (by omega)
    obtain ⟨i5, j5, k5'⟩ := a5 x (by omega) (by omega)
    obtain ⟨i4, j4, k4'⟩ := a4 x (by omega) (by omega)
    obtain ⟨i3, j3, k3'⟩ := a3 x (by omega) (by omega)
    obtain ⟨i2, j2, k2'⟩ := a2 x (by omega) (by omega)
    obtain ⟨i1, j1, k1'⟩ := a1 x (by omega) (by omega)
    refine ⟨by rw [i7, i6, i5, i4, i3, i2, i1], by rw [j7, j6, j5, j4, j3, j2, j1], by rw [k7', k6', k5', k4', k3', k2', k1'], T x (by omega)⟩
  · rw [d7 0 (by decide), d6 0 (by decide), d5 0 (by decide), d4 0 (by decide), d3 0 (by decide), d2 0 (by decide), r1]
  · rw [d7 1 (by decide), d6 1 (by decide), d5 1 (by decide), d4 1 (by decide), d3 1 (by decide), r2]
  · rw [d7 3 (by decide), d6 3 (by decide), d5 3 (by decide), d4 3 (by decide), r3]
  · rw [d7 5 (by decide), d6 5 (by decide), d5 5 (by decide), r4]
  · rw [d7 6 (by decide), d6 6 (by decide), r5]
  · rw [d7 7 (by decide), r6]
  · rw [(b7 _ (by omega)).2, (b6 _ (by omega)).2, (b5 _ (by omega)).2, (b4 _ (by omega)).2, (b3 _ (by omega)).2, (b2 _ (by omega)).2, l1]
  · rw [(b7 _ (by omega)).2, (b6 _ (by omega)).2, (b5 _ (by omega)).2, (b4 _ (by omega)).2, (b3 _ (by omega)).2, l2]
  · rw [(b7 _ (by omega)).2, (b6 _ (by omega)).2, (b5 _ (by omega)).2, (b4 _ (by omega)).2, l3]
  · rw [(b7 _ (by omega)).2, (b6 _ (by omega)).2, (b5 _ (by omega)).2, l4]
  · rw [(b7 _ (by omega)).2, (b6 _ (by omega)).2, l5]
  · rw [(b7 _ (by omega)).2, l6]
  · rw [(b7 _ (by omega)).1, (b6 _ (by omega)).1, (b5 _ (by omega)).1, (b4 _ (by omega)).1, (b3 _ (by omega)).1, (b2 _ (by omega)).1, t1]
  · rw [(b7 _ (by omega)).1, (b6 _ (by omega)).1, (b5 _ (by omega)).1, (b4 _ (by omega)).1, (b3 _ (by omega)).1, t2]
  · rw [(b7 _ (by omega)).1, (b6 _ (by omega)).1, (b5 _ (by omega)).1, (b4 _ (by omega)).1, t3]
  · rw [(b7 _ (by omega)).1, (b6 _ (by omega)).1, (b5 _ (by omega)).1, t4]
  · rw [(b7 _ (by omega)).1, (b6 _ (by omega)).1, t5]
  · rw [(b7 _ (by omega)).1, t6]
theorem sgX1_firstFault {B : Nat × Nat} (hB : B.1 ≤ (B.1 + 3600, B.2 + 192).1 ∧ (B.1 + 3600, B.2 + 192).1 ≤ KSC ∧ B.2 ≤ (B.1 + 3600, B.2 + 192).2 ∧ (B.1 + 3600, B.2 + 192).2 ≤ 64 * KCC) {S : MS} {p1 : Nat} {p2 : Option Nat} (w : wfC S) (g : ShC B S) (k1 : qT S p1 = 49) (k2 : ∀ z, p2 = some z → qT S z = 47) (hc : ∀ z, p2 = some z → (qI S z 2).toInt ≤ 1200) : wX1_firstFault S p1 p2 (fun _ u => ShC (B.1 + 3600, B.2 + 192) u ∧ True) := by
  unfold wX1_firstFault
  refine ⟨fun _ => ⟨g.up hB, trivial⟩, fun c S2 e2 k2' w2 S3 e3 k3 w3 => ?_⟩
  obtain ⟨r, hr⟩ : ∃ r, p2 = some r := Option.ne_none_iff_exists'.mp c
  subst hr
  have kr := k2 r rfl
  have f2 : cfr [] [(41, 8)] S S2 := by rw [e2]; exact cfr.oR k2' rfl
  have f3 : cfr [] [(41, 9)] S2 S3 := by rw [e3]; exact cfr.oR k3 rfl
  have f : cfr [] [(41, 8), (41, 9)] S S3 := (f2.mo rfl rfl).tr (f3.mo rfl rfl)
  have G : ShC B S3 := ShC.ws w g f (by rw [e3, e2]; rfl) (by rw [e3, e2]; rfl) (by rw [e3, e2]; rfl) rfl rfl
  have P9 : qR S3 16 9 = some r := by rw [e3, qR_wR, if_pos ⟨rfl, rfl⟩]; rfl
  have P8 : qR S3 16 8 = some p1 := by rw [f3.kO w2.k16 (by decide) (by decide), e2, qR_wR, if_pos ⟨rfl, rfl⟩]
  have O9 := qO_of P9
  have O8 := qO_of P8
  have c3 : (qI S3 r 2).toInt ≤ 1200 := by rw [f.kI kr (by decide) (by decide)]; exact hc r rfl
  have kr3 := f.1.T kr (by decide)
  have kp3 := f.1.T k1 (by decide)
  rw [O8, O9]
  refine ⟨P8, P9, P9, fun _ _ _ => ⟨_, frX4_seek w3 (sgX4_seek w3 G w3.k17 kp3 kr3 (Or.inl ⟨rfl, c3⟩)), ?_⟩⟩
  rintro S11 ⟨⟨g11, _⟩, f11⟩ w11 _
  have P9b : qR S11 16 9 = some r := by rw [f11.kO w3.k16 (by decide) (by decide)]; exact P9
  have P8b : qR S11 16 8 = some p1 := by rw [f11.kO w3.k16 (by decide) (by decide)]; exact P8
  have c11 : qI S11 r 2 = qI S3 r 2 := f11.kI kr3 (by decide) (by decide)
  have kr11 := f11.1.T kr3 (by decide)
  rw [qO_of P9b]
  refine ⟨P9b, _, frX1_makeRoom w11 (sgX1_makeRoom (z := (qI S11 r 2).toInt) w11 g11 (by rw [c11]; exact c3)), ?_⟩
  rintro S17 ⟨⟨g17, h17⟩, f17⟩ w17 _
  have P9c : qR S17 16 9 = some r := by rw [f17.kO w11.k16 (by decide) (by decide)]; exact P9b
  have P8c : qR S17 16 8 = some p1 := by rw [f17.kO w11.k16 (by decide) (by decide)]; exact P8b
  have c17 : qI S17 r 2 = qI S11 r 2 := f17.kI kr11 (by decide) (by decide)
  have kr17 := f17.1.T kr11 (by decide)
  refine ⟨_, frX1_beginBody w17 (sgX1_beginBody w17 g17 (by rw [qO_of P8c]; exact P8c) (by rw [qO_of P9c]; exact P9c) (by rw [qO_of P9c, c17]; exact h17)), ?_⟩
  rintro S21 ⟨⟨g21, _⟩, f21⟩ w21 _ S23 e23 k23 w23
  have f23 : cfr [] [(41, 7)] S21 S23 := by rw [e23]; exact cfr.oI k23 rfl
  have G23 : ShC B S23 := ShC.ws w21 g21 f23 (by rw [e23]; rfl) (by rw [e23]; rfl) (by rw [e23]; rfl) rfl rfl
  have P9d : qR S23 16 9 = some r := by rw [f23.kO w21.k16 (by decide) (by decide), f21.kO w17.k16 (by decide) (by decide)]; exact P9c
  have P8d : qR S23 16 8 = some p1 := by rw [f23.kO w21.k16 (by decide) (by decide), f21.kO w17.k16 (by decide) (by decide)]; exact P8c
  have kr21 := f21.1.T kr17 (by decide)
  have c23 : qI S23 r 2 = qI S11 r 2 := by rw [f23.kI kr21 (by decide) (by decide), f21.kI kr17 (by decide) (by decide), c17]
  have n21 := f21.kL (j := 2) w17 w17.k16 (w17.ptr (by decide)) (by decide) (by decide)
  have n23 := f23.kL (j := 2) w21 w21.k16 (w21.ptr (by decide)) (by decide) (by decide)
  refine ⟨2147483650, sg_X1_firstFault_L60 hB _ G23 (by rw [qO_of P8d]; exact P8d) (by rw [qO_of P9d]; exact P9d) (by decide) (by rw [qO_of P9d, c23, n23, n21]; exact h17) (by rw [qO_of P9d, c23, c11]; exact c3) (by decide)⟩
/-! Smith makes room -/
def Lg_sm : List (Nat × Nat) := [(47, 0), (47, 1), (47, 2), (47, 3), (47, 4), (47, 5), (47, 6), (47, 7), (47, 8), (47, 9), (49, 0), (49, 4), (49, 5), (49, 6), (49, 7), (49, 8), (49, 9), (49, 10), (49, 11), (49, 12), (49, 13), (44, 0), (44, 1), (44, 2), (41, 1), (41, 2), (41, 3), (50, 16), (50, 17), (40, 0), (43, 3), (43, 5), (43, 7), (43, 9), (43, 13), (45, 2), (45, 4), (45, 8), (45, 9)]
theorem ShC.g_sm {B : Nat × Nat} {S u : MS} {r : Nat} (w : wfC S) (h : ShC B S) (f : cfr [] [(48, 0), (48, 2), (48, 3), (48, 4), (48, 5)] S u) (n1 : ∀ a, qT S a = 0 → qT u a ≠ 49 ∧ qT u a ≠ 44 ∧ (qT u a = 47 → a = r)) (d : dnC u) (hr : RwK u r) (sm : SmK u) (c0 : qN S (qO S 66 2) = 0) (c1 : qN u (qO u 66 2) = 1297) (hn : qn u ≤ qn S + 12) (hu : qu u ≤ qu S + 9059) : ShC B u := by
  obtain ⟨h1, h2, h3, h4, h5, h6, h7, h8, h9⟩ := h
  have hF : okL Lg_sm [(48, 0), (48, 2), (48, 3), (48, 4), (48, 5)] = true := rfl
  have e1_0 : qN u (qO u 1 0) = qN S (qO S 1 0) := fr_len w f rfl hF w.k1 (by decide) (by decide) (by decide)
  have e3_0 : qN u (qO u 3 0) = qN S (qO S 3 0) := fr_len w f rfl hF w.k3 (by decide) (by decide) (by decide)
  have e5_0 : qN u (qO u 5 0) = qN S (qO S 5 0) := fr_len w f rfl hF w.k5 (by decide) (by decide) (by decide)
  have e26_0 : qN u (qO u 26 0) = qN S (qO S 26 0) := fr_len w f rfl hF w.k26 (by decide) (by decide) (by decide)
  have e28_0 : qN u (qO u 28 0) = qN S (qO S 28 0) := fr_len w f rfl hF w.k28 (by decide) (by decide) (by decide)
  have e30_0 : qN u (qO u 30 0) = qN S (qO S 30 0) := fr_len w f rfl hF w.k30 (by decide) (by decide) (by decide)
  have e17_0 : qN u (qO u 17 0) = qN S (qO S 17 0) := fr_len w f rfl hF w.k17 (by decide) (by decide) (by decide)
  have e38_0 : qN u (qO u 38 0) = qN S (qO S 38 0) := fr_len w f rfl hF w.k38 (by decide) (by decide) (by decide)
  have e16_2 : qN u (qO u 16 2) = qN S (qO S 16 2) := fr_len w f rfl hF w.k16 (by decide) (by decide) (by decide)
  have e25_17 : qN u (qO u 25 17) = qN S (qO S 25 17) := fr_len w f rfl hF w.k25 (by decide) (by decide) (by decide)
  have e52_3 : qN u (qO u 52 3) = qN S (qO S 52 3) := fr_len w f rfl hF w.k52 (by decide) (by decide) (by decide)
  have e52_13 : qN u (qO u 52 13) = qN S (qO S 52 13) := fr_len w f rfl hF w.k52 (by decide) (by decide) (by decide)
  have e52_9 : qN u (qO u 52 9) = qN S (qO S 52 9) := fr_len w f rfl hF w.k52 (by decide) (by decide) (by decide)
  have e52_5 : qN u (qO u 52 5) = qN S (qO S 52 5) := fr_len w f rfl hF w.k52 (by decide) (by decide) (by decide)
  have e52_7 : qN u (qO u 52 7) = qN S (qO S 52 7) := fr_len w f rfl hF w.k52 (by decide) (by decide) (by decide)
  have e44_2 : qN u (qO u 44 2) = qN S (qO S 44 2) := fr_len w f rfl hF w.k44 (by decide) (by decide) (by decide)
  have e44_4 : qN u (qO u 44 4) = qN S (qO S 44 4) := fr_len w f rfl hF w.k44 (by decide) (by decide) (by decide)
  have e44_8 : qN u (qO u 44 8) = qN S (qO S 44 8) := fr_len w f rfl hF w.k44 (by decide) (by decide) (by decide)
  have e44_9 : qN u (qO u 44 9) = qN S (qO S 44 9) := fr_len w f rfl hF w.k44 (by decide) (by decide) (by decide)
  have e9 : hp2 u = hp2 S := by unfold hp2; rw [e44_2]
  unfold CpK at h8
  unfold RmK PSc PNc at h9
  refine ⟨fun p k => ?_, fun p k => ?_, fun p k => ?_, (by unfold ChKk; rw [show qN u (qO u 16 1) = qN S (qO S 16 1) from fr_len w f rfl hF w.k16 (by decide) (by decide) (by decide), show qN u (qO u 16 3) = qN S (qO S 16 3) from fr_len w f rfl hF w.k16 (by decide) (by decide) (by decide), e16_2]; exact h4), (by unfold WrK; rw [show qN u (qO u 25 16) = qN S (qO S 25 16) from fr_len w f rfl hF w.k25 (by decide) (by decide) (by decide), e25_17]; exact h5), sm, d, ?_, ?_⟩
  · by_cases e : qT S p = 0
    · rw [(n1 p e).2.2 k]; exact hr
    · have kS := f.1.oldT k e
      refine (h1 p kS).mv w f.1 (fun j hj => (f.sl rfl (okL_mo hF (by decide : L47.all (fun x => Lg_sm.contains x) = true)) kS (by decide) ?_).1) (fun j hj => (f.sl rfl (okL_mo hF (by decide : L47.all (fun x => Lg_sm.contains x) = true)) kS (by decide) ?_).2)
      · revert j; decide
      · revert j; decide
  · by_cases e : qT S p = 0
    · exact absurd k (n1 p e).1
    · have kS := f.1.oldT k e
      refine (h2 p kS).mv w f.1 (fun j hj => (f.sl rfl (okL_mo hF (by decide : L49.all (fun x => Lg_sm.contains x) = true)) kS (by decide) ?_).1) (fun j hj => (f.sl rfl (okL_mo hF (by decide : L49.all (fun x => Lg_sm.contains x) = true)) kS (by decide) ?_).2)
      · rcases hj with rfl | rfl <;> decide
      · have : j = 0 ∨ j = 5 ∨ j = 6 ∨ j = 7 ∨ j = 9 ∨ j = 10 ∨ j = 11 ∨ j = 12 ∨ j = 13 := by omega
        rcases this with rfl | rfl | rfl | rfl | rfl | rfl | rfl | rfl | rfl <;> decide
  · by_cases e : qT S p = 0
    · exact absurd k (n1 p e).2.1
    · have kS := f.1.oldT k e
      refine (h3 p kS).mv w f.1 (fun j hj => (f.sl rfl (okL_mo hF (by decide : L44.all (fun x => Lg_sm.contains x) = true)) kS (by decide) ?_).2)
      revert j; decide
  · unfold CpK; rw [e1_0, e3_0, e5_0, e26_0, e28_0, e30_0, e17_0, e38_0, e16_2, e25_17, e52_3, e52_13, e52_9, e52_5, e52_7, e44_2, e44_4, e44_8, e44_9]; omega
  · unfold RmK PSc PNc; rw [e1_0, e3_0, e5_0, e26_0, e28_0, e30_0, e17_0, e38_0, e16_2, e25_17, e52_3, e52_13, e52_9, e52_5, e52_7, e44_2, e44_4, e44_8, e44_9, e9]; omega
/-! Bytes and the shape of the world -/
theorem nkC.nw {S u : MS} (d : dnC S) (h : nw9 S u) : nkC S u := by
  refine ⟨fun a e => ?_, fun a l e => ?_⟩
  · rcases h.1 a e with q | q
    · rw [q]; decide
    · rw [q]; decide
  · refine h.2 a ?_ l
    by_cases c : a < qn S
    · exact absurd e (d a c)
    · omega
theorem ShC.b_1 {B : Nat × Nat} {S u : MS} (w : wfC S) (h : ShC B S) (f : fb 1 S u) (bk : bkB 1 S u) (hc : qN u (qO u 1 0) ≤ 16384) : ShC B u := by
  obtain ⟨h1, h2, h3, h4, h5, h6, h7, h8, h9⟩ := h
  have nk := nkC.nw h7 f.2.2
  have ff : ∀ {a t : Nat} (j : Nat), qT S a = t → t ≠ 0 → t ≠ 101 → a ≠ 1 → qI u a j = qI S a j ∧ qR u a j = qR S a j := fun j k h0 h1 hb => by
    have := f.2.1 _ j (by rw [k]; exact h0) (by rw [k]; exact h1) hb
    exact ⟨this.1, this.2.2⟩
  have kb : qT S 1 = 40 := w.k1
  have nb : ∀ {a t : Nat}, qT S a = t → t ≠ 40 → a ≠ 1 := fun e h q => h (by rw [← e, q]; exact kb)
  have len : ∀ (a j t : Nat), qT S a = t → t ≠ 0 → t ≠ 101 → a ≠ 1 → (a, j) ∈ ptrC → qN u (qO u a j) = qN S (qO S a j) := fun a j t k h0 h1 hb hp => by
    have p := w.ptr hp
    have kk := w.rf3 a j _ p
    rw [qO_eq (ff j k h0 h1 hb).2, (f.1.1 _ (by rw [kk.1]; exact kk.2.1)).2]
  have e3_0 : qN u (qO u 3 0) = qN S (qO S 3 0) := len 3 0 40 w.k3 (by decide) (by decide) (by decide) (by decide)
  have e5_0 : qN u (qO u 5 0) = qN S (qO S 5 0) := len 5 0 40 w.k5 (by decide) (by decide) (by decide) (by decide)
  have e26_0 : qN u (qO u 26 0) = qN S (qO S 26 0) := len 26 0 40 w.k26 (by decide) (by decide) (by decide) (by decide)
  have e28_0 : qN u (qO u 28 0) = qN S (qO S 28 0) := len 28 0 40 w.k28 (by decide) (by decide) (by decide) (by decide)
  have e30_0 : qN u (qO u 30 0) = qN S (qO S 30 0) := len 30 0 40 w.k30 (by decide) (by decide) (by decide) (by decide)
  have e17_0 : qN u (qO u 17 0) = qN S (qO S 17 0) := len 17 0 44 w.k17 (by decide) (by decide) (by decide) (by decide)
  have e38_0 : qN u (qO u 38 0) = qN S (qO S 38 0) := len 38 0 44 w.k38 (by decide) (by decide) (by decide) (by decide)
  have e16_2 : qN u (qO u 16 2) = qN S (qO S 16 2) := len 16 2 41 w.k16 (by decide) (by decide) (by decide) (by decide)
  have e25_17 : qN u (qO u 25 17) = qN S (qO S 25 17) := len 25 17 50 w.k25 (by decide) (by decide) (by decide) (by decide)
  have e52_3 : qN u (qO u 52 3) = qN S (qO S 52 3) := len 52 3 43 w.k52 (by decide) (by decide) (by decide) (by decide)
  have e52_13 : qN u (qO u 52 13) = qN S (qO S 52 13) := len 52 13 43 w.k52 (by decide) (by decide) (by decide) (by decide)
  have e52_9 : qN u (qO u 52 9) = qN S (qO S 52 9) := len 52 9 43 w.k52 (by decide) (by decide) (by decide) (by decide)
  have e52_5 : qN u (qO u 52 5) = qN S (qO S 52 5) := len 52 5 43 w.k52 (by decide) (by decide) (by decide) (by decide)
  have e52_7 : qN u (qO u 52 7) = qN S (qO S 52 7) := len 52 7 43 w.k52 (by decide) (by decide) (by decide) (by decide)
  have e44_2 : qN u (qO u 44 2) = qN S (qO S 44 2) := len 44 2 45 w.k44 (by decide) (by decide) (by decide) (by decide)
  have e44_4 : qN u (qO u 44 4) = qN S (qO S 44 4) := len 44 4 45 w.k44 (by decide) (by decide) (by decide) (by decide)
  have e44_8 : qN u (qO u 44 8) = qN S (qO S 44 8) := len 44 8 45 w.k44 (by decide) (by decide) (by decide) (by decide)
  have e44_9 : qN u (qO u 44 9) = qN S (qO S 44 9) := len 44 9 45 w.k44 (by decide) (by decide) (by decide) (by decide)
  have e66_2 : qN u (qO u 66 2) = qN S (qO S 66 2) := len 66 2 48 w.k66 (by decide) (by decide) (by decide) (by decide)
  have e9 : hp2 u = hp2 S := by unfold hp2; rw [e44_2]
  have c1 : qN u (qO u 16 1) = qN S (qO S 16 1) := len 16 1 41 w.k16 (by decide) (by decide) (by decide) (by decide)
  have c3 : qN u (qO u 16 3) = qN S (qO S 16 3) := len 16 3 41 w.k16 (by decide) (by decide) (by decide) (by decide)
  have c6 : qN u (qO u 25 16) = qN S (qO S 25 16) := len 25 16 50 w.k25 (by decide) (by decide) (by decide) (by decide)
  unfold CpK at h8
  unfold RmK PSc PNc at h9
  unfold bkB at bk
  refine ⟨fun p k => ?_, fun p k => ?_, fun p k => ?_, ?_, ?_, ?_, fr_dn h7 f.1 nk, ?_, ?_⟩
  · have kS := nz9 f.1 nk k (by decide)
    exact (h1 p kS).mv w f.1 (fun j _ => (ff j kS (by decide) (by decide) (nb kS (by decide))).1) (fun j _ => (ff j kS (by decide) (by decide) (nb kS (by decide))).2)
  · have kS := nz9 f.1 nk k (by decide)
    exact (h2 p kS).mv w f.1 (fun j _ => (ff j kS (by decide) (by decide) (nb kS (by decide))).1) (fun j _ => (ff j kS (by decide) (by decide) (nb kS (by decide))).2)
  · have kS := nz9 f.1 nk k (by decide)
    exact (h3 p kS).mv w f.1 (fun j _ => (ff j kS (by decide) (by decide) (nb kS (by decide))).2)
  · unfold ChKk; rw [c1, c3, e16_2]; exact h4
  · unfold WrK; rw [c6, e25_17]; exact h5
  · have R := h1 _ w.k67
    have k67 := w.k67
    unfold SmK
    rw [qO_eq (ff 0 w.k66 (by decide) (by decide) (by decide)).2, qO_eq (ff 0 k67 (by decide) (by decide) (nb k67 (by decide))).2, f.1.N9 w R.1.1, e66_2, len 66 3 48 w.k66 (by decide) (by decide) (by decide) (by decide), len 66 4 48 w.k66 (by decide) (by decide) (by decide) (by decide), len 66 5 48 w.k66 (by decide) (by decide) (by decide) (by decide)]
    exact h6
  · unfold CpK; rw [e3_0, e5_0, e26_0, e28_0, e30_0, e17_0, e38_0, e16_2, e25_17, e52_3, e52_13, e52_9, e52_5, e52_7, e44_2, e44_4, e44_8, e44_9, e66_2]; omega
  · unfold RmK PSc PNc; rw [e3_0, e5_0, e26_0, e28_0, e30_0, e17_0, e38_0, e16_2, e25_17, e52_3, e52_13, e52_9, e52_5, e52_7, e44_2, e44_4, e44_8, e44_9, e66_2, e9]; omega
theorem ShC.rb_1 {B : Nat × Nat} {S : MS} (h : ShC B S) : RmB 1 16384 S := by
  have h8 := h.cap
  have h9 := h.rm
  unfold CpK at h8
  unfold RmK PSc PNc at h9
  have z : hp2 S ≤ 20000 := by unfold hp2; split <;> omega
  unfold RmB
  omega
theorem ShC.b_3 {B : Nat × Nat} {S u : MS} (w : wfC S) (h : ShC B S) (f : fb 3 S u) (bk : bkB 3 S u) (hc : qN u (qO u 3 0) ≤ 65536) : ShC B u := by
  obtain ⟨h1, h2, h3, h4, h5, h6, h7, h8, h9⟩ := h
  have nk := nkC.nw h7 f.2.2
  have ff : ∀ {a t : Nat} (j : Nat), qT S a = t → t ≠ 0 → t ≠ 101 → a ≠ 3 → qI u a j = qI S a j ∧ qR u a j = qR S a j := fun j k h0 h1 hb => by
    have := f.2.1 _ j (by rw [k]; exact h0) (by rw [k]; exact h1) hb
    exact ⟨this.1, this.2.2⟩
  have kb : qT S 3 = 40 := w.k3
  have nb : ∀ {a t : Nat}, qT S a = t → t ≠ 40 → a ≠ 3 := fun e h q => h (by rw [← e, q]; exact kb)
  have len : ∀ (a j t : Nat), qT S a = t → t ≠ 0 → t ≠ 101 → a ≠ 3 → (a, j) ∈ ptrC → qN u (qO u a j) = qN S (qO S a j) := fun a j t k h0 h1 hb hp => by
    have p := w.ptr hp
    have kk := w.rf3 a j _ p
    rw [qO_eq (ff j k h0 h1 hb).2, (f.1.1 _ (by rw [kk.1]; exact kk.2.1)).2]
  have e1_0 : qN u (qO u 1 0) = qN S (qO S 1 0) := len 1 0 40 w.k1 (by decide) (by decide) (by decide) (by decide)
  have e5_0 : qN u (qO u 5 0) = qN S (qO S 5 0) := len 5 0 40 w.k5 (by decide) (by decide) (by decide) (by decide)
  have e26_0 : qN u (qO u 26 0) = qN S (qO S 26 0) := len 26 0 40 w.k26 (by decide) (by decide) (by decide) (by decide)
  have e28_0 : qN u (qO u 28 0) = qN S (qO S 28 0) := len 28 0 40 w.k28 (by decide) (by decide) (by decide) (by decide)
  have e30_0 : qN u (qO u 30 0) = qN S (qO S 30 0) := len 30 0 40 w.k30 (by decide) (by decide) (by decide) (by decide)
  have e17_0 : qN u (qO u 17 0) = qN S (qO S 17 0) := len 17 0 44 w.k17 (by decide) (by decide) (by decide) (by decide)
  have e38_0 : qN u (qO u 38 0) = qN S (qO S 38 0) := len 38 0 44 w.k38 (by decide) (by decide) (by decide) (by decide)
  have e16_2 : qN u (qO u 16 2) = qN S (qO S 16 2) := len 16 2 41 w.k16 (by decide) (by decide) (by decide) (by decide)
  have e25_17 : qN u (qO u 25 17) = qN S (qO S 25 17) := len 25 17 50 w.k25 (by decide) (by decide) (by decide) (by decide)
  have e52_3 : qN u (qO u 52 3) = qN S (qO S 52 3) := len 52 3 43 w.k52 (by decide) (by decide) (by decide) (by decide)
  have e52_13 : qN u (qO u 52 13) = qN S (qO S 52 13) := len 52 13 43 w.k52 (by decide) (by decide) (by decide) (by decide)
  have e52_9 : qN u (qO u 52 9) = qN S (qO S 52 9) := len 52 9 43 w.k52 (by decide) (by decide) (by decide) (by decide)
  have e52_5 : qN u (qO u 52 5) = qN S (qO S 52 5) := len 52 5 43 w.k52 (by decide) (by decide) (by decide) (by decide)
  have e52_7 : qN u (qO u 52 7) = qN S (qO S 52 7) := len 52 7 43 w.k52 (by decide) (by decide) (by decide) (by decide)
  have e44_2 : qN u (qO u 44 2) = qN S (qO S 44 2) := len 44 2 45 w.k44 (by decide) (by decide) (by decide) (by decide)
  have e44_4 : qN u (qO u 44 4) = qN S (qO S 44 4) := len 44 4 45 w.k44 (by decide) (by decide) (by decide) (by decide)
  have e44_8 : qN u (qO u 44 8) = qN S (qO S 44 8) := len 44 8 45 w.k44 (by decide) (by decide) (by decide) (by decide)
  have e44_9 : qN u (qO u 44 9) = qN S (qO S 44 9) := len 44 9 45 w.k44 (by decide) (by decide) (by decide) (by decide)
  have e66_2 : qN u (qO u 66 2) = qN S (qO S 66 2) := len 66 2 48 w.k66 (by decide) (by decide) (by decide) (by decide)
  have e9 : hp2 u = hp2 S := by unfold hp2; rw [e44_2]
  have c1 : qN u (qO u 16 1) = qN S (qO S 16 1) := len 16 1 41 w.k16 (by decide) (by decide) (by decide) (by decide)
  have c3 : qN u (qO u 16 3) = qN S (qO S 16 3) := len 16 3 41 w.k16 (by decide) (by decide) (by decide) (by decide)
  have c6 : qN u (qO u 25 16) = qN S (qO S 25 16) := len 25 16 50 w.k25 (by decide) (by decide) (by decide) (by decide)
  unfold CpK at h8
  unfold RmK PSc PNc at h9
  unfold bkB at bk
  refine ⟨fun p k => ?_, fun p k => ?_, fun p k => ?_, ?_, ?_, ?_, fr_dn h7 f.1 nk, ?_, ?_⟩
  · have kS := nz9 f.1 nk k (by decide)
    exact (h1 p kS).mv w f.1 (fun j _ => (ff j kS (by decide) (by decide) (nb kS (by decide))).1) (fun j _ => (ff j kS (by decide) (by decide) (nb kS (by decide))).2)
  · have kS := nz9 f.1 nk k (by decide)
    exact (h2 p kS).mv w f.1 (fun j _ => (ff j kS (by decide) (by decide) (nb kS (by decide))).1) (fun j _ => (ff j kS (by decide) (by decide) (nb kS (by decide))).2)
  · have kS := nz9 f.1 nk k (by decide)
    exact (h3 p kS).mv w f.1 (fun j _ => (ff j kS (by decide) (by decide) (nb kS (by decide))).2)
  · unfold ChKk; rw [c1, c3, e16_2]; exact h4
  · unfold WrK; rw [c6, e25_17]; exact h5
  · have R := h1 _ w.k67
    have k67 := w.k67
    unfold SmK
    rw [qO_eq (ff 0 w.k66 (by decide) (by decide) (by decide)).2, qO_eq (ff 0 k67 (by decide) (by decide) (nb k67 (by decide))).2, f.1.N9 w R.1.1, e66_2, len 66 3 48 w.k66 (by decide) (by decide) (by decide) (by decide), len 66 4 48 w.k66 (by decide) (by decide) (by decide) (by decide), len 66 5 48 w.k66 (by decide) (by decide) (by decide) (by decide)]
    exact h6
  · unfold CpK; rw [e1_0, e5_0, e26_0, e28_0, e30_0, e17_0, e38_0, e16_2, e25_17, e52_3, e52_13, e52_9, e52_5, e52_7, e44_2, e44_4, e44_8, e44_9, e66_2]; omega
  · unfold RmK PSc PNc; rw [e1_0, e5_0, e26_0, e28_0, e30_0, e17_0, e38_0, e16_2, e25_17, e52_3, e52_13, e52_9, e52_5, e52_7, e44_2, e44_4, e44_8, e44_9, e66_2, e9]; omega
theorem ShC.rb_3 {B : Nat × Nat} {S : MS} (h : ShC B S) : RmB 3 65536 S := by
  have h8 := h.cap
  have h9 := h.rm
  unfold CpK at h8
  unfold RmK PSc PNc at h9
  have z : hp2 S ≤ 20000 := by unfold hp2; split <;> omega
  unfold RmB
  omega
theorem ShC.b_5 {B : Nat × Nat} {S u : MS} (w : wfC S) (h : ShC B S) (f : fb 5 S u) (bk : bkB 5 S u) (hc : qN u (qO u 5 0) ≤ 65536) : ShC B u := by
  obtain ⟨h1, h2, h3, h4, h5, h6, h7, h8, h9⟩ := h
  have nk := nkC.nw h7 f.2.2
  have ff : ∀ {a t : Nat} (j : Nat), qT S a = t → t ≠ 0 → t ≠ 101 → a ≠ 5 → qI u a j = qI S a j ∧ qR u a j = qR S a j := fun j k h0 h1 hb => by
    have := f.2.1 _ j (by rw [k]; exact h0) (by rw [k]; exact h1) hb
    exact ⟨this.1, this.2.2⟩
  have kb : qT S 5 = 40 := w.k5
  have nb : ∀ {a t : Nat}, qT S a = t → t ≠ 40 → a ≠ 5 := fun e h q => h (by rw [← e, q]; exact kb)
  have len : ∀ (a j t : Nat), qT S a = t → t ≠ 0 → t ≠ 101 → a ≠ 5 → (a, j) ∈ ptrC → qN u (qO u a j) = qN S (qO S a j) := fun a j t k h0 h1 hb hp => by
    have p := w.ptr hp
    have kk := w.rf3 a j _ p
    rw [qO_eq (ff j k h0 h1 hb).2, (f.1.1 _ (by rw [kk.1]; exact kk.2.1)).2]
  have e1_0 : qN u (qO u 1 0) = qN S (qO S 1 0) := len 1 0 40 w.k1 (by decide) (by decide) (by decide) (by decide)
  have e3_0 : qN u (qO u 3 0) = qN S (qO S 3 0) := len 3 0 40 w.k3 (by decide) (by decide) (by decide) (by decide)
  have e26_0 : qN u (qO u 26 0) = qN S (qO S 26 0) := len 26 0 40 w.k26 (by decide) (by decide) (by decide) (by decide)
  have e28_0 : qN u (qO u 28 0) = qN S (qO S 28 0) := len 28 0 40 w.k28 (by decide) (by decide) (by decide) (by decide)
  have e30_0 : qN u (qO u 30 0) = qN S (qO S 30 0) := len 30 0 40 w.k30 (by decide) (by decide) (by decide) (by decide)
  have e17_0 : qN u (qO u 17 0) = qN S (qO S 17 0) := len 17 0 44 w.k17 (by decide) (by decide) (by decide) (by decide)
  have e38_0 : qN u (qO u 38 0) = qN S (qO S 38 0) := len 38 0 44 w.k38 (by decide) (by decide) (by decide) (by decide)
  have e16_2 : qN u (qO u 16 2) = qN S (qO S 16 2) := len 16 2 41 w.k16 (by decide) (by decide) (by decide) (by decide)
  have e25_17 : qN u (qO u 25 17) = qN S (qO S 25 17) := len 25 17 50 w.k25 (by decide) (by decide) (by decide) (by decide)
  have e52_3 : qN u (qO u 52 3) = qN S (qO S 52 3) := len 52 3 43 w.k52 (by decide) (by decide) (by decide) (by decide)
  have e52_13 : qN u (qO u 52 13) = qN S (qO S 52 13) := len 52 13 43 w.k52 (by decide) (by decide) (by decide) (by decide)
  have e52_9 : qN u (qO u 52 9) = qN S (qO S 52 9) := len 52 9 43 w.k52 (by decide) (by decide) (by decide) (by decide)
  have e52_5 : qN u (qO u 52 5) = qN S (qO S 52 5) := len 52 5 43 w.k52 (by decide) (by decide) (by decide) (by decide)
  have e52_7 : qN u (qO u 52 7) = qN S (qO S 52 7) := len 52 7 43 w.k52 (by decide) (by decide) (by decide) (by decide)
  have e44_2 : qN u (qO u 44 2) = qN S (qO S 44 2) := len 44 2 45 w.k44 (by decide) (by decide) (by decide) (by decide)
  have e44_4 : qN u (qO u 44 4) = qN S (qO S 44 4) := len 44 4 45 w.k44 (by decide) (by decide) (by decide) (by decide)
  have e44_8 : qN u (qO u 44 8) = qN S (qO S 44 8) := len 44 8 45 w.k44 (by decide) (by decide) (by decide) (by decide)
  have e44_9 : qN u (qO u 44 9) = qN S (qO S 44 9) := len 44 9 45 w.k44 (by decide) (by decide) (by decide) (by decide)
  have e66_2 : qN u (qO u 66 2) = qN S (qO S 66 2) := len 66 2 48 w.k66 (by decide) (by decide) (by decide) (by decide)
  have e9 : hp2 u = hp2 S := by unfold hp2; rw [e44_2]
  have c1 : qN u (qO u 16 1) = qN S (qO S 16 1) := len 16 1 41 w.k16 (by decide) (by decide) (by decide) (by decide)
  have c3 : qN u (qO u 16 3) = qN S (qO S 16 3) := len 16 3 41 w.k16 (by decide) (by decide) (by decide) (by decide)
  have c6 : qN u (qO u 25 16) = qN S (qO S 25 16) := len 25 16 50 w.k25 (by decide) (by decide) (by decide) (by decide)
  unfold CpK at h8
  unfold RmK PSc PNc at h9
  unfold bkB at bk
  refine ⟨fun p k => ?_, fun p k => ?_, fun p k => ?_, ?_, ?_, ?_, fr_dn h7 f.1 nk, ?_, ?_⟩
  · have kS := nz9 f.1 nk k (by decide)
    exact (h1 p kS).mv w f.1 (fun j _ => (ff j kS (by decide) (by decide) (nb kS (by decide))).1) (fun j _ => (ff j kS (by decide) (by decide) (nb kS (by decide))).2)
  · have kS := nz9 f.1 nk k (by decide)
    exact (h2 p kS).mv w f.1 (fun j _ => (ff j kS (by decide) (by decide) (nb kS (by decide))).1) (fun j _ => (ff j kS (by decide) (by decide) (nb kS (by decide))).2)
  · have kS := nz9 f.1 nk k (by decide)
    exact (h3 p kS).mv w f.1 (fun j _ => (ff j kS (by decide) (by decide) (nb kS (by decide))).2)
  · unfold ChKk; rw [c1, c3, e16_2]; exact h4
  · unfold WrK; rw [c6, e25_17]; exact h5
  · have R := h1 _ w.k67
    have k67 := w.k67
    unfold SmK
    rw [qO_eq (ff 0 w.k66 (by decide) (by decide) (by decide)).2, qO_eq (ff 0 k67 (by decide) (by decide) (nb k67 (by decide))).2, f.1.N9 w R.1.1, e66_2, len 66 3 48 w.k66 (by decide) (by decide) (by decide) (by decide), len 66 4 48 w.k66 (by decide) (by decide) (by decide) (by decide), len 66 5 48 w.k66 (by decide) (by decide) (by decide) (by decide)]
    exact h6
  · unfold CpK; rw [e1_0, e3_0, e26_0, e28_0, e30_0, e17_0, e38_0, e16_2, e25_17, e52_3, e52_13, e52_9, e52_5, e52_7, e44_2, e44_4, e44_8, e44_9, e66_2]; omega
  · unfold RmK PSc PNc; rw [e1_0, e3_0, e26_0, e28_0, e30_0, e17_0, e38_0, e16_2, e25_17, e52_3, e52_13, e52_9, e52_5, e52_7, e44_2, e44_4, e44_8, e44_9, e66_2, e9]; omega
theorem ShC.rb_5 {B : Nat × Nat} {S : MS} (h : ShC B S) : RmB 5 65536 S := by
  have h8 := h.cap
  have h9 := h.rm
  unfold CpK at h8
  unfold RmK PSc PNc at h9
  have z : hp2 S ≤ 20000 := by unfold hp2; split <;> omega
  unfold RmB
  omega
theorem ShC.b_26 {B : Nat × Nat} {S u : MS} (w : wfC S) (h : ShC B S) (f : fb 26 S u) (bk : bkB 26 S u) (hc : qN u (qO u 26 0) ≤ 16384) : ShC B u := by
  obtain ⟨h1, h2, h3, h4, h5, h6, h7, h8, h9⟩ := h
  have nk := nkC.nw h7 f.2.2
  have ff : ∀ {a t : Nat} (j : Nat), qT S a = t → t ≠ 0 → t ≠ 101 → a ≠ 26 → qI u a j = qI S a j ∧ qR u a j = qR S a j := fun j k h0 h1 hb => by
    have := f.2.1 _ j (by rw [k]; exact h0) (by rw [k]; exact h1) hb
    exact ⟨this.1, this.2.2⟩
  have kb : qT S 26 = 40 := w.k26
  have nb : ∀ {a t : Nat}, qT S a = t → t ≠ 40 → a ≠ 26 := fun e h q => h (by rw [← e, q]; exact kb)
  have len : ∀ (a j t : Nat), qT S a = t → t ≠ 0 → t ≠ 101 → a ≠ 26 → (a, j) ∈ ptrC → qN u (qO u a j) = qN S (qO S a j) := fun a j t k h0 h1 hb hp => by
    have p := w.ptr hp
    have kk := w.rf3 a j _ p
    rw [qO_eq (ff j k h0 h1 hb).2, (f.1.1 _ (by rw [kk.1]; exact kk.2.1)).2]
  have e1_0 : qN u (qO u 1 0) = qN S (qO S 1 0) := len 1 0 40 w.k1 (by decide) (by decide) (by decide) (by decide)
  have e3_0 : qN u (qO u 3 0) = qN S (qO S 3 0) := len 3 0 40 w.k3 (by decide) (by decide) (by decide) (by decide)
  have e5_0 : qN u (qO u 5 0) = qN S (qO S 5 0) := len 5 0 40 w.k5 (by decide) (by decide) (by decide) (by decide)
  have e28_0 : qN u (qO u 28 0) = qN S (qO S 28 0) := len 28 0 40 w.k28 (by decide) (by decide) (by decide) (by decide)
  have e30_0 : qN u (qO u 30 0) = qN S (qO S 30 0) := len 30 0 40 w.k30 (by decide) (by decide) (by decide) (by decide)
  have e17_0 : qN u (qO u 17 0) = qN S (qO S 17 0) := len 17 0 44 w.k17 (by decide) (by decide) (by decide) (by decide)
  have e38_0 : qN u (qO u 38 0) = qN S (qO S 38 0) := len 38 0 44 w.k38 (by decide) (by decide) (by decide) (by decide)
  have e16_2 : qN u (qO u 16 2) = qN S (qO S 16 2) := len 16 2 41 w.k16 (by decide) (by decide) (by decide) (by decide)
  have e25_17 : qN u (qO u 25 17) = qN S (qO S 25 17) := len 25 17 50 w.k25 (by decide) (by decide) (by decide) (by decide)
  have e52_3 : qN u (qO u 52 3) = qN S (qO S 52 3) := len 52 3 43 w.k52 (by decide) (by decide) (by decide) (by decide)
  have e52_13 : qN u (qO u 52 13) = qN S (qO S 52 13) := len 52 13 43 w.k52 (by decide) (by decide) (by decide) (by decide)
  have e52_9 : qN u (qO u 52 9) = qN S (qO S 52 9) := len 52 9 43 w.k52 (by decide) (by decide) (by decide) (by decide)
  have e52_5 : qN u (qO u 52 5) = qN S (qO S 52 5) := len 52 5 43 w.k52 (by decide) (by decide) (by decide) (by decide)
  have e52_7 : qN u (qO u 52 7) = qN S (qO S 52 7) := len 52 7 43 w.k52 (by decide) (by decide) (by decide) (by decide)
  have e44_2 : qN u (qO u 44 2) = qN S (qO S 44 2) := len 44 2 45 w.k44 (by decide) (by decide) (by decide) (by decide)
  have e44_4 : qN u (qO u 44 4) = qN S (qO S 44 4) := len 44 4 45 w.k44 (by decide) (by decide) (by decide) (by decide)
  have e44_8 : qN u (qO u 44 8) = qN S (qO S 44 8) := len 44 8 45 w.k44 (by decide) (by decide) (by decide) (by decide)
  have e44_9 : qN u (qO u 44 9) = qN S (qO S 44 9) := len 44 9 45 w.k44 (by decide) (by decide) (by decide) (by decide)
  have e66_2 : qN u (qO u 66 2) = qN S (qO S 66 2) := len 66 2 48 w.k66 (by decide) (by decide) (by decide) (by decide)
  have e9 : hp2 u = hp2 S := by unfold hp2; rw [e44_2]
  have c1 : qN u (qO u 16 1) = qN S (qO S 16 1) := len 16 1 41 w.k16 (by decide) (by decide) (by decide) (by decide)
  have c3 : qN u (qO u 16 3) = qN S (qO S 16 3) := len 16 3 41 w.k16 (by decide) (by decide) (by decide) (by decide)
  have c6 : qN u (qO u 25 16) = qN S (qO S 25 16) := len 25 16 50 w.k25 (by decide) (by decide) (by decide) (by decide)
  unfold CpK at h8
  unfold RmK PSc PNc at h9
  unfold bkB at bk
  refine ⟨fun p k => ?_, fun p k => ?_, fun p k => ?_, ?_, ?_, ?_, fr_dn h7 f.1 nk, ?_, ?_⟩
  · have kS := nz9 f.1 nk k (by decide)
    exact (h1 p kS).mv w f.1 (fun j _ => (ff j kS (by decide) (by decide) (nb kS (by decide))).1) (fun j _ => (ff j kS (by decide) (by decide) (nb kS (by decide))).2)
  · have kS := nz9 f.1 nk k (by decide)
    exact (h2 p kS).mv w f.1 (fun j _ => (ff j kS (by decide) (by decide) (nb kS (by decide))).1) (fun j _ => (ff j kS (by decide) (by decide) (nb kS (by decide))).2)
  · have kS := nz9 f.1 nk k (by decide)
    exact (h3 p kS).mv w f.1 (fun j _ => (ff j kS (by decide) (by decide) (nb kS (by decide))).2)
  · unfold ChKk; rw [c1, c3, e16_2]; exact h4
  · unfold WrK; rw [c6, e25_17]; exact h5
  · have R := h1 _ w.k67
    have k67 := w.k67
    unfold SmK
    rw [qO_eq (ff 0 w.k66 (by decide) (by decide) (by decide)).2, qO_eq (ff 0 k67 (by decide) (by decide) (nb k67 (by decide))).2, f.1.N9 w R.1.1, e66_2, len 66 3 48 w.k66 (by decide) (by decide) (by decide) (by decide), len 66 4 48 w.k66 (by decide) (by decide) (by decide) (by decide), len 66 5 48 w.k66 (by decide) (by decide) (by decide) (by decide)]
    exact h6
  · unfold CpK; rw [e1_0, e3_0, e5_0, e28_0, e30_0, e17_0, e38_0, e16_2, e25_17, e52_3, e52_13, e52_9, e52_5, e52_7, e44_2, e44_4, e44_8, e44_9, e66_2]; omega
  · unfold RmK PSc PNc; rw [e1_0, e3_0, e5_0, e28_0, e30_0, e17_0, e38_0, e16_2, e25_17, e52_3, e52_13, e52_9, e52_5, e52_7, e44_2, e44_4, e44_8, e44_9, e66_2, e9]; omega
theorem ShC.rb_26 {B : Nat × Nat} {S : MS} (h : ShC B S) : RmB 26 16384 S := by
  have h8 := h.cap
  have h9 := h.rm
  unfold CpK at h8
  unfold RmK PSc PNc at h9
  have z : hp2 S ≤ 20000 := by unfold hp2; split <;> omega
  unfold RmB
  omega
theorem ShC.b_28 {B : Nat × Nat} {S u : MS} (w : wfC S) (h : ShC B S) (f : fb 28 S u) (bk : bkB 28 S u) (hc : qN u (qO u 28 0) ≤ 65536) : ShC B u := by
  obtain ⟨h1, h2, h3, h4, h5, h6, h7, h8, h9⟩ := h
  have nk := nkC.nw h7 f.2.2
  have ff : ∀ {a t : Nat} (j : Nat), qT S a = t → t ≠ 0 → t ≠ 101 → a ≠ 28 → qI u a j = qI S a j ∧ qR u a j = qR S a j := fun j k h0 h1 hb => by
    have := f.2.1 _ j (by rw [k]; exact h0) (by rw [k]; exact h1) hb
    exact ⟨this.1, this.2.2⟩
  have kb : qT S 28 = 40 := w.k28
  have nb : ∀ {a t : Nat}, qT S a = t → t ≠ 40 → a ≠ 28 := fun e h q => h (by rw [← e, q]; exact kb)
  have len : ∀ (a j t : Nat), qT S a = t → t ≠ 0 → t ≠ 101 → a ≠ 28 → (a, j) ∈ ptrC → qN u (qO u a j) = qN S (qO S a j) := fun a j t k h0 h1 hb hp => by
    have p := w.ptr hp
    have kk := w.rf3 a j _ p
    rw [qO_eq (ff j k h0 h1 hb).2, (f.1.1 _ (by rw [kk.1]; exact kk.2.1)).2]
  have e1_0 : qN u (qO u 1 0) = qN S (qO S 1 0) := len 1 0 40 w.k1 (by decide) (by decide) (by decide) (by decide)
  have e3_0 : qN u (qO u 3 0) = qN S (qO S 3 0) := len 3 0 40 w.k3 (by decide) (by decide) (by decide) (by decide)
  have e5_0 : qN u (qO u 5 0) = qN S (qO S 5 0) := len 5 0 40 w.k5 (by decide) (by decide) (by decide) (by decide)
  have e26_0 : qN u (qO u 26 0) = qN S (qO S 26 0) := len 26 0 40 w.k26 (by decide) (by decide) (by decide) (by decide)
  have e30_0 : qN u (qO u 30 0) = qN S (qO S 30 0) := len 30 0 40 w.k30 (by decide) (by decide) (by decide) (by decide)
  have e17_0 : qN u (qO u 17 0) = qN S (qO S 17 0) := len 17 0 44 w.k17 (by decide) (by decide) (by decide) (by decide)
  have e38_0 : qN u (qO u 38 0) = qN S (qO S 38 0) := len 38 0 44 w.k38 (by decide) (by decide) (by decide) (by decide)
  have e16_2 : qN u (qO u 16 2) = qN S (qO S 16 2) := len 16 2 41 w.k16 (by decide) (by decide) (by decide) (by decide)
  have e25_17 : qN u (qO u 25 17) = qN S (qO S 25 17) := len 25 17 50 w.k25 (by decide) (by decide) (by decide) (by decide)
  have e52_3 : qN u (qO u 52 3) = qN S (qO S 52 3) := len 52 3 43 w.k52 (by decide) (by decide) (by decide) (by decide)
  have e52_13 : qN u (qO u 52 13) = qN S (qO S 52 13) := len 52 13 43 w.k52 (by decide) (by decide) (by decide) (by decide)
  have e52_9 : qN u (qO u 52 9) = qN S (qO S 52 9) := len 52 9 43 w.k52 (by decide) (by decide) (by decide) (by decide)
  have e52_5 : qN u (qO u 52 5) = qN S (qO S 52 5) := len 52 5 43 w.k52 (by decide) (by decide) (by decide) (by decide)
  have e52_7 : qN u (qO u 52 7) = qN S (qO S 52 7) := len 52 7 43 w.k52 (by decide) (by decide) (by decide) (by decide)
  have e44_2 : qN u (qO u 44 2) = qN S (qO S 44 2) := len 44 2 45 w.k44 (by decide) (by decide) (by decide) (by decide)
  have e44_4 : qN u (qO u 44 4) = qN S (qO S 44 4) := len 44 4 45 w.k44 (by decide) (by decide) (by decide) (by decide)
  have e44_8 : qN u (qO u 44 8) = qN S (qO S 44 8) := len 44 8 45 w.k44 (by decide) (by decide) (by decide) (by decide)
  have e44_9 : qN u (qO u 44 9) = qN S (qO S 44 9) := len 44 9 45 w.k44 (by decide) (by decide) (by decide) (by decide)
  have e66_2 : qN u (qO u 66 2) = qN S (qO S 66 2) := len 66 2 48 w.k66 (by decide) (by decide) (by decide) (by decide)
  have e9 : hp2 u = hp2 S := by unfold hp2; rw [e44_2]
  have c1 : qN u (qO u 16 1) = qN S (qO S 16 1) := len 16 1 41 w.k16 (by decide) (by decide) (by decide) (by decide)
  have c3 : qN u (qO u 16 3) = qN S (qO S 16 3) := len 16 3 41 w.k16 (by decide) (by decide) (by decide) (by decide)
  have c6 : qN u (qO u 25 16) = qN S (qO S 25 16) := len 25 16 50 w.k25 (by decide) (by decide) (by decide) (by decide)
  unfold CpK at h8
  unfold RmK PSc PNc at h9
  unfold bkB at bk
  refine ⟨fun p k => ?_, fun p k => ?_, fun p k => ?_, ?_, ?_, ?_, fr_dn h7 f.1 nk, ?_, ?_⟩
  · have kS := nz9 f.1 nk k (by decide)
    exact (h1 p kS).mv w f.1 (fun j _ => (ff j kS (by decide) (by decide) (nb kS (by decide))).1) (fun j _ => (ff j kS (by decide) (by decide) (nb kS (by decide))).2)
  · have kS := nz9 f.1 nk k (by decide)
    exact (h2 p kS).mv w f.1 (fun j _ => (ff j kS (by decide) (by decide) (nb kS (by decide))).1) (fun j _ => (ff j kS (by decide) (by decide) (nb kS (by decide))).2)
  · have kS := nz9 f.1 nk k (by decide)
    exact (h3 p kS).mv w f.1 (fun j _ => (ff j kS (by decide) (by decide) (nb kS (by decide))).2)
  · unfold ChKk; rw [c1, c3, e16_2]; exact h4
  · unfold WrK; rw [c6, e25_17]; exact h5
  · have R := h1 _ w.k67
    have k67 := w.k67
    unfold SmK
    rw [qO_eq (ff 0 w.k66 (by decide) (by decide) (by decide)).2, qO_eq (ff 0 k67 (by decide) (by decide) (nb k67 (by decide))).2, f.1.N9 w R.1.1, e66_2, len 66 3 48 w.k66 (by decide) (by decide) (by decide) (by decide), len 66 4 48 w.k66 (by decide) (by decide) (by decide) (by decide), len 66 5 48 w.k66 (by decide) (by decide) (by decide) (by decide)]
    exact h6
  · unfold CpK; rw [e1_0, e3_0, e5_0, e26_0, e30_0, e17_0, e38_0, e16_2, e25_17, e52_3, e52_13, e52_9, e52_5, e52_7, e44_2, e44_4, e44_8, e44_9, e66_2]; omega
  · unfold RmK PSc PNc; rw [e1_0, e3_0, e5_0, e26_0, e30_0, e17_0, e38_0, e16_2, e25_17, e52_3, e52_13, e52_9, e52_5, e52_7, e44_2, e44_4, e44_8, e44_9, e66_2, e9]; omega
theorem ShC.rb_28 {B : Nat × Nat} {S : MS} (h : ShC B S) : RmB 28 65536 S := by
  have h8 := h.cap
  have h9 := h.rm
  unfold CpK at h8
  unfold RmK PSc PNc at h9
  have z : hp2 S ≤ 20000 := by unfold hp2; split <;> omega
  unfold RmB
  omega
theorem ShC.b_30 {B : Nat × Nat} {S u : MS} (w : wfC S) (h : ShC B S) (f : fb 30 S u) (bk : bkB 30 S u) (hc : qN u (qO u 30 0) ≤ 128) : ShC B u := by
  obtain ⟨h1, h2, h3, h4, h5, h6, h7, h8, h9⟩ := h
  have nk := nkC.nw h7 f.2.2
  have ff : ∀ {a t : Nat} (j : Nat), qT S a = t → t ≠ 0 → t ≠ 101 → a ≠ 30 → qI u a j = qI S a j ∧ qR u a j = qR S a j := fun j k h0 h1 hb => by
    have := f.2.1 _ j (by rw [k]; exact h0) (by rw [k]; exact h1) hb
    exact ⟨this.1, this.2.2⟩
  have kb : qT S 30 = 40 := w.k30
  have nb : ∀ {a t : Nat}, qT S a = t → t ≠ 40 → a ≠ 30 := fun e h q => h (by rw [← e, q]; exact kb)
  have len : ∀ (a j t : Nat), qT S a = t → t ≠ 0 → t ≠ 101 → a ≠ 30 → (a, j) ∈ ptrC → qN u (qO u a j) = qN S (qO S a j) := fun a j t k h0 h1 hb hp => by
    have p := w.ptr hp
    have kk := w.rf3 a j _ p
    rw [qO_eq (ff j k h0 h1 hb).2, (f.1.1 _ (by rw [kk.1]; exact kk.2.1)).2]
  have e1_0 : qN u (qO u 1 0) = qN S (qO S 1 0) := len 1 0 40 w.k1 (by decide) (by decide) (by decide) (by decide)
  have e3_0 : qN u (qO u 3 0) = qN S (qO S 3 0) := len 3 0 40 w.k3 (by decide) (by decide) (by decide) (by decide)
  have e5_0 : qN u (qO u 5 0) = qN S (qO S 5 0) := len 5 0 40 w.k5 (by decide) (by decide) (by decide) (by decide)
  have e26_0 : qN u (qO u 26 0) = qN S (qO S 26 0) := len 26 0 40 w.k26 (by decide) (by decide) (by decide) (by decide)
  have e28_0 : qN u (qO u 28 0) = qN S (qO S 28 0) := len 28 0 40 w.k28 (by decide) (by decide) (by decide) (by decide)
  have e17_0 : qN u (qO u 17 0) = qN S (qO S 17 0) := len 17 0 44 w.k17 (by decide) (by decide) (by decide) (by decide)
  have e38_0 : qN u (qO u 38 0) = qN S (qO S 38 0) := len 38 0 44 w.k38 (by decide) (by decide) (by decide) (by decide)
  have e16_2 : qN u (qO u 16 2) = qN S (qO S 16 2) := len 16 2 41 w.k16 (by decide) (by decide) (by decide) (by decide)
  have e25_17 : qN u (qO u 25 17) = qN S (qO S 25 17) := len 25 17 50 w.k25 (by decide) (by decide) (by decide) (by decide)
  have e52_3 : qN u (qO u 52 3) = qN S (qO S 52 3) := len 52 3 43 w.k52 (by decide) (by decide) (by decide) (by decide)
  have e52_13 : qN u (qO u 52 13) = qN S (qO S 52 13) := len 52 13 43 w.k52 (by decide) (by decide) (by decide) (by decide)
  have e52_9 : qN u (qO u 52 9) = qN S (qO S 52 9) := len 52 9 43 w.k52 (by decide) (by decide) (by decide) (by decide)
  have e52_5 : qN u (qO u 52 5) = qN S (qO S 52 5) := len 52 5 43 w.k52 (by decide) (by decide) (by decide) (by decide)
  have e52_7 : qN u (qO u 52 7) = qN S (qO S 52 7) := len 52 7 43 w.k52 (by decide) (by decide) (by decide) (by decide)
  have e44_2 : qN u (qO u 44 2) = qN S (qO S 44 2) := len 44 2 45 w.k44 (by decide) (by decide) (by decide) (by decide)
  have e44_4 : qN u (qO u 44 4) = qN S (qO S 44 4) := len 44 4 45 w.k44 (by decide) (by decide) (by decide) (by decide)
  have e44_8 : qN u (qO u 44 8) = qN S (qO S 44 8) := len 44 8 45 w.k44 (by decide) (by decide) (by decide) (by decide)
  have e44_9 : qN u (qO u 44 9) = qN S (qO S 44 9) := len 44 9 45 w.k44 (by decide) (by decide) (by decide) (by decide)
  have e66_2 : qN u (qO u 66 2) = qN S (qO S 66 2) := len 66 2 48 w.k66 (by decide) (by decide) (by decide) (by decide)
  have e9 : hp2 u = hp2 S := by unfold hp2; rw [e44_2]
  have c1 : qN u (qO u 16 1) = qN S (qO S 16 1) := len 16 1 41 w.k16 (by decide) (by decide) (by decide) (by decide)
  have c3 : qN u (qO u 16 3) = qN S (qO S 16 3) := len 16 3 41 w.k16 (by decide) (by decide) (by decide) (by decide)
  have c6 : qN u (qO u 25 16) = qN S (qO S 25 16) := len 25 16 50 w.k25 (by decide) (by decide) (by decide) (by decide)
  unfold CpK at h8
  unfold RmK PSc PNc at h9
  unfold bkB at bk
  refine ⟨fun p k => ?_, fun p k => ?_, fun p k => ?_, ?_, ?_, ?_, fr_dn h7 f.1 nk, ?_, ?_⟩
  · have kS := nz9 f.1 nk k (by decide)
    exact (h1 p kS).mv w f.1 (fun j _ => (ff j kS (by decide) (by decide) (nb kS (by decide))).1) (fun j _ => (ff j kS (by decide) (by decide) (nb kS (by decide))).2)
  · have kS := nz9 f.1 nk k (by decide)
    exact (h2 p kS).mv w f.1 (fun j _ => (ff j kS (by decide) (by decide) (nb kS (by decide))).1) (fun j _ => (ff j kS (by decide) (by decide) (nb kS (by decide))).2)
  · have kS := nz9 f.1 nk k (by decide)
    exact (h3 p kS).mv w f.1 (fun j _ => (ff j kS (by decide) (by decide) (nb kS (by decide))).2)
  · unfold ChKk; rw [c1, c3, e16_2]; exact h4
  · unfold WrK; rw [c6, e25_17]; exact h5
  · have R := h1 _ w.k67
    have k67 := w.k67
    unfold SmK
    rw [qO_eq (ff 0 w.k66 (by decide) (by decide) (by decide)).2, qO_eq (ff 0 k67 (by decide) (by decide) (nb k67 (by decide))).2, f.1.N9 w R.1.1, e66_2, len 66 3 48 w.k66 (by decide) (by decide) (by decide) (by decide), len 66 4 48 w.k66 (by decide) (by decide) (by decide) (by decide), len 66 5 48 w.k66 (by decide) (by decide) (by decide) (by decide)]
    exact h6
  · unfold CpK; rw [e1_0, e3_0, e5_0, e26_0, e28_0, e17_0, e38_0, e16_2, e25_17, e52_3, e52_13, e52_9, e52_5, e52_7, e44_2, e44_4, e44_8, e44_9, e66_2]; omega
  · unfold RmK PSc PNc; rw [e1_0, e3_0, e5_0, e26_0, e28_0, e17_0, e38_0, e16_2, e25_17, e52_3, e52_13, e52_9, e52_5, e52_7, e44_2, e44_4, e44_8, e44_9, e66_2, e9]; omega
theorem ShC.rb_30 {B : Nat × Nat} {S : MS} (h : ShC B S) : RmB 30 128 S := by
  have h8 := h.cap
  have h9 := h.rm
  unfold CpK at h8
  unfold RmK PSc PNc at h9
  have z : hp2 S ≤ 20000 := by unfold hp2; split <;> omega
  unfold RmB
  omega
/-! the switches of a Row lie one behind another -/
def swO (x : Int32) : Prop := x.toInt = 170 ∨ x.toInt = 171
def rOp (S : MS) (r i : Nat) : Int32 := qI S (qO S r 0) i
def aTk (S : MS) (r i : Nat) : Int := ((qJ S (qO S r 1) i).toInt32).toInt
def mT (S : MS) (r i : Nat) : Int := (qI S (qO S r 3) (aTk S r i).toNat).toInt
def szT (o : Int32) (m : Int) : Int := if o.toInt = 170 then 2 + m else 1 + 2 * m
def eT (S : MS) (r i : Nat) : Int := aTk S r i + szT (rOp S r i) (mT S r i)
def RvK (S : MS) (r : Nat) : Prop := (∀ i : Nat, (i : Int) < (qI S r 2).toInt → swO (rOp S r i) → 0 ≤ aTk S r i ∧ 1 ≤ mT S r i ∧ mT S r i ≤ 300 ∧ eT S r i ≤ (qI S r 4).toInt) ∧ ∀ i i' : Nat, i < i' → (i' : Int) < (qI S r 2).toInt → swO (rOp S r i) → swO (rOp S r i') → eT S r i ≤ aTk S r i'
/-- a Row is as it was -/
def rSm (S u : MS) (r : Nat) : Prop := (qI u r 2 = qI S r 2 ∧ qI u r 4 = qI S r 4) ∧ (qO u r 0 = qO S r 0 ∧ qO u r 1 = qO S r 1 ∧ qO u r 3 = qO S r 3) ∧ qI u (qO S r 0) = qI S (qO S r 0) ∧ qJ u (qO S r 1) = qJ S (qO S r 1) ∧ qI u (qO S r 3) = qI S (qO S r 3)
section RVK
variable {K : List Nat} {F : List (Nat × Nat)} {S u v : MS} {p r i : Nat}
theorem rSm.fr (w : wfC S) (k : qT S r = 47) (R : RwK S r) (f : cfr K F S u) (hK : okM K = true) (hF : okL LMr F = true) (hA : okO F = true) : rSm S u r := by
  have g : ∀ j, LMr.contains (47, j) = true → qI u r j = qI S r j ∧ qR u r j = qR S r j := fun j m => by
    have := f.2.2 r j (by rw [k]; decide) (by rw [k]; exact okM_n hK (by decide)) (by rw [k]; exact okL_n hF m)
    exact ⟨this.1, this.2.2⟩
  have a : ∀ {b t : Nat}, qT S b = t → 100 < t → ([217, 6, 222, 223, 406, 45, 47, 49] : List Nat).contains t = true → qI u b = qI S b ∧ qJ u b = qJ S b := fun {b t} e ht m => by
    have h1 : ∀ j, F.contains (t, j) = false := fun j => okO_n hA (by omega)
    exact ⟨funext fun j => (f.2.2 b j (by rw [e]; omega) (by rw [e]; exact okM_n hK m) (by rw [e]; exact h1 j)).1, funext fun j => (f.2.2 b j (by rw [e]; omega) (by rw [e]; exact okM_n hK m) (by rw [e]; exact h1 j)).2.1⟩
  exact ⟨⟨(g 2 (by decide)).1, (g 4 (by decide)).1⟩, ⟨qO_eq (g 0 (by decide)).2, qO_eq (g 1 (by decide)).2, qO_eq (g 3 (by decide)).2⟩, (a (w.ref R.1.1 k : qT S (qO S r 0) = 222) (by decide) (by decide)).1, (a (w.ref R.1.2.1 k : qT S (qO S r 1) = 406) (by decide) (by decide)).2, (a (w.ref R.1.2.2.1 k : qT S (qO S r 3) = 223) (by decide) (by decide)).1⟩
theorem rSm.rf : rSm S S r := ⟨⟨rfl, rfl⟩, ⟨rfl, rfl, rfl⟩, rfl, rfl, rfl⟩
theorem rSm.tr (h : rSm S u r) (k : rSm u v r) : rSm S v r := by
  obtain ⟨⟨a1, a2⟩, ⟨b0, b1, b3⟩, c0, c1, c3⟩ := h
  obtain ⟨⟨a1', a2'⟩, ⟨b0', b1', b3'⟩, c0', c1', c3'⟩ := k
  rw [b0] at c0'
  rw [b1] at c1'
  rw [b3] at c3'
  exact ⟨⟨a1'.trans a1, a2'.trans a2⟩, ⟨b0'.trans b0, b1'.trans b1, b3'.trans b3⟩, c0'.trans c0, c1'.trans c1, c3'.trans c3⟩
theorem rSm.xOp (h : rSm S u r) (i : Nat) : rOp u r i = rOp S r i := by unfold rOp; rw [h.2.1.1, h.2.2.1]
theorem rSm.xA (h : rSm S u r) (i : Nat) : aTk u r i = aTk S r i := by unfold aTk; rw [h.2.1.2.1, h.2.2.2.1]
theorem rSm.xM (h : rSm S u r) (i : Nat) : mT u r i = mT S r i := by unfold mT; rw [h.2.1.2.2, h.2.2.2.2, h.xA]
theorem rSm.xE (h : rSm S u r) (i : Nat) : eT u r i = eT S r i := by unfold eT; rw [h.xA, h.xOp, h.xM]
theorem RvK.mv (h : RvK S r) (s : rSm S u r) : RvK u r := by
  unfold RvK
  rw [s.1.1, s.1.2]
  refine ⟨fun i hi hs => ?_, fun i i' hl hi h1 h2 => ?_⟩
  · rw [s.xOp] at hs
    rw [s.xA, s.xM, s.xE]; exact h.1 i hi hs
  · rw [s.xOp] at h1 h2
    rw [s.xA, s.xE]; exact h.2 i i' hl hi h1 h2
theorem rv_op {x : Int32} (h1 : 0 ≤ x.toInt) (h2 : x.toInt < (qI S r 2).toInt) : fX8_opAt S r x = rOp S r x.toInt.toNat := by
  unfold fX8_opAt rOp; rw [if_neg (by omega), if_pos h2]
theorem rv_op0 {x : Int32} (h : ¬ (0 ≤ x.toInt ∧ x.toInt < (qI S r 2).toInt)) : fX8_opAt S r x = -1 := by
  unfold fX8_opAt
  by_cases c : x.toInt < 0
  · rw [if_pos c]; rfl
  · rw [if_neg c, if_neg (by omega)]; rfl
theorem rv_arg {x : Int32} (h1 : 0 ≤ x.toInt) (h2 : x.toInt < (qI S r 2).toInt) : fX8_argAt S r x = qJ S (qO S r 1) x.toInt.toNat := by
  unfold fX8_argAt; rw [if_neg (by omega), if_pos h2]
theorem rv_tab {t : Int32} (h1 : 0 ≤ t.toInt) (h2 : t.toInt < (qI S r 4).toInt) : fX8_tableAt S r t = qI S (qO S r 3) t.toInt.toNat := by
  unfold fX8_tableAt; rw [if_neg (by omega), if_pos h2]
theorem is_sw {x : Int32} (h : (fX6_isSwitch S x).toInt ≠ 0) : swO x := by
  unfold fX6_isSwitch at h
  by_cases c : x.toInt = 170
  · exact Or.inl c
  · rw [if_neg c] at h
    by_cases d : x.toInt = 171
    · exact Or.inr d
    · rw [if_neg d] at h; exact absurd rfl h
theorem sw_isk {x : Int32} (h : swO x) : (fX6_isSwitch S x).toInt ≠ 0 ∧ (fX6_isJump S x).toInt = 0 := by
  unfold fX6_isSwitch fX6_isJump f_X6_isJump_J14
  rcases h with h | h
  · rw [if_pos h, if_neg (by omega), if_neg (by omega), if_neg (by omega), if_neg (by omega)]; exact ⟨show (1 : Int32).toInt ≠ 0 by decide, show (0 : Int32).toInt = 0 by decide⟩
  · rw [if_neg (by omega), if_pos h, if_neg (by omega), if_neg (by omega), if_neg (by omega), if_neg (by omega)]; exact ⟨show (1 : Int32).toInt ≠ 0 by decide, show (0 : Int32).toInt = 0 by decide⟩
/-- how many ways lead from an instruction -/
theorem RvK.tc (h : RvK S r) (x : Int32) : ((fX8_targetCount S r x).toInt = 0 ∨ (fX8_targetCount S r x).toInt = 1) ∨ ((0 ≤ x.toInt ∧ x.toInt < (qI S r 2).toInt) ∧ swO (rOp S r x.toInt.toNat) ∧ (fX8_targetCount S r x).toInt = mT S r x.toInt.toNat) := by
  unfold fX8_targetCount
  by_cases c : (fX6_isJump S (fX8_opAt S r x)).toInt = 0
  · rw [if_pos c]
    by_cases d : (fX6_isSwitch S (fX8_opAt S r x)).toInt = 0
    · rw [if_pos d]; exact Or.inl (Or.inl rfl)
    · rw [if_neg d]
      have sw := is_sw d
      by_cases q : 0 ≤ x.toInt ∧ x.toInt < (qI S r 2).toInt
      · right
        rw [rv_op q.1 q.2] at sw
        have hx : ((x.toInt.toNat : Nat) : Int) = x.toInt := by omega
        obtain ⟨a1, a2, a3, a4⟩ := h.1 x.toInt.toNat (by omega) sw
        refine ⟨q, sw, ?_⟩
        unfold eT szT at a4
        have hl : aTk S r x.toInt.toNat < (qI S r 4).toInt := by
          split at a4 <;> omega
        unfold mT
        rw [rv_arg q.1 q.2, rv_tab a1 hl]
        rfl
      · rw [rv_op0 q] at sw
        exact absurd sw (by unfold swO; decide)
  · rw [if_neg c]; exact Or.inl (Or.inr rfl)
theorem RvK.full (h : RvK S r) : RowF S r := fun x => by
  rcases h.tc x with (e | e) | ⟨q, sw, e⟩
  · omega
  · omega
  · have := h.1 x.toInt.toNat (by omega) sw
    omega
end RVK
/-! Graph: its rows -/
def e2L : List Nat := [16, 32, 64, 128, 256, 512, 1024, 2048, 4096, 8192, 16384, 32768]
theorem e2_dbl : ∀ l ∈ e2L, l ≤ 22800 → 2 * l ≤ 32768 ∧ 2 * l ∈ e2L := by decide
theorem e2_lt : ∀ l ∈ e2L, ∀ c ∈ e2L, l < c → 2 * l ≤ c := by decide
theorem e2_le : ∀ l ∈ e2L, 16 ≤ l ∧ l ≤ 32768 := by decide
def gi (S : MS) (j k : Nat) : Int := (qI S (qO S 52 j) k).toInt
def GrL (S : MS) : Prop := (qN S (qO S 52 2) = qN S (qO S 52 3) ∧ qN S (qO S 52 8) = qN S (qO S 52 13) ∧ qN S (qO S 52 11) = qN S (qO S 52 13) ∧ qN S (qO S 52 12) = qN S (qO S 52 13) ∧ qN S (qO S 52 14) = qN S (qO S 52 13) ∧ qN S (qO S 52 15) = qN S (qO S 52 13) ∧ qN S (qO S 52 6) = qN S (qO S 52 4) ∧ (qN S (qO S 52 13) = 0 ∨ qN S (qO S 52 4) = qN S (qO S 52 13) + 1)) ∧ qN S (qO S 52 5) ∈ e2L ∧ (qN S (qO S 52 7) = 0 ∨ qN S (qO S 52 7) ∈ e2L)
def LGr : List (Nat × Nat) := [(43, 0), (43, 2), (43, 3), (43, 4), (43, 5), (43, 6), (43, 7), (43, 8), (43, 9), (43, 11), (43, 12), (43, 13), (43, 14), (43, 15)]
def GBs (B : Nat × Nat) (S : MS) : Prop := ShC B S ∧ GrL S ∧ (qR S 52 0 = some (qO S 52 0) ∧ RvK S (qO S 52 0)) ∧ 1 ≤ (qI S (qO S 52 0) 2).toInt ∧ (qI S (qO S 52 0) 2).toInt ≤ 1200
section GRS
variable {B : Nat × Nat} {K : List Nat} {F : List (Nat × Nat)} {S u v : MS} {j : Nat}
theorem wfC.g2 (w : wfC S) : qT S (qO S 52 2) = 202 := w.ref (w.ptr (by decide)) w.k52
theorem wfC.g3 (w : wfC S) : qT S (qO S 52 3) = 203 := w.ref (w.ptr (by decide)) w.k52
theorem wfC.g4 (w : wfC S) : qT S (qO S 52 4) = 204 := w.ref (w.ptr (by decide)) w.k52
theorem wfC.g5 (w : wfC S) : qT S (qO S 52 5) = 205 := w.ref (w.ptr (by decide)) w.k52
theorem wfC.g6 (w : wfC S) : qT S (qO S 52 6) = 206 := w.ref (w.ptr (by decide)) w.k52
theorem wfC.g7 (w : wfC S) : qT S (qO S 52 7) = 207 := w.ref (w.ptr (by decide)) w.k52
theorem wfC.g8 (w : wfC S) : qT S (qO S 52 8) = 303 := w.ref (w.ptr (by decide)) w.k52
theorem wfC.g9 (w : wfC S) : qT S (qO S 52 9) = 401 := w.ref (w.ptr (by decide)) w.k52
theorem wfC.g11 (w : wfC S) : qT S (qO S 52 11) = 208 := w.ref (w.ptr (by decide)) w.k52
theorem wfC.g12 (w : wfC S) : qT S (qO S 52 12) = 209 := w.ref (w.ptr (by decide)) w.k52
theorem wfC.g13 (w : wfC S) : qT S (qO S 52 13) = 210 := w.ref (w.ptr (by decide)) w.k52
theorem wfC.g14 (w : wfC S) : qT S (qO S 52 14) = 211 := w.ref (w.ptr (by decide)) w.k52
theorem wfC.g15 (w : wfC S) : qT S (qO S 52 15) = 212 := w.ref (w.ptr (by decide)) w.k52
/-- a row of the graph that is left alone -/
theorem gi_fr {kj : Nat} (w : wfC S) (f : cfr K F S u) (hk : qT S (qO S 52 j) = kj) (hK : K.contains kj = false) (hA : okO F = true) (h43 : K.contains 43 = false) (hF : F.contains (43, j) = false) (ht : 100 ≤ kj) : (∀ k, gi u j k = gi S j k) ∧ qO u 52 j = qO S 52 j := by
  have o : qO u 52 j = qO S 52 j := qO_eq (f.kO w.k52 h43 hF)
  refine ⟨fun k => ?_, o⟩
  unfold gi
  rw [o, (f.2.2 (qO S 52 j) k (by rw [hk]; omega) (by rw [hk]; exact hK) (by rw [hk]; exact okO_n hA (Or.inr ht))).1]
theorem GrL.fr (w : wfC S) (h : GrL S) (f : cfr K F S u) (hK : okK K = true) (hF : okL LGr F = true) : GrL u := by
  unfold GrL
  rw [fr_len w f hK hF w.k52 (by decide) (by decide) (by decide : (52, 2) ∈ ptrC), fr_len w f hK hF w.k52 (by decide) (by decide) (by decide : (52, 3) ∈ ptrC), fr_len w f hK hF w.k52 (by decide) (by decide) (by decide : (52, 4) ∈ ptrC), fr_len w f hK hF w.k52 (by decide) (by decide) (by decide : (52, 5) ∈ ptrC), fr_len w f hK hF w.k52 (by decide) (by decide) (by decide : (52, 6) ∈ ptrC), fr_len w f hK hF w.k52 (by decide) (by decide) (by decide : (52, 7) ∈ ptrC), fr_len w f hK hF w.k52 (by decide) (by decide) (by decide : (52, 8) ∈ ptrC), fr_len w f hK hF w.k52 (by decide) (by decide) (by decide : (52, 11) ∈ ptrC), fr_len w f hK hF w.k52 (by decide) (by decide) (by decide : (52, 12) ∈ ptrC), fr_len w f hK hF w.k52 (by decide) (by decide) (by decide : (52, 13) ∈ ptrC), fr_len w f hK hF w.k52 (by decide) (by decide) (by decide : (52, 14) ∈ ptrC), fr_len w f hK hF w.k52 (by decide) (by decide) (by decide : (52, 15) ∈ ptrC)]
  exact h
theorem GBs.sh (h : GBs B S) : ShC B S := h.1
theorem GBs.rp (h : GBs B S) : qR S 52 0 = some (qO S 52 0) := h.2.2.1.1
theorem GBs.k0 (h : GBs B S) (w : wfC S) : qT S (qO S 52 0) = 47 := w.ref h.rp w.k52
theorem GBs.fr (w : wfC S) (h : GBs B S) (f : cfr K F S u) (hS : ShC B u) (hL : GrL u) (hK : okM K = true) (hF : okL LMr F = true) (hA : okO F = true) (h0 : F.contains (43, 0) = false) (h43 : K.contains 43 = false) : GBs B u ∧ qO u 52 0 = qO S 52 0 ∧ rSm S u (qO S 52 0) := by
  have o : qO u 52 0 = qO S 52 0 := qO_eq (f.kO w.k52 h43 h0)
  have s := rSm.fr w (h.k0 w) (h.1.row (h.k0 w)) f hK hF hA
  refine ⟨⟨hS, hL, ⟨f.kP w.k52 h.rp h43 h0, by rw [o]; exact h.2.2.1.2.mv s⟩, ?_⟩, o, s⟩
  rw [o, s.1.1]; exact h.2.2.2
/-- what stays where no field of an object is written -/
def GqI (S u : MS) : Prop := (∀ j, qO u 52 j = qO S 52 j) ∧ (∀ j, qI u 52 j = qI S 52 j) ∧ (∀ j, (52, j) ∈ ptrC → qN u (qO u 52 j) = qN S (qO S 52 j)) ∧ rSm S u (qO S 52 0)
theorem GqI.N (h : GqI S u) : (qI u 52 1).toInt = (qI S 52 1).toInt := by rw [h.2.1]
theorem GqI.R (h : GqI S u) : (qI u (qO u 52 0) 2).toInt = (qI S (qO S 52 0) 2).toInt := by rw [h.1, h.2.2.2.1.1]
theorem GqI.L (h : GqI S u) (hp : (52, j) ∈ ptrC) : (qN u (qO u 52 j) : Int) = (qN S (qO S 52 j) : Int) := by rw [h.2.2.1 j hp]
theorem GqI.tr (h : GqI S u) (k : GqI u v) : GqI S v := ⟨fun j => (k.1 j).trans (h.1 j), fun j => (k.2.1 j).trans (h.2.1 j), fun j hp => (k.2.2.1 j hp).trans (h.2.2.1 j hp), h.2.2.2.tr (by have := k.2.2.2; rw [h.1] at this; exact this)⟩
theorem GqI.rf : GqI S S := ⟨fun _ => rfl, fun _ => rfl, fun _ _ => rfl, rSm.rf⟩
theorem GBs.q (w : wfC S) (h : GBs B S) (f : cfr K [] S u) (hS : ShC B u) (hK : okK K = true) (hM : okM K = true) : GBs B u ∧ GqI S u := by
  have h43 : K.contains 43 = false := okK_n hK (by decide)
  have H := h.fr w f hS (h.2.1.fr w f hK rfl) hM rfl rfl rfl h43
  refine ⟨H.1, fun j => qO_eq (f.kO w.k52 h43 rfl), fun j => f.kI w.k52 h43 rfl, fun j hp => ?_, H.2.2⟩
  have p := w.ptr hp
  have kb := w.rf3 52 j _ p
  rw [qO_eq (f.kO w.k52 h43 rfl), (f.1.1 _ (by rw [kb.1]; exact kb.2.1)).2]
theorem GBs.qw (w : wfC S) (h : GBs B S) (f : cfr K [] S u) (e : qT u = qT S) (n : qn u = qn S) (q : qu u = qu S) (hK : okK K = true) (hM : okM K = true) : GBs B u ∧ GqI S u := h.q w f (ShC.ws w h.1 f e n q hK rfl) hK hM
theorem GBs.qc (w : wfC S) (h : GBs B S) (f : cfr K [] S u) (s : shy S u) (wu : wfC u) (hK : okK K = true) (hM : okM K = true) : GBs B u ∧ GqI S u := h.q w f (ShC.ca w h.1 f s wu hK rfl) hK hM
end GRS
