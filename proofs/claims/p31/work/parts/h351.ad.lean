/-! what is made for good -/
theorem ShC.ad {K : List Nat} {F : List (Nat × Nat)} {S u : MS} {B B' : Nat × Nat} {c k : Nat} (w : wfC S) (h : ShC B S) (f : cfr K F S u) (n : nkC S u) (hn : qn u ≤ qn S + c) (hu : qu u ≤ qu S + k) (hB : B.1 + k ≤ B'.1 ∧ B'.1 ≤ KSC ∧ B.2 + 64 * c ≤ B'.2 ∧ B'.2 ≤ 64 * KCC) (hK : okK K = true) (hF : okL shF F = true) : ShC B' u := by
  obtain ⟨h1, h2, h3, h4, h5, h6, h7, h8, h9⟩ := h
  have e1_0 : qN u (qO u 1 0) = qN S (qO S 1 0) := fr_len w f hK hF w.k1 (by decide) (by decide) (by decide)
  have e3_0 : qN u (qO u 3 0) = qN S (qO S 3 0) := fr_len w f hK hF w.k3 (by decide) (by decide) (by decide)
  have e5_0 : qN u (qO u 5 0) = qN S (qO S 5 0) := fr_len w f hK hF w.k5 (by decide) (by decide) (by decide)
  have e26_0 : qN u (qO u 26 0) = qN S (qO S 26 0) := fr_len w f hK hF w.k26 (by decide) (by decide) (by decide)
  have e28_0 : qN u (qO u 28 0) = qN S (qO S 28 0) := fr_len w f hK hF w.k28 (by decide) (by decide) (by decide)
  have e30_0 : qN u (qO u 30 0) = qN S (qO S 30 0) := fr_len w f hK hF w.k30 (by decide) (by decide) (by decide)
  have e17_0 : qN u (qO u 17 0) = qN S (qO S 17 0) := fr_len w f hK hF w.k17 (by decide) (by decide) (by decide)
  have e38_0 : qN u (qO u 38 0) = qN S (qO S 38 0) := fr_len w f hK hF w.k38 (by decide) (by decide) (by decide)
  have e16_2 : qN u (qO u 16 2) = qN S (qO S 16 2) := fr_len w f hK hF w.k16 (by decide) (by decide) (by decide)
  have e25_17 : qN u (qO u 25 17) = qN S (qO S 25 17) := fr_len w f hK hF w.k25 (by decide) (by decide) (by decide)
  have e52_3 : qN u (qO u 52 3) = qN S (qO S 52 3) := fr_len w f hK hF w.k52 (by decide) (by decide) (by decide)
  have e52_13 : qN u (qO u 52 13) = qN S (qO S 52 13) := fr_len w f hK hF w.k52 (by decide) (by decide) (by decide)
  have e52_9 : qN u (qO u 52 9) = qN S (qO S 52 9) := fr_len w f hK hF w.k52 (by decide) (by decide) (by decide)
  have e52_5 : qN u (qO u 52 5) = qN S (qO S 52 5) := fr_len w f hK hF w.k52 (by decide) (by decide) (by decide)
  have e52_7 : qN u (qO u 52 7) = qN S (qO S 52 7) := fr_len w f hK hF w.k52 (by decide) (by decide) (by decide)
  have e44_2 : qN u (qO u 44 2) = qN S (qO S 44 2) := fr_len w f hK hF w.k44 (by decide) (by decide) (by decide)
  have e44_4 : qN u (qO u 44 4) = qN S (qO S 44 4) := fr_len w f hK hF w.k44 (by decide) (by decide) (by decide)
  have e44_8 : qN u (qO u 44 8) = qN S (qO S 44 8) := fr_len w f hK hF w.k44 (by decide) (by decide) (by decide)
  have e44_9 : qN u (qO u 44 9) = qN S (qO S 44 9) := fr_len w f hK hF w.k44 (by decide) (by decide) (by decide)
  have e66_2 : qN u (qO u 66 2) = qN S (qO S 66 2) := fr_len w f hK hF w.k66 (by decide) (by decide) (by decide)
  have c1 : qN u (qO u 16 1) = qN S (qO S 16 1) := fr_len w f hK hF w.k16 (by decide) (by decide) (by decide)
  have c3 : qN u (qO u 16 3) = qN S (qO S 16 3) := fr_len w f hK hF w.k16 (by decide) (by decide) (by decide)
  have c6 : qN u (qO u 25 16) = qN S (qO S 25 16) := fr_len w f hK hF w.k25 (by decide) (by decide) (by decide)
  refine ⟨fr_rows w h1 f n hK (okL_mo hF (by decide)), fr_units w h2 f n hK (okL_mo hF (by decide)), fr_hts w h3 f n hK (okL_mo hF (by decide)), ?_, ?_, fr_smith w (h1 _ w.k67) h6 f hK hF (by decide), fr_dn h7 f.1 n, ?_, ?_⟩
  · unfold ChKk; rw [c1, c3, e16_2]; exact h4
  · unfold WrK; rw [c6, e25_17]; exact h5
  · unfold CpK; rw [e1_0, e3_0, e5_0, e26_0, e28_0, e30_0, e17_0, e38_0, e16_2, e25_17, e52_3, e52_13, e52_9, e52_5, e52_7, e44_2, e44_4, e44_8, e44_9, e66_2]; exact h8
  · have e9 : hp2 u = hp2 S := by unfold hp2; rw [e44_2]
    unfold RmK PSc PNc at h9 ⊢; rw [e1_0, e3_0, e5_0, e26_0, e28_0, e30_0, e17_0, e38_0, e16_2, e25_17, e52_3, e52_13, e52_9, e52_5, e52_7, e44_2, e44_4, e44_8, e44_9, e66_2, e9]; omega

theorem sg_kt81 {B : Nat × Nat} {k50 : MS → Int32 → Prop} {v1 : Int32} {p : Nat} (h1 : 0 ≤ v1.toInt) (hk : ∀ U : MS, ShC B U → qR U 16 9 = some p → v1.toInt < (qI U p 2).toInt → (qI U p 2).toInt ≤ (qN U (qO U 16 2) : Int) → (∀ j, 12 ≤ j → j ≤ 14 → qR U p j = some (qO U p j) ∧ (qI U p 2).toInt ≤ (qN U (qO U p j) : Int)) → ∀ a : Int32, a = v1 + Int32.ofInt 1 → k50 U a) : ∀ (n : Nat) {U : MS} {v2 : Int32}, ShC B U → qR U 16 9 = some p → v1.toInt < (qI U p 2).toInt → (qI U p 2).toInt ≤ (qN U (qO U 16 2) : Int) → (∀ j, 12 ≤ j → j ≤ 14 → qR U p j = some (qO U p j) ∧ (qI U p 2).toInt ≤ (qN U (qO U p j) : Int)) → 0 ≤ v2.toInt → 2147483648 - v2.toInt < n → w_X1_keepTypes_L81 (fun u => ShC B u ∧ True) k50 n U v1 v2 := by
  intro n
  induction n with
  | zero => intro U v2 g hp hc hn hj h0 hm; exfalso; have := rgI v2; omega
  | succ n ih =>
    intro U v2 g hp hc hn hj h0 hm
    unfold w_X1_keepTypes_L81
    intro w
    have op := qO_of hp
    have kp : qT U p = 47 := w.ref hp w.k16
    have ck := g.chk
    unfold ChKk at ck
    have R := g.row kp
    have R2 := R.2
    have m48 : (v1 * (48 : Int32)).toInt = 48 * v1.toInt := by rw [t_mulk (by rw [li_48k]; omega), li_48k]; omega
    have J : w_X1_keepTypes_J161 (fun u => ShC B u ∧ True) k50 U v1 := by
      unfold w_X1_keepTypes_J161
      exact fun _ a e => hk U g hp hc hn hj a e
    have st : ∀ {S : MS} {t : Nat}, v2.toInt < 24 → cfr [407, 408] [] U S → qT S = qT U → qn S = qn U → qu S = qu U → w_X1_keepTypes_J155 (fun u => ShC B u ∧ True) (w_X1_keepTypes_L81 (fun u => ShC B u ∧ True) k50 n) S v1 v2 := by
      intro S t c24 f eT en eu
      unfold w_X1_keepTypes_J155
      intro wS a e
      · have ea : a.toInt = v2.toInt + 1 := by rw [e, t_addk (by rw [lo_1k]; omega), lo_1k]
        have i2 : qI S p 2 = qI U p 2 := f.kI kp (by decide) (by decide)
        have n2 := f.kL (j := 2) w w.k16 (w.ptr (by decide)) (by decide) (by decide)
        refine ih (ShC.ws w g f eT en eu rfl rfl) (by rw [f.kO w.k16 (by decide) (by decide)]; exact hp) (by rw [i2]; exact hc) (by rw [i2, n2]; exact hn) (fun j a1 a2 => ?_) (by omega) (by omega)
        have hjj := hj j a1 a2
        have kj : j = 12 ∨ j = 13 ∨ j = 14 := by omega
        refine ⟨?_, ?_⟩
        · rcases kj with rfl | rfl | rfl <;> exact f.kP kp hjj.1 (by decide) (by decide)
        · rw [i2]
          have nj : (qN S (qO S p j) : Int) = (qN U (qO U p j) : Int) := by
            rcases kj with rfl | rfl | rfl <;> exact f.kL w kp hjj.1 (by decide) (by decide)
          rw [nj]
          exact hjj.2
    refine ⟨by omega, fun _ => J, fun _ => ⟨fun _ => J, fun c => ?_⟩⟩
    have es : ((v1 * (48 : Int32)) + v2).toInt = 48 * v1.toInt + v2.toInt := by rw [t_addk (by omega), m48]
    refine ⟨by omega, fun a55 _ => ⟨fun _ => ?_, fun _ => ?_⟩⟩
    · have h14 := hj 14 (by decide) (by decide)
      rw [op]
      refine ⟨hp, h14.1, by omega, by omega, fun S68 e68 k68 w68 => st (t := 0) (by omega) (by rw [e68]; exact cfr.aJ k68 rfl) (by rw [e68]; rfl) (by rw [e68]; rfl) (by rw [e68]; rfl)⟩
    · have h13 := hj 13 (by decide) (by decide)
      rw [op]
      refine ⟨hp, h13.1, by omega, by omega, fun S68 e68 k68 w68 => st (t := 0) (by omega) (by rw [e68]; exact cfr.aJ k68 rfl) (by rw [e68]; rfl) (by rw [e68]; rfl) (by rw [e68]; rfl)⟩
theorem sg_kt50 {B : Nat × Nat} {p : Nat} : ∀ (n : Nat) {U : MS} {v1 : Int32}, ShC B U → qR U 16 9 = some p → (qI U p 2).toInt ≤ (qN U (qO U 16 2) : Int) → (∀ j, 12 ≤ j → j ≤ 14 → qR U p j = some (qO U p j) ∧ (qI U p 2).toInt ≤ (qN U (qO U p j) : Int)) → 0 ≤ v1.toInt → 2147483648 - v1.toInt < n → w_X1_keepTypes_L50 (fun u => ShC B u ∧ True) n U v1 := by
  intro n
  induction n with
  | zero => intro U v1 g hp hn hj h0 hm; exfalso; have := rgI v1; omega
  | succ n ih =>
    intro U v1 g hp hn hj h0 hm
    unfold w_X1_keepTypes_L50
    intro w
    have op := qO_of hp
    have kp : qT U p = 47 := w.ref hp w.k16
    have R2 := (g.row kp).2
    have h12 := hj 12 (by decide) (by decide)
    rw [op]
    refine ⟨hp, fun _ => ⟨g, trivial⟩, fun c => ⟨hp, h12.1, dd_X4_heightAt w g w.k17, by omega, fun S42 e42 k42 w42 => ⟨2147483650, ?_⟩⟩⟩
    have f : cfr [104] [] U S42 := by rw [e42]; exact cfr.aI k42 rfl
    have i2 : qI S42 p 2 = qI U p 2 := f.kI kp (by decide) (by decide)
    have n2 := f.kL (j := 2) w w.k16 (w.ptr (by decide)) (by decide) (by decide)
    have z := li_0k
    refine sg_kt81 (p := p) h0 (fun V gV hpV hcV hnV hjV a e => ?_) _ (ShC.ws w g f (by rw [e42]; rfl) (by rw [e42]; rfl) (by rw [e42]; rfl) rfl rfl) (by rw [f.kO w.k16 (by decide) (by decide)]; exact hp) (by rw [i2]; omega) (by rw [i2, n2]; exact hn) (fun j a1 a2 => ?_) (by omega) (by omega)
    · have ea : a.toInt = v1.toInt + 1 := by rw [e, t_addk (by rw [lo_1k]; omega), lo_1k]
      exact ih gV hpV hnV hjV (by omega) (by omega)
    · have hjj := hj j a1 a2
      have kj : j = 12 ∨ j = 13 ∨ j = 14 := by omega
      refine ⟨?_, ?_⟩
      · rcases kj with rfl | rfl | rfl <;> exact f.kP kp hjj.1 (by decide) (by decide)
      · rw [i2]
        have nj : (qN S42 (qO S42 p j) : Int) = (qN U (qO U p j) : Int) := by
          rcases kj with rfl | rfl | rfl <;> exact f.kL w kp hjj.1 (by decide) (by decide)
        rw [nj]
        exact hjj.2
theorem sgX1_keepTypes {B : Nat × Nat} (hB : B.1 ≤ (B.1 + 3600, B.2 + 192).1 ∧ (B.1 + 3600, B.2 + 192).1 ≤ KSC ∧ B.2 ≤ (B.1 + 3600, B.2 + 192).2 ∧ (B.1 + 3600, B.2 + 192).2 ≤ 64 * KCC) {S : MS} (w : wfC S) (g : ShC B S) (hp : qR S 16 9 = some (qO S 16 9)) (hn : (qI S (qO S 16 9) 2).toInt ≤ (qN S (qO S 16 2) : Int)) (hc : (qI S (qO S 16 9) 2).toInt ≤ 1200) : wX1_keepTypes S (fun u => ShC (B.1 + 3600, B.2 + 192) u ∧ True) := by
  obtain ⟨p, ep⟩ : ∃ p, p = qO S 16 9 := ⟨_, rfl⟩
  rw [← ep] at hp hn hc
  have kp : qT S p = 47 := w.ref hp w.k16
  have R2 := (g.row kp).2
  have rm := g.rm
  have cp := g.cap
  obtain ⟨n, en⟩ : ∃ n : Nat, n = (qI S p 2).toInt.toNat := ⟨_, rfl⟩
  simp only at hB
  have hroom : qn S + 3 ≤ KCC ∧ qu S + 3 * n ≤ KSC := by
    unfold RmK PSc PNc at rm
    unfold CpK at cp
    have z : hp2 S ≤ 20000 := by unfold hp2; split <;> omega
    omega
  unfold wX1_keepTypes
  rw [← ep, ← en]
  refine ⟨hp, hp, ⟨by omega, by omega, by omega⟩, fun S8 e8 w8 S10 e10 k10 w10 => ?_⟩
  obtain ⟨f1, n1, d1, q1, u1, r1, l1, t1, o1⟩ := nw_step (K := []) (F := [(47, 12), (47, 13), (47, 14)]) w g.dn e8 w8 e10 k10 rfl (by decide)
  have i1 : qI S10 p 2 = qI S p 2 := f1.kI kp (by decide) (by decide)
  have p1 : qR S10 16 9 = some p := by rw [f1.kO w.k16 (by decide) (by decide)]; exact hp
  rw [qO_of p1, i1, ← en]
  refine ⟨p1, p1, ⟨by omega, by omega, by omega⟩, fun S18 e18 w18 S20 e20 k20 w20 => ?_⟩
  obtain ⟨f2, n2, d2, q2, u2, r2, l2, t2, o2⟩ := nw_step (K := []) (F := [(47, 12), (47, 13), (47, 14)]) w10 d1 e18 w18 e20 k20 rfl (by decide)
  have kp1 := f1.1.T kp (by decide)
  have i2 : qI S20 p 2 = qI S p 2 := by rw [f2.kI kp1 (by decide) (by decide), i1]
  have p2 : qR S20 16 9 = some p := by rw [f2.kO w10.k16 (by decide) (by decide)]; exact p1
  rw [qO_of p2, i2, ← en]
  refine ⟨p2, p2, ⟨by omega, by omega, by omega⟩, fun S28 e28 w28 S30 e30 k30 w30 => ⟨2147483650, ?_⟩⟩
  obtain ⟨f3, n3, d3, q3, u3, r3, l3, t3, o3⟩ := nw_step (K := []) (F := [(47, 12), (47, 13), (47, 14)]) w20 d2 e28 w28 e30 k30 rfl (by decide)
  have kp2 := f2.1.T kp1 (by decide)
  have f := (f1.tr f2).tr f3
  have nk := (n1.tr n2 f2.1).tr n3 f3.1
  have G : ShC (B.1 + 3600, B.2 + 192) S30 := ShC.ad (c := 3) (k := 3 * n) w g f nk (by omega) (by omega) (by simp only; omega) rfl rfl
  have hT1 := KC_TX (n := qn S10) (by omega)
  have hT2 := KC_TX (n := qn S20) (by omega)
  have ne1 := w10.ne hT1 kp1 (by decide)
  have ne2 := w20.ne hT2 kp2 (by decide)
  have R12 : qR S30 p 12 = some (qn S) := by rw [o3 p 12 (fun _ => by decide) ne2, o2 p 12 (fun _ => by decide) ne1, r1]
  have R13 : qR S30 p 13 = some (qn S10) := by rw [o3 p 13 (fun _ => by decide) ne2, r2]
  have N12 : qN S30 (qn S) = n := by rw [(f3.1.1 _ (by rw [f2.1.T t1 (by decide)]; decide)).2, (f2.1.1 _ (by rw [t1]; decide)).2, l1]
  have N13 : qN S30 (qn S10) = n := by rw [(f3.1.1 _ (by rw [t2]; decide)).2, l2]
  have i3 : qI S30 p 2 = qI S p 2 := f.kI kp (by decide) (by decide)
  have nc := f.kL (j := 2) w w.k16 (w.ptr (by decide)) (by decide) (by decide)
  have z := li_0k
  refine sg_kt50 (p := p) _ G (by rw [f.kO w.k16 (by decide) (by decide)]; exact hp) (by rw [i3, nc]; exact hn) (fun j a1 a2 => ?_) (by omega) (by omega)
  have kj : j = 12 ∨ j = 13 ∨ j = 14 := by omega
  rw [i3]
  rcases kj with rfl | rfl | rfl
  · rw [qO_of R12, N12]; exact ⟨R12, by omega⟩
  · rw [qO_of R13, N13]; exact ⟨R13, by omega⟩
  · rw [qO_of r3, l3]; exact ⟨r3, by omega⟩
set_option maxRecDepth 100000 in
theorem sg_X1_firstFault_L131 {B : Nat × Nat} (hB : B.1 ≤ ((B.1 + 3600, B.2 + 192)).1 ∧ ((B.1 + 3600, B.2 + 192)).1 ≤ KSC ∧ B.2 ≤ ((B.1 + 3600, B.2 + 192)).2 ∧ ((B.1 + 3600, B.2 + 192)).2 ≤ 64 * KCC) : ∀ (n : Nat) {U131 : MS} {v131_3 : Int32}, ShC B U131 → qR U131 16 8 = some (qO U131 16 8) → qR U131 16 9 = some (qO U131 16 9) → 0 ≤ v131_3.toInt → (qI U131 (qO U131 16 9) 2).toInt ≤ (qN U131 (qO U131 16 2) : Int) → (qI U131 (qO U131 16 9) 2).toInt ≤ 1200 → 2147483648 - v131_3.toInt < n → w_X1_firstFault_L131 (fun _ u => ShC (B.1 + 3600, B.2 + 192) u ∧ (True)) n U131 v131_3 := by
  intro n
  induction n with
  | zero => intro U131 v131_3 g h0_ h1_ j0_ j1_ j2_ hm_; exfalso; have := rgI v131_3; omega
  | succ n ih131 =>
    intro U131 v131_3 g h0_ h1_ j0_ j1_ j2_ hm_
    unfold w_X1_firstFault_L131
    intro y1_
    refine ⟨?_, ?_⟩
    · exact h1_
    refine ⟨fun c0_ => ?_, fun c0_ => ?_⟩
    · refine ⟨_, frX1_keepTypes y1_ (sgX1_keepTypes hB y1_ g h1_ (by have s2_ := (g.unit (y1_.ref h0_ (y1_.2.1 _ finC_27).2.1)).2; have s3_ := (g.row (y1_.ref h1_ (y1_.2.1 _ finC_27).2.1)).2; have s4_ := y1_.len9 (y1_.ref (y1_.ptr ptrC_5) (y1_.2.1 _ finC_27).2.1) (by decide); have s5_ := y1_.len9 (y1_.ref (y1_.ptr ptrC_6) (y1_.2.1 _ finC_27).2.1) (by decide); have s6_ := g.chk; unfold ChKk at s6_; have n1_ := rgI (qI U131 (qO U131 16 9) 2); have n2_ := rgI v131_3; omega) (by have s7_ := (g.unit (y1_.ref h0_ (y1_.2.1 _ finC_27).2.1)).2; have s8_ := (g.row (y1_.ref h1_ (y1_.2.1 _ finC_27).2.1)).2; have s9_ := y1_.len9 (y1_.ref (y1_.ptr ptrC_5) (y1_.2.1 _ finC_27).2.1) (by decide); have s10_ := y1_.len9 (y1_.ref (y1_.ptr ptrC_6) (y1_.2.1 _ finC_27).2.1) (by decide); have s11_ := g.chk; unfold ChKk at s11_; have n1_ := rgI (qI U131 (qO U131 16 9) 2); have n2_ := rgI v131_3; omega)), ?_⟩
      intro S29_1 q2_ y3_ y4_
      have o12_ : qO S29_1 16 8 = qO U131 16 8 := qO_eq (q2_.2.kO (y1_.2.1 _ finC_27).2.1 (by decide) (by decide))
      have t13_ : (qI S29_1 (qO S29_1 16 8) 8).toInt = (qI U131 (qO U131 16 8) 8).toInt := by rw [o12_]; exact congrArg Int32.toInt (q2_.2.kI (j := 8) (y1_.ref h0_ (y1_.2.1 _ finC_27).2.1) (by decide) (by decide))
      have t14_ : (qI S29_1 (qO S29_1 16 8) 4).toInt = (qI U131 (qO U131 16 8) 4).toInt := by rw [o12_]; exact congrArg Int32.toInt (q2_.2.kI (j := 4) (y1_.ref h0_ (y1_.2.1 _ finC_27).2.1) (by decide) (by decide))
      have t15_ : (qN S29_1 (qO S29_1 (qO S29_1 16 8) 13) : Int) = (qN U131 (qO U131 (qO U131 16 8) 13) : Int) := by rw [o12_]; exact q2_.2.kL (j := 13) y1_ (y1_.ref h0_ (y1_.2.1 _ finC_27).2.1) (g.unit (y1_.ref h0_ (y1_.2.1 _ finC_27).2.1)).1.2.2.2.2.2.2.2.2 (by decide) (by decide)
      have t16_ : (qN S29_1 (qO S29_1 (qO S29_1 16 8) 9) : Int) = (qN U131 (qO U131 (qO U131 16 8) 9) : Int) := by rw [o12_]; exact q2_.2.kL (j := 9) y1_ (y1_.ref h0_ (y1_.2.1 _ finC_27).2.1) (g.unit (y1_.ref h0_ (y1_.2.1 _ finC_27).2.1)).1.2.2.2.2.1 (by decide) (by decide)
      have t17_ : (qN S29_1 (qO S29_1 (qO S29_1 16 8) 5) : Int) = (qN U131 (qO U131 (qO U131 16 8) 5) : Int) := by rw [o12_]; exact q2_.2.kL (j := 5) y1_ (y1_.ref h0_ (y1_.2.1 _ finC_27).2.1) (g.unit (y1_.ref h0_ (y1_.2.1 _ finC_27).2.1)).1.2.1 (by decide) (by decide)
      have o18_ : qO S29_1 16 9 = qO U131 16 9 := qO_eq (q2_.2.kO (y1_.2.1 _ finC_27).2.1 (by decide) (by decide))
      have t19_ : (qI S29_1 (qO S29_1 16 9) 4).toInt = (qI U131 (qO U131 16 9) 4).toInt := by rw [o18_]; exact congrArg Int32.toInt (q2_.2.kI (j := 4) (y1_.ref h1_ (y1_.2.1 _ finC_27).2.1) (by decide) (by decide))
      have t20_ : (qI S29_1 (qO S29_1 16 9) 9).toInt = (qI U131 (qO U131 16 9) 9).toInt := by rw [o18_]; exact congrArg Int32.toInt (q2_.2.kI (j := 9) (y1_.ref h1_ (y1_.2.1 _ finC_27).2.1) (by decide) (by decide))
      have t21_ : (qI S29_1 (qO S29_1 16 9) 2).toInt = (qI U131 (qO U131 16 9) 2).toInt := by rw [o18_]; exact congrArg Int32.toInt (q2_.2.kI (j := 2) (y1_.ref h1_ (y1_.2.1 _ finC_27).2.1) (by decide) (by decide))
      have t22_ : (qN S29_1 (qO S29_1 (qO S29_1 16 9) 1) : Int) = (qN U131 (qO U131 (qO U131 16 9) 1) : Int) := by rw [o18_]; exact q2_.2.kL (j := 1) y1_ (y1_.ref h1_ (y1_.2.1 _ finC_27).2.1) (g.row (y1_.ref h1_ (y1_.2.1 _ finC_27).2.1)).1.2.1 (by decide) (by decide)
      have t23_ : (qN S29_1 (qO S29_1 (qO S29_1 16 9) 8) : Int) = (qN U131 (qO U131 (qO U131 16 9) 8) : Int) := by rw [o18_]; exact q2_.2.kL (j := 8) y1_ (y1_.ref h1_ (y1_.2.1 _ finC_27).2.1) (g.row (y1_.ref h1_ (y1_.2.1 _ finC_27).2.1)).1.2.2.2.2.2.2 (by decide) (by decide)
      have t24_ : (qN S29_1 (qO S29_1 (qO S29_1 16 9) 7) : Int) = (qN U131 (qO U131 (qO U131 16 9) 7) : Int) := by rw [o18_]; exact q2_.2.kL (j := 7) y1_ (y1_.ref h1_ (y1_.2.1 _ finC_27).2.1) (g.row (y1_.ref h1_ (y1_.2.1 _ finC_27).2.1)).1.2.2.2.2.2.1 (by decide) (by decide)
      have t25_ : (qN S29_1 (qO S29_1 (qO S29_1 16 9) 0) : Int) = (qN U131 (qO U131 (qO U131 16 9) 0) : Int) := by rw [o18_]; exact q2_.2.kL (j := 0) y1_ (y1_.ref h1_ (y1_.2.1 _ finC_27).2.1) (g.row (y1_.ref h1_ (y1_.2.1 _ finC_27).2.1)).1.1 (by decide) (by decide)
      have t26_ : (qN S29_1 (qO S29_1 (qO S29_1 16 9) 6) : Int) = (qN U131 (qO U131 (qO U131 16 9) 6) : Int) := by rw [o18_]; exact q2_.2.kL (j := 6) y1_ (y1_.ref h1_ (y1_.2.1 _ finC_27).2.1) (g.row (y1_.ref h1_ (y1_.2.1 _ finC_27).2.1)).1.2.2.2.2.1 (by decide) (by decide)
      have t27_ : (qN S29_1 (qO S29_1 (qO S29_1 16 9) 3) : Int) = (qN U131 (qO U131 (qO U131 16 9) 3) : Int) := by rw [o18_]; exact q2_.2.kL (j := 3) y1_ (y1_.ref h1_ (y1_.2.1 _ finC_27).2.1) (g.row (y1_.ref h1_ (y1_.2.1 _ finC_27).2.1)).1.2.2.1 (by decide) (by decide)
      have t28_ : (qN S29_1 (qO S29_1 (qO S29_1 16 9) 5) : Int) = (qN U131 (qO U131 (qO U131 16 9) 5) : Int) := by rw [o18_]; exact q2_.2.kL (j := 5) y1_ (y1_.ref h1_ (y1_.2.1 _ finC_27).2.1) (g.row (y1_.ref h1_ (y1_.2.1 _ finC_27).2.1)).1.2.2.2.1 (by decide) (by decide)
      have t29_ : (qI S29_1 16 7).toInt = (qI U131 16 7).toInt := congrArg Int32.toInt (q2_.2.kI (j := 7) (y1_.2.1 _ finC_27).2.1 (by decide) (by decide))
      have t30_ : (qN S29_1 (qO S29_1 16 3) : Int) = (qN U131 (qO U131 16 3) : Int) := q2_.2.kL (j := 3) y1_ (y1_.2.1 _ finC_27).2.1 (y1_.ptr ptrC_6) (by decide) (by decide)
      have t31_ : (qN S29_1 (qO S29_1 16 2) : Int) = (qN U131 (qO U131 16 2) : Int) := q2_.2.kL (j := 2) y1_ (y1_.2.1 _ finC_27).2.1 (y1_.ptr ptrC_5) (by decide) (by decide)
      have p32_ : qR S29_1 16 8 = some (qO S29_1 16 8) := q2_.2.kP (y1_.2.1 _ finC_27).2.1 h0_ (by decide) (by decide)
      have p33_ : qR S29_1 16 9 = some (qO S29_1 16 9) := q2_.2.kP (y1_.2.1 _ finC_27).2.1 h1_ (by decide) (by decide)
      have g9 : ShC (B.1 + 3600, B.2 + 192) S29_1 := q2_.1.1
      exact ⟨g9, trivial⟩
    · refine ⟨?_, ?_⟩
      · exact (dd_X4_isWrong y1_ g (y1_.2.1 _ finC_0).2.1)
      refine ⟨fun c34_ => ?_, fun c34_ => ?_⟩
      · refine ⟨_, frX1_hasBadTypes y1_ (sgX1_hasBadTypes y1_ g h0_ h1_ (by have s36_ := (g.unit (y1_.ref h0_ (y1_.2.1 _ finC_27).2.1)).2; have s37_ := (g.row (y1_.ref h1_ (y1_.2.1 _ finC_27).2.1)).2; have s38_ := y1_.len9 (y1_.ref (y1_.ptr ptrC_5) (y1_.2.1 _ finC_27).2.1) (by decide); have s39_ := y1_.len9 (y1_.ref (y1_.ptr ptrC_6) (y1_.2.1 _ finC_27).2.1) (by decide); have s40_ := g.chk; unfold ChKk at s40_; have n1_ := rgI v131_3; have n2_ := rgI (qI U131 (qO U131 16 9) 2); have n3_ := rgI (fX4_isWrong U131 17 v131_3); omega) (by have s41_ := (g.unit (y1_.ref h0_ (y1_.2.1 _ finC_27).2.1)).2; have s42_ := (g.row (y1_.ref h1_ (y1_.2.1 _ finC_27).2.1)).2; have s43_ := y1_.len9 (y1_.ref (y1_.ptr ptrC_5) (y1_.2.1 _ finC_27).2.1) (by decide); have s44_ := y1_.len9 (y1_.ref (y1_.ptr ptrC_6) (y1_.2.1 _ finC_27).2.1) (by decide); have s45_ := g.chk; unfold ChKk at s45_; have n1_ := rgI v131_3; have n2_ := rgI (qI U131 (qO U131 16 9) 2); have n3_ := rgI (fX4_isWrong U131 17 v131_3); omega)), ?_⟩
        intro r37_35 S38_35 q5_ y6_ y7_
        have o46_ : qO S38_35 16 8 = qO U131 16 8 := qO_eq (q5_.2.kO (y1_.2.1 _ finC_27).2.1 (by decide) (by decide))
        have t47_ : (qI S38_35 (qO S38_35 16 8) 8).toInt = (qI U131 (qO U131 16 8) 8).toInt := by rw [o46_]; exact congrArg Int32.toInt (q5_.2.kI (j := 8) (y1_.ref h0_ (y1_.2.1 _ finC_27).2.1) (by decide) (by decide))
        have t48_ : (qI S38_35 (qO S38_35 16 8) 4).toInt = (qI U131 (qO U131 16 8) 4).toInt := by rw [o46_]; exact congrArg Int32.toInt (q5_.2.kI (j := 4) (y1_.ref h0_ (y1_.2.1 _ finC_27).2.1) (by decide) (by decide))
        have t49_ : (qN S38_35 (qO S38_35 (qO S38_35 16 8) 13) : Int) = (qN U131 (qO U131 (qO U131 16 8) 13) : Int) := by rw [o46_]; exact q5_.2.kL (j := 13) y1_ (y1_.ref h0_ (y1_.2.1 _ finC_27).2.1) (g.unit (y1_.ref h0_ (y1_.2.1 _ finC_27).2.1)).1.2.2.2.2.2.2.2.2 (by decide) (by decide)
        have t50_ : (qN S38_35 (qO S38_35 (qO S38_35 16 8) 9) : Int) = (qN U131 (qO U131 (qO U131 16 8) 9) : Int) := by rw [o46_]; exact q5_.2.kL (j := 9) y1_ (y1_.ref h0_ (y1_.2.1 _ finC_27).2.1) (g.unit (y1_.ref h0_ (y1_.2.1 _ finC_27).2.1)).1.2.2.2.2.1 (by decide) (by decide)
        have t51_ : (qN S38_35 (qO S38_35 (qO S38_35 16 8) 5) : Int) = (qN U131 (qO U131 (qO U131 16 8) 5) : Int) := by rw [o46_]; exact q5_.2.kL (j := 5) y1_ (y1_.ref h0_ (y1_.2.1 _ finC_27).2.1) (g.unit (y1_.ref h0_ (y1_.2.1 _ finC_27).2.1)).1.2.1 (by decide) (by decide)
        have o52_ : qO S38_35 16 9 = qO U131 16 9 := qO_eq (q5_.2.kO (y1_.2.1 _ finC_27).2.1 (by decide) (by decide))
        have t53_ : (qI S38_35 (qO S38_35 16 9) 4).toInt = (qI U131 (qO U131 16 9) 4).toInt := by rw [o52_]; exact congrArg Int32.toInt (q5_.2.kI (j := 4) (y1_.ref h1_ (y1_.2.1 _ finC_27).2.1) (by decide) (by decide))
        have t54_ : (qI S38_35 (qO S38_35 16 9) 9).toInt = (qI U131 (qO U131 16 9) 9).toInt := by rw [o52_]; exact congrArg Int32.toInt (q5_.2.kI (j := 9) (y1_.ref h1_ (y1_.2.1 _ finC_27).2.1) (by decide) (by decide))
        have t55_ : (qI S38_35 (qO S38_35 16 9) 2).toInt = (qI U131 (qO U131 16 9) 2).toInt := by rw [o52_]; exact congrArg Int32.toInt (q5_.2.kI (j := 2) (y1_.ref h1_ (y1_.2.1 _ finC_27).2.1) (by decide) (by decide))
        have t56_ : (qN S38_35 (qO S38_35 (qO S38_35 16 9) 1) : Int) = (qN U131 (qO U131 (qO U131 16 9) 1) : Int) := by rw [o52_]; exact q5_.2.kL (j := 1) y1_ (y1_.ref h1_ (y1_.2.1 _ finC_27).2.1) (g.row (y1_.ref h1_ (y1_.2.1 _ finC_27).2.1)).1.2.1 (by decide) (by decide)
        have t57_ : (qN S38_35 (qO S38_35 (qO S38_35 16 9) 8) : Int) = (qN U131 (qO U131 (qO U131 16 9) 8) : Int) := by rw [o52_]; exact q5_.2.kL (j := 8) y1_ (y1_.ref h1_ (y1_.2.1 _ finC_27).2.1) (g.row (y1_.ref h1_ (y1_.2.1 _ finC_27).2.1)).1.2.2.2.2.2.2 (by decide) (by decide)
        have t58_ : (qN S38_35 (qO S38_35 (qO S38_35 16 9) 7) : Int) = (qN U131 (qO U131 (qO U131 16 9) 7) : Int) := by rw [o52_]; exact q5_.2.kL (j := 7) y1_ (y1_.ref h1_ (y1_.2.1 _ finC_27).2.1) (g.row (y1_.ref h1_ (y1_.2.1 _ finC_27).2.1)).1.2.2.2.2.2.1 (by decide) (by decide)
        have t59_ : (qN S38_35 (qO S38_35 (qO S38_35 16 9) 0) : Int) = (qN U131 (qO U131 (qO U131 16 9) 0) : Int) := by rw [o52_]; exact q5_.2.kL (j := 0) y1_ (y1_.ref h1_ (y1_.2.1 _ finC_27).2.1) (g.row (y1_.ref h1_ (y1_.2.1 _ finC_27).2.1)).1.1 (by decide) (by decide)
        have t60_ : (qN S38_35 (qO S38_35 (qO S38_35 16 9) 6) : Int) = (qN U131 (qO U131 (qO U131 16 9) 6) : Int) := by rw [o52_]; exact q5_.2.kL (j := 6) y1_ (y1_.ref h1_ (y1_.2.1 _ finC_27).2.1) (g.row (y1_.ref h1_ (y1_.2.1 _ finC_27).2.1)).1.2.2.2.2.1 (by decide) (by decide)
        have t61_ : (qN S38_35 (qO S38_35 (qO S38_35 16 9) 3) : Int) = (qN U131 (qO U131 (qO U131 16 9) 3) : Int) := by rw [o52_]; exact q5_.2.kL (j := 3) y1_ (y1_.ref h1_ (y1_.2.1 _ finC_27).2.1) (g.row (y1_.ref h1_ (y1_.2.1 _ finC_27).2.1)).1.2.2.1 (by decide) (by decide)
        have t62_ : (qN S38_35 (qO S38_35 (qO S38_35 16 9) 5) : Int) = (qN U131 (qO U131 (qO U131 16 9) 5) : Int) := by rw [o52_]; exact q5_.2.kL (j := 5) y1_ (y1_.ref h1_ (y1_.2.1 _ finC_27).2.1) (g.row (y1_.ref h1_ (y1_.2.1 _ finC_27).2.1)).1.2.2.2.1 (by decide) (by decide)
        have t63_ : (qI S38_35 16 7).toInt = (qI U131 16 7).toInt := congrArg Int32.toInt (q5_.2.kI (j := 7) (y1_.2.1 _ finC_27).2.1 (by decide) (by decide))
        have t64_ : (qN S38_35 (qO S38_35 16 3) : Int) = (qN U131 (qO U131 16 3) : Int) := q5_.2.kL (j := 3) y1_ (y1_.2.1 _ finC_27).2.1 (y1_.ptr ptrC_6) (by decide) (by decide)
        have t65_ : (qN S38_35 (qO S38_35 16 2) : Int) = (qN U131 (qO U131 16 2) : Int) := q5_.2.kL (j := 2) y1_ (y1_.2.1 _ finC_27).2.1 (y1_.ptr ptrC_5) (by decide) (by decide)
        have p66_ : qR S38_35 16 8 = some (qO S38_35 16 8) := q5_.2.kP (y1_.2.1 _ finC_27).2.1 h0_ (by decide) (by decide)
        have p67_ : qR S38_35 16 9 = some (qO S38_35 16 9) := q5_.2.kP (y1_.2.1 _ finC_27).2.1 h1_ (by decide) (by decide)
        have g : ShC B S38_35 := q5_.1.1
        refine ⟨fun c68_ => ?_, fun c68_ => ?_⟩
        · intro a41_69 ea41_69 
          have ga41_69 := congrArg Int32.toInt ea41_69
          refine ih131 g p66_ p67_ ?_ ?_ ?_ ?_
          · have s70_ := (g.unit (y6_.ref p66_ (y6_.2.1 _ finC_27).2.1)).2
            have s71_ := (g.row (y6_.ref p67_ (y6_.2.1 _ finC_27).2.1)).2
            have s72_ := y6_.len9 (y6_.ref (y6_.ptr ptrC_5) (y6_.2.1 _ finC_27).2.1) (by decide)
            have s73_ := y6_.len9 (y6_.ref (y6_.ptr ptrC_6) (y6_.2.1 _ finC_27).2.1) (by decide)
            have s74_ := g.chk
            unfold ChKk at s74_
            have n1_ := rgI a41_69
            have n2_ := rgI v131_3
            have n3_ := rgI (qI U131 (qO U131 16 9) 2)
            have n4_ := rgI (fX4_isWrong U131 17 v131_3)
            have n5_ := rgI r37_35
            have n7_ := lo_1k
            have n7_ := t_addD (a := v131_3) (b := Int32.ofInt 1)
            have n8_ := rgI (v131_3 + Int32.ofInt 1)
            omega
          · have s75_ := (g.unit (y6_.ref p66_ (y6_.2.1 _ finC_27).2.1)).2
            have s76_ := (g.row (y6_.ref p67_ (y6_.2.1 _ finC_27).2.1)).2
            have s77_ := y6_.len9 (y6_.ref (y6_.ptr ptrC_5) (y6_.2.1 _ finC_27).2.1) (by decide)
            have s78_ := y6_.len9 (y6_.ref (y6_.ptr ptrC_6) (y6_.2.1 _ finC_27).2.1) (by decide)
            have s79_ := g.chk
            unfold ChKk at s79_
            have n1_ := rgI (qI S38_35 (qO S38_35 16 9) 2)
            have n2_ := rgI v131_3
            have n3_ := rgI (qI U131 (qO U131 16 9) 2)
            have n4_ := rgI (fX4_isWrong U131 17 v131_3)
            have n5_ := rgI r37_35
            have n6_ := rgI a41_69
            have n8_ := lo_1k
            have n8_ := t_addD (a := v131_3) (b := Int32.ofInt 1)
            have n9_ := rgI (v131_3 + Int32.ofInt 1)
            omega
          · have s80_ := (g.unit (y6_.ref p66_ (y6_.2.1 _ finC_27).2.1)).2
            have s81_ := (g.row (y6_.ref p67_ (y6_.2.1 _ finC_27).2.1)).2
            have s82_ := y6_.len9 (y6_.ref (y6_.ptr ptrC_5) (y6_.2.1 _ finC_27).2.1) (by decide)
            have s83_ := y6_.len9 (y6_.ref (y6_.ptr ptrC_6) (y6_.2.1 _ finC_27).2.1) (by decide)
            have s84_ := g.chk
            unfold ChKk at s84_
            have n1_ := rgI (qI S38_35 (qO S38_35 16 9) 2)
            have n2_ := rgI v131_3
            have n3_ := rgI (qI U131 (qO U131 16 9) 2)
            have n4_ := rgI (fX4_isWrong U131 17 v131_3)
            have n5_ := rgI r37_35
            have n6_ := rgI a41_69
            have n8_ := lo_1k
            have n8_ := t_addD (a := v131_3) (b := Int32.ofInt 1)
            have n9_ := rgI (v131_3 + Int32.ofInt 1)
            omega
          · have s85_ := (g.unit (y6_.ref p66_ (y6_.2.1 _ finC_27).2.1)).2
            have s86_ := (g.row (y6_.ref p67_ (y6_.2.1 _ finC_27).2.1)).2
            have s87_ := y6_.len9 (y6_.ref (y6_.ptr ptrC_5) (y6_.2.1 _ finC_27).2.1) (by decide)
            have s88_ := y6_.len9 (y6_.ref (y6_.ptr ptrC_6) (y6_.2.1 _ finC_27).2.1) (by decide)
            have s89_ := g.chk
            unfold ChKk at s89_
            have n1_ := rgI a41_69
            have n2_ := rgI v131_3
            have n3_ := rgI (qI U131 (qO U131 16 9) 2)
            have n4_ := rgI (fX4_isWrong U131 17 v131_3)
            have n5_ := rgI r37_35
            have n7_ := lo_1k
            have n7_ := t_addD (a := v131_3) (b := Int32.ofInt 1)
            have n8_ := rgI (v131_3 + Int32.ofInt 1)
            omega
        · exact ⟨(g.up hB), trivial⟩
      · exact ⟨(g.up hB), trivial⟩
set_option maxRecDepth 100000 in
theorem sg_X1_firstFault_J129 {B : Nat × Nat} (hB : B.1 ≤ ((B.1 + 3600, B.2 + 192)).1 ∧ ((B.1 + 3600, B.2 + 192)).1 ≤ KSC ∧ B.2 ≤ ((B.1 + 3600, B.2 + 192)).2 ∧ ((B.1 + 3600, B.2 + 192)).2 ≤ 64 * KCC) {U129 : MS} (g : ShC B U129) (h0_ : qR U129 16 8 = some (qO U129 16 8)) (h1_ : qR U129 16 9 = some (qO U129 16 9)) (j0_ : (qI U129 (qO U129 16 9) 2).toInt ≤ (qN U129 (qO U129 16 2) : Int)) (j1_ : (qI U129 (qO U129 16 9) 2).toInt ≤ 1200) : w_X1_firstFault_J129 (fun _ u => ShC (B.1 + 3600, B.2 + 192) u ∧ (True)) U129 := by
  unfold w_X1_firstFault_J129
  intro y8_
  refine ⟨(2147483648 - (0 : Int32).toInt).toNat + 1, ?_⟩
  refine sg_X1_firstFault_L131 hB  _ g h0_ h1_ ?_ ?_ ?_ ?_
  · have s90_ := (g.unit (y8_.ref h0_ (y8_.2.1 _ finC_27).2.1)).2
    have s91_ := (g.row (y8_.ref h1_ (y8_.2.1 _ finC_27).2.1)).2
    have s92_ := y8_.len9 (y8_.ref (y8_.ptr ptrC_5) (y8_.2.1 _ finC_27).2.1) (by decide)
    have s93_ := y8_.len9 (y8_.ref (y8_.ptr ptrC_6) (y8_.2.1 _ finC_27).2.1) (by decide)
    have s94_ := g.chk
    unfold ChKk at s94_
    have n1_ := li_0k
    have n2_ := rgI (qI U129 (qO U129 16 9) 2)
    omega
  · have s95_ := (g.unit (y8_.ref h0_ (y8_.2.1 _ finC_27).2.1)).2
    have s96_ := (g.row (y8_.ref h1_ (y8_.2.1 _ finC_27).2.1)).2
    have s97_ := y8_.len9 (y8_.ref (y8_.ptr ptrC_5) (y8_.2.1 _ finC_27).2.1) (by decide)
    have s98_ := y8_.len9 (y8_.ref (y8_.ptr ptrC_6) (y8_.2.1 _ finC_27).2.1) (by decide)
    have s99_ := g.chk
    unfold ChKk at s99_
    have n1_ := rgI (qI U129 (qO U129 16 9) 2)
    omega
  · have s100_ := (g.unit (y8_.ref h0_ (y8_.2.1 _ finC_27).2.1)).2
    have s101_ := (g.row (y8_.ref h1_ (y8_.2.1 _ finC_27).2.1)).2
    have s102_ := y8_.len9 (y8_.ref (y8_.ptr ptrC_5) (y8_.2.1 _ finC_27).2.1) (by decide)
    have s103_ := y8_.len9 (y8_.ref (y8_.ptr ptrC_6) (y8_.2.1 _ finC_27).2.1) (by decide)
    have s104_ := g.chk
    unfold ChKk at s104_
    have n1_ := rgI (qI U129 (qO U129 16 9) 2)
    omega
  · have s105_ := (g.unit (y8_.ref h0_ (y8_.2.1 _ finC_27).2.1)).2
    have s106_ := (g.row (y8_.ref h1_ (y8_.2.1 _ finC_27).2.1)).2
    have s107_ := y8_.len9 (y8_.ref (y8_.ptr ptrC_5) (y8_.2.1 _ finC_27).2.1) (by decide)
    have s108_ := y8_.len9 (y8_.ref (y8_.ptr ptrC_6) (y8_.2.1 _ finC_27).2.1) (by decide)
    have s109_ := g.chk
    unfold ChKk at s109_
    have n1_ := li_0k
    have n2_ := rgI (qI U129 (qO U129 16 9) 2)
    omega
set_option maxRecDepth 100000 in
theorem sg_X1_firstFault_L81 {B : Nat × Nat} (hB : B.1 ≤ ((B.1 + 3600, B.2 + 192)).1 ∧ ((B.1 + 3600, B.2 + 192)).1 ≤ KSC ∧ B.2 ≤ ((B.1 + 3600, B.2 + 192)).2 ∧ ((B.1 + 3600, B.2 + 192)).2 ≤ 64 * KCC) {k60 : MS → Int32 → Prop} {N60 : Nat} (hk60 : ∀ (U60 : MS) (v60_3 : Int32), ShC B U60 → qR U60 16 8 = some (qO U60 16 8) → qR U60 16 9 = some (qO U60 16 9) → 0 ≤ v60_3.toInt → (qI U60 (qO U60 16 9) 2).toInt ≤ (qN U60 (qO U60 16 2) : Int) → (qI U60 (qO U60 16 9) 2).toInt ≤ 1200 → 2147483648 - v60_3.toInt < N60 → k60 U60 v60_3) : ∀ (n : Nat) {U81 : MS} {v81_3 : Int32} {v81_4 : Int32}, ShC B U81 → qR U81 16 8 = some (qO U81 16 8) → qR U81 16 9 = some (qO U81 16 9) → 0 ≤ v81_4.toInt → v81_3.toInt < 2147483647 → 2147483648 - v81_3.toInt ≤ N60 → 0 ≤ v81_3.toInt → (qI U81 (qO U81 16 9) 2).toInt ≤ (qN U81 (qO U81 16 2) : Int) → (qI U81 (qO U81 16 9) 2).toInt ≤ 1200 → 2147483648 - v81_4.toInt < n → w_X1_firstFault_L81 (fun _ u => ShC (B.1 + 3600, B.2 + 192) u ∧ (True)) k60 n U81 v81_3 v81_4 := by
  intro n
  induction n with
  | zero => intro U81 v81_3 v81_4 g h0_ h1_ j0_ j1_ j2_ j3_ j4_ j5_ hm_; exfalso; have := rgI v81_3; have := rgI v81_4; omega
  | succ n ih81 =>
    intro U81 v81_3 v81_4 g h0_ h1_ j0_ j1_ j2_ j3_ j4_ j5_ hm_
    unfold w_X1_firstFault_L81
    intro y9_
    refine ⟨?_, ?_⟩
    · exact h1_
    refine ⟨fun c110_ => ?_, fun c110_ => ?_⟩
    · intro a48_111 ea48_111 
      have ga48_111 := congrArg Int32.toInt ea48_111
      refine hk60 _ _ g h0_ h1_ ?_ ?_ ?_ ?_
      · have s112_ := (g.unit (y9_.ref h0_ (y9_.2.1 _ finC_27).2.1)).2
        have s113_ := (g.row (y9_.ref h1_ (y9_.2.1 _ finC_27).2.1)).2
        have s114_ := y9_.len9 (y9_.ref (y9_.ptr ptrC_5) (y9_.2.1 _ finC_27).2.1) (by decide)
        have s115_ := y9_.len9 (y9_.ref (y9_.ptr ptrC_6) (y9_.2.1 _ finC_27).2.1) (by decide)
        have s116_ := g.chk
        unfold ChKk at s116_
        have n1_ := rgI a48_111
        have n2_ := rgI v81_4
        have n3_ := rgI v81_3
        have n4_ := rgI (qI U81 (qO U81 16 9) 2)
        have n6_ := lo_1k
        have n6_ := t_addD (a := v81_3) (b := Int32.ofInt 1)
        have n7_ := rgI (v81_3 + Int32.ofInt 1)
        omega
      · have s117_ := (g.unit (y9_.ref h0_ (y9_.2.1 _ finC_27).2.1)).2
        have s118_ := (g.row (y9_.ref h1_ (y9_.2.1 _ finC_27).2.1)).2
        have s119_ := y9_.len9 (y9_.ref (y9_.ptr ptrC_5) (y9_.2.1 _ finC_27).2.1) (by decide)
        have s120_ := y9_.len9 (y9_.ref (y9_.ptr ptrC_6) (y9_.2.1 _ finC_27).2.1) (by decide)
        have s121_ := g.chk
        unfold ChKk at s121_
        have n1_ := rgI (qI U81 (qO U81 16 9) 2)
        have n2_ := rgI v81_4
        have n3_ := rgI v81_3
        have n4_ := rgI a48_111
        have n6_ := lo_1k
        have n6_ := t_addD (a := v81_3) (b := Int32.ofInt 1)
        have n7_ := rgI (v81_3 + Int32.ofInt 1)
        omega
      · have s122_ := (g.unit (y9_.ref h0_ (y9_.2.1 _ finC_27).2.1)).2
        have s123_ := (g.row (y9_.ref h1_ (y9_.2.1 _ finC_27).2.1)).2
        have s124_ := y9_.len9 (y9_.ref (y9_.ptr ptrC_5) (y9_.2.1 _ finC_27).2.1) (by decide)
        have s125_ := y9_.len9 (y9_.ref (y9_.ptr ptrC_6) (y9_.2.1 _ finC_27).2.1) (by decide)
        have s126_ := g.chk
        unfold ChKk at s126_
        have n1_ := rgI (qI U81 (qO U81 16 9) 2)
        have n2_ := rgI v81_4
        have n3_ := rgI v81_3
        have n4_ := rgI a48_111
        have n6_ := lo_1k
        have n6_ := t_addD (a := v81_3) (b := Int32.ofInt 1)
        have n7_ := rgI (v81_3 + Int32.ofInt 1)
        omega
      · have s127_ := (g.unit (y9_.ref h0_ (y9_.2.1 _ finC_27).2.1)).2
        have s128_ := (g.row (y9_.ref h1_ (y9_.2.1 _ finC_27).2.1)).2
        have s129_ := y9_.len9 (y9_.ref (y9_.ptr ptrC_5) (y9_.2.1 _ finC_27).2.1) (by decide)
        have s130_ := y9_.len9 (y9_.ref (y9_.ptr ptrC_6) (y9_.2.1 _ finC_27).2.1) (by decide)
        have s131_ := g.chk
        unfold ChKk at s131_
        have n1_ := rgI a48_111
        have n2_ := rgI v81_4
        have n3_ := rgI v81_3
        have n4_ := rgI (qI U81 (qO U81 16 9) 2)
        have n6_ := lo_1k
        have n6_ := t_addD (a := v81_3) (b := Int32.ofInt 1)
        have n7_ := rgI (v81_3 + Int32.ofInt 1)
        omega
    · refine ⟨?_, ?_⟩
      · have s132_ := (g.unit (y9_.ref h0_ (y9_.2.1 _ finC_27).2.1)).2
        have s133_ := (g.row (y9_.ref h1_ (y9_.2.1 _ finC_27).2.1)).2
        have s134_ := y9_.len9 (y9_.ref (y9_.ptr ptrC_5) (y9_.2.1 _ finC_27).2.1) (by decide)
        have s135_ := y9_.len9 (y9_.ref (y9_.ptr ptrC_6) (y9_.2.1 _ finC_27).2.1) (by decide)
        have s136_ := g.chk
        unfold ChKk at s136_
        have n1_ := rgI v81_4
        have n2_ := rgI v81_3
        have n3_ := rgI (qI U81 (qO U81 16 9) 2)
        omega
      refine ⟨fun c137_ => ?_, fun c137_ => ?_⟩
      · unfold w_X1_firstFault_J117
        intro y10_
        intro a53_138 ea53_138 
        have ga53_138 := congrArg Int32.toInt ea53_138
        refine ih81 g h0_ h1_ ?_ ?_ ?_ ?_ ?_ ?_ ?_
        · have s139_ := (g.unit (y10_.ref h0_ (y10_.2.1 _ finC_27).2.1)).2
          have s140_ := (g.row (y10_.ref h1_ (y10_.2.1 _ finC_27).2.1)).2
          have s141_ := y10_.len9 (y10_.ref (y10_.ptr ptrC_5) (y10_.2.1 _ finC_27).2.1) (by decide)
          have s142_ := y10_.len9 (y10_.ref (y10_.ptr ptrC_6) (y10_.2.1 _ finC_27).2.1) (by decide)
          have s143_ := g.chk
          unfold ChKk at s143_
          have n1_ := rgI a53_138
          have n2_ := rgI v81_4
          have n3_ := rgI v81_3
          have n4_ := rgI (qI U81 (qO U81 16 9) 2)
          have n5_ := rgI (qI U81 (qO U81 16 3) v81_4.toInt.toNat)
          have n7_ := lo_1k
          have n7_ := t_addD (a := v81_4) (b := Int32.ofInt 1)
          have n8_ := rgI (v81_4 + Int32.ofInt 1)
          omega
        · have s144_ := (g.unit (y10_.ref h0_ (y10_.2.1 _ finC_27).2.1)).2
          have s145_ := (g.row (y10_.ref h1_ (y10_.2.1 _ finC_27).2.1)).2
          have s146_ := y10_.len9 (y10_.ref (y10_.ptr ptrC_5) (y10_.2.1 _ finC_27).2.1) (by decide)
          have s147_ := y10_.len9 (y10_.ref (y10_.ptr ptrC_6) (y10_.2.1 _ finC_27).2.1) (by decide)
          have s148_ := g.chk
          unfold ChKk at s148_
          have n1_ := rgI v81_3
          have n2_ := rgI v81_4
          have n3_ := rgI (qI U81 (qO U81 16 9) 2)
          have n4_ := rgI (qI U81 (qO U81 16 3) v81_4.toInt.toNat)
          have n5_ := rgI a53_138
          have n7_ := lo_1k
          have n7_ := t_addD (a := v81_4) (b := Int32.ofInt 1)
          have n8_ := rgI (v81_4 + Int32.ofInt 1)
          omega
        · have s149_ := (g.unit (y10_.ref h0_ (y10_.2.1 _ finC_27).2.1)).2
          have s150_ := (g.row (y10_.ref h1_ (y10_.2.1 _ finC_27).2.1)).2
          have s151_ := y10_.len9 (y10_.ref (y10_.ptr ptrC_5) (y10_.2.1 _ finC_27).2.1) (by decide)
          have s152_ := y10_.len9 (y10_.ref (y10_.ptr ptrC_6) (y10_.2.1 _ finC_27).2.1) (by decide)
          have s153_ := g.chk
          unfold ChKk at s153_
          have n1_ := rgI v81_3
          have n2_ := rgI v81_4
          have n3_ := rgI (qI U81 (qO U81 16 9) 2)
          have n4_ := rgI (qI U81 (qO U81 16 3) v81_4.toInt.toNat)
          have n5_ := rgI a53_138
          have n7_ := lo_1k
          have n7_ := t_addD (a := v81_4) (b := Int32.ofInt 1)
          have n8_ := rgI (v81_4 + Int32.ofInt 1)
          omega
        · have s154_ := (g.unit (y10_.ref h0_ (y10_.2.1 _ finC_27).2.1)).2
          have s155_ := (g.row (y10_.ref h1_ (y10_.2.1 _ finC_27).2.1)).2
          have s156_ := y10_.len9 (y10_.ref (y10_.ptr ptrC_5) (y10_.2.1 _ finC_27).2.1) (by decide)
          have s157_ := y10_.len9 (y10_.ref (y10_.ptr ptrC_6) (y10_.2.1 _ finC_27).2.1) (by decide)
          have s158_ := g.chk
          unfold ChKk at s158_
          have n1_ := rgI v81_3
          have n2_ := rgI v81_4
          have n3_ := rgI (qI U81 (qO U81 16 9) 2)
          have n4_ := rgI (qI U81 (qO U81 16 3) v81_4.toInt.toNat)
          have n5_ := rgI a53_138
          have n7_ := lo_1k
          have n7_ := t_addD (a := v81_4) (b := Int32.ofInt 1)
          have n8_ := rgI (v81_4 + Int32.ofInt 1)
          omega
        · have s159_ := (g.unit (y10_.ref h0_ (y10_.2.1 _ finC_27).2.1)).2
          have s160_ := (g.row (y10_.ref h1_ (y10_.2.1 _ finC_27).2.1)).2
          have s161_ := y10_.len9 (y10_.ref (y10_.ptr ptrC_5) (y10_.2.1 _ finC_27).2.1) (by decide)
          have s162_ := y10_.len9 (y10_.ref (y10_.ptr ptrC_6) (y10_.2.1 _ finC_27).2.1) (by decide)
          have s163_ := g.chk
          unfold ChKk at s163_
          have n1_ := rgI (qI U81 (qO U81 16 9) 2)
          have n2_ := rgI v81_4
          have n3_ := rgI v81_3
          have n4_ := rgI (qI U81 (qO U81 16 3) v81_4.toInt.toNat)
          have n5_ := rgI a53_138
          have n7_ := lo_1k
          have n7_ := t_addD (a := v81_4) (b := Int32.ofInt 1)
          have n8_ := rgI (v81_4 + Int32.ofInt 1)
          omega
        · have s164_ := (g.unit (y10_.ref h0_ (y10_.2.1 _ finC_27).2.1)).2
          have s165_ := (g.row (y10_.ref h1_ (y10_.2.1 _ finC_27).2.1)).2
          have s166_ := y10_.len9 (y10_.ref (y10_.ptr ptrC_5) (y10_.2.1 _ finC_27).2.1) (by decide)
          have s167_ := y10_.len9 (y10_.ref (y10_.ptr ptrC_6) (y10_.2.1 _ finC_27).2.1) (by decide)
          have s168_ := g.chk
          unfold ChKk at s168_
          have n1_ := rgI (qI U81 (qO U81 16 9) 2)
          have n2_ := rgI v81_4
          have n3_ := rgI v81_3
          have n4_ := rgI (qI U81 (qO U81 16 3) v81_4.toInt.toNat)
          have n5_ := rgI a53_138
          have n7_ := lo_1k
          have n7_ := t_addD (a := v81_4) (b := Int32.ofInt 1)
          have n8_ := rgI (v81_4 + Int32.ofInt 1)
          omega
        · have s169_ := (g.unit (y10_.ref h0_ (y10_.2.1 _ finC_27).2.1)).2
          have s170_ := (g.row (y10_.ref h1_ (y10_.2.1 _ finC_27).2.1)).2
          have s171_ := y10_.len9 (y10_.ref (y10_.ptr ptrC_5) (y10_.2.1 _ finC_27).2.1) (by decide)
          have s172_ := y10_.len9 (y10_.ref (y10_.ptr ptrC_6) (y10_.2.1 _ finC_27).2.1) (by decide)
          have s173_ := g.chk
          unfold ChKk at s173_
          have n1_ := rgI a53_138
          have n2_ := rgI v81_4
          have n3_ := rgI v81_3
          have n4_ := rgI (qI U81 (qO U81 16 9) 2)
          have n5_ := rgI (qI U81 (qO U81 16 3) v81_4.toInt.toNat)
          have n7_ := lo_1k
          have n7_ := t_addD (a := v81_4) (b := Int32.ofInt 1)
          have n8_ := rgI (v81_4 + Int32.ofInt 1)
          omega
      · refine ⟨?_, ?_⟩
        · have s174_ := (g.unit (y9_.ref h0_ (y9_.2.1 _ finC_27).2.1)).2
          have s175_ := (g.row (y9_.ref h1_ (y9_.2.1 _ finC_27).2.1)).2
          have s176_ := y9_.len9 (y9_.ref (y9_.ptr ptrC_5) (y9_.2.1 _ finC_27).2.1) (by decide)
          have s177_ := y9_.len9 (y9_.ref (y9_.ptr ptrC_6) (y9_.2.1 _ finC_27).2.1) (by decide)
          have s178_ := g.chk
          unfold ChKk at s178_
          have n1_ := rgI v81_4
          have n2_ := rgI v81_3
          have n3_ := rgI (qI U81 (qO U81 16 9) 2)
          have n4_ := rgI (qI U81 (qO U81 16 3) v81_4.toInt.toNat)
          omega
        intro S57_179 eS57_179 y11_ y12_
        have f180_ : cfr [302] [] U81 S57_179 := by rw [eS57_179]; exact cfr.aI y11_ (by decide)
        have o181_ : qO S57_179 16 8 = qO U81 16 8 := qO_eq (f180_.kO (y9_.2.1 _ finC_27).2.1 (by decide) (by decide))
        have t182_ : (qI S57_179 (qO S57_179 16 8) 8).toInt = (qI U81 (qO U81 16 8) 8).toInt := by rw [o181_]; exact congrArg Int32.toInt (f180_.kI (j := 8) (y9_.ref h0_ (y9_.2.1 _ finC_27).2.1) (by decide) (by decide))
        have t183_ : (qI S57_179 (qO S57_179 16 8) 4).toInt = (qI U81 (qO U81 16 8) 4).toInt := by rw [o181_]; exact congrArg Int32.toInt (f180_.kI (j := 4) (y9_.ref h0_ (y9_.2.1 _ finC_27).2.1) (by decide) (by decide))
        have t184_ : (qN S57_179 (qO S57_179 (qO S57_179 16 8) 13) : Int) = (qN U81 (qO U81 (qO U81 16 8) 13) : Int) := by rw [o181_]; exact f180_.kL (j := 13) y9_ (y9_.ref h0_ (y9_.2.1 _ finC_27).2.1) (g.unit (y9_.ref h0_ (y9_.2.1 _ finC_27).2.1)).1.2.2.2.2.2.2.2.2 (by decide) (by decide)
        have t185_ : (qN S57_179 (qO S57_179 (qO S57_179 16 8) 9) : Int) = (qN U81 (qO U81 (qO U81 16 8) 9) : Int) := by rw [o181_]; exact f180_.kL (j := 9) y9_ (y9_.ref h0_ (y9_.2.1 _ finC_27).2.1) (g.unit (y9_.ref h0_ (y9_.2.1 _ finC_27).2.1)).1.2.2.2.2.1 (by decide) (by decide)
        have t186_ : (qN S57_179 (qO S57_179 (qO S57_179 16 8) 5) : Int) = (qN U81 (qO U81 (qO U81 16 8) 5) : Int) := by rw [o181_]; exact f180_.kL (j := 5) y9_ (y9_.ref h0_ (y9_.2.1 _ finC_27).2.1) (g.unit (y9_.ref h0_ (y9_.2.1 _ finC_27).2.1)).1.2.1 (by decide) (by decide)
        have o187_ : qO S57_179 16 9 = qO U81 16 9 := qO_eq (f180_.kO (y9_.2.1 _ finC_27).2.1 (by decide) (by decide))
        have t188_ : (qI S57_179 (qO S57_179 16 9) 4).toInt = (qI U81 (qO U81 16 9) 4).toInt := by rw [o187_]; exact congrArg Int32.toInt (f180_.kI (j := 4) (y9_.ref h1_ (y9_.2.1 _ finC_27).2.1) (by decide) (by decide))
        have t189_ : (qI S57_179 (qO S57_179 16 9) 9).toInt = (qI U81 (qO U81 16 9) 9).toInt := by rw [o187_]; exact congrArg Int32.toInt (f180_.kI (j := 9) (y9_.ref h1_ (y9_.2.1 _ finC_27).2.1) (by decide) (by decide))
        have t190_ : (qI S57_179 (qO S57_179 16 9) 2).toInt = (qI U81 (qO U81 16 9) 2).toInt := by rw [o187_]; exact congrArg Int32.toInt (f180_.kI (j := 2) (y9_.ref h1_ (y9_.2.1 _ finC_27).2.1) (by decide) (by decide))
        have t191_ : (qN S57_179 (qO S57_179 (qO S57_179 16 9) 1) : Int) = (qN U81 (qO U81 (qO U81 16 9) 1) : Int) := by rw [o187_]; exact f180_.kL (j := 1) y9_ (y9_.ref h1_ (y9_.2.1 _ finC_27).2.1) (g.row (y9_.ref h1_ (y9_.2.1 _ finC_27).2.1)).1.2.1 (by decide) (by decide)
        have t192_ : (qN S57_179 (qO S57_179 (qO S57_179 16 9) 8) : Int) = (qN U81 (qO U81 (qO U81 16 9) 8) : Int) := by rw [o187_]; exact f180_.kL (j := 8) y9_ (y9_.ref h1_ (y9_.2.1 _ finC_27).2.1) (g.row (y9_.ref h1_ (y9_.2.1 _ finC_27).2.1)).1.2.2.2.2.2.2 (by decide) (by decide)
        have t193_ : (qN S57_179 (qO S57_179 (qO S57_179 16 9) 7) : Int) = (qN U81 (qO U81 (qO U81 16 9) 7) : Int) := by rw [o187_]; exact f180_.kL (j := 7) y9_ (y9_.ref h1_ (y9_.2.1 _ finC_27).2.1) (g.row (y9_.ref h1_ (y9_.2.1 _ finC_27).2.1)).1.2.2.2.2.2.1 (by decide) (by decide)
        have t194_ : (qN S57_179 (qO S57_179 (qO S57_179 16 9) 0) : Int) = (qN U81 (qO U81 (qO U81 16 9) 0) : Int) := by rw [o187_]; exact f180_.kL (j := 0) y9_ (y9_.ref h1_ (y9_.2.1 _ finC_27).2.1) (g.row (y9_.ref h1_ (y9_.2.1 _ finC_27).2.1)).1.1 (by decide) (by decide)
        have t195_ : (qN S57_179 (qO S57_179 (qO S57_179 16 9) 6) : Int) = (qN U81 (qO U81 (qO U81 16 9) 6) : Int) := by rw [o187_]; exact f180_.kL (j := 6) y9_ (y9_.ref h1_ (y9_.2.1 _ finC_27).2.1) (g.row (y9_.ref h1_ (y9_.2.1 _ finC_27).2.1)).1.2.2.2.2.1 (by decide) (by decide)
        have t196_ : (qN S57_179 (qO S57_179 (qO S57_179 16 9) 3) : Int) = (qN U81 (qO U81 (qO U81 16 9) 3) : Int) := by rw [o187_]; exact f180_.kL (j := 3) y9_ (y9_.ref h1_ (y9_.2.1 _ finC_27).2.1) (g.row (y9_.ref h1_ (y9_.2.1 _ finC_27).2.1)).1.2.2.1 (by decide) (by decide)
        have t197_ : (qN S57_179 (qO S57_179 (qO S57_179 16 9) 5) : Int) = (qN U81 (qO U81 (qO U81 16 9) 5) : Int) := by rw [o187_]; exact f180_.kL (j := 5) y9_ (y9_.ref h1_ (y9_.2.1 _ finC_27).2.1) (g.row (y9_.ref h1_ (y9_.2.1 _ finC_27).2.1)).1.2.2.2.1 (by decide) (by decide)
        have t198_ : (qI S57_179 16 7).toInt = (qI U81 16 7).toInt := congrArg Int32.toInt (f180_.kI (j := 7) (y9_.2.1 _ finC_27).2.1 (by decide) (by decide))
        have t199_ : (qN S57_179 (qO S57_179 16 3) : Int) = (qN U81 (qO U81 16 3) : Int) := f180_.kL (j := 3) y9_ (y9_.2.1 _ finC_27).2.1 (y9_.ptr ptrC_6) (by decide) (by decide)
        have t200_ : (qN S57_179 (qO S57_179 16 2) : Int) = (qN U81 (qO U81 16 2) : Int) := f180_.kL (j := 2) y9_ (y9_.2.1 _ finC_27).2.1 (y9_.ptr ptrC_5) (by decide) (by decide)
        have p201_ : qR S57_179 16 8 = some (qO S57_179 16 8) := f180_.kP (y9_.2.1 _ finC_27).2.1 h0_ (by decide) (by decide)
        have p202_ : qR S57_179 16 9 = some (qO S57_179 16 9) := f180_.kP (y9_.2.1 _ finC_27).2.1 h1_ (by decide) (by decide)
        have g : ShC B S57_179 := ShC.ws y9_ g f180_ (by rw [eS57_179]; rfl) (by rw [eS57_179]; rfl) (by rw [eS57_179]; rfl) rfl rfl
        refine ⟨_, frX1_flowFrom y12_ (sgX1_flowFrom y12_ g p201_ p202_ (by have s204_ := (g.unit (y12_.ref p201_ (y12_.2.1 _ finC_27).2.1)).2; have s205_ := (g.row (y12_.ref p202_ (y12_.2.1 _ finC_27).2.1)).2; have s206_ := y12_.len9 (y12_.ref (y12_.ptr ptrC_5) (y12_.2.1 _ finC_27).2.1) (by decide); have s207_ := y12_.len9 (y12_.ref (y12_.ptr ptrC_6) (y12_.2.1 _ finC_27).2.1) (by decide); have s208_ := g.chk; unfold ChKk at s208_; have n1_ := rgI (qI S57_179 (qO S57_179 16 9) 2); have n2_ := rgI v81_4; have n3_ := rgI v81_3; have n4_ := rgI (qI U81 (qO U81 16 9) 2); have n5_ := rgI (qI U81 (qO U81 16 3) v81_4.toInt.toNat); omega) (by have s209_ := (g.unit (y12_.ref p201_ (y12_.2.1 _ finC_27).2.1)).2; have s210_ := (g.row (y12_.ref p202_ (y12_.2.1 _ finC_27).2.1)).2; have s211_ := y12_.len9 (y12_.ref (y12_.ptr ptrC_5) (y12_.2.1 _ finC_27).2.1) (by decide); have s212_ := y12_.len9 (y12_.ref (y12_.ptr ptrC_6) (y12_.2.1 _ finC_27).2.1) (by decide); have s213_ := g.chk; unfold ChKk at s213_; have n1_ := rgI v81_4; have n2_ := rgI v81_3; have n3_ := rgI (qI U81 (qO U81 16 9) 2); have n4_ := rgI (qI U81 (qO U81 16 3) v81_4.toInt.toNat); omega) (by have s214_ := (g.unit (y12_.ref p201_ (y12_.2.1 _ finC_27).2.1)).2; have s215_ := (g.row (y12_.ref p202_ (y12_.2.1 _ finC_27).2.1)).2; have s216_ := y12_.len9 (y12_.ref (y12_.ptr ptrC_5) (y12_.2.1 _ finC_27).2.1) (by decide); have s217_ := y12_.len9 (y12_.ref (y12_.ptr ptrC_6) (y12_.2.1 _ finC_27).2.1) (by decide); have s218_ := g.chk; unfold ChKk at s218_; have n1_ := rgI v81_4; have n2_ := rgI v81_3; have n3_ := rgI (qI U81 (qO U81 16 9) 2); have n4_ := rgI (qI U81 (qO U81 16 3) v81_4.toInt.toNat); omega)), ?_⟩
        intro S59_203 q13_ y14_ y15_
        have o219_ : qO S59_203 16 8 = qO S57_179 16 8 := qO_eq (q13_.2.kO (y12_.2.1 _ finC_27).2.1 (by decide) (by decide))
        have t220_ : (qI S59_203 (qO S59_203 16 8) 8).toInt = (qI S57_179 (qO S57_179 16 8) 8).toInt := by rw [o219_]; exact congrArg Int32.toInt (q13_.2.kI (j := 8) (y12_.ref p201_ (y12_.2.1 _ finC_27).2.1) (by decide) (by decide))
        have t221_ : (qI S59_203 (qO S59_203 16 8) 4).toInt = (qI S57_179 (qO S57_179 16 8) 4).toInt := by rw [o219_]; exact congrArg Int32.toInt (q13_.2.kI (j := 4) (y12_.ref p201_ (y12_.2.1 _ finC_27).2.1) (by decide) (by decide))
        have t222_ : (qN S59_203 (qO S59_203 (qO S59_203 16 8) 13) : Int) = (qN S57_179 (qO S57_179 (qO S57_179 16 8) 13) : Int) := by rw [o219_]; exact q13_.2.kL (j := 13) y12_ (y12_.ref p201_ (y12_.2.1 _ finC_27).2.1) (g.unit (y12_.ref p201_ (y12_.2.1 _ finC_27).2.1)).1.2.2.2.2.2.2.2.2 (by decide) (by decide)
        have t223_ : (qN S59_203 (qO S59_203 (qO S59_203 16 8) 9) : Int) = (qN S57_179 (qO S57_179 (qO S57_179 16 8) 9) : Int) := by rw [o219_]; exact q13_.2.kL (j := 9) y12_ (y12_.ref p201_ (y12_.2.1 _ finC_27).2.1) (g.unit (y12_.ref p201_ (y12_.2.1 _ finC_27).2.1)).1.2.2.2.2.1 (by decide) (by decide)
        have t224_ : (qN S59_203 (qO S59_203 (qO S59_203 16 8) 5) : Int) = (qN S57_179 (qO S57_179 (qO S57_179 16 8) 5) : Int) := by rw [o219_]; exact q13_.2.kL (j := 5) y12_ (y12_.ref p201_ (y12_.2.1 _ finC_27).2.1) (g.unit (y12_.ref p201_ (y12_.2.1 _ finC_27).2.1)).1.2.1 (by decide) (by decide)
        have o225_ : qO S59_203 16 9 = qO S57_179 16 9 := qO_eq (q13_.2.kO (y12_.2.1 _ finC_27).2.1 (by decide) (by decide))
        have t226_ : (qI S59_203 (qO S59_203 16 9) 4).toInt = (qI S57_179 (qO S57_179 16 9) 4).toInt := by rw [o225_]; exact congrArg Int32.toInt (q13_.2.kI (j := 4) (y12_.ref p202_ (y12_.2.1 _ finC_27).2.1) (by decide) (by decide))
        have t227_ : (qI S59_203 (qO S59_203 16 9) 9).toInt = (qI S57_179 (qO S57_179 16 9) 9).toInt := by rw [o225_]; exact congrArg Int32.toInt (q13_.2.kI (j := 9) (y12_.ref p202_ (y12_.2.1 _ finC_27).2.1) (by decide) (by decide))
        have t228_ : (qI S59_203 (qO S59_203 16 9) 2).toInt = (qI S57_179 (qO S57_179 16 9) 2).toInt := by rw [o225_]; exact congrArg Int32.toInt (q13_.2.kI (j := 2) (y12_.ref p202_ (y12_.2.1 _ finC_27).2.1) (by decide) (by decide))
        have t229_ : (qN S59_203 (qO S59_203 (qO S59_203 16 9) 1) : Int) = (qN S57_179 (qO S57_179 (qO S57_179 16 9) 1) : Int) := by rw [o225_]; exact q13_.2.kL (j := 1) y12_ (y12_.ref p202_ (y12_.2.1 _ finC_27).2.1) (g.row (y12_.ref p202_ (y12_.2.1 _ finC_27).2.1)).1.2.1 (by decide) (by decide)
        have t230_ : (qN S59_203 (qO S59_203 (qO S59_203 16 9) 8) : Int) = (qN S57_179 (qO S57_179 (qO S57_179 16 9) 8) : Int) := by rw [o225_]; exact q13_.2.kL (j := 8) y12_ (y12_.ref p202_ (y12_.2.1 _ finC_27).2.1) (g.row (y12_.ref p202_ (y12_.2.1 _ finC_27).2.1)).1.2.2.2.2.2.2 (by decide) (by decide)
        have t231_ : (qN S59_203 (qO S59_203 (qO S59_203 16 9) 7) : Int) = (qN S57_179 (qO S57_179 (qO S57_179 16 9) 7) : Int) := by rw [o225_]; exact q13_.2.kL (j := 7) y12_ (y12_.ref p202_ (y12_.2.1 _ finC_27).2.1) (g.row (y12_.ref p202_ (y12_.2.1 _ finC_27).2.1)).1.2.2.2.2.2.1 (by decide) (by decide)
        have t232_ : (qN S59_203 (qO S59_203 (qO S59_203 16 9) 0) : Int) = (qN S57_179 (qO S57_179 (qO S57_179 16 9) 0) : Int) := by rw [o225_]; exact q13_.2.kL (j := 0) y12_ (y12_.ref p202_ (y12_.2.1 _ finC_27).2.1) (g.row (y12_.ref p202_ (y12_.2.1 _ finC_27).2.1)).1.1 (by decide) (by decide)
        have t233_ : (qN S59_203 (qO S59_203 (qO S59_203 16 9) 6) : Int) = (qN S57_179 (qO S57_179 (qO S57_179 16 9) 6) : Int) := by rw [o225_]; exact q13_.2.kL (j := 6) y12_ (y12_.ref p202_ (y12_.2.1 _ finC_27).2.1) (g.row (y12_.ref p202_ (y12_.2.1 _ finC_27).2.1)).1.2.2.2.2.1 (by decide) (by decide)
        have t234_ : (qN S59_203 (qO S59_203 (qO S59_203 16 9) 3) : Int) = (qN S57_179 (qO S57_179 (qO S57_179 16 9) 3) : Int) := by rw [o225_]; exact q13_.2.kL (j := 3) y12_ (y12_.ref p202_ (y12_.2.1 _ finC_27).2.1) (g.row (y12_.ref p202_ (y12_.2.1 _ finC_27).2.1)).1.2.2.1 (by decide) (by decide)
        have t235_ : (qN S59_203 (qO S59_203 (qO S59_203 16 9) 5) : Int) = (qN S57_179 (qO S57_179 (qO S57_179 16 9) 5) : Int) := by rw [o225_]; exact q13_.2.kL (j := 5) y12_ (y12_.ref p202_ (y12_.2.1 _ finC_27).2.1) (g.row (y12_.ref p202_ (y12_.2.1 _ finC_27).2.1)).1.2.2.2.1 (by decide) (by decide)
        have t236_ : (qN S59_203 (qO S59_203 16 3) : Int) = (qN S57_179 (qO S57_179 16 3) : Int) := q13_.2.kL (j := 3) y12_ (y12_.2.1 _ finC_27).2.1 (y12_.ptr ptrC_6) (by decide) (by decide)
        have t237_ : (qN S59_203 (qO S59_203 16 2) : Int) = (qN S57_179 (qO S57_179 16 2) : Int) := q13_.2.kL (j := 2) y12_ (y12_.2.1 _ finC_27).2.1 (y12_.ptr ptrC_5) (by decide) (by decide)
        have p238_ : qR S59_203 16 8 = some (qO S59_203 16 8) := q13_.2.kP (y12_.2.1 _ finC_27).2.1 p201_ (by decide) (by decide)
        have p239_ : qR S59_203 16 9 = some (qO S59_203 16 9) := q13_.2.kP (y12_.2.1 _ finC_27).2.1 p202_ (by decide) (by decide)
        have g : ShC B S59_203 := q13_.1.1
        unfold w_X1_firstFault_J117
        intro y16_
        intro a53_240 ea53_240 
        have ga53_240 := congrArg Int32.toInt ea53_240
        refine ih81 g p238_ p239_ ?_ ?_ ?_ ?_ ?_ ?_ ?_
        · have s241_ := (g.unit (y16_.ref p238_ (y16_.2.1 _ finC_27).2.1)).2
          have s242_ := (g.row (y16_.ref p239_ (y16_.2.1 _ finC_27).2.1)).2
          have s243_ := y16_.len9 (y16_.ref (y16_.ptr ptrC_5) (y16_.2.1 _ finC_27).2.1) (by decide)
          have s244_ := y16_.len9 (y16_.ref (y16_.ptr ptrC_6) (y16_.2.1 _ finC_27).2.1) (by decide)
          have s245_ := g.chk
          unfold ChKk at s245_
          have n1_ := rgI a53_240
          have n2_ := rgI v81_4
          have n3_ := rgI v81_3
          have n4_ := rgI (qI U81 (qO U81 16 9) 2)
          have n5_ := rgI (qI U81 (qO U81 16 3) v81_4.toInt.toNat)
          have n7_ := lo_1k
          have n7_ := t_addD (a := v81_4) (b := Int32.ofInt 1)
          have n8_ := rgI (v81_4 + Int32.ofInt 1)
          omega
        · have s246_ := (g.unit (y16_.ref p238_ (y16_.2.1 _ finC_27).2.1)).2
          have s247_ := (g.row (y16_.ref p239_ (y16_.2.1 _ finC_27).2.1)).2
          have s248_ := y16_.len9 (y16_.ref (y16_.ptr ptrC_5) (y16_.2.1 _ finC_27).2.1) (by decide)
          have s249_ := y16_.len9 (y16_.ref (y16_.ptr ptrC_6) (y16_.2.1 _ finC_27).2.1) (by decide)
          have s250_ := g.chk
          unfold ChKk at s250_
          have n1_ := rgI v81_3
          have n2_ := rgI v81_4
          have n3_ := rgI (qI U81 (qO U81 16 9) 2)
          have n4_ := rgI (qI U81 (qO U81 16 3) v81_4.toInt.toNat)
          have n5_ := rgI a53_240
          have n7_ := lo_1k
          have n7_ := t_addD (a := v81_4) (b := Int32.ofInt 1)
          have n8_ := rgI (v81_4 + Int32.ofInt 1)
          omega
        · have s251_ := (g.unit (y16_.ref p238_ (y16_.2.1 _ finC_27).2.1)).2
          have s252_ := (g.row (y16_.ref p239_ (y16_.2.1 _ finC_27).2.1)).2
          have s253_ := y16_.len9 (y16_.ref (y16_.ptr ptrC_5) (y16_.2.1 _ finC_27).2.1) (by decide)
          have s254_ := y16_.len9 (y16_.ref (y16_.ptr ptrC_6) (y16_.2.1 _ finC_27).2.1) (by decide)
          have s255_ := g.chk
          unfold ChKk at s255_
          have n1_ := rgI v81_3
          have n2_ := rgI v81_4
          have n3_ := rgI (qI U81 (qO U81 16 9) 2)
          have n4_ := rgI (qI U81 (qO U81 16 3) v81_4.toInt.toNat)
          have n5_ := rgI a53_240
          have n7_ := lo_1k
          have n7_ := t_addD (a := v81_4) (b := Int32.ofInt 1)
          have n8_ := rgI (v81_4 + Int32.ofInt 1)
          omega
        · have s256_ := (g.unit (y16_.ref p238_ (y16_.2.1 _ finC_27).2.1)).2
          have s257_ := (g.row (y16_.ref p239_ (y16_.2.1 _ finC_27).2.1)).2
          have s258_ := y16_.len9 (y16_.ref (y16_.ptr ptrC_5) (y16_.2.1 _ finC_27).2.1) (by decide)
          have s259_ := y16_.len9 (y16_.ref (y16_.ptr ptrC_6) (y16_.2.1 _ finC_27).2.1) (by decide)
          have s260_ := g.chk
          unfold ChKk at s260_
          have n1_ := rgI v81_3
          have n2_ := rgI v81_4
          have n3_ := rgI (qI U81 (qO U81 16 9) 2)
          have n4_ := rgI (qI U81 (qO U81 16 3) v81_4.toInt.toNat)
          have n5_ := rgI a53_240
          have n7_ := lo_1k
          have n7_ := t_addD (a := v81_4) (b := Int32.ofInt 1)
          have n8_ := rgI (v81_4 + Int32.ofInt 1)
          omega
        · have s261_ := (g.unit (y16_.ref p238_ (y16_.2.1 _ finC_27).2.1)).2
          have s262_ := (g.row (y16_.ref p239_ (y16_.2.1 _ finC_27).2.1)).2
          have s263_ := y16_.len9 (y16_.ref (y16_.ptr ptrC_5) (y16_.2.1 _ finC_27).2.1) (by decide)
          have s264_ := y16_.len9 (y16_.ref (y16_.ptr ptrC_6) (y16_.2.1 _ finC_27).2.1) (by decide)
          have s265_ := g.chk
          unfold ChKk at s265_
          have n1_ := rgI (qI S59_203 (qO S59_203 16 9) 2)
          have n2_ := rgI v81_4
          have n3_ := rgI v81_3
          have n4_ := rgI (qI U81 (qO U81 16 9) 2)
          have n5_ := rgI (qI U81 (qO U81 16 3) v81_4.toInt.toNat)
          have n6_ := rgI a53_240
          have n8_ := lo_1k
          have n8_ := t_addD (a := v81_4) (b := Int32.ofInt 1)
          have n9_ := rgI (v81_4 + Int32.ofInt 1)
          omega
        · have s266_ := (g.unit (y16_.ref p238_ (y16_.2.1 _ finC_27).2.1)).2
          have s267_ := (g.row (y16_.ref p239_ (y16_.2.1 _ finC_27).2.1)).2
          have s268_ := y16_.len9 (y16_.ref (y16_.ptr ptrC_5) (y16_.2.1 _ finC_27).2.1) (by decide)
          have s269_ := y16_.len9 (y16_.ref (y16_.ptr ptrC_6) (y16_.2.1 _ finC_27).2.1) (by decide)
          have s270_ := g.chk
          unfold ChKk at s270_
          have n1_ := rgI (qI S59_203 (qO S59_203 16 9) 2)
          have n2_ := rgI v81_4
          have n3_ := rgI v81_3
          have n4_ := rgI (qI U81 (qO U81 16 9) 2)
          have n5_ := rgI (qI U81 (qO U81 16 3) v81_4.toInt.toNat)
          have n6_ := rgI a53_240
          have n8_ := lo_1k
          have n8_ := t_addD (a := v81_4) (b := Int32.ofInt 1)
          have n9_ := rgI (v81_4 + Int32.ofInt 1)
          omega
        · have s271_ := (g.unit (y16_.ref p238_ (y16_.2.1 _ finC_27).2.1)).2
          have s272_ := (g.row (y16_.ref p239_ (y16_.2.1 _ finC_27).2.1)).2
          have s273_ := y16_.len9 (y16_.ref (y16_.ptr ptrC_5) (y16_.2.1 _ finC_27).2.1) (by decide)
          have s274_ := y16_.len9 (y16_.ref (y16_.ptr ptrC_6) (y16_.2.1 _ finC_27).2.1) (by decide)
          have s275_ := g.chk
          unfold ChKk at s275_
          have n1_ := rgI a53_240
          have n2_ := rgI v81_4
          have n3_ := rgI v81_3
          have n4_ := rgI (qI U81 (qO U81 16 9) 2)
          have n5_ := rgI (qI U81 (qO U81 16 3) v81_4.toInt.toNat)
          have n7_ := lo_1k
          have n7_ := t_addD (a := v81_4) (b := Int32.ofInt 1)
          have n8_ := rgI (v81_4 + Int32.ofInt 1)
          omega
set_option maxRecDepth 100000 in
theorem sg_X1_firstFault_L60 {B : Nat × Nat} (hB : B.1 ≤ ((B.1 + 3600, B.2 + 192)).1 ∧ ((B.1 + 3600, B.2 + 192)).1 ≤ KSC ∧ B.2 ≤ ((B.1 + 3600, B.2 + 192)).2 ∧ ((B.1 + 3600, B.2 + 192)).2 ≤ 64 * KCC) : ∀ (n : Nat) {U60 : MS} {v60_3 : Int32}, ShC B U60 → qR U60 16 8 = some (qO U60 16 8) → qR U60 16 9 = some (qO U60 16 9) → 0 ≤ v60_3.toInt → (qI U60 (qO U60 16 9) 2).toInt ≤ (qN U60 (qO U60 16 2) : Int) → (qI U60 (qO U60 16 9) 2).toInt ≤ 1200 → 2147483648 - v60_3.toInt < n → w_X1_firstFault_L60 (fun _ u => ShC (B.1 + 3600, B.2 + 192) u ∧ (True)) n U60 v60_3 := by
  intro n
  induction n with
  | zero => intro U60 v60_3 g h0_ h1_ j0_ j1_ j2_ hm_; exfalso; have := rgI v60_3; omega
  | succ n ih60 =>
    intro U60 v60_3 g h0_ h1_ j0_ j1_ j2_ hm_
    unfold w_X1_firstFault_L60
    intro y17_
    refine ⟨fun c276_ => ?_, fun c276_ => ?_⟩
    · refine sg_X1_firstFault_J129 hB  g h0_ h1_ ?_ ?_
      · have s277_ := (g.unit (y17_.ref h0_ (y17_.2.1 _ finC_27).2.1)).2
        have s278_ := (g.row (y17_.ref h1_ (y17_.2.1 _ finC_27).2.1)).2
        have s279_ := y17_.len9 (y17_.ref (y17_.ptr ptrC_5) (y17_.2.1 _ finC_27).2.1) (by decide)
        have s280_ := y17_.len9 (y17_.ref (y17_.ptr ptrC_6) (y17_.2.1 _ finC_27).2.1) (by decide)
        have s281_ := g.chk
        unfold ChKk at s281_
        have n1_ := rgI (qI U60 (qO U60 16 9) 2)
        have n2_ := rgI v60_3
        have n3_ := rgI (qI U60 16 7)
        omega
      · have s282_ := (g.unit (y17_.ref h0_ (y17_.2.1 _ finC_27).2.1)).2
        have s283_ := (g.row (y17_.ref h1_ (y17_.2.1 _ finC_27).2.1)).2
        have s284_ := y17_.len9 (y17_.ref (y17_.ptr ptrC_5) (y17_.2.1 _ finC_27).2.1) (by decide)
        have s285_ := y17_.len9 (y17_.ref (y17_.ptr ptrC_6) (y17_.2.1 _ finC_27).2.1) (by decide)
        have s286_ := g.chk
        unfold ChKk at s286_
        have n1_ := rgI (qI U60 (qO U60 16 9) 2)
        have n2_ := rgI v60_3
        have n3_ := rgI (qI U60 16 7)
        omega
    · refine ⟨fun c287_ => ?_, fun c287_ => ?_⟩
      · refine sg_X1_firstFault_J129 hB  g h0_ h1_ ?_ ?_
        · have s288_ := (g.unit (y17_.ref h0_ (y17_.2.1 _ finC_27).2.1)).2
          have s289_ := (g.row (y17_.ref h1_ (y17_.2.1 _ finC_27).2.1)).2
          have s290_ := y17_.len9 (y17_.ref (y17_.ptr ptrC_5) (y17_.2.1 _ finC_27).2.1) (by decide)
          have s291_ := y17_.len9 (y17_.ref (y17_.ptr ptrC_6) (y17_.2.1 _ finC_27).2.1) (by decide)
          have s292_ := g.chk
          unfold ChKk at s292_
          have n1_ := rgI (qI U60 (qO U60 16 9) 2)
          have n2_ := rgI v60_3
          have n3_ := rgI (qI U60 16 7)
          omega
        · have s293_ := (g.unit (y17_.ref h0_ (y17_.2.1 _ finC_27).2.1)).2
          have s294_ := (g.row (y17_.ref h1_ (y17_.2.1 _ finC_27).2.1)).2
          have s295_ := y17_.len9 (y17_.ref (y17_.ptr ptrC_5) (y17_.2.1 _ finC_27).2.1) (by decide)
          have s296_ := y17_.len9 (y17_.ref (y17_.ptr ptrC_6) (y17_.2.1 _ finC_27).2.1) (by decide)
          have s297_ := g.chk
          unfold ChKk at s297_
          have n1_ := rgI (qI U60 (qO U60 16 9) 2)
          have n2_ := rgI v60_3
          have n3_ := rgI (qI U60 16 7)
          omega
      · intro S44_298 eS44_298 y18_ y19_
        have f299_ : cfr [] [(41, 7)] U60 S44_298 := by rw [eS44_298]; exact cfr.oI y18_ (by decide)
        have o300_ : qO S44_298 16 8 = qO U60 16 8 := qO_eq (f299_.kO (y17_.2.1 _ finC_27).2.1 (by decide) (by decide))
        have t301_ : (qI S44_298 (qO S44_298 16 8) 8).toInt = (qI U60 (qO U60 16 8) 8).toInt := by rw [o300_]; exact congrArg Int32.toInt (f299_.kI (j := 8) (y17_.ref h0_ (y17_.2.1 _ finC_27).2.1) (by decide) (by decide))
        have t302_ : (qI S44_298 (qO S44_298 16 8) 4).toInt = (qI U60 (qO U60 16 8) 4).toInt := by rw [o300_]; exact congrArg Int32.toInt (f299_.kI (j := 4) (y17_.ref h0_ (y17_.2.1 _ finC_27).2.1) (by decide) (by decide))
        have t303_ : (qN S44_298 (qO S44_298 (qO S44_298 16 8) 13) : Int) = (qN U60 (qO U60 (qO U60 16 8) 13) : Int) := by rw [o300_]; exact f299_.kL (j := 13) y17_ (y17_.ref h0_ (y17_.2.1 _ finC_27).2.1) (g.unit (y17_.ref h0_ (y17_.2.1 _ finC_27).2.1)).1.2.2.2.2.2.2.2.2 (by decide) (by decide)
        have t304_ : (qN S44_298 (qO S44_298 (qO S44_298 16 8) 9) : Int) = (qN U60 (qO U60 (qO U60 16 8) 9) : Int) := by rw [o300_]; exact f299_.kL (j := 9) y17_ (y17_.ref h0_ (y17_.2.1 _ finC_27).2.1) (g.unit (y17_.ref h0_ (y17_.2.1 _ finC_27).2.1)).1.2.2.2.2.1 (by decide) (by decide)
        have t305_ : (qN S44_298 (qO S44_298 (qO S44_298 16 8) 5) : Int) = (qN U60 (qO U60 (qO U60 16 8) 5) : Int) := by rw [o300_]; exact f299_.kL (j := 5) y17_ (y17_.ref h0_ (y17_.2.1 _ finC_27).2.1) (g.unit (y17_.ref h0_ (y17_.2.1 _ finC_27).2.1)).1.2.1 (by decide) (by decide)
        have o306_ : qO S44_298 16 9 = qO U60 16 9 := qO_eq (f299_.kO (y17_.2.1 _ finC_27).2.1 (by decide) (by decide))
        have t307_ : (qI S44_298 (qO S44_298 16 9) 4).toInt = (qI U60 (qO U60 16 9) 4).toInt := by rw [o306_]; exact congrArg Int32.toInt (f299_.kI (j := 4) (y17_.ref h1_ (y17_.2.1 _ finC_27).2.1) (by decide) (by decide))
        have t308_ : (qI S44_298 (qO S44_298 16 9) 9).toInt = (qI U60 (qO U60 16 9) 9).toInt := by rw [o306_]; exact congrArg Int32.toInt (f299_.kI (j := 9) (y17_.ref h1_ (y17_.2.1 _ finC_27).2.1) (by decide) (by decide))
        have t309_ : (qI S44_298 (qO S44_298 16 9) 2).toInt = (qI U60 (qO U60 16 9) 2).toInt := by rw [o306_]; exact congrArg Int32.toInt (f299_.kI (j := 2) (y17_.ref h1_ (y17_.2.1 _ finC_27).2.1) (by decide) (by decide))
        have t310_ : (qN S44_298 (qO S44_298 (qO S44_298 16 9) 1) : Int) = (qN U60 (qO U60 (qO U60 16 9) 1) : Int) := by rw [o306_]; exact f299_.kL (j := 1) y17_ (y17_.ref h1_ (y17_.2.1 _ finC_27).2.1) (g.row (y17_.ref h1_ (y17_.2.1 _ finC_27).2.1)).1.2.1 (by decide) (by decide)
        have t311_ : (qN S44_298 (qO S44_298 (qO S44_298 16 9) 8) : Int) = (qN U60 (qO U60 (qO U60 16 9) 8) : Int) := by rw [o306_]; exact f299_.kL (j := 8) y17_ (y17_.ref h1_ (y17_.2.1 _ finC_27).2.1) (g.row (y17_.ref h1_ (y17_.2.1 _ finC_27).2.1)).1.2.2.2.2.2.2 (by decide) (by decide)
        have t312_ : (qN S44_298 (qO S44_298 (qO S44_298 16 9) 7) : Int) = (qN U60 (qO U60 (qO U60 16 9) 7) : Int) := by rw [o306_]; exact f299_.kL (j := 7) y17_ (y17_.ref h1_ (y17_.2.1 _ finC_27).2.1) (g.row (y17_.ref h1_ (y17_.2.1 _ finC_27).2.1)).1.2.2.2.2.2.1 (by decide) (by decide)
        have t313_ : (qN S44_298 (qO S44_298 (qO S44_298 16 9) 0) : Int) = (qN U60 (qO U60 (qO U60 16 9) 0) : Int) := by rw [o306_]; exact f299_.kL (j := 0) y17_ (y17_.ref h1_ (y17_.2.1 _ finC_27).2.1) (g.row (y17_.ref h1_ (y17_.2.1 _ finC_27).2.1)).1.1 (by decide) (by decide)
        have t314_ : (qN S44_298 (qO S44_298 (qO S44_298 16 9) 6) : Int) = (qN U60 (qO U60 (qO U60 16 9) 6) : Int) := by rw [o306_]; exact f299_.kL (j := 6) y17_ (y17_.ref h1_ (y17_.2.1 _ finC_27).2.1) (g.row (y17_.ref h1_ (y17_.2.1 _ finC_27).2.1)).1.2.2.2.2.1 (by decide) (by decide)
        have t315_ : (qN S44_298 (qO S44_298 (qO S44_298 16 9) 3) : Int) = (qN U60 (qO U60 (qO U60 16 9) 3) : Int) := by rw [o306_]; exact f299_.kL (j := 3) y17_ (y17_.ref h1_ (y17_.2.1 _ finC_27).2.1) (g.row (y17_.ref h1_ (y17_.2.1 _ finC_27).2.1)).1.2.2.1 (by decide) (by decide)
        have t316_ : (qN S44_298 (qO S44_298 (qO S44_298 16 9) 5) : Int) = (qN U60 (qO U60 (qO U60 16 9) 5) : Int) := by rw [o306_]; exact f299_.kL (j := 5) y17_ (y17_.ref h1_ (y17_.2.1 _ finC_27).2.1) (g.row (y17_.ref h1_ (y17_.2.1 _ finC_27).2.1)).1.2.2.2.1 (by decide) (by decide)
        have t317_ : (qN S44_298 (qO S44_298 16 3) : Int) = (qN U60 (qO U60 16 3) : Int) := f299_.kL (j := 3) y17_ (y17_.2.1 _ finC_27).2.1 (y17_.ptr ptrC_6) (by decide) (by decide)
        have t318_ : (qN S44_298 (qO S44_298 16 2) : Int) = (qN U60 (qO U60 16 2) : Int) := f299_.kL (j := 2) y17_ (y17_.2.1 _ finC_27).2.1 (y17_.ptr ptrC_5) (by decide) (by decide)
        have p319_ : qR S44_298 16 8 = some (qO S44_298 16 8) := f299_.kP (y17_.2.1 _ finC_27).2.1 h0_ (by decide) (by decide)
        have p320_ : qR S44_298 16 9 = some (qO S44_298 16 9) := f299_.kP (y17_.2.1 _ finC_27).2.1 h1_ (by decide) (by decide)
        have t321_ : (qI S44_298 16 7).toInt = (0 : Int32).toInt := by rw [eS44_298, qI_wI, if_pos ⟨rfl, rfl⟩]
        have g : ShC B S44_298 := ShC.ws y17_ g f299_ (by rw [eS44_298]; rfl) (by rw [eS44_298]; rfl) (by rw [eS44_298]; rfl) rfl rfl
        refine ⟨(2147483648 - (0 : Int32).toInt).toNat + 1, ?_⟩
        refine sg_X1_firstFault_L81 hB  (fun _ _ g_ p0_ p1_ i0_ i1_ i2_ hm_ => ih60 g_ p0_ p1_ i0_ i1_ i2_ hm_) _ g p319_ p320_ ?_ ?_ ?_ ?_ ?_ ?_ ?_
        · have s322_ := (g.unit (y19_.ref p319_ (y19_.2.1 _ finC_27).2.1)).2
          have s323_ := (g.row (y19_.ref p320_ (y19_.2.1 _ finC_27).2.1)).2
          have s324_ := y19_.len9 (y19_.ref (y19_.ptr ptrC_5) (y19_.2.1 _ finC_27).2.1) (by decide)
          have s325_ := y19_.len9 (y19_.ref (y19_.ptr ptrC_6) (y19_.2.1 _ finC_27).2.1) (by decide)
          have s326_ := g.chk
          unfold ChKk at s326_
          have n1_ := li_0k
          have n2_ := rgI v60_3
          have n3_ := rgI (qI U60 (qO U60 16 9) 2)
          have n4_ := rgI (qI U60 16 7)
          have n5_ := rgI (qI S44_298 16 7)
          omega
        · have s327_ := (g.unit (y19_.ref p319_ (y19_.2.1 _ finC_27).2.1)).2
          have s328_ := (g.row (y19_.ref p320_ (y19_.2.1 _ finC_27).2.1)).2
          have s329_ := y19_.len9 (y19_.ref (y19_.ptr ptrC_5) (y19_.2.1 _ finC_27).2.1) (by decide)
          have s330_ := y19_.len9 (y19_.ref (y19_.ptr ptrC_6) (y19_.2.1 _ finC_27).2.1) (by decide)
          have s331_ := g.chk
          unfold ChKk at s331_
          have n1_ := rgI v60_3
          have n2_ := rgI (qI U60 (qO U60 16 9) 2)
          have n3_ := rgI (qI U60 16 7)
          have n4_ := rgI (qI S44_298 16 7)
          have n5_ := li_0k
          omega
        · have s332_ := (g.unit (y19_.ref p319_ (y19_.2.1 _ finC_27).2.1)).2
          have s333_ := (g.row (y19_.ref p320_ (y19_.2.1 _ finC_27).2.1)).2
          have s334_ := y19_.len9 (y19_.ref (y19_.ptr ptrC_5) (y19_.2.1 _ finC_27).2.1) (by decide)
          have s335_ := y19_.len9 (y19_.ref (y19_.ptr ptrC_6) (y19_.2.1 _ finC_27).2.1) (by decide)
          have s336_ := g.chk
          unfold ChKk at s336_
          have n1_ := rgI v60_3
          have n2_ := rgI (qI U60 (qO U60 16 9) 2)
          have n3_ := rgI (qI U60 16 7)
          have n4_ := rgI (qI S44_298 16 7)
          have n5_ := li_0k
          omega
        · have s337_ := (g.unit (y19_.ref p319_ (y19_.2.1 _ finC_27).2.1)).2
          have s338_ := (g.row (y19_.ref p320_ (y19_.2.1 _ finC_27).2.1)).2
          have s339_ := y19_.len9 (y19_.ref (y19_.ptr ptrC_5) (y19_.2.1 _ finC_27).2.1) (by decide)
          have s340_ := y19_.len9 (y19_.ref (y19_.ptr ptrC_6) (y19_.2.1 _ finC_27).2.1) (by decide)
          have s341_ := g.chk
          unfold ChKk at s341_
          have n1_ := rgI v60_3
          have n2_ := rgI (qI U60 (qO U60 16 9) 2)
          have n3_ := rgI (qI U60 16 7)
          have n4_ := rgI (qI S44_298 16 7)
          have n5_ := li_0k
          omega
        · have s342_ := (g.unit (y19_.ref p319_ (y19_.2.1 _ finC_27).2.1)).2
          have s343_ := (g.row (y19_.ref p320_ (y19_.2.1 _ finC_27).2.1)).2
          have s344_ := y19_.len9 (y19_.ref (y19_.ptr ptrC_5) (y19_.2.1 _ finC_27).2.1) (by decide)
          have s345_ := y19_.len9 (y19_.ref (y19_.ptr ptrC_6) (y19_.2.1 _ finC_27).2.1) (by decide)
          have s346_ := g.chk
          unfold ChKk at s346_
          have n1_ := rgI (qI S44_298 (qO S44_298 16 9) 2)
          have n2_ := rgI v60_3
          have n3_ := rgI (qI U60 (qO U60 16 9) 2)
          have n4_ := rgI (qI U60 16 7)
          have n5_ := rgI (qI S44_298 16 7)
          have n6_ := li_0k
          omega
        · have s347_ := (g.unit (y19_.ref p319_ (y19_.2.1 _ finC_27).2.1)).2
          have s348_ := (g.row (y19_.ref p320_ (y19_.2.1 _ finC_27).2.1)).2
          have s349_ := y19_.len9 (y19_.ref (y19_.ptr ptrC_5) (y19_.2.1 _ finC_27).2.1) (by decide)
          have s350_ := y19_.len9 (y19_.ref (y19_.ptr ptrC_6) (y19_.2.1 _ finC_27).2.1) (by decide)
          have s351_ := g.chk
          unfold ChKk at s351_
          have n1_ := rgI (qI S44_298 (qO S44_298 16 9) 2)
          have n2_ := rgI v60_3
          have n3_ := rgI (qI U60 (qO U60 16 9) 2)
          have n4_ := rgI (qI U60 16 7)
          have n5_ := rgI (qI S44_298 16 7)
          have n6_ := li_0k
          omega
        · have s352_ := (g.unit (y19_.ref p319_ (y19_.2.1 _ finC_27).2.1)).2
          have s353_ := (g.row (y19_.ref p320_ (y19_.2.1 _ finC_27).2.1)).2
          have s354_ := y19_.len9 (y19_.ref (y19_.ptr ptrC_5) (y19_.2.1 _ finC_27).2.1) (by decide)
          have s355_ := y19_.len9 (y19_.ref (y19_.ptr ptrC_6) (y19_.2.1 _ finC_27).2.1) (by decide)
          have s356_ := g.chk
          unfold ChKk at s356_
          have n1_ := li_0k
          have n2_ := rgI v60_3
          have n3_ := rgI (qI U60 (qO U60 16 9) 2)
          have n4_ := rgI (qI U60 16 7)
          have n5_ := rgI (qI S44_298 16 7)
          omega
