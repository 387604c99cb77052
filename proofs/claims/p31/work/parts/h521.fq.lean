/-! Checker: returns, and firstFault to its end -/
section FFQ
variable {K : List Nat} {F : List (Nat × Nat)} {S u v U V A D : MS} {q r N : Nat} {Q : MS → Prop} {Q1 : Int32 → MS → Prop} {x y : Int32} {m : Int}
theorem or_one {a b : Int32} (h : (a ||| b) = 0 ∨ (a ||| b) = 1) (hb : b = 1) : ¬ (a ||| b).toInt = 0 := by
  rcases h with e | e
  · exfalso
    have t := congrArg (fun z : Int32 => z.toBitVec.getLsbD 0) e
    simp only [Int32.toBitVec_or, BitVec.getLsbD_or] at t
    rw [hb] at t
    rw [show (1 : Int32).toBitVec = 1#32 from rfl, show (0 : Int32).toBitVec = 0#32 from rfl] at t
    simp at t
  · rw [e]; decide
theorem ct_gt131 {v2 v3 : Int32} (e2 : v2 = fX8_opAt D r x) (e3 : v3 = fX10_takes D q r x) : ∀ (n : Nat) {U : MS} {v4 : Int32}, CkB D U q r → w_X1_goThrough_L131 Q n U x v2 v3 v4 → w_X1_goThrough_L131 (fun u => Q u ∧ ((qI u 16 6).toInt = 0 → RtP D q r x)) n U x v2 v3 v4 := by
  intro n
  induction n with
  | zero => intro U v4 _ h; exact h
  | succ n ih =>
    intro U v4 b hh
    unfold w_X1_goThrough_L131 at hh ⊢
    intro w
    obtain ⟨h1, h2⟩ := hh w
    refine ⟨fun z => ?_, fun z => ?_⟩
    · obtain ⟨e8, e9, d, h3⟩ := h1 z
      refine ⟨e8, e9, d, fun a34 e34 => ?_⟩
      obtain ⟨Q35, p35, h35⟩ := h3 a34 e34
      refine ⟨_, frX1_give w p35, ?_⟩
      rintro S36 ⟨g36, f36⟩ w36 s36
      obtain ⟨g1, g2⟩ := h35 S36 g36 w36 s36
      have b36 : CkB D S36 q r := b.fr w (f36.mo rfl rfl)
      have ok : RtP D q r x → w_X1_goThrough_J212 Q S36 (qI S36 16 6) → w_X1_goThrough_J212 (fun u => Q u ∧ ((qI u 16 6).toInt = 0 → RtP D q r x)) S36 (qI S36 16 6) := fun hr hj => by
        unfold w_X1_goThrough_J212 w_X1_goThrough_J213 at hj ⊢
        intro w w' hv
        obtain ⟨bb, hj⟩ := hj w w' hv
        exact ⟨bb, fun S41 e41 k41 w41 => ⟨hj S41 e41 k41 w41, fun _ => hr⟩⟩
      refine ⟨fun y => ok (fun a => by rw [← e2] at a; omega) (g1 y), fun y => ?_⟩
      obtain ⟨g3, g4⟩ := g2 y
      refine ⟨fun s => ok (fun _ a => by rw [← e2] at a; omega) (g3 s), fun s => ?_⟩
      obtain ⟨c8, c9, d3, g5⟩ := g4 s
      refine ⟨c8, c9, d3, fun a51 e51 => ?_⟩
      obtain ⟨g6, g7⟩ := g5 a51 e51
      have ea : a51 = fX10_givesOfMethod D q (qI D r 11) := by rw [e51, b36.o.1, b36.o.2, b36.2.1.2.2.2, (b36.2.2.1.1.fk).2.2]
      refine ⟨fun t => ok (fun _ _ => by rw [← e3, ← ea]; exact t) (g6 t), fun t => ?_⟩
      have hj := g7 t
      unfold w_X1_goThrough_J213 at hj ⊢
      intro w' hv
      obtain ⟨bb, hj⟩ := hj w' hv
      refine ⟨bb, fun S41 e41 k41 w41 => ⟨hj S41 e41 k41 w41, fun z0 => absurd z0 ?_⟩⟩
      rw [e41, qI_wI, if_pos ⟨rfl, rfl⟩]
      exact or_one bb rfl
    · obtain ⟨Q54, p54, h54⟩ := h2 z
      refine ⟨_, frX1_take w p54, ?_⟩
      rintro r55 S56 ⟨g56, f56⟩ w56 s56 a59 e59
      exact ih (b.fr w (f56.mo rfl rfl)) (h54 r55 S56 g56 w56 s56 a59 e59)
theorem ld_no {o : Int32} (h1 : 172 ≤ o.toInt) (h2 : o.toInt ≤ 177) : (fX6_isLoad S o).toInt = 0 ∧ (fX6_isStore S o).toInt = 0 := by
  unfold fX6_isLoad fX6_isStore
  rw [if_neg (by omega), if_neg (by omega), if_neg (by omega), if_neg (by omega), if_neg (by omega), if_neg (by omega)]
  exact ⟨rfl, rfl⟩
theorem ct_goRet (w : wfC U) (b : CkB D U q r) (h : wX1_goThrough U x Q) : wX1_goThrough U x (fun u => Q u ∧ ((qI u 16 6).toInt = 0 → RtP D q r x)) := by
  have o9 := b.o.2
  have rc := b.2.1.1
  have J : ∀ a6 : Int32, a6 = fX8_opAt D r x → w_X1_goThrough_J29 Q U x a6 → w_X1_goThrough_J29 (fun u => Q u ∧ ((qI u 16 6).toInt = 0 → RtP D q r x)) U x a6 := fun a6 e6 hj => by
    unfold w_X1_goThrough_J29 at hj ⊢
    intro w
    obtain ⟨d1, h1⟩ := hj w
    refine ⟨d1, fun a10 e10 => ?_⟩
    obtain ⟨h2, h3⟩ := h1 a10 e10
    have no : ∀ {c : Prop}, (172 ≤ a6.toInt → a6.toInt ≤ 177 → False) → (c → RtP D q r x) := fun hf _ a a' => by
      rw [← e6] at a a'
      exact (hf a a').elim
    refine ⟨fun z => ?_, fun z => ?_⟩
    · obtain ⟨d2, h4⟩ := h2 z
      refine ⟨d2, fun a15 e15 => ?_⟩
      obtain ⟨h5, h6⟩ := h4 a15 e15
      refine ⟨fun y => ?_, fun y => ?_⟩
      · obtain ⟨h7, h8⟩ := h5 y
        refine ⟨fun s => ?_, fun s => ?_⟩
        · obtain ⟨f1, f2, h9⟩ := h7 s
          refine ⟨f1, f2, fun a66 e66 => ?_⟩
          obtain ⟨f3, h9⟩ := h9 a66 e66
          refine ⟨f3, fun a70 e70 => ?_⟩
          obtain ⟨g1, g2⟩ := h9 a70 e70
          have ok : ∀ t : Int32, w_X1_goThrough_J108 Q U t (qI U 16 6) → w_X1_goThrough_J108 (fun u => Q u ∧ ((qI u 16 6).toInt = 0 → RtP D q r x)) U t (qI U 16 6) := fun t hj => by
            unfold w_X1_goThrough_J108 at hj ⊢
            intro w hv
            obtain ⟨bb, hj⟩ := hj w hv
            exact ⟨bb, fun S73 e73 k73 w73 => ⟨hj S73 e73 k73 w73, no (fun a a' => by omega)⟩⟩
          exact ⟨fun t => ok 0 (g1 t), fun t => ok 1 (g2 t)⟩
        · obtain ⟨f1, f2, f3, h9⟩ := h8 s
          refine ⟨f1, f2, f3, fun a25 e25 => ?_⟩
          obtain ⟨n, hn⟩ := h9 a25 e25
          exact ⟨n, ct_gt131 e6 (by rw [e25, b.o.1, o9, (b.2.2.1.1.tk rc).1]) n b hn⟩
      · obtain ⟨f1, f2, h7⟩ := h6 y
        refine ⟨f1, f2, fun a80 e80 => ?_⟩
        obtain ⟨Q81, p81, h81⟩ := h7 a80 e80
        exact ⟨_, p81, fun S82 g82 w82 s82 => ⟨h81 S82 g82 w82 s82, no (fun a a' => y (by rw [e15]; exact (ld_no a a').2))⟩⟩
    · obtain ⟨f1, f2, h4⟩ := h3 z
      refine ⟨f1, f2, fun a89 e89 => ?_⟩
      obtain ⟨Q90, p90, h90⟩ := h4 a89 e89
      exact ⟨_, p90, fun S91 g91 w91 s91 => ⟨h90 S91 g91 w91 s91, no (fun a a' => z (by rw [e10]; exact (ld_no a a').1))⟩⟩
  unfold wX1_goThrough at h ⊢
  obtain ⟨e9, d, h⟩ := h
  refine ⟨e9, d, fun a6 e6 => ?_⟩
  obtain ⟨h1, h2⟩ := h a6 e6
  have ea : a6 = fX8_opAt D r x := by rw [e6, o9, rc.op]
  refine ⟨fun z => J a6 ea (h1 z), fun z => ?_⟩
  obtain ⟨h3, h4⟩ := h2 z
  refine ⟨fun y => J a6 ea (h3 y), fun y => ?_⟩
  obtain ⟨Q95, p95, h95⟩ := h4 y
  refine ⟨_, p95, fun S96 g96 w96 s96 => ⟨h95 S96 g96 w96 s96, fun _ a _ => ?_⟩⟩
  rw [← ea] at a
  omega
theorem ct_hasBad (w : wfC U) (b : CkB D U q r) (h : wX1_hasBadTypes U x Q1) : wX1_hasBadTypes U x (fun z u => (Q1 z u ∧ (z.toInt = 0 → ¬ (kCk U x.toInt.toNat).toInt = 0 → RtP D q r x)) ∧ cfr [103] [(41, 5), (41, 6)] U u) := by
  refine frX1_hasBadTypes w ?_
  unfold wX1_hasBadTypes at h ⊢
  obtain ⟨bb, h1, h2⟩ := h
  refine ⟨bb, fun z => ⟨h1 z, fun _ y => absurd z y⟩, fun z => ?_⟩
  obtain ⟨Q6, p6, h6⟩ := h2 z
  refine ⟨_, frX1_takeUp w p6, ?_⟩
  rintro S7 ⟨g7, f7⟩ w7 s7 S9 e9 k9 w9
  obtain ⟨Q10, p10, h10⟩ := h6 S7 g7 w7 s7 S9 e9 k9 w9
  have b7 : CkB D S7 q r := b.fr w (f7.mo rfl rfl)
  have f9 : cfr [] [(41, 6)] S7 S9 := by rw [e9]; exact cfr.oI k9 rfl
  have b9 : CkB D S9 q r := b7.fr w7 (f9.mo rfl rfl)
  exact ⟨_, ct_goRet w9 b9 p10, fun S11 g11 w11 s11 => ⟨h10 S11 g11.1 w11 s11, fun y _ => g11.2 y⟩⟩
end FFQ
/-! Checker: keepTypes, the rounds, firstFault -/
section FFZ
variable {K : List Nat} {F : List (Nat × Nat)} {S u v U V A D : MS} {q r N : Nat} {Q Q' : MS → Prop} {Q1 : Int32 → MS → Prop} {x y : Int32} {m : Int}
def hgV (D : MS) (i : Nat) : Int32 := vp_nar .byte ((fX4_heightAt D 17 (Int32.ofInt i)).toInt8.toInt32)
theorem CkB.hg (b : CkB D U q r) : fX4_heightAt U 17 x = fX4_heightAt D 17 x := by
  unfold fX4_heightAt
  have z : ∀ i, qI U (qO U 17 0) i = qI D (qO D 17 0) i := b.2.2.2.2.1
  rw [b.2.2.2.2.2, z]
  rfl
/-- while the heights are kept -/
def KtI (D U : MS) (q r : Nat) (I : Int) : Prop := CkB D U q r ∧ qR U r 12 = some (qO U r 12) ∧ (qN U (qO U r 12) : Int) = nR D r ∧ ∀ i : Nat, (i : Int) < I → qI U (qO U r 12) i = hgV D i
theorem CkB.fr2 (b : CkB D U q r) (w : wfC U) (f : cfr [104, 407, 408] [(47, 12), (47, 13), (47, 14)] U u) : CkB D u q r := by
  obtain ⟨⟨e8, e9⟩, ⟨c, kr, R, e11⟩, ⟨d, kq, UK⟩, iw, hc, hl⟩ := b
  have g : ∀ j, j < 12 → qI u r j = qI U r j ∧ qR u r j = qR U r j := fun j hj => by
    have hF : ([(47, 12), (47, 13), (47, 14)] : List (Nat × Nat)).contains (47, j) = false := by
      rw [Bool.eq_false_iff]
      intro z
      have := List.contains_iff_mem.mp z
      simp at this
      omega
    have := f.2.2 r j (by rw [kr]; decide) (by rw [kr]; decide) (by rw [kr]; exact hF)
    exact ⟨this.1, this.2.2⟩
  have a : ∀ {b t : Nat}, qT U b = t → t ≠ 0 → ([104, 407, 408] : List Nat).contains t = false → (∀ j, ([(47, 12), (47, 13), (47, 14)] : List (Nat × Nat)).contains (t, j) = false) → qI u b = qI U b ∧ qJ u b = qJ U b ∧ qR u b = qR U b ∧ qN u b = qN U b := fun {b t} e h0 h1 h2 => by
    exact ⟨funext fun j => (f.2.2 b j (by rw [e]; exact h0) (by rw [e]; exact h1) (by rw [e]; exact h2 j)).1, funext fun j => (f.2.2 b j (by rw [e]; exact h0) (by rw [e]; exact h1) (by rw [e]; exact h2 j)).2.1, funext fun j => (f.2.2 b j (by rw [e]; exact h0) (by rw [e]; exact h1) (by rw [e]; exact h2 j)).2.2, (f.1.1 b (by rw [e]; exact h0)).2⟩
  obtain ⟨r0, r1, r3, r5, r6, r7, r8⟩ := R.1
  have a0 := a (w.ref r0 kr : qT U (qO U r 0) = 222) (by decide) (by decide) (fun j => rfl)
  have a1 := a (w.ref r1 kr : qT U (qO U r 1) = 406) (by decide) (by decide) (fun j => rfl)
  have a3 := a (w.ref r3 kr : qT U (qO U r 3) = 223) (by decide) (by decide) (fun j => rfl)
  have a5 := a (w.ref r5 kr : qT U (qO U r 5) = 224) (by decide) (by decide) (fun j => rfl)
  have a6 := a (w.ref r6 kr : qT U (qO U r 6) = 225) (by decide) (by decide) (fun j => rfl)
  have a7 := a (w.ref r7 kr : qT U (qO U r 7) = 226) (by decide) (by decide) (fun j => rfl)
  have rc : rC U u r := ⟨⟨⟨(g 2 (by decide)).1, (g 4 (by decide)).1⟩, ⟨qO_eq (g 0 (by decide)).2, qO_eq (g 1 (by decide)).2, qO_eq (g 3 (by decide)).2⟩, a0.1, a1.2.1, a3.1⟩, (g 9 (by decide)).1, ⟨qO_eq (g 5 (by decide)).2, qO_eq (g 6 (by decide)).2, qO_eq (g 7 (by decide)).2⟩, a5.1, a6.1, a7.1⟩
  have gq : ∀ j, qI u q j = qI U q j ∧ qR u q j = qR U q j := fun j => by
    have z := a kq (by decide) (by decide) (fun j => rfl)
    exact ⟨congrFun z.1 j, congrFun z.2.2.1 j⟩
  have a7' := a (w.ref UK.1.2.2.2.1 kq : qT U (qO U q 7) = 233) (by decide) (by decide) (fun j => rfl)
  have a11 := a (w.ref UK.1.2.2.2.2.2.2.1 kq : qT U (qO U q 11) = 236) (by decide) (by decide) (fun j => rfl)
  have a12 := a (w.ref UK.1.2.2.2.2.2.2.2.1 kq : qT U (qO U q 12) = 237) (by decide) (by decide) (fun j => rfl)
  have uu : uC U u q := ⟨⟨qO_eq (gq 7).2, qO_eq (gq 11).2, qO_eq (gq 12).2⟩, ⟨a7'.1, a11.1, a12.1⟩, a7'.2.2.2, a11.2.2.2, a12.2.2.2⟩
  obtain ⟨t0, t1, t2⟩ := h17_k w
  have z16 := a w.k16 (by decide) (by decide) (fun j => rfl)
  have z17 := a w.k17 (by decide) (by decide) (fun j => rfl)
  have o0 : qO u 17 0 = qO U 17 0 := qO_eq (congrFun z17.2.2.1 0)
  have o2 : qO u 17 2 = qO U 17 2 := qO_eq (congrFun z17.2.2.1 2)
  have b0 := a t0 (by decide) (by decide) (fun j => rfl)
  have b2 := a t2 (by decide) (by decide) (fun j => rfl)
  refine ⟨⟨by rw [z16.2.2.1]; exact e8, by rw [z16.2.2.1]; exact e9⟩, ⟨c.tr rc, f.1.T kr (by decide), R.mv w f.1 (fun j hj => (g j (by omega)).1) (fun j hj => (g j (by omega)).2), by rw [(g 11 (by decide)).1]; exact e11⟩, ⟨d.tr uu, f.1.T kq (by decide), UK.mv w f.1 (fun j _ => (gq j).1) (fun j _ => (gq j).2)⟩, fun y => ?_, fun i => ?_, by rw [o0, b0.2.2.2]; exact hl⟩
  · rw [← iw y]
    unfold fX4_isWrong
    rw [o0, o2, b2.2.2.2, b2.1, b0.1]
    rfl
  · rw [← hc i]
    unfold hC
    rw [o0, b0.1]
theorem KtI.fr (h : KtI D U q r m) (w : wfC U) (f : cfr [407, 408] [] U u) : KtI D u q r m := by
  obtain ⟨b, e, l, z⟩ := h
  have kr := b.2.1.2.1
  have t : qT U (qO U r 12) = 104 := w.ref e kr
  have o : qO u r 12 = qO U r 12 := qO_eq (f.kO kr (by decide) (by decide))
  refine ⟨b.fr2 w (f.mo rfl rfl), f.kP kr e (by decide) (by decide), by rw [o, (f.1.1 _ (by rw [t]; decide)).2]; exact l, fun i hi => ?_⟩
  rw [o, f.kI t (by decide) rfl]
  exact z i hi
theorem ct_kt81 {k50 k50' : MS → Int32 → Prop} {v1 : Int32} (hk : ∀ (U : MS) (a : Int32), KtI D U q r m → a = v1 + Int32.ofInt 1 → k50 U a → k50' U a) : ∀ (n : Nat) {U : MS} {v2 : Int32}, KtI D U q r m → w_X1_keepTypes_L81 Q k50 n U v1 v2 → w_X1_keepTypes_L81 Q' k50' n U v1 v2 := by
  intro n
  induction n with
  | zero => intro U v2 _ h; exact h
  | succ n ih =>
    intro U v2 P hh
    unfold w_X1_keepTypes_L81 at hh ⊢
    intro w
    obtain ⟨b, h1, h2⟩ := hh w
    have J : w_X1_keepTypes_J161 Q k50 U v1 → w_X1_keepTypes_J161 Q' k50' U v1 := fun hj => by
      unfold w_X1_keepTypes_J161 at hj ⊢
      intro w a ea
      exact hk U a P ea (hj w a ea)
    have J' : ∀ V : MS, KtI D V q r m → w_X1_keepTypes_J155 Q (w_X1_keepTypes_L81 Q k50 n) V v1 v2 → w_X1_keepTypes_J155 Q' (w_X1_keepTypes_L81 Q' k50' n) V v1 v2 := fun V PV hj => by
      unfold w_X1_keepTypes_J155 at hj ⊢
      intro w a ea
      exact ih PV (hj w a ea)
    refine ⟨b, fun z => J (h1 z), fun z => ?_⟩
    obtain ⟨h3, h4⟩ := h2 z
    refine ⟨fun y => J (h3 y), fun y => ?_⟩
    obtain ⟨b', h5⟩ := h4 y
    refine ⟨b', fun a55 e55 => ?_⟩
    obtain ⟨h6, h7⟩ := h5 a55 e55
    refine ⟨fun s => ?_, fun s => ?_⟩
    · obtain ⟨f1, f2, f3, f4, h8⟩ := h6 s
      refine ⟨f1, f2, f3, f4, fun S68 e68 k68 w68 => J' S68 (P.fr w ?_) (h8 S68 e68 k68 w68)⟩
      rw [e68]; exact cfr.aJ k68 rfl
    · obtain ⟨f1, f2, f3, f4, h8⟩ := h7 s
      refine ⟨f1, f2, f3, f4, fun S78 e78 k78 w78 => J' S78 (P.fr w ?_) (h8 S78 e78 k78 w78)⟩
      rw [e78]; exact cfr.aJ k78 rfl
theorem ct_kt50 : ∀ (n : Nat) {U : MS} {v1 : Int32}, KtI D U q r v1.toInt → 0 ≤ v1.toInt → w_X1_keepTypes_L50 Q n U v1 → w_X1_keepTypes_L50 (fun u => Q u ∧ KtI D u q r (nR D r)) n U v1 := by
  intro n
  induction n with
  | zero => intro U v1 _ _ h; exact h
  | succ n ih =>
    intro U v1 P v0 hh
    have b := P.1
    have o9 := b.o.2
    have rc := b.2.1.1
    have eN : (qI U r 2).toInt = nR D r := by rw [← rc.nE]; rfl
    unfold w_X1_keepTypes_L50 at hh ⊢
    intro w
    obtain ⟨e9, h1, h2⟩ := hh w
    rw [o9, eN] at h1 h2 ⊢
    refine ⟨by rw [← o9]; exact e9, fun z => ⟨h1 z, P.1, P.2.1, P.2.2.1, fun i hi => P.2.2.2 i (by omega)⟩, fun z => ?_⟩
    obtain ⟨f9, f12, d, bb, h3⟩ := h2 z
    refine ⟨f9, f12, d, bb, fun S42 e42 k42 w42 => ?_⟩
    obtain ⟨m', hm⟩ := h3 S42 e42 k42 w42
    have ev : Int32.ofInt (v1.toInt.toNat : Int) = v1 := ofI (by omega)
    have f : cfr [104] [] U S42 := by rw [e42]; exact cfr.aI k42 rfl
    have o : qO S42 r 12 = qO U r 12 := by rw [e42]; rfl
    have P' : KtI D S42 q r (v1.toInt + 1) := by
      refine ⟨b.fr2 w (f.mo rfl rfl), by rw [o, e42]; exact P.2.1, by rw [o, e42]; exact P.2.2.1, fun i hi => ?_⟩
      rw [o, e42, qI_wI]
      by_cases t : i = v1.toInt.toNat
      · rw [if_pos ⟨rfl, t⟩, b.hg, t]
        unfold hgV
        rw [ev]
      · rw [if_neg (fun s => t s.2)]
        exact P.2.2.2 i (by omega)
    refine ⟨m', ct_kt81 (m := v1.toInt + 1) (fun V a PV ea hj => ?_) m' P' hm⟩
    have r2 := b.2.1.2.2.1.2
    have e1 : a.toInt = v1.toInt + 1 := by rw [ea, t_addk (by rw [lo_1k]; omega), lo_1k]
    exact ih (by rw [e1]; exact PV) (by omega) hj
theorem ct_keep (w : wfC U) (hq : r < qn U) (b : CkB D U q r) (h : wX1_keepTypes U Q) : wX1_keepTypes U (fun u => (Q u ∧ KtI D u q r (nR D r)) ∧ cfr [104, 407, 408] [(47, 12), (47, 13), (47, 14)] U u) := by
  have o9 := b.o.2
  have kr := b.2.1.2.1
  have eN : (qI U r 2).toInt = nR D r := by rw [← b.2.1.1.nE]; rfl
  have n0 : 0 ≤ nR D r := by rw [← eN]; have := b.2.1.2.2.1.2; omega
  refine frX1_keepTypes w ?_
  unfold wX1_keepTypes at h ⊢
  rw [o9] at h ⊢
  obtain ⟨e9, e9', bb, h⟩ := h
  refine ⟨e9, e9', bb, fun S8 e8 w8 S10 e10 k10 w10 => ?_⟩
  obtain ⟨c9, c9', bb2, h⟩ := h S8 e8 w8 S10 e10 k10 w10
  have s1 : S10 = wR (wN U 104 ((qI U r 2).toInt.toNat) ((qI U r 2).toInt.toNat)) r 12 (some (qn U)) := by rw [e10, e8]
  obtain ⟨a1, b1, i1, d1, r1, t1, l1, q1, u1⟩ := nwr s1 (by omega)
  have g10 : cfr [104, 407, 408] [(47, 12), (47, 13), (47, 14)] U S10 := (show cfr [104, 407, 408] [(47, 12), (47, 13), (47, 14)] U S8 by rw [e8]; exact cfr.new w (e8 ▸ w8)).tr (by rw [e10]; exact cfr.oR k10 rfl)
  have b10 := b.fr2 w g10
  have p9 := b10.o.2
  rw [p9] at c9 c9' bb2 h ⊢
  refine ⟨c9, c9', bb2, fun S18 e18 w18 S20 e20 k20 w20 => ?_⟩
  obtain ⟨x9, x9', bb3, h⟩ := h S18 e18 w18 S20 e20 k20 w20
  have s2 : S20 = wR (wN S10 407 ((qI S10 r 2).toInt.toNat) ((qI S10 r 2).toInt.toNat)) r 13 (some (qn S10)) := by rw [e20, e18]
  obtain ⟨a2, b2, i2, d2, r2, t2, l2, q2, u2⟩ := nwr s2 (by omega)
  have g20 : cfr [104, 407, 408] [(47, 12), (47, 13), (47, 14)] S10 S20 := (show cfr [104, 407, 408] [(47, 12), (47, 13), (47, 14)] S10 S18 by rw [e18]; exact cfr.new w10 (e18 ▸ w18)).tr (by rw [e20]; exact cfr.oR k20 rfl)
  have b20 := b10.fr2 w10 g20
  have y9 := b20.o.2
  rw [y9] at x9 x9' bb3 h ⊢
  refine ⟨x9, x9', bb3, fun S28 e28 w28 S30 e30 k30 w30 => ?_⟩
  obtain ⟨n, h⟩ := h S28 e28 w28 S30 e30 k30 w30
  have s3 : S30 = wR (wN S20 408 ((qI S20 r 2).toInt.toNat) ((qI S20 r 2).toInt.toNat)) r 14 (some (qn S20)) := by rw [e30, e28]
  obtain ⟨a3, b3, i3, d3, r3, t3, l3, q3, u3⟩ := nwr s3 (by omega)
  have g30 : cfr [104, 407, 408] [(47, 12), (47, 13), (47, 14)] S20 S30 := (show cfr [104, 407, 408] [(47, 12), (47, 13), (47, 14)] S20 S28 by rw [e28]; exact cfr.new w20 (e28 ▸ w28)).tr (by rw [e30]; exact cfr.oR k30 rfl)
  have b30 := b20.fr2 w20 g30
  have R12 : qR S30 r 12 = some (qn U) := by rw [d3 12 (by decide), d2 12 (by decide), r1]
  have O12 := qO_of R12
  refine ⟨n, ct_kt50 n ⟨b30, by rw [O12]; exact R12, ?_, fun i hi => by rw [li_0k] at hi; omega⟩ (by rw [li_0k]; omega) h⟩
  rw [O12, (b3 _ (by omega)).2, (b2 _ (by omega)).2, l1]
  omega
end FFZ
/-! Checker: firstFault -/
/-- what comes next has come, in C -/
def CcS (D : MS) (C : Nat → Prop) (r : Nat) (x : Int32) : Prop := (¬ (fX6_goesOn D (fX8_opAt D r x)).toInt = 0 → 0 ≤ (x + 1).toInt → (x + 1).toInt < nR D r → C (x + 1).toInt.toNat) ∧ (∀ j : Int32, 0 ≤ j.toInt → j.toInt < (fX8_targetCount D r x).toInt → 0 ≤ (fX8_targetAt D r x j).toInt → (fX8_targetAt D r x j).toInt < nR D r → C (fX8_targetAt D r x j).toInt.toNat) ∧ (∀ c : Int32, 0 ≤ c.toInt → c.toInt < (qI D r 9).toInt → ¬ (fX8_catchHas D r c x).toInt = 0 → 0 ≤ (qI D (qO D r 7) c.toInt.toNat).toInt → (qI D (qO D r 7) c.toInt.toNat).toInt < nR D r → C (qI D (qO D r 7) c.toInt.toNat).toInt.toNat)
/-- what firstFault has found where it found no fault -/
def FfQ (D u : MS) (q r : Nat) : Prop := (∃ C : Nat → Prop, (0 < nR D r → C 0) ∧ ∀ i : Nat, (i : Int) < nR D r → C i → CcS D C r (Int32.ofInt i) ∧ RtP D q r (Int32.ofInt i)) ∧ (∀ i : Nat, (i : Int) < nR D r → (fX4_isWrong D 17 (Int32.ofInt i)).toInt = 0) ∧ KtI D u q r (nR D r)
section FFX
variable {K : List Nat} {F : List (Nat × Nat)} {S u v U V A D : MS} {q r N : Nat} {Q Q' : MS → Prop} {Q1 Q2 : Int32 → MS → Prop} {x y : Int32} {m : Int}
theorem kC_same (w : wfC U) (f : cfr [103] [(41, 5), (41, 6)] U u) (i : Nat) : kCk u i = kCk U i := by
  unfold kCk
  rw [qO_eq (f.kO (j := 2) w.k16 (by decide) (by decide)), f.kI (ck_k w).2.1 (by decide) rfl]
theorem ct_ff131 {G : MS → Prop} (hG : ∀ u, FfQ D u q r → G u) (hN : nR D r ≤ 1296) (h0 : 0 < nR D r → (fX4_isWrong D 17 0).toInt = 0 → ¬ (kCk A 0).toInt = 0) : ∀ (n : Nat) {U : MS} {v3 : Int32}, CkB D U q r → r < qn U → (∀ i, kCk U i = kCk A i) → (∀ i : Nat, (i : Int) < nR D r → ¬ (kCk A i).toInt = 0 → CkS D A r (Int32.ofInt i)) → (∀ i : Nat, (i : Int) < v3.toInt → (fX4_isWrong D 17 (Int32.ofInt i)).toInt = 0 ∧ (¬ (kCk A i).toInt = 0 → RtP D q r (Int32.ofInt i))) → 0 ≤ v3.toInt → w_X1_firstFault_L131 Q1 n U v3 → w_X1_firstFault_L131 (fun z u => Q1 z u ∧ (z.toInt = -1 → G u)) n U v3 := by
  intro n
  induction n with
  | zero => intro U v3 _ _ _ _ _ _ h; exact h
  | succ n ih =>
    intro U v3 b hq ek cl dn v0 hh
    have o9 := b.o.2
    have eN : (qI U r 2).toInt = nR D r := by rw [← b.2.1.1.nE]; rfl
    unfold w_X1_firstFault_L131 at hh ⊢
    intro w
    obtain ⟨e9, h1, h2⟩ := hh w
    rw [o9, eN] at h1 h2 ⊢
    refine ⟨by rw [← o9]; exact e9, fun z => ?_, fun z => ?_⟩
    · obtain ⟨Q28, p28, h28⟩ := h1 z
      refine ⟨_, ct_keep w hq b p28, ?_⟩
      rintro S29 ⟨⟨g29, k29⟩, f29⟩ w29 s29
      have iw : ∀ i : Nat, (i : Int) < nR D r → (fX4_isWrong D 17 (Int32.ofInt i)).toInt = 0 := fun i hi => (dn i (by omega)).1
      have iw' : ∀ y : Int32, 0 ≤ y.toInt → y.toInt < nR D r → (fX4_isWrong D 17 y).toInt = 0 := fun y a b' => by
        have := iw y.toInt.toNat (by omega)
        rw [ofI (v := y) (by omega)] at this
        exact this
      have l0 : (0 : Int32).toInt = 0 := by decide
      refine ⟨h28 S29 g29 w29 s29, fun _ => hG S29 ⟨⟨fun i => ¬ (kCk A i).toInt = 0, fun t => h0 t (iw' 0 (by decide) (by rw [l0]; exact t)), fun i hi hc => ⟨?_, (dn i (by omega)).2 hc⟩⟩, iw, k29⟩⟩
      have c := cl i hi hc
      exact ⟨fun a a0 a1 => c.1 a a0 a1 (iw' _ a0 a1), fun j a a' t0 t1 => c.2.1 j a a' t0 t1 (iw' _ t0 t1), fun d a a' a2 t0 t1 => c.2.2 d a a' a' a2 t0 t1 (iw' _ t0 t1)⟩
    · obtain ⟨dw, h3, h4⟩ := h2 z
      have mi : ∀ {c : Prop}, v3.toInt = -1 → c := fun t => by exfalso; omega
      refine ⟨dw, fun y => ?_, fun y => ⟨h4 y, mi⟩⟩
      obtain ⟨Q36, p36, h36⟩ := h3 y
      refine ⟨_, ct_hasBad w b p36, ?_⟩
      rintro r37 S38 ⟨⟨g38, t38⟩, f38⟩ w38 s38
      obtain ⟨h5, h6⟩ := h36 r37 S38 g38 w38 s38
      refine ⟨fun s a41 e41 => ?_, fun s => ⟨h6 s, mi⟩⟩
      have e1 : a41.toInt = v3.toInt + 1 := by rw [e41, t_addk (by rw [lo_1k]; omega), lo_1k]
      refine ih (b.fr w (f38.mo rfl rfl)) (by have := s38.2.1; omega) (fun i => (kC_same w f38 i).trans (ek i)) cl (fun i hi => ?_) (by omega) (h5 s a41 e41)
      by_cases t : (i : Int) < v3.toInt
      · exact dn i t
      · have ei : i = v3.toInt.toNat := by omega
        have ev : Int32.ofInt (i : Int) = v3 := ofI (by omega)
        rw [ev, ← b.2.2.2.1 v3]
        refine ⟨y, fun c => t38 s ?_⟩
        rw [ek, ← ei]
        exact c
theorem FsIk.flow (hx7 : ∀ x : Int32, (fX8_targetCount D r x).toInt ≤ 100000) {S57 S59 : MS} {v4 : Int32} (P : FsIk D U q r v4.toInt) (v0 : 0 ≤ v4.toInt) (w : wfC U) (e57 : S57 = wI U (qO U 16 3) v4.toInt.toNat (vp_nar .boolean (0 : Int32))) (k57 : qT U (qO U 16 3) = 302) (w57 : wfC S57) (h : CkR S57 S59 ∧ CkS D S59 r v4) : FsIk D S59 q r (v4.toInt + 1) ∧ MkCk S57 = MkCk U ∧ qI S57 16 7 = qI U 16 7 ∧ (∀ i, kCk S57 i = kCk U i) := by
  obtain ⟨b, cc, dn⟩ := P
  obtain ⟨t1, t2, t3⟩ := ck_k w
  have f : cfr [302] [] U S57 := by rw [e57]; exact cfr.aI k57 rfl
  have p : ∀ j, qO S57 16 j = qO U 16 j := fun j => by rw [e57]; rfl
  have C : ∀ i, kCk S57 i = kCk U i := fun i => by unfold kCk; rw [p]; exact f.kI t2 (by decide) rfl
  have Bq : ∀ i, kB S57 i = kB U i := fun i => by unfold kB; rw [p]; exact f.kI t1 (by decide) rfl
  have W : ∀ i, kW S57 i = if i = v4.toInt.toNat then vp_nar .boolean (0 : Int32) else kW U i := fun i => by
    unfold kW
    rw [p, e57, qI_wI]
    by_cases z : i = v4.toInt.toNat
    · rw [if_pos ⟨rfl, z⟩, if_pos z]
    · rw [if_neg (fun s => z s.2), if_neg z]
  have e7 : qI S57 16 7 = qI U 16 7 := f.kI w.k16 (by decide) rfl
  have M : MkCk S57 = MkCk U := by
    unfold MkCk nR
    rw [p, b.o.2, f.kI b.2.1.2.1 (by decide) rfl]
    exact sumN_eqk _ (fun j _ => by
      unfold kMk kS
      rw [C]
      have : (fun k => rkT (kB S57 (48 * j + k))) = (fun k => rkT (kB U (48 * j + k))) := funext fun k => by rw [Bq]
      rw [this])
  have b57 : CkB D S57 q r := b.fr w (f.mo rfl rfl)
  refine ⟨⟨b57.ck w57 h.1, fun i hi hc => ?_, fun z i hi => ?_⟩, M, e7, C⟩
  · rcases h.1.2.2.2.1 i hc with y | y
    · rw [C] at y
      by_cases s : i = v4.toInt.toNat
      · have ev : Int32.ofInt (i : Int) = v4 := ofI (by omega)
        rw [ev]
        exact Or.inr h.2
      · rcases cc i hi y with t | t
        · exact Or.inl (h.1.2.2.1 i (by rw [W, if_neg s]; exact t))
        · exact Or.inr (t.mo (fun j hj => h.1.2.1 j (by rw [C]; exact hj)))
    · exact Or.inl y
  · have y := h.1.2.2.2.2.1 z
    rw [y.2, W]
    by_cases s : i = v4.toInt.toNat
    · rw [if_pos s]; decide
    · rw [if_neg s]
      have := y.1
      rw [e7] at this
      exact dn this i (by omega)
/-- over a round -/
def CzR (S u : MS) : Prop := (∀ i : Nat, ¬ (kCk S i).toInt = 0 → ¬ (kCk u i).toInt = 0) ∧ qn u = qn S ∧ MkCk u ≤ MkCk S ∧ ((qI S 16 7).toInt = 0 → ¬ (qI u 16 7).toInt = 0 → MkCk u < MkCk S)
theorem CzR.rf : CzR S S := ⟨fun _ h => h, rfl, Nat.le_refl _, fun a b => absurd a b⟩
theorem CzR.tr (h : CzR S u) (k : CzR u v) : CzR S v := by
  obtain ⟨a1, a2, a3, a4⟩ := h
  obtain ⟨b1, b2, b3, b4⟩ := k
  refine ⟨fun i z => b1 i (a1 i z), b2.trans a2, by omega, fun c d => ?_⟩
  by_cases z : (qI u 16 7).toInt = 0
  · have := b4 z d; omega
  · have := a4 c z; omega
theorem ct_ff81 (hN : nR D r ≤ 1296) (hx7 : ∀ x : Int32, (fX8_targetCount D r x).toInt ≤ 100000) {k60 k60' : MS → Int32 → Prop} {v3 : Int32} (v30 : 0 ≤ v3.toInt ∧ v3.toInt < 1000000) (hk : ∀ (U : MS) (a : Int32), a.toInt = v3.toInt + 1 → FsIk D U q r (nR D r) → CzR A U → k60 U a → k60' U a) : ∀ (n : Nat) {U : MS} {v4 : Int32}, FsIk D U q r v4.toInt → CzR A U → 0 ≤ v4.toInt → w_X1_firstFault_L81 Q1 k60 n U v3 v4 → w_X1_firstFault_L81 Q2 k60' n U v3 v4 := by
  intro n
  induction n with
  | zero => intro U v4 _ _ _ h; exact h
  | succ n ih =>
    intro U v4 P hz v0 hh
    have b := P.1
    have o9 := b.o.2
    have eN : (qI U r 2).toInt = nR D r := by rw [← b.2.1.1.nE]; rfl
    unfold w_X1_firstFault_L81 at hh ⊢
    intro w
    obtain ⟨e9, h1, h2⟩ := hh w
    rw [o9, eN] at h1 h2 ⊢
    refine ⟨by rw [← o9]; exact e9, fun z a48 e48 => ?_, fun z => ?_⟩
    · have e1 : a48.toInt = v3.toInt + 1 := by rw [e48, t_addk (by rw [lo_1k]; omega), lo_1k]
      exact hk U a48 e1 ⟨P.1, P.2.1, fun y i hi => P.2.2 y i (by omega)⟩ hz (h1 z a48 e48)
    · obtain ⟨bb, h3, h4⟩ := h2 z
      have J : ∀ V : MS, FsIk D V q r (v4.toInt + 1) → CzR A V → w_X1_firstFault_J117 Q1 (w_X1_firstFault_L81 Q1 k60 n) V v3 v4 → w_X1_firstFault_J117 Q2 (w_X1_firstFault_L81 Q2 k60' n) V v3 v4 := fun V PV zV hj => by
        unfold w_X1_firstFault_J117 at hj ⊢
        intro w a ea
        have e1 : a.toInt = v4.toInt + 1 := by rw [ea, t_addk (by rw [lo_1k]; omega), lo_1k]
        exact ih (by rw [e1]; exact PV) zV (by omega) (hj w a ea)
      refine ⟨bb, fun y => J U ⟨P.1, P.2.1, fun s i hi => ?_⟩ hz (h3 y), fun y => ?_⟩
      · by_cases t : (i : Int) < v4.toInt
        · exact P.2.2 s i t
        · have : i = v4.toInt.toNat := by omega
          rw [this]
          exact y
      · obtain ⟨bb', h5⟩ := h4 y
        refine ⟨bb', fun S57 e57 k57 w57 => ?_⟩
        obtain ⟨Q58, p58, h58⟩ := h5 S57 e57 k57 w57
        have f57 : cfr [302] [] U S57 := by rw [e57]; exact cfr.aI k57 rfl
        refine ⟨_, ct_flow (hx7 v4) (b.fr w (f57.mo rfl rfl)) w57 p58, ?_⟩
        rintro S59 ⟨g59, hu⟩ w59 s59
        obtain ⟨P9, M9, e9', C9⟩ := FsIk.flow hx7 P v0 w e57 k57 w57 hu
        refine J S59 P9 (hz.tr ⟨fun i h => hu.1.2.1 i (by rw [C9]; exact h), ?_, ?_, fun c d => ?_⟩) (h58 S59 g59 w59 s59)
        · rw [s59.2.1, e57]; rfl
        · have := hu.1.2.2.2.2.2.1; omega
        · have := hu.1.2.2.2.2.2.2 (by rw [e9']; exact c) d; omega
theorem ct_ff60 {G : MS → Prop} (hG : ∀ u, FfQ D u q r → G u) (hN : nR D r ≤ 1296) (hx7 : ∀ x : Int32, (fX8_targetCount D r x).toInt ≤ 100000) (h0 : CmP D A r 0) : ∀ (n : Nat) {U : MS} {v3 : Int32}, FsIk D U q r 0 → CzR A U → r < qn A → ((qI U 16 7).toInt = 0 → FsIk D U q r (nR D r)) → (¬ (qI U 16 7).toInt = 0 → v3.toInt + MkCk U ≤ 125712) → 0 ≤ v3.toInt → w_X1_firstFault_L60 Q1 n U v3 → w_X1_firstFault_L60 (fun z u => Q1 z u ∧ (z.toInt = -1 → G u)) n U v3 := by
  intro n
  induction n with
  | zero => intro U v3 _ _ _ _ _ _ h; exact h
  | succ n ih =>
    intro U v3 P hz hr Pd hm v0 hh
    unfold w_X1_firstFault_L60 at hh ⊢
    intro w
    obtain ⟨h1, h2⟩ := hh w
    have l0 : (0 : Int32).toInt = 0 := by decide
    refine ⟨fun z => ?_, fun z => ?_⟩
    · have P9 := Pd z
      have hj := h1 z
      unfold w_X1_firstFault_J129 at hj ⊢
      intro w'
      obtain ⟨m', hm'⟩ := hj w'
      refine ⟨m', ct_ff131 (A := U) hG hN (fun t iw => hz.1 0 ?_) m' P.1 (by rw [hz.2.1]; exact hr) (fun _ => rfl) (fun i hi hc => ?_) (fun i hi => by rw [li_0k] at hi; omega) (by rw [li_0k]; omega) hm'⟩
      · have := h0 (by decide) (by rw [l0]; exact t) iw
        rw [l0] at this
        exact this
      · rcases P9.2.1 i hi hc with t | t
        · exact absurd (P9.2.2 z i hi) t
        · exact t
    · obtain ⟨h3, h4⟩ := h2 z
      have hm' := hm z
      refine ⟨fun y => absurd y (by omega), fun y S44 e44 k44 w44 => ?_⟩
      obtain ⟨m', hj⟩ := h4 y S44 e44 k44 w44
      have b := P.1
      obtain ⟨t1, t2, t3⟩ := ck_k w
      have f0 : cfr [] [(41, 7)] U S44 := by rw [e44]; exact cfr.oI k44 rfl
      have p : ∀ j, qO S44 16 j = qO U 16 j := fun j => by rw [e44]; rfl
      have C : ∀ i, kCk S44 i = kCk U i := fun i => by unfold kCk; rw [p]; exact f0.kI t2 (by decide) rfl
      have W : ∀ i, kW S44 i = kW U i := fun i => by unfold kW; rw [p]; exact f0.kI t3 (by decide) rfl
      have Bq : ∀ i, kB S44 i = kB U i := fun i => by unfold kB; rw [p]; exact f0.kI t1 (by decide) rfl
      have M : MkCk S44 = MkCk U := by
        unfold MkCk nR
        rw [p, b.o.2, f0.kI b.2.1.2.1 (by decide) rfl]
        exact sumN_eqk _ (fun j _ => by
          unfold kMk kS
          rw [C]
          have : (fun k => rkT (kB S44 (48 * j + k))) = (fun k => rkT (kB U (48 * j + k))) := funext fun k => by rw [Bq]
          rw [this])
      have e7 : (qI S44 16 7).toInt = 0 := by rw [e44, qI_wI, if_pos ⟨rfl, rfl⟩]; rfl
      have P' : FsIk D S44 q r (0 : Int32).toInt := by
        refine ⟨b.fr w (f0.mo rfl rfl), fun i hi hc => ?_, fun _ i hi => by rw [li_0k] at hi; omega⟩
        rw [C] at hc
        rcases P.2.1 i hi hc with t | t
        · exact Or.inl (by rw [W]; exact t)
        · exact Or.inr (t.mo (fun j h => by rw [C]; exact h))
      have q44 : qn S44 = qn U := by rw [e44]; rfl
      refine ⟨m', ct_ff81 (A := S44) hN hx7 ⟨v0, by omega⟩ (fun V a e1 PV zV hj => ?_) m' P' CzR.rf (by rw [li_0k]; omega) hj⟩
      refine ih ⟨PV.1, PV.2.1, fun _ i hi => by omega⟩ ⟨fun i h => zV.1 i (by rw [C]; exact hz.1 i h), by rw [zV.2.1, q44]; exact hz.2.1, ?_, fun c d => ?_⟩ hr (fun _ => PV) (fun d => ?_) (by omega) hj
      · have := zV.2.2.1
        have := hz.2.2.1
        omega
      · have := zV.2.2.2 e7 d
        have := hz.2.2.1
        omega
      · have := zV.2.2.2 e7 d
        omega
theorem ct_firstFault {p1 p2 : Nat} (w : wfC S) (d : dnC S) (hq : p2 < qn S ∧ 17 < qn S) (k1 : qT S p1 = 49) (k2 : qT S p2 = 47) (H : HtK S 17) (R : RwK S p2) (UK : UnK S p1) (hl : (qI S p2 10).toInt ≤ 30) (hc7 : ∀ y : Int32, (fX8_targetCount S p2 y).toInt ≤ 100000) (h : wX1_firstFault S p1 (some p2) Q1) : wX1_firstFault S p1 (some p2) (fun z u => Q1 z u ∧ (z.toInt = -1 → ∃ D, (rC S D p2 ∧ uC S D p1 ∧ qI D p2 11 = qI S p2 11) ∧ HtF S D 17 p1 p2 (qI S p2 10).toInt ∧ (0 < nR S p2 → btk (hC D 17 0) 0 = true) ∧ FfQ D u p1 p2)) := by
  unfold wX1_firstFault at h ⊢
  refine ⟨fun c => (by cases c), fun c => ?_⟩
  intro S2 e2 k16 w2 S3 e3 k16' w3
  obtain ⟨f8, f9, f9', h⟩ := h.2 c S2 e2 k16 w2 S3 e3 k16' w3
  have g3 : cfr [] [(41, 8), (41, 9)] S S3 := (show cfr [] [(41, 8), (41, 9)] S S2 by rw [e2]; exact cfr.oR k16 rfl).tr (by rw [e3]; exact cfr.oR k16' rfl)
  have R8 : qR S3 16 8 = some p1 := by rw [e3, qR_wR, if_neg (fun t => by cases t.2), e2, qR_wR, if_pos ⟨rfl, rfl⟩]
  have R9 : qR S3 16 9 = some p2 := by rw [e3, qR_wR, if_pos ⟨rfl, rfl⟩]; rfl
  have O8 := qO_of R8
  have O9 := qO_of R9
  have rr := rC.fx w k2 R g3 (by decide)
  have uu := uC.fr w k1 UK g3 (by decide)
  have H3 : HtK S3 17 := H.fr w w.k17 g3 (by decide) (by decide) (by decide) (by decide)
  have d3 : dnC S3 := by rw [e3, e2]; exact d
  have q3 : qn S3 = qn S := by rw [e3, e2]; rfl
  have e10 : qI S3 p2 10 = qI S p2 10 := g3.kI k2 (by decide) rfl
  have e11 : qI S3 p2 11 = qI S p2 11 := g3.kI k2 (by decide) rfl
  refine ⟨f8, f9, f9', fun t1 t2 t3 => ?_⟩
  obtain ⟨Q10, p10, h10⟩ := h t1 t2 t3
  rw [O8, O9, e10] at p10 ⊢
  refine ⟨_, frX4_seek w3 (ct_seek w3 d3 w3.k17 (by rw [q3]; exact hq.2) uu.2.1 rr.2.1 H3 rr.2.2 uu.2.2 hl (fun y => by rw [rr.1.tc]; exact hc7 y) p10), ?_⟩
  rintro S11 ⟨⟨g11, hf, hb⟩, f11⟩ w11 s11
  obtain ⟨x9, h11⟩ := h10 S11 g11 w11 s11
  have rr1 := rC.fx w3 rr.2.1 rr.2.2 f11 (by decide)
  have uu1 := uC.fr w3 uu.2.1 uu.2.2 f11 (by decide)
  have R8' : qR S11 16 8 = some p1 := by rw [f11.kO w3.k16 (by decide) (by decide)]; exact R8
  have R9' : qR S11 16 9 = some p2 := by rw [f11.kO w3.k16 (by decide) (by decide)]; exact R9
  have O9' := qO_of R9'
  have b11 : CkB S11 S11 p1 p2 := ⟨⟨R8', R9'⟩, ⟨rC.rf, rr1.2.1, rr1.2.2, rfl⟩, ⟨uC.rf, uu1.2⟩, fun _ => rfl, fun _ => rfl, rfl⟩
  have nn : nR S11 p2 = nR S p2 := by rw [rr1.1.nE, rr.1.nE]
  have nb : 0 ≤ nR S p2 ∧ nR S p2 ≤ 1296 := by unfold nR; have := R.2; omega
  have nI : (qI S11 p2 2).toInt = nR S p2 := nn
  refine ⟨x9, ?_⟩
  obtain ⟨Q16, p16, h16⟩ := h11
  rw [O9'] at p16 ⊢
  have q11 : qn S ≤ qn S11 := by rw [← q3]; exact f11.1.2
  refine ⟨_, frX1_makeRoom w11 (ct_kroom w11 ⟨by omega, by omega⟩ (by omega) p16), ?_⟩
  rintro S17 ⟨⟨g17, z17, l17⟩, f17⟩ w17 s17
  have rr2 := rC.fx w11 rr1.2.1 rr1.2.2 f17 (by decide)
  have uu2 := uC.fr w11 uu1.2.1 uu1.2.2 f17 (by decide)
  obtain ⟨t0, t1', t2'⟩ := h17_k w11
  have o0 := qO_eq (f17.kO (j := 0) w11.k17 (by decide) (by decide))
  have o2 := qO_eq (f17.kO (j := 2) w11.k17 (by decide) (by decide))
  have b17 : CkB S11 S17 p1 p2 := by
    refine ⟨⟨by rw [f17.kO w11.k16 (by decide) (by decide)]; exact R8', by rw [f17.kO w11.k16 (by decide) (by decide)]; exact R9'⟩, ⟨rr2.1, rr2.2.1, rr2.2.2, f17.kI rr1.2.1 (by decide) rfl⟩, uu2, fun y => ?_, fun i => ?_, by rw [o0, (f17.1.1 _ (by rw [t0]; decide)).2]⟩
    · unfold fX4_isWrong
      rw [o0, o2, (f17.1.1 _ (by rw [t2']; decide)).2, f17.kI t2' (by decide) rfl, f17.kI t0 (by decide) rfl]
      rfl
    · unfold hC
      rw [o0]
      exact f17.kI t0 (by decide) rfl
  obtain ⟨Q20, p20, h20⟩ := h16 S17 g17 w17 s17
  refine ⟨_, ct_body w17 b17 p20, ?_⟩
  rintro S21 ⟨g21, k21, c21⟩ w21 s21 S23 e23 k23 w23
  obtain ⟨n, h23⟩ := h20 S21 g21 w21 s21 S23 e23 k23 w23
  have b21 := b17.ck w17 k21
  have f23 : cfr [] [(41, 7)] S21 S23 := by rw [e23]; exact cfr.oI k23 rfl
  obtain ⟨y1, y2, y3⟩ := ck_k w21
  have p : ∀ j, qO S23 16 j = qO S21 16 j := fun j => by rw [e23]; rfl
  have C : ∀ i, kCk S23 i = kCk S21 i := fun i => by unfold kCk; rw [p]; exact f23.kI y2 (by decide) rfl
  have W : ∀ i, kW S23 i = kW S21 i := fun i => by unfold kW; rw [p]; exact f23.kI y3 (by decide) rfl
  have b23 : CkB S11 S23 p1 p2 := b21.fr w21 (f23.mo rfl rfl)
  have e7 : (qI S23 16 7).toInt = 1 := by rw [e23, qI_wI, if_pos ⟨rfl, rfl⟩]; rfl
  have P : FsIk S11 S23 p1 p2 0 := by
    refine ⟨b23, fun i hi hc => ?_, fun _ i hi => by omega⟩
    rw [C] at hc
    rcases k21.2.2.2.1 i hc with t | t
    · exact absurd (z17 i (by rw [nn] at hi; omega)) t
    · exact Or.inl (by rw [W]; exact t)
  have M23 : MkCk S23 ≤ 125712 := by
    unfold MkCk
    have t := sumN_top (g := kMk S23) (c := 97) (fun j => by
      unfold kMk
      split
      · exact Nat.le_refl _
      · have := kS_le (S := S23) j; omega) (nR S23 (qO S23 16 9)).toNat
    have : nR S23 (qO S23 16 9) = nR S p2 := by rw [b23.o.2, b23.2.1.1.nE, nn]
    rw [this] at t ⊢
    omega
  have q17 : qn S11 ≤ qn S17 := f17.1.2
  have q23 : qn S23 = qn S17 := by rw [e23]; exact s21.2.1
  have hf' : HtF S S11 17 p1 p2 (qI S p2 10).toInt := by
    obtain ⟨hb1, hc1⟩ := hf
    refine ⟨⟨hb1.1, hb1.2.1, ⟨rr.1.tr hb1.2.2.1.1, hb1.2.2.1.2⟩, ⟨uu.1.tr hb1.2.2.2.1.1, hb1.2.2.2.1.2⟩, by have := hb1.2.2.2.2; rw [rr.1.nE] at this; exact this⟩, fun i k hi hbt => ?_⟩
    have z := hc1 i k (by rw [rr.1.nE]; exact hi) hbt
    refine ⟨z.1, ?_⟩
    rcases z.2 with t | t
    · exact Or.inl t
    · refine Or.inr ?_
      have e1 : ndW S3 p1 p2 (Int32.ofInt i) = ndW S p1 p2 (Int32.ofInt i) := by unfold ndW; rw [(uu.1.tk rr.1).1]
      have e2' : pgV S3 p1 p2 (Int32.ofInt i) = pgV S p1 p2 (Int32.ofInt i) := by
        unfold pgV
        rw [rr.1.op, (uu.1.tk rr.1).2]
      have e3' : lfV S3 p1 p2 (Int32.ofInt i) k = lfV S p1 p2 (Int32.ofInt i) k := by unfold lfV; rw [e1, e2']
      have e9 : qI S3 p2 9 = qI S p2 9 := rr.1.2.1
      have e5 : qI S3 (qO S3 p2 7) = qI S (qO S p2 7) := by rw [rr.1.2.2.1.2.2, rr.1.2.2.2.2.2]
      unfold ClS ClG ClTk ClK at t ⊢
      simp only [e1, e3', e9, e5, rr.1.nE, rr.1.op, rr.1.ta, rr.1.tc, rr.1.ch] at t
      exact t
  refine ⟨n, ct_ff60 (A := S23) (D := S11) (q := p1) (r := p2) (fun u t => ⟨S11, ⟨rr.1.tr rr1.1, uu.1.tr uu1.1, by rw [f11.kI rr.2.1 (by decide) rfl]; exact e11⟩, hf', fun t1 => hb (by rw [rr.1.nE]; exact t1), t⟩) (by rw [nn]; omega) (fun y => by rw [rr1.1.tc, rr.1.tc]; exact hc7 y) (c21.mo (fun i h => by rw [C]; exact h)) n P CzR.rf (by omega) (fun t => by omega) (fun _ => by rw [li_0k]; omega) (by rw [li_0k]; omega) h23⟩
end FFX
/-! what a Row that was checked without a fault promises -/
def HgS (S : MS) (q r : Nat) (C : Nat → Prop) (x : Int32) (h : Int) : Prop := (0 ≤ h ∧ ndW S q r x ≤ h ∧ lfV S q r x h ≤ (qI S r 10).toInt) ∧ (¬ (fX6_goesOn S (fX8_opAt S r x)).toInt = 0 → (x + 1).toInt < nR S r ∧ C (x + 1).toInt.toNat ∧ (fX8_heightAt S r (x + 1)).toInt = lfV S q r x h) ∧ (∀ j : Int32, 0 ≤ j.toInt → j.toInt < (fX8_targetCount S r x).toInt → 0 ≤ (fX8_targetAt S r x j).toInt → (fX8_targetAt S r x j).toInt < nR S r → C (fX8_targetAt S r x j).toInt.toNat ∧ (fX8_heightAt S r (fX8_targetAt S r x j)).toInt = lfV S q r x h) ∧ (∀ c : Int32, 0 ≤ c.toInt → c.toInt < (qI S r 9).toInt → ¬ (fX8_catchHas S r c x).toInt = 0 → 0 ≤ (qI S (qO S r 7) c.toInt.toNat).toInt → (qI S (qO S r 7) c.toInt.toNat).toInt < nR S r → C (qI S (qO S r 7) c.toInt.toNat).toInt.toNat ∧ (fX8_heightAt S r (qI S (qO S r 7) c.toInt.toNat)).toInt = 1)
def ChC (S : MS) (q r : Nat) (C : Nat → Prop) : Prop := (0 < nR S r → C 0 ∧ (fX8_heightAt S r 0).toInt = 0) ∧ ∀ i : Nat, (i : Int) < nR S r → C i → HgS S q r C (Int32.ofInt i) (fX8_heightAt S r (Int32.ofInt i)).toInt ∧ RtP S q r (Int32.ofInt i)
section CHP
variable {S u D : MS} {q r i k : Nat} {x : Int32} {lim : Int}
theorem iw_0 (H : HtK D 17) (hi : (i : Int) < (qN D (qO D 17 0) : Int)) (h2 : i < 2147483648) (h : (fX4_isWrong D 17 (Int32.ofInt i)).toInt = 0) : (hX D 17 i).toInt = 0 ∧ (fJ6_bitCount_0f7a4 D (hC D 17 i)).toInt ≤ 1 := by
  have e : (Int32.ofInt (i : Int)).toInt = (i : Int) := Int32.toInt_ofInt_of_le (by omega) (by omega)
  unfold fX4_isWrong at h
  have l := H.2.2
  rw [e, if_neg (by omega), if_neg (by omega)] at h
  rw [show ((i : Int)).toNat = i by omega] at h
  unfold hX hC
  by_cases c : (qI D (qO D 17 2) i).toInt = 0
  · rw [if_pos c] at h
    by_cases d : (fJ6_bitCount_0f7a4 D (qI D (qO D 17 0) i)).toInt ≤ 1
    · exact ⟨c, d⟩
    · rw [if_neg d] at h
      exact absurd h (show ¬ (1 : Int32).toInt = 0 by decide)
  · rw [if_neg c] at h
    exact absurd h (show ¬ (1 : Int32).toInt = 0 by decide)
theorem hg_of (H : HtK D 17) (K : KtI D u q r (nR D r)) (hN : nR D r ≤ 1296) (hl : nR D r ≤ (qN D (qO D 17 0) : Int)) (iw : ∀ i : Nat, (i : Int) < nR D r → (fX4_isWrong D 17 (Int32.ofInt i)).toInt = 0) (hi : (i : Int) < nR D r) (k30 : k ≤ 30) (hb : btk (hC D 17 i) k = true) : (fX8_heightAt u r (Int32.ofInt i)).toInt = (k : Int) := by
  have e : (Int32.ofInt (i : Int)).toInt = (i : Int) := Int32.toInt_ofInt_of_le (by omega) (by omega)
  have iw' := iw_0 H (i := i) (by omega) (by omega) (iw i hi)
  have tz := tz_bit (S := D) k30 hb (fun j hj => bc_bits iw'.2 hj hb)
  have nz := bt_nzk hb
  have ev : (fX4_heightAt D 17 (Int32.ofInt i)).toInt = (k : Int) := by
    unfold fX4_heightAt
    rw [e, if_neg (by omega), if_neg (by omega), show ((i : Int)).toNat = i by omega]
    have : ¬ (qI D (qO D 17 0) i).toInt = 0 := nz
    rw [if_neg this]
    exact tz
  have small : ∀ j : Fin 31, ∀ v : Int32, v = Int32.ofNat j.val → (vp_nar .byte (v.toInt8.toInt32)).toInt = (j.val : Int) := by
    intro j v hv
    subst hv
    revert j
    decide +kernel
  have ek : fX4_heightAt D 17 (Int32.ofInt i) = Int32.ofNat k := by
    have := i32nk (x := fX4_heightAt D 17 (Int32.ofInt i)) (by omega)
    rw [ev] at this
    rw [this]
    congr 1
  unfold fX8_heightAt
  obtain ⟨b, e12, l12, z⟩ := K
  rw [e, if_neg (by rw [e12]; exact Option.some_ne_none _), if_neg (by omega), if_pos (by omega), show ((i : Int)).toNat = i by omega, z i hi]
  unfold hgV
  exact small ⟨k, by omega⟩ _ ek
theorem ChC.of (hq : rC S D r ∧ uC S D q ∧ qI D r 11 = qI S r 11) (hf : HtF S D 17 q r lim) (h0 : 0 < nR S r → btk (hC D 17 0) 0 = true) (hff : FfQ D u q r) (hlim : lim = (qI u r 10).toInt) (h30 : lim ≤ 30) : ∃ C, ChC u q r C := by
  obtain ⟨rc, uc, e11⟩ := hq
  obtain ⟨⟨C, c0, cc⟩, iw, K⟩ := hff
  have b := K.1
  have rc2 : rC D u r := b.2.1.1
  have uc2 : uC D u q := b.2.2.1.1
  have rS := rc.tr rc2
  have uS := uc.tr uc2
  have R := b.2.1.2.2.1
  have nD : nR D r = nR S r := rc.nE
  have nU : nR u r = nR S r := rS.nE
  have n2 : nR D r = nR u r := by rw [nD, nU]
  have hN : nR D r ≤ 1296 := by rw [n2]; unfold nR; have := R.2; omega
  have hl : nR D r ≤ (qN D (qO D 17 0) : Int) := by rw [nD]; exact hf.1.2.2.2.2
  have H := hf.1.1.2
  have hg : ∀ {i k : Nat}, (i : Int) < nR D r → k ≤ 30 → btk (hC D 17 i) k = true → (fX8_heightAt u r (Int32.ofInt i)).toInt = (k : Int) := fun hi hk hb => hg_of H K hN hl iw hi hk hb
  have hg' : ∀ {y : Int32} {k : Nat}, 0 ≤ y.toInt → y.toInt < nR D r → k ≤ 30 → btk (hC D 17 y.toInt.toNat) k = true → (fX8_heightAt u r y).toInt = (k : Int) := fun {y k} y0 y1 hk hb => by
    have := hg (i := y.toInt.toNat) (by omega) hk hb
    rw [ofI (v := y) (by omega)] at this
    exact this
  refine ⟨fun i => C i ∧ ∃ k : Nat, btk (hC D 17 i) k = true, fun t => ?_, fun i hi hc => ?_⟩
  · have b0 := h0 (by rw [← nU]; exact t)
    refine ⟨⟨c0 (by rw [n2]; exact t), 0, b0⟩, ?_⟩
    have l0 : (0 : Int32).toInt = 0 := by decide
    exact hg' (y := 0) (by decide) (by rw [l0, n2]; exact t) (by decide) (by rw [l0]; exact b0)
  · obtain ⟨ci, k, hb⟩ := hc
    have hi' : (i : Int) < nR D r := by rw [n2]; exact hi
    obtain ⟨k30, hw⟩ := hf.2 i k (by rw [← nD]; exact hi') hb
    have iwi := iw_0 H (i := i) (by omega) (by omega) (iw i hi')
    have cl : ClS S D 17 q r lim (Int32.ofInt i) k := by
      rcases hw with t | t
      · exact absurd iwi.1 t
      · exact t
    have ek := hg hi' k30 hb
    obtain ⟨cs, rt⟩ := cc i hi' ci
    have ndE : ndW u q r (Int32.ofInt i) = ndW S q r (Int32.ofInt i) := by unfold ndW; rw [(uS.tk rS).1]
    have pgE : pgV u q r (Int32.ofInt i) = pgV S q r (Int32.ofInt i) := by unfold pgV; rw [rS.op, (uS.tk rS).2]
    have lfE : ∀ h : Int, lfV u q r (Int32.ofInt i) h = lfV S q r (Int32.ofInt i) h := fun h => by unfold lfV; rw [ndE, pgE]
    have gb := pgV_b (S := S) (q := q) (r := r) (x := Int32.ofInt i)
    obtain ⟨⟨n1, n2'⟩, cG, cT, cK⟩ := cl
    have l0 : 0 ≤ lfV S q r (Int32.ofInt i) k := by unfold lfV; omega
    have l30 : lfV S q r (Int32.ofInt i) k ≤ 30 := by omega
    have e9 : qI u r 9 = qI S r 9 := rS.2.1
    have e7 : qI u (qO u r 7) = qI S (qO S r 7) := by rw [rS.2.2.1.2.2, rS.2.2.2.2.2]
    have e9D : qI D r 9 = qI S r 9 := rc.2.1
    have e7D : qI D (qO D r 7) = qI S (qO S r 7) := by rw [rc.2.2.1.2.2, rc.2.2.2.2.2]
    refine ⟨⟨⟨by rw [ek]; omega, by rw [ek, ndE]; exact n1, by rw [ek, lfE, ← hlim]; exact n2'⟩, fun a => ?_, fun j a b' t0 t1 => ?_, fun c a b' d t0 t1 => ?_⟩, fun a a' => ?_⟩
    · have a' : ¬ (fX6_goesOn S (fX8_opAt S r (Int32.ofInt i))).toInt = 0 := by rw [rS.op] at a; exact a
      obtain ⟨g1, g2⟩ := cG a'
      have aD : ¬ (fX6_goesOn D (fX8_opAt D r (Int32.ofInt i))).toInt = 0 := by rw [rc.op]; exact a'
      have ei : (Int32.ofInt (i : Int)).toInt = (i : Int) := Int32.toInt_ofInt_of_le (by omega) (by omega)
      have l1 : (1 : Int32).toInt = 1 := by decide
      have e1 : (Int32.ofInt (i : Int) + 1).toInt = (i : Int) + 1 := by rw [t_addk (by rw [ei, l1]; omega), ei, l1]
      refine ⟨by rw [nU]; exact g1, ⟨cs.1 aD (by omega) (by rw [nD]; exact g1), _, g2⟩, ?_⟩
      rw [hg' (by omega) (by rw [nD]; exact g1) (by omega) g2, ek, lfE]
      omega
    · rw [rS.tc] at b'
      rw [rS.ta] at t0 t1 ⊢
      rw [nU] at t1
      have g2 := cT j a b' t0 t1
      refine ⟨⟨?_, _, g2⟩, ?_⟩
      · have z := cs.2.1 j a (by rw [rc.tc]; exact b') (by rw [rc.ta]; exact t0) (by rw [rc.ta, nD]; exact t1)
        rw [rc.ta] at z
        exact z
      · rw [hg' t0 (by rw [nD]; exact t1) (by omega) g2, ek, lfE]
        omega
    · rw [e9] at b'
      rw [rS.ch] at d
      rw [e7] at t0 t1 ⊢
      rw [nU] at t1
      have g2 := cK c a b' b' d t0 t1
      refine ⟨⟨?_, _, g2⟩, ?_⟩
      · have z := cs.2.2 c a (by rw [e9D]; exact b') (by rw [rc.ch]; exact d) (by rw [e7D]; exact t0) (by rw [e7D, nD]; exact t1)
        rw [e7D] at z
        exact z
      · exact hg' t0 (by rw [nD]; exact t1) (by decide) g2
    · have z := rt (by rw [← rc2.op]; exact a) (by rw [← rc2.op]; exact a')
      rw [(uc2.tk rc2).1, b.2.1.2.2.2, uc2.fk.2.2]
      exact z
end CHP
/-! Machine: pushes and pops that stray nowhere -/
def Mx (S : MS) : Prop := (0 ≤ (qI S 44 11).toInt ∧ (qI S 44 11).toInt ≤ 59) ∧ (qN S (qO S 44 8) : Int) = 1440 ∧ (qN S (qO S 44 9) : Int) = 1440
def tpM (S : MS) : Int := (qI S 44 14).toInt
/-- how many places a value of a kind is -/
def plO (x : Int32) : Int := if x.toInt = 0 then 0 else if x.toInt = 2 then 2 else 1
section MPP
variable {K : List Nat} {F : List (Nat × Nat)} {S u v U V : MS} {Q : MS → Prop} {Q1 : Int64 → MS → Prop} {x : Int32} {y : Int64}
theorem Mx.fr (h : Mx S) (w : wfC S) (f : cfr K F S u) (hK : K.contains 45 = false) (h11 : F.contains (45, 11) = false) (h8 : F.contains (45, 8) = false) (h9 : F.contains (45, 9) = false) : Mx u := by
  obtain ⟨a, b, c⟩ := h
  refine ⟨by rw [f.kI w.k44 hK h11]; exact a, ?_, ?_⟩
  · rw [f.kL w w.k44 (w.ptr (by decide)) hK h8]; exact b
  · rw [f.kL w w.k44 (w.ptr (by decide)) hK h9]; exact c
theorem ct_mpush (m : Mx S) (ht : 0 ≤ tpM S ∧ tpM S < 24) (h : wX5_push S y Q) : wX5_push S y (fun u => (Q u ∧ tpM u = tpM S + 1) ∧ cfr [405] [(45, 14)] S u) := by
  have l24 : (24 : Int32).toInt = 24 := by decide
  have l1 : (1 : Int32).toInt = 1 := by decide
  obtain ⟨m1, m2, m3⟩ := m
  unfold tpM at ht
  unfold wX5_push at h ⊢
  intro a3 e3
  have em : (qI S 44 11 * (24 : Int32)).toInt = 24 * (qI S 44 11).toInt := by rw [t_mulk (by rw [l24]; omega), l24]; omega
  have ea : a3.toInt = 24 * (qI S 44 11).toInt + (qI S 44 14).toInt := by rw [e3, t_addk (by rw [em]; omega), em]
  obtain ⟨h1, h2⟩ := h a3 e3
  refine ⟨fun c => absurd c (by omega), fun c => ?_⟩
  obtain ⟨h1, h2⟩ := h2 c
  refine ⟨fun c => absurd c (by omega), fun c => ?_⟩
  obtain ⟨h1, h2⟩ := h2 c
  refine ⟨fun c => absurd c (by omega), fun c => ?_⟩
  obtain ⟨h1, h2⟩ := h2 c
  refine ⟨fun c => ?_, fun c => absurd c (by omega)⟩
  obtain ⟨b, h3⟩ := h1 c
  refine ⟨b, fun S14 e14 k14 w14 S16 e16 k16 w16 => ⟨⟨h3 S14 e14 k14 w14 S16 e16 k16 w16, ?_⟩, ?_⟩⟩
  · have e : qI S14 44 14 = qI S 44 14 := by rw [e14]; rfl
    unfold tpM
    rw [e16, qI_wI, if_pos ⟨rfl, rfl⟩, e, t_addk (by rw [l1]; omega), l1]
  · exact (show cfr [405] [(45, 14)] S S14 by rw [e14]; exact cfr.aJ k14 rfl).tr (by rw [e16]; exact cfr.oI k16 rfl)
theorem ct_mpop (m : Mx S) (ht : 1 ≤ tpM S ∧ tpM S ≤ 24) (h : wX5_pop S Q1) : wX5_pop S (fun r u => (Q1 r u ∧ tpM u = tpM S - 1) ∧ cfr [] [(45, 14)] S u) := by
  have l24 : (24 : Int32).toInt = 24 := by decide
  have l1 : (1 : Int32).toInt = 1 := by decide
  obtain ⟨m1, m2, m3⟩ := m
  unfold tpM at ht
  unfold wX5_pop at h ⊢
  intro a4 e4
  have em : (qI S 44 11 * (24 : Int32)).toInt = 24 * (qI S 44 11).toInt := by rw [t_mulk (by rw [l24]; omega), l24]; omega
  have es : (qI S 44 11 * (24 : Int32) + qI S 44 14).toInt = 24 * (qI S 44 11).toInt + (qI S 44 14).toInt := by rw [t_addk (by rw [em]; omega), em]
  have ea : a4.toInt = 24 * (qI S 44 11).toInt + (qI S 44 14).toInt - 1 := by rw [e4, t_subk (by rw [es, l1]; omega), es, l1]
  obtain ⟨h1, h2⟩ := h a4 e4
  refine ⟨fun c => absurd c (by omega), fun c => ?_⟩
  obtain ⟨h1, h2⟩ := h2 c
  refine ⟨fun c => absurd c (by omega), fun c => ?_⟩
  obtain ⟨h1, h2⟩ := h2 c
  refine ⟨fun c => absurd c (by omega), fun c => ?_⟩
  obtain ⟨h1, h2⟩ := h2 c
  refine ⟨fun c => ?_, fun c => absurd c (by omega)⟩
  intro S14 e14 k14 w14
  obtain ⟨b, h3⟩ := h1 c S14 e14 k14 w14
  refine ⟨b, ⟨h3, ?_⟩, ?_⟩
  · unfold tpM
    rw [e14, qI_wI, if_pos ⟨rfl, rfl⟩, t_subk (by rw [l1]; omega), l1]
  · rw [e14]; exact cfr.oI k14 rfl
theorem ct_mpush2 (w : wfC S) (m : Mx S) (ht : 0 ≤ tpM S ∧ tpM S + plO x ≤ 24) (h : wX5_push_ S x y Q) : wX5_push_ S x y (fun u => (Q u ∧ tpM u = tpM S + plO x) ∧ cfr [405] [(45, 14)] S u) := by
  unfold wX5_push_ at h ⊢
  have J : ∀ U : MS, Mx U → cfr [405] [(45, 14)] S U → tpM U = tpM S + (if x.toInt = 0 then 0 else 1) → w_X5_push__J9 Q U x → w_X5_push__J9 (fun u => (Q u ∧ tpM u = tpM S + plO x) ∧ cfr [405] [(45, 14)] S u) U x := fun U mU f et hj => by
    unfold w_X5_push__J9 at hj ⊢
    intro wU
    obtain ⟨h1, h2⟩ := hj wU
    unfold plO at ht
    refine ⟨fun c => ?_, fun c => ⟨⟨h2 c, ?_⟩, f⟩⟩
    · obtain ⟨Q2, p2, h3⟩ := h1 c
      rw [if_neg (by omega), if_pos c] at ht
      rw [if_neg (by omega)] at et
      refine ⟨_, ct_mpush mU ⟨by omega, by omega⟩ p2, ?_⟩
      rintro S3 ⟨⟨g3, t3⟩, f3⟩ w3 s3
      refine ⟨⟨h3 S3 g3 w3 s3, ?_⟩, f.tr f3⟩
      unfold plO
      rw [if_neg (by omega), if_pos c]
      omega
    · unfold plO
      rw [et, if_neg c]
  have p0 : 0 ≤ plO x ∧ plO x ≤ 2 := by
    unfold plO
    repeat' split
    all_goals omega
  refine ⟨fun c => J S m cfr.rf (by rw [if_pos c]; omega) (h.1 c), fun c => ?_⟩
  obtain ⟨Q6, p6, h6⟩ := h.2 c
  have pp : 1 ≤ plO x := by unfold plO; rw [if_neg c]; split <;> omega
  refine ⟨_, ct_mpush m ⟨ht.1, by omega⟩ p6, ?_⟩
  rintro S7 ⟨⟨g7, t7⟩, f7⟩ w7 s7
  exact J S7 (m.fr w f7 (by decide) (by decide) (by decide) (by decide)) f7 (by rw [if_neg c]; exact t7) (h6 S7 g7 w7 s7)
theorem ct_mpop2 (w : wfC S) (m : Mx S) (ht : plO x ≤ tpM S ∧ tpM S ≤ 24) (h : wX5_pop_ S x Q1) : wX5_pop_ S x (fun r u => (Q1 r u ∧ tpM u = tpM S - plO x) ∧ cfr [] [(45, 14)] S u) := by
  have J : ∀ U : MS, Mx U → cfr [] [(45, 14)] S U → tpM U = tpM S - (if x.toInt = 2 then 1 else 0) → w_X5_pop__J10 Q1 U x → w_X5_pop__J10 (fun r u => (Q1 r u ∧ tpM u = tpM S - plO x) ∧ cfr [] [(45, 14)] S u) U x := fun U mU f et hj => by
    unfold w_X5_pop__J10 at hj ⊢
    intro wU
    obtain ⟨h1, h2⟩ := hj wU
    unfold plO at ht
    refine ⟨fun c => ⟨⟨h1 c, ?_⟩, f⟩, fun c => ?_⟩
    · unfold plO
      rw [if_pos c]
      rw [if_neg (by omega)] at et
      exact et
    · obtain ⟨Q2, p2, h3⟩ := h2 c
      rw [if_neg c] at ht
      by_cases d : x.toInt = 2
      · rw [if_pos d] at ht et
        refine ⟨_, ct_mpop mU ⟨by omega, by omega⟩ p2, ?_⟩
        rintro r3 S4 ⟨⟨g4, t4⟩, f4⟩ w4 s4
        refine ⟨⟨h3 r3 S4 g4 w4 s4, ?_⟩, f.tr f4⟩
        unfold plO
        rw [if_neg c, if_pos d]
        omega
      · rw [if_neg d] at ht et
        refine ⟨_, ct_mpop mU ⟨by omega, by omega⟩ p2, ?_⟩
        rintro r3 S4 ⟨⟨g4, t4⟩, f4⟩ w4 s4
        refine ⟨⟨h3 r3 S4 g4 w4 s4, ?_⟩, f.tr f4⟩
        unfold plO
        rw [if_neg c, if_neg d]
        omega
  unfold wX5_pop_ at h ⊢
  refine ⟨fun c => ?_, fun c => J S m cfr.rf (by rw [if_neg c]; omega) (h.2 c)⟩
  obtain ⟨Q7, p7, h7⟩ := h.1 c
  have pp : plO x = 2 := by unfold plO; rw [if_neg (by omega), if_pos c]
  refine ⟨_, ct_mpop m ⟨by omega, ht.2⟩ p7, ?_⟩
  rintro r8 S9 ⟨⟨g9, t9⟩, f9⟩ w9 s9
  exact J S9 (m.fr w f9 (by decide) (by decide) (by decide) (by decide)) f9 (by rw [if_pos c]; exact t9) (h7 r8 S9 g9 w9 s9)
end MPP
/-! Machine: locals, heap, fields that stray nowhere -/
section MPQ
variable {S u v U V : MS} {Q : MS → Prop} {Q1 : Int64 → MS → Prop} {Q2 : Int32 → MS → Prop} {x : Int32} {y : Int64}
theorem ct_mlocal (m : Mx S) (hx : 0 ≤ x.toInt ∧ x.toInt < 24) (h : wX5_localAt S x Q1) : wX5_localAt S x (fun z u => Q1 z u ∧ u = S) := by
  have l24 : (24 : Int32).toInt = 24 := by decide
  obtain ⟨m1, m2, m3⟩ := m
  unfold wX5_localAt at h ⊢
  intro a3 e3
  have em : (qI S 44 11 * (24 : Int32)).toInt = 24 * (qI S 44 11).toInt := by rw [t_mulk (by rw [l24]; omega), l24]; omega
  have ea : a3.toInt = 24 * (qI S 44 11).toInt + x.toInt := by rw [e3, t_addk (by rw [em]; omega), em]
  obtain ⟨h1, h2⟩ := h a3 e3
  refine ⟨fun c => absurd c (by omega), fun c => ?_⟩
  obtain ⟨h1, h2⟩ := h2 c
  refine ⟨fun c => absurd c (by omega), fun c => ?_⟩
  obtain ⟨h1, h2⟩ := h2 c
  refine ⟨fun c => absurd c (by omega), fun c => ?_⟩
  obtain ⟨h1, h2⟩ := h2 c
  exact ⟨fun c => ⟨(h1 c).1, (h1 c).2, rfl⟩, fun c => absurd c (by omega)⟩
theorem ct_msetLocal (m : Mx S) (hx : 0 ≤ x.toInt ∧ x.toInt < 24) (h : wX5_setLocal S x y Q) : wX5_setLocal S x y (fun u => Q u ∧ cfr [404] [] S u) := by
  have l24 : (24 : Int32).toInt = 24 := by decide
  obtain ⟨m1, m2, m3⟩ := m
  unfold wX5_setLocal at h ⊢
  intro a3 e3
  have em : (qI S 44 11 * (24 : Int32)).toInt = 24 * (qI S 44 11).toInt := by rw [t_mulk (by rw [l24]; omega), l24]; omega
  have ea : a3.toInt = 24 * (qI S 44 11).toInt + x.toInt := by rw [e3, t_addk (by rw [em]; omega), em]
  obtain ⟨h1, h2⟩ := h a3 e3
  refine ⟨fun c => absurd c (by omega), fun c => ?_⟩
  obtain ⟨h1, h2⟩ := h2 c
  refine ⟨fun c => absurd c (by omega), fun c => ?_⟩
  obtain ⟨h1, h2⟩ := h2 c
  refine ⟨fun c => absurd c (by omega), fun c => ?_⟩
  obtain ⟨h1, h2⟩ := h2 c
  refine ⟨fun c => ?_, fun c => absurd c (by omega)⟩
  obtain ⟨b, h3⟩ := h1 c
  exact ⟨b, fun S14 e14 k14 w14 => ⟨h3 S14 e14 k14 w14, by rw [e14]; exact cfr.aJ k14 rfl⟩⟩
theorem ct_mheap (hx : 0 ≤ x.toInt ∧ x.toInt < (qI S 44 3).toInt ∧ x.toInt < (qN S (qO S 44 2) : Int)) (h : wX5_heapAt S x Q2) : wX5_heapAt S x (fun z u => Q2 z u ∧ u = S) := by
  unfold wX5_heapAt at h ⊢
  refine ⟨fun c => absurd c (by omega), fun c => ?_⟩
  obtain ⟨h1, h2⟩ := h.2 c
  refine ⟨fun c => absurd c (by omega), fun c => ?_⟩
  obtain ⟨h1, h2⟩ := h2 c
  exact ⟨fun c => ⟨(h1 c).1, (h1 c).2, rfl⟩, fun c => absurd c (by omega)⟩
theorem ct_msetField (hx : 0 ≤ x.toInt ∧ x.toInt < 24) (h : wX5_setField S x y Q) : wX5_setField S x y (fun u => Q u ∧ cfr [402] [] S u) := by
  unfold wX5_setField at h ⊢
  refine ⟨fun c => absurd c (by omega), fun c => ⟨fun d => ?_, fun d => absurd hx.2 d⟩⟩
  obtain ⟨b, h3⟩ := (h.2 c).1 d
  exact ⟨b, fun S6 e6 k6 w6 => ⟨h3 S6 e6 k6 w6, by rw [e6]; exact cfr.aJ k6 rfl⟩⟩
/-- the pushes of a shuffle -/
def shV (o : Int) : Int × Int := if o = 87 then (1, 0) else if o = 88 then (2, 0) else if o = 89 then (1, 2) else if o = 90 then (2, 3) else if o = 92 then (2, 4) else if o = 95 then (2, 2) else (2, 0)
theorem ct_mshuffle (w : wfC S) (m : Mx S) (ht : (shV x.toInt).1 ≤ tpM S ∧ tpM S ≤ 24 ∧ tpM S - (shV x.toInt).1 + (shV x.toInt).2 ≤ 24) (h : wX5_shuffle S x Q) : wX5_shuffle S x (fun u => (Q u ∧ tpM u = tpM S - (shV x.toInt).1 + (shV x.toInt).2) ∧ cfr [405] [(45, 14)] S u) := by
  have J25 : ∀ (U : MS) (t v : Int64), wfC U → Mx U → cfr [405] [(45, 14)] S U → tpM U = tpM S - (shV x.toInt).1 → 0 ≤ tpM U → tpM U + (shV x.toInt).2 ≤ 24 → w_X5_shuffle_J25 Q U t x v → w_X5_shuffle_J25 (fun u => (Q u ∧ tpM u = tpM S - (shV x.toInt).1 + (shV x.toInt).2) ∧ cfr [405] [(45, 14)] S u) U t x v := fun U t v wU mU f et t0 t1 hj => by
    unfold w_X5_shuffle_J25 at hj ⊢
    intro w'
    obtain ⟨h1, h2⟩ := hj w'
    unfold shV at et t1
    have mv : ∀ {A B : MS}, Mx A → wfC A → cfr [405] [(45, 14)] A B → Mx B := fun m w f => m.fr w f (by decide) (by decide) (by decide) (by decide)
    refine ⟨fun c => ?_, fun c => ?_⟩
    · rw [if_neg (by omega), if_neg (by omega), if_pos c] at et t1
      simp only at et t1
      obtain ⟨Q5, p5, h5⟩ := h1 c
      refine ⟨_, ct_mpush mU ⟨t0, by omega⟩ p5, ?_⟩
      rintro S6 ⟨⟨g6, t6⟩, f6⟩ w6 s6
      obtain ⟨Q8, p8, h8⟩ := h5 S6 g6 w6 s6
      refine ⟨_, ct_mpush (mv mU wU f6) ⟨by omega, by omega⟩ p8, ?_⟩
      rintro S9 ⟨⟨g9, t9⟩, f9⟩ w9 s9
      refine ⟨⟨h8 S9 g9 w9 s9, ?_⟩, (f.tr f6).tr f9⟩
      unfold shV
      rw [if_neg (by omega), if_neg (by omega), if_pos c]
      simp only
      omega
    obtain ⟨h1, h2⟩ := h2 c
    refine ⟨fun c2 => ?_, fun c2 => ?_⟩
    · rw [if_neg (by omega), if_neg (by omega), if_neg (by omega), if_pos c2] at et t1
      simp only at et t1
      obtain ⟨Q5, p5, h5⟩ := h1 c2
      refine ⟨_, ct_mpush mU ⟨t0, by omega⟩ p5, ?_⟩
      rintro S6 ⟨⟨g6, t6⟩, f6⟩ w6 s6
      obtain ⟨Q8, p8, h8⟩ := h5 S6 g6 w6 s6
      have m6 := mv mU wU f6
      refine ⟨_, ct_mpush m6 ⟨by omega, by omega⟩ p8, ?_⟩
      rintro S9 ⟨⟨g9, t9⟩, f9⟩ w9 s9
      obtain ⟨Q10, p10, h10⟩ := h8 S9 g9 w9 s9
      refine ⟨_, ct_mpush (mv m6 w6 f9) ⟨by omega, by omega⟩ p10, ?_⟩
      rintro S12 ⟨⟨g12, t12⟩, f12⟩ w12 s12
      refine ⟨⟨h10 S12 g12 w12 s12, ?_⟩, ((f.tr f6).tr f9).tr f12⟩
      unfold shV
      rw [if_neg (by omega), if_neg (by omega), if_neg (by omega), if_pos c2]
      simp only
      omega
    obtain ⟨h1, h2⟩ := h2 c2
    have non : ∀ {o : Int}, x.toInt = o → (o = 91 ∨ o = 93 ∨ o = 94) → tpM U = tpM S - (shV x.toInt).1 + (shV x.toInt).2 := fun {o} eo ho => by
      have e : shV x.toInt = (2, 0) := by unfold shV; rw [if_neg (by omega), if_neg (by omega), if_neg (by omega), if_neg (by omega), if_neg (by omega), if_neg (by omega)]
      rw [if_neg (by omega), if_neg (by omega), if_neg (by omega), if_neg (by omega), if_neg (by omega), if_neg (by omega)] at et
      rw [e]
      simp only at et ⊢
      omega
    refine ⟨fun c3 => ⟨⟨h1 c3, non c3 (by omega)⟩, f⟩, fun c3 => ?_⟩
    obtain ⟨h1, h2⟩ := h2 c3
    refine ⟨fun c4 => ?_, fun c4 => ?_⟩
    · rw [if_neg (by omega), if_neg (by omega), if_neg (by omega), if_neg (by omega), if_pos c4] at et t1
      simp only at et t1
      obtain ⟨Q5, p5, h5⟩ := h1 c4
      refine ⟨_, ct_mpush mU ⟨t0, by omega⟩ p5, ?_⟩
      rintro S6 ⟨⟨g6, t6⟩, f6⟩ w6 s6
      obtain ⟨Q8, p8, h8⟩ := h5 S6 g6 w6 s6
      have m6 := mv mU wU f6
      refine ⟨_, ct_mpush m6 ⟨by omega, by omega⟩ p8, ?_⟩
      rintro S9 ⟨⟨g9, t9⟩, f9⟩ w9 s9
      obtain ⟨Q10, p10, h10⟩ := h8 S9 g9 w9 s9
      have m9 := mv m6 w6 f9
      refine ⟨_, ct_mpush m9 ⟨by omega, by omega⟩ p10, ?_⟩
      rintro S12 ⟨⟨g12, t12⟩, f12⟩ w12 s12
      obtain ⟨Q13, p13, h13⟩ := h10 S12 g12 w12 s12
      refine ⟨_, ct_mpush (mv m9 w9 f12) ⟨by omega, by omega⟩ p13, ?_⟩
      rintro S15 ⟨⟨g15, t15⟩, f15⟩ w15 s15
      refine ⟨⟨h13 S15 g15 w15 s15, ?_⟩, (((f.tr f6).tr f9).tr f12).tr f15⟩
      unfold shV
      rw [if_neg (by omega), if_neg (by omega), if_neg (by omega), if_neg (by omega), if_pos c4]
      simp only
      omega
    obtain ⟨h1, h2⟩ := h2 c4
    refine ⟨fun c5 => ⟨⟨h1 c5, non c5 (by omega)⟩, f⟩, fun c5 => ?_⟩
    obtain ⟨h1, h2⟩ := h2 c5
    refine ⟨fun c6 => ⟨⟨h1 c6, non c6 (by omega)⟩, f⟩, fun c6 => ?_⟩
    obtain ⟨h1, h2⟩ := h2 c6
    refine ⟨fun c7 => ?_, fun c7 => ⟨⟨h2 c7, ?_⟩, f⟩⟩
    · rw [if_neg (by omega), if_neg (by omega), if_neg (by omega), if_neg (by omega), if_neg (by omega), if_pos c7] at et t1
      simp only at et t1
      obtain ⟨Q5, p5, h5⟩ := h1 c7
      refine ⟨_, ct_mpush mU ⟨t0, by omega⟩ p5, ?_⟩
      rintro S6 ⟨⟨g6, t6⟩, f6⟩ w6 s6
      obtain ⟨Q8, p8, h8⟩ := h5 S6 g6 w6 s6
      refine ⟨_, ct_mpush (mv mU wU f6) ⟨by omega, by omega⟩ p8, ?_⟩
      rintro S9 ⟨⟨g9, t9⟩, f9⟩ w9 s9
      refine ⟨⟨h8 S9 g9 w9 s9, ?_⟩, (f.tr f6).tr f9⟩
      unfold shV
      rw [if_neg (by omega), if_neg (by omega), if_neg (by omega), if_neg (by omega), if_neg (by omega), if_pos c7]
      simp only
      omega
    · have e : (shV x.toInt).2 = 0 := by
        unfold shV
        rw [if_neg c, if_neg c2, if_neg c4, if_neg c7]
        repeat' split
        all_goals rfl
      rw [e]
      unfold shV
      omega
  unfold wX5_shuffle at h ⊢
  obtain ⟨Q1', p1, h1⟩ := h
  have p0 : 1 ≤ (shV x.toInt).1 ∧ (shV x.toInt).1 ≤ 2 := by
    unfold shV
    repeat' split
    all_goals simp
  refine ⟨_, ct_mpop m ⟨by omega, by omega⟩ p1, ?_⟩
  rintro r2 S3 ⟨⟨g3, t3⟩, f3⟩ w3 s3
  obtain ⟨h2, h3⟩ := h1 r2 S3 g3 w3 s3
  have m3 := m.fr w f3 (by decide) (by decide) (by decide) (by decide)
  have J17 : (shV x.toInt).1 = 1 → w_X5_shuffle_J17 Q S3 x r2 → w_X5_shuffle_J17 (fun u => (Q u ∧ tpM u = tpM S - (shV x.toInt).1 + (shV x.toInt).2) ∧ cfr [405] [(45, 14)] S u) S3 x r2 := fun e1 hj => by
    unfold w_X5_shuffle_J17 at hj ⊢
    intro w'
    exact J25 S3 0 r2 w' m3 (f3.mo rfl rfl) (by omega) (by omega) (by omega) (hj w')
  refine ⟨fun c => J17 (by unfold shV; rw [if_pos c]) (h2 c), fun c => ?_⟩
  obtain ⟨h4, h5⟩ := h3 c
  refine ⟨fun c2 => J17 (by unfold shV; rw [if_neg c, if_neg (by omega), if_pos c2]) (h4 c2), fun c2 => ?_⟩
  have e2 : (shV x.toInt).1 = 2 := by
    unfold shV
    rw [if_neg c]
    split
    · rfl
    · repeat' split
      all_goals rfl
  obtain ⟨Q40, p40, h40⟩ := h5 c2
  refine ⟨_, ct_mpop m3 ⟨by omega, by omega⟩ p40, ?_⟩
  rintro r41 S42 ⟨⟨g42, t42⟩, f42⟩ w42 s42
  exact J25 S42 r41 r2 w42 (m3.fr w3 f42 (by decide) (by decide) (by decide) (by decide)) ((f3.mo rfl rfl).tr (f42.mo rfl rfl)) (by omega) (by omega) (by omega) (h40 r41 S42 g42 w42 s42)
end MPQ
/-! Machine: what the operations take and give, by the tables; calculate -/
theorem tb_bin : ∀ n : Fin 202, ¬ (fX6_isBinary S00k (Int32.ofNat n.val)).toInt = 0 → plK (fX6_takes S00k (Int32.ofNat n.val)) = plO (fX6_takes S00k (Int32.ofNat n.val) &&& 15) + plO (fX6_takes S00k (Int32.ofNat n.val) >>> ((4 : Int32) &&& 31)) ∧ plK (fX6_gives S00k (Int32.ofNat n.val)) = plO (fX6_gives S00k (Int32.ofNat n.val)) := by decide +kernel
theorem tb_una : ∀ n : Fin 202, ¬ (fX6_isUnary S00k (Int32.ofNat n.val)).toInt = 0 → plK (fX6_takes S00k (Int32.ofNat n.val)) = plO (fX6_takes S00k (Int32.ofNat n.val)) ∧ plK (fX6_gives S00k (Int32.ofNat n.val)) = plO (fX6_gives S00k (Int32.ofNat n.val)) := by decide +kernel
section MTB
variable {S u U : MS} {Q G : MS → Prop} {x o : Int32}
theorem bin_rg (h : ¬ (fX6_isBinary S o).toInt = 0) : 0 ≤ o.toInt ∧ o.toInt < 202 := by
  by_cases c : o.toInt < 96
  · exfalso
    apply h
    unfold fX6_isBinary f_X6_isBinary_J18 f_X6_isBinary_J31
    rw [if_pos c, if_pos (by omega), if_neg (by omega)]
    rfl
  · by_cases d : 201 < o.toInt
    · exfalso
      apply h
      unfold fX6_isBinary f_X6_isBinary_J18 f_X6_isBinary_J31
      rw [if_neg c, if_pos (by omega), if_neg (by omega), if_neg (by omega), if_neg (by omega)]
      rfl
    · omega
theorem una_rg (h : ¬ (fX6_isUnary S o).toInt = 0) : 0 ≤ o.toInt ∧ o.toInt < 202 := by
  by_cases c : o.toInt < 0 ∨ 201 < o.toInt
  · exfalso
    apply h
    unfold fX6_isUnary f_X6_isUnary_J44 f_X6_isUnary_J40
    rw [if_neg (by omega), if_neg (by omega), if_neg (by omega), if_neg (by omega)]
    by_cases d : o.toInt < 145
    · rw [if_pos d]; rfl
    · rw [if_neg d, if_pos (by omega)]; rfl
  · omega
theorem op_bin (h : ¬ (fX6_isBinary S o).toInt = 0) : plK (fX6_takes S o) = plO (fX6_takes S o &&& 15) + plO (fX6_takes S o >>> ((4 : Int32) &&& 31)) ∧ plK (fX6_gives S o) = plO (fX6_gives S o) := by
  have r := bin_rg h
  have e := i32nk r.1
  have z := tb_bin ⟨o.toInt.toNat, by omega⟩
  rw [← e] at z
  exact z h
theorem op_una (h : ¬ (fX6_isUnary S o).toInt = 0) : plK (fX6_takes S o) = plO (fX6_takes S o) ∧ plK (fX6_gives S o) = plO (fX6_gives S o) := by
  have r := una_rg h
  have e := i32nk r.1
  have z := tb_una ⟨o.toInt.toNat, by omega⟩
  rw [← e] at z
  exact z h
theorem plO_b (x : Int32) : 0 ≤ plO x ∧ plO x ≤ 2 := by
  unfold plO
  repeat' split
  all_goals omega
theorem ct_mcalc (w : wfC S) (m : Mx S) (hb : ¬ (fX6_isBinary S x).toInt = 0) (ht : plK (fX6_takes S x) ≤ tpM S ∧ tpM S ≤ 24 ∧ tpM S - plK (fX6_takes S x) + plK (fX6_gives S x) ≤ 24) (hG : ∀ u, cfr [405] [(45, 13), (45, 14)] S u → tpM u = tpM S - plK (fX6_takes S x) + plK (fX6_gives S x) → qI u 44 13 = qI S 44 13 + 1 → G u) (hr : ∀ (U : MS) (Qr : MS → Prop), wfC U → cfr [] [(45, 14)] S U → tpM U = tpM S - plK (fX6_takes S x) → wX5_raise U 0 Qr → wX5_raise U 0 (fun u => Qr u ∧ G u)) (h : wX5_calculate S x Q) : wX5_calculate S x (fun u => Q u ∧ G u) := by
  obtain ⟨tb1, tb2⟩ := op_bin hb
  have b1 := plO_b (fX6_takes S x &&& 15)
  have b2 := plO_b (fX6_takes S x >>> ((4 : Int32) &&& 31))
  have b3 := plO_b (fX6_gives S x)
  unfold wX5_calculate at h ⊢
  obtain ⟨d, h⟩ := h
  refine ⟨d, fun a4 e4 => ?_⟩
  obtain ⟨Q6, p6, h6⟩ := h a4 e4
  subst e4
  refine ⟨_, ct_mpop2 w m ⟨by omega, ht.2.1⟩ p6, ?_⟩
  rintro r7 S8 ⟨⟨g8, t8⟩, f8⟩ w8 s8
  obtain ⟨Q11, p11, h11⟩ := h6 r7 S8 g8 w8 s8
  have m8 := m.fr w f8 (by decide) (by decide) (by decide) (by decide)
  refine ⟨_, ct_mpop2 w8 m8 ⟨by omega, by omega⟩ p11, ?_⟩
  rintro r12 S13 ⟨⟨g13, t13⟩, f13⟩ w13 s13
  have m13 := m8.fr w8 f13 (by decide) (by decide) (by decide) (by decide)
  have F13 : cfr [] [(45, 14)] S S13 := f8.tr f13
  have T13 : tpM S13 = tpM S - plK (fX6_takes S x) := by omega
  obtain ⟨d2, h13⟩ := h11 r12 S13 g13 w13 s13
  refine ⟨d2, fun a18 e18 => ?_⟩
  obtain ⟨h14, h15⟩ := h13 a18 e18
  have J : w_X5_calculate_J42 Q S13 x r7 r12 → w_X5_calculate_J42 (fun u => Q u ∧ G u) S13 x r7 r12 := fun hj => by
    unfold w_X5_calculate_J42 at hj ⊢
    intro w'
    obtain ⟨d3, hj⟩ := hj w'
    refine ⟨d3, fun a22 e22 => ?_⟩
    obtain ⟨d4, hj⟩ := hj a22 e22
    refine ⟨d4, fun a26 e26 => ?_⟩
    obtain ⟨Q27, p27, h27⟩ := hj a26 e26
    have eg : a22 = fX6_gives S x := e22
    subst eg
    refine ⟨_, ct_mpush2 w13 m13 ⟨by omega, by omega⟩ p27, ?_⟩
    rintro S28 ⟨⟨g28, t28⟩, f28⟩ w28 s28 S31 e31 k31 w31
    have f31 : cfr [] [(45, 13)] S28 S31 := by rw [e31]; exact cfr.oI k31 rfl
    refine ⟨h27 S28 g28 w28 s28 S31 e31 k31 w31, hG S31 (((F13.mo rfl rfl).tr (f28.mo rfl rfl)).tr (f31.mo rfl rfl)) ?_ ?_⟩
    · have : tpM S31 = tpM S28 := by unfold tpM; rw [f31.kI w28.k44 (by decide) rfl]
      omega
    · rw [e31, qI_wI, if_pos ⟨rfl, rfl⟩, f28.kI w13.k44 (by decide) rfl, F13.kI w.k44 (by decide) rfl]
  refine ⟨fun c => J (h14 c), fun c => ?_⟩
  obtain ⟨h16, h17⟩ := h15 c
  refine ⟨fun c2 => ?_, fun c2 => J (h17 c2)⟩
  obtain ⟨Q35, p35, h35⟩ := h16 c2
  exact ⟨_, hr S13 Q35 w13 F13 T13 p35, fun S36 g36 w36 s36 => ⟨h35 S36 g36.1 w36 s36, g36.2⟩⟩
end MTB
/-! Machine: jumps -/
def jnV (o : Int) : Int := if o = 167 then 0 else if o = 165 ∨ o = 166 ∨ (159 ≤ o ∧ ¬ o = 198 ∧ ¬ o = 199) then 2 else 1
theorem tb_jmp : ∀ n : Fin 202, ¬ (fX6_isJump S00k (Int32.ofNat n.val)).toInt = 0 → plK (fX6_takes S00k (Int32.ofNat n.val)) = jnV (n.val : Int) ∧ plK (fX6_gives S00k (Int32.ofNat n.val)) = 0 := by decide +kernel
section MJM
variable {S u U : MS} {Q1 : Int32 → MS → Prop} {x o : Int32}
theorem jmp_rg (h : ¬ (fX6_isJump S o).toInt = 0) : 0 ≤ o.toInt ∧ o.toInt < 202 := by
  by_cases c : o.toInt < 0 ∨ 201 < o.toInt
  · exfalso
    apply h
    unfold fX6_isJump f_X6_isJump_J14
    by_cases d : o.toInt < 153
    · rw [if_pos d, if_neg (by omega), if_neg (by omega)]; rfl
    · rw [if_neg d, if_neg (by omega), if_neg (by omega), if_neg (by omega)]; rfl
  · omega
theorem op_jmp (h : ¬ (fX6_isJump S o).toInt = 0) : plK (fX6_takes S o) = jnV o.toInt ∧ plK (fX6_gives S o) = 0 := by
  have r := jmp_rg h
  have e := i32nk r.1
  have z := tb_jmp ⟨o.toInt.toNat, by omega⟩
  rw [← e] at z
  rw [show ((⟨o.toInt.toNat, by omega⟩ : Fin 202).val : Int) = o.toInt by simp only; omega] at z
  exact z h
theorem ct_mjump (w : wfC S) (m : Mx S) (ht : jnV x.toInt ≤ tpM S ∧ tpM S ≤ 24) (h : wX5_isJumpTaken S x Q1) : wX5_isJumpTaken S x (fun z u => (Q1 z u ∧ tpM u = tpM S - jnV x.toInt) ∧ cfr [] [(45, 14)] S u) := by
  unfold wX5_isJumpTaken at h ⊢
  refine ⟨fun c => ⟨⟨h.1 c, by unfold jnV; rw [if_pos c]; omega⟩, cfr.rf⟩, fun c => ?_⟩
  obtain ⟨Q2, p2, h2⟩ := h.2 c
  have j0 : 1 ≤ jnV x.toInt ∧ jnV x.toInt ≤ 2 := by
    unfold jnV
    rw [if_neg c]
    split <;> omega
  refine ⟨_, ct_mpop m ⟨by omega, ht.2⟩ p2, ?_⟩
  rintro r3 S4 ⟨⟨g4, t4⟩, f4⟩ w4 s4
  have m4 := m.fr w f4 (by decide) (by decide) (by decide) (by decide)
  obtain ⟨h3, h4⟩ := h2 r3 S4 g4 w4 s4
  refine ⟨fun c1 => ?_, fun c1 => ?_⟩
  · have e2 : jnV x.toInt = 2 := by unfold jnV; rw [if_neg c, if_pos (by omega)]
    obtain ⟨Q6, p6, h6⟩ := h3 c1
    refine ⟨_, ct_mpop m4 ⟨by omega, by omega⟩ p6, ?_⟩
    rintro r7 S8 ⟨⟨g8, t8⟩, f8⟩ w8 s8
    obtain ⟨h7, h8⟩ := h6 r7 S8 g8 w8 s8
    exact ⟨fun c2 => ⟨⟨h7 c2, by omega⟩, f4.tr f8⟩, fun c2 => ⟨⟨h8 c2, by omega⟩, f4.tr f8⟩⟩
  obtain ⟨h3, h4⟩ := h4 c1
  refine ⟨fun c2 => ?_, fun c2 => ?_⟩
  · have e2 : jnV x.toInt = 2 := by unfold jnV; rw [if_neg c, if_pos (by omega)]
    obtain ⟨Q6, p6, h6⟩ := h3 c2
    refine ⟨_, ct_mpop m4 ⟨by omega, by omega⟩ p6, ?_⟩
    rintro r7 S8 ⟨⟨g8, t8⟩, f8⟩ w8 s8
    obtain ⟨h7, h8⟩ := h6 r7 S8 g8 w8 s8
    exact ⟨fun c3 => ⟨⟨h7 c3, by omega⟩, f4.tr f8⟩, fun c3 => ⟨⟨h8 c3, by omega⟩, f4.tr f8⟩⟩
  obtain ⟨h3, h4⟩ := h4 c2
  refine ⟨fun c3 => ?_, fun c3 => ?_⟩
  · have e1 : jnV x.toInt = 1 := by unfold jnV; rw [if_neg c, if_neg (by omega)]
    obtain ⟨h5, h6⟩ := h3 c3
    exact ⟨fun c4 => ⟨⟨h5 c4, by omega⟩, f4⟩, fun c4 => ⟨⟨h6 c4, by omega⟩, f4⟩⟩
  obtain ⟨h3, h4⟩ := h4 c3
  refine ⟨fun c4 => ?_, fun c4 => ?_⟩
  · have e1 : jnV x.toInt = 1 := by unfold jnV; rw [if_neg c, if_neg (by omega)]
    obtain ⟨h5, h6⟩ := h3 c4
    exact ⟨fun c5 => ⟨⟨h5 c5, by omega⟩, f4⟩, fun c5 => ⟨⟨h6 c5, by omega⟩, f4⟩⟩
  obtain ⟨h3, h4⟩ := h4 c4
  refine ⟨fun c5 => ?_, fun c5 => ?_⟩
  · have e2 : jnV x.toInt = 2 := by unfold jnV; rw [if_neg c, if_pos (by omega)]
    obtain ⟨Q23, p23, h23⟩ := h3 c5
    refine ⟨_, ct_mpop m4 ⟨by omega, by omega⟩ p23, ?_⟩
    rintro r24 S25 ⟨⟨g25, t25⟩, f25⟩ w25 s25
    obtain ⟨d, h24⟩ := h23 r24 S25 g25 w25 s25
    exact ⟨d, ⟨h24, by omega⟩, f4.tr f25⟩
  · have e1 : jnV x.toInt = 1 := by unfold jnV; rw [if_neg c, if_neg (by omega)]
    obtain ⟨d, h5⟩ := h4 c5
    exact ⟨d, ⟨h5, by omega⟩, f4⟩
end MJM
/-! Machine: move -/
def isMv (o : Int) : Prop := o = 0 ∨ o = 1 ∨ o = 17 ∨ o = 20 ∨ o = 21 ∨ o = 22 ∨ o = 25 ∨ o = 54 ∨ o = 55 ∨ o = 58 ∨ o = 132
/-- the local of a move is there -/
def MvL (S : MS) (x : Int32) : Prop := ¬ x.toInt = 0 → ¬ x.toInt = 1 → ¬ x.toInt = 17 → ¬ x.toInt = 20 → 0 ≤ (fX8_localOf S (qO S 44 12) (qI S 44 13)).toInt ∧ (fX8_localOf S (qO S 44 12) (qI S 44 13)).toInt < 24
theorem tb_mov : ∀ n : Fin 202, (n.val = 0 ∨ n.val = 1 ∨ n.val = 17 ∨ n.val = 20 ∨ n.val = 21 ∨ n.val = 22 ∨ n.val = 25 ∨ n.val = 54 ∨ n.val = 55 ∨ n.val = 58 ∨ n.val = 132) → (plK (fX6_takes S00k (Int32.ofNat n.val)) = plO (fX6_takes S00k (Int32.ofNat n.val)) ∧ plK (fX6_gives S00k (Int32.ofNat n.val)) = plO (fX6_gives S00k (Int32.ofNat n.val))) ∧ ((n.val = 1 ∨ n.val = 17 ∨ n.val = 20 ∨ n.val = 21 ∨ n.val = 22 ∨ n.val = 25) → plO (fX6_takes S00k (Int32.ofNat n.val)) = 0) ∧ ((n.val = 54 ∨ n.val = 55 ∨ n.val = 58) → plO (fX6_gives S00k (Int32.ofNat n.val)) = 0) ∧ ((n.val = 0 ∨ n.val = 132) → plO (fX6_takes S00k (Int32.ofNat n.val)) = 0 ∧ plO (fX6_gives S00k (Int32.ofNat n.val)) = 0) := by decide +kernel
section MMV
variable {S u U : MS} {Q : MS → Prop} {x o : Int32}
theorem op_mov (h : isMv o.toInt) : (plK (fX6_takes S o) = plO (fX6_takes S o) ∧ plK (fX6_gives S o) = plO (fX6_gives S o)) ∧ ((o.toInt = 1 ∨ o.toInt = 17 ∨ o.toInt = 20 ∨ o.toInt = 21 ∨ o.toInt = 22 ∨ o.toInt = 25) → plO (fX6_takes S o) = 0) ∧ ((o.toInt = 54 ∨ o.toInt = 55 ∨ o.toInt = 58) → plO (fX6_gives S o) = 0) ∧ ((o.toInt = 0 ∨ o.toInt = 132) → plO (fX6_takes S o) = 0 ∧ plO (fX6_gives S o) = 0) := by
  have r : 0 ≤ o.toInt ∧ o.toInt < 202 := by unfold isMv at h; omega
  have e := i32nk r.1
  have z := tb_mov ⟨o.toInt.toNat, by omega⟩
  rw [← e] at z
  have z := z (by simp only; unfold isMv at h; omega)
  simp only at z
  exact ⟨z.1, fun a => z.2.1 (by omega), fun a => z.2.2.1 (by omega), fun a => z.2.2.2 (by omega)⟩
theorem ct_mmove (w : wfC S) (m : Mx S) (hm : isMv x.toInt) (hk : MvL S x) (ht : plK (fX6_takes S x) ≤ tpM S ∧ tpM S ≤ 24 ∧ tpM S - plK (fX6_takes S x) + plK (fX6_gives S x) ≤ 24) (h : wX5_move S x Q) : wX5_move S x (fun u => (Q u ∧ tpM u = tpM S - plK (fX6_takes S x) + plK (fX6_gives S x)) ∧ cfr [404, 405] [(45, 14)] S u) := by
  obtain ⟨tk, gv⟩ := (op_mov (S := S) hm).1
  have b1 := plO_b (fX6_takes S x)
  have b2 := plO_b (fX6_gives S x)
  have J : (x.toInt = 1 ∨ x.toInt = 17 ∨ x.toInt = 20) → w_X5_move_J29 Q S x → w_X5_move_J29 (fun u => (Q u ∧ tpM u = tpM S - plK (fX6_takes S x) + plK (fX6_gives S x)) ∧ cfr [404, 405] [(45, 14)] S u) S x := fun hx hj => by
    have t0 := (op_mov (S := S) hm).2.1 (hx.elim Or.inl (fun z => z.elim (fun y => Or.inr (Or.inl y)) (fun y => Or.inr (Or.inr (Or.inl y)))))
    unfold w_X5_move_J29 at hj ⊢
    intro w'
    obtain ⟨d, hj⟩ := hj w'
    refine ⟨d, fun a10 e10 => ?_⟩
    obtain ⟨e12, d2, hj⟩ := hj a10 e10
    subst e10
    refine ⟨e12, d2, fun a16 e16 => ?_⟩
    obtain ⟨Q17, p17, h17⟩ := hj a16 e16
    refine ⟨_, ct_mpush2 w m ⟨by omega, by omega⟩ p17, ?_⟩
    rintro S18 ⟨⟨g18, t18⟩, f18⟩ w18 s18
    exact ⟨⟨h17 S18 g18 w18 s18, by omega⟩, f18.mo rfl rfl⟩
  unfold wX5_move at h ⊢
  obtain ⟨e12, d, h⟩ := h
  refine ⟨e12, d, fun a6 e6 => ?_⟩
  obtain ⟨h1, h2⟩ := h a6 e6
  have ea6 : a6 = fX8_localOf S (qO S 44 12) (qI S 44 13) := e6
  refine ⟨fun c1 => J (Or.inr (Or.inl c1)) (h1 c1), fun c1 => ?_⟩
  obtain ⟨h1, h2⟩ := h2 c1
  refine ⟨fun c2 => J (Or.inr (Or.inr c2)) (h1 c2), fun c2 => ?_⟩
  obtain ⟨h1, h2⟩ := h2 c2
  refine ⟨fun c3 => J (Or.inl c3) (h1 c3), fun c3 => ?_⟩
  obtain ⟨d2, h3⟩ := h2 c3
  refine ⟨d2, fun a26 e26 => ?_⟩
  obtain ⟨h4, h5⟩ := h3 a26 e26
  refine ⟨fun c4 => ?_, fun c4 => ?_⟩
  · have nl : ¬ (x.toInt = 21 ∨ x.toInt = 22 ∨ x.toInt = 25) := fun q => by
      rw [e26] at c4
      unfold fX6_isLoad at c4
      rcases q with q | q | q
      · rw [if_pos q] at c4; exact absurd c4 (show ¬ (1 : Int32).toInt = 0 by decide)
      · rw [if_neg (by omega), if_pos q] at c4; exact absurd c4 (show ¬ (1 : Int32).toInt = 0 by decide)
      · rw [if_neg (by omega), if_neg (by omega), if_pos q] at c4; exact absurd c4 (show ¬ (1 : Int32).toInt = 0 by decide)
    obtain ⟨d3, h6⟩ := h4 c4
    refine ⟨d3, fun a31 e31 => ?_⟩
    obtain ⟨h7, h8⟩ := h6 a31 e31
    refine ⟨fun c5 => ?_, fun c5 => ?_⟩
    · have ns : ¬ (x.toInt = 54 ∨ x.toInt = 55 ∨ x.toInt = 58) := fun q => by
        rw [e31] at c5
        unfold fX6_isStore at c5
        rcases q with q | q | q
        · rw [if_pos q] at c5; exact absurd c5 (show ¬ (1 : Int32).toInt = 0 by decide)
        · rw [if_neg (by omega), if_pos q] at c5; exact absurd c5 (show ¬ (1 : Int32).toInt = 0 by decide)
        · rw [if_neg (by omega), if_neg (by omega), if_pos q] at c5; exact absurd c5 (show ¬ (1 : Int32).toInt = 0 by decide)
      obtain ⟨h9, h10⟩ := h7 c5
      refine ⟨fun c6 => ?_, fun c6 => ?_⟩
      · obtain ⟨z1, z2⟩ := (op_mov (S := S) hm).2.2.2 (Or.inr c6)
        have lk : 0 ≤ a6.toInt ∧ a6.toInt < 24 := by rw [ea6]; exact hk (by omega) (by omega) (by omega) (by omega)
        obtain ⟨Q37, p37, h37⟩ := h9 c6
        refine ⟨_, ct_mlocal m lk p37, ?_⟩
        rintro r38 S39 ⟨g39, e39⟩ w39 s39
        have h38 := h37 r38 S39 g39 w39 s39
        rw [e39] at h38 ⊢
        obtain ⟨e12', d4, h39⟩ := h38
        refine ⟨e12', d4, fun a46 e46 => ?_⟩
        obtain ⟨Q48, p48, h48⟩ := h39 a46 e46
        refine ⟨_, ct_msetLocal m lk p48, ?_⟩
        rintro S49 ⟨g49, f49⟩ w49 s49
        refine ⟨⟨h48 S49 g49 w49 s49, ?_⟩, f49.mo rfl rfl⟩
        have : tpM S49 = tpM S := by unfold tpM; rw [f49.kI w.k44 (by decide) rfl]
        omega
      · obtain ⟨h11, h12⟩ := h10 c6
        refine ⟨fun c7 => ⟨⟨h11 c7, ?_⟩, cfr.rf⟩, fun c7 => ?_⟩
        · obtain ⟨z1, z2⟩ := (op_mov (S := S) hm).2.2.2 (Or.inl c7)
          omega
        · exfalso
          rcases hm with z | z | z | z | z | z | z | z | z | z | z
          · exact c7 z
          · exact c3 z
          · exact c1 z
          · exact c2 z
          · exact nl (Or.inl z)
          · exact nl (Or.inr (Or.inl z))
          · exact nl (Or.inr (Or.inr z))
          · exact ns (Or.inl z)
          · exact ns (Or.inr (Or.inl z))
          · exact ns (Or.inr (Or.inr z))
          · exact c6 z
    · have ns : x.toInt = 54 ∨ x.toInt = 55 ∨ x.toInt = 58 := by
        by_cases q : x.toInt = 54 ∨ x.toInt = 55 ∨ x.toInt = 58
        · exact q
        · exfalso
          apply c5
          rw [e31]
          unfold fX6_isStore
          rw [if_neg (by omega), if_neg (by omega), if_neg (by omega)]
          rfl
      have z2 := (op_mov (S := S) hm).2.2.1 ns
      have lk : 0 ≤ a6.toInt ∧ a6.toInt < 24 := by rw [ea6]; exact hk (by omega) (by omega) (by omega) (by omega)
      obtain ⟨d4, h9⟩ := h8 c5
      refine ⟨d4, fun a54 e54 => ?_⟩
      obtain ⟨Q55, p55, h55⟩ := h9 a54 e54
      subst e54
      refine ⟨_, ct_mpop2 w m ⟨by omega, ht.2.1⟩ p55, ?_⟩
      rintro r56 S57 ⟨⟨g57, t57⟩, f57⟩ w57 s57
      obtain ⟨Q59, p59, h59⟩ := h55 r56 S57 g57 w57 s57
      refine ⟨_, ct_msetLocal (m.fr w f57 (by decide) (by decide) (by decide) (by decide)) lk p59, ?_⟩
      rintro S60 ⟨g60, f60⟩ w60 s60
      refine ⟨⟨h59 S60 g60 w60 s60, ?_⟩, (f57.mo rfl rfl).tr (f60.mo rfl rfl)⟩
      have : tpM S60 = tpM S57 := by unfold tpM; rw [f60.kI w57.k44 (by decide) rfl]
      omega
  · have nl : x.toInt = 21 ∨ x.toInt = 22 ∨ x.toInt = 25 := by
      by_cases q : x.toInt = 21 ∨ x.toInt = 22 ∨ x.toInt = 25
      · exact q
      · exfalso
        apply c4
        rw [e26]
        unfold fX6_isLoad
        rw [if_neg (by omega), if_neg (by omega), if_neg (by omega)]
        rfl
    have z1 := (op_mov (S := S) hm).2.1 (Or.inr (Or.inr (Or.inr nl)))
    have lk : 0 ≤ a6.toInt ∧ a6.toInt < 24 := by rw [ea6]; exact hk (by omega) (by omega) (by omega) (by omega)
    obtain ⟨d4, h6⟩ := h5 c4
    refine ⟨d4, fun a65 e65 => ?_⟩
    obtain ⟨Q66, p66, h66⟩ := h6 a65 e65
    subst e65
    refine ⟨_, ct_mlocal m lk p66, ?_⟩
    rintro r67 S68 ⟨g68, e68⟩ w68 s68
    have h67 := h66 r67 S68 g68 w68 s68
    rw [e68] at h67 ⊢
    obtain ⟨Q70, p70, h70⟩ := h67
    refine ⟨_, ct_mpush2 w m ⟨by omega, by omega⟩ p70, ?_⟩
    rintro S71 ⟨⟨g71, t71⟩, f71⟩ w71 s71
    exact ⟨⟨h70 S71 g71 w71 s71, by omega⟩, f71.mo rfl rfl⟩
end MMV
/-! Machine: what holds between two steps, when nothing strays -/
def KX : List Nat := [215, 216, 217, 402, 404, 405]
def FX : List (Nat × Nat) := [(45, 2), (45, 3), (45, 4), (45, 5), (45, 7), (45, 8), (45, 9), (45, 11), (45, 12), (45, 13), (45, 14), (45, 15), (45, 16), (45, 17), (45, 18), (45, 19)]
def rwM (A : MS) (q m : Nat) : Nat := qO A (qO A q 13) m
/-- an instruction that points well -/
def PtO (A : MS) (q r : Nat) (x : Int32) : Prop := okOp (fX8_opAt A r x).toInt ∧ (∀ j : Int32, 0 ≤ j.toInt → j.toInt < (fX8_targetCount A r x).toInt → 0 ≤ (fX8_targetAt A r x j).toInt ∧ (fX8_targetAt A r x j).toInt < nR A r) ∧ (¬ (fX6_isSwitch A (fX8_opAt A r x)).toInt = 0 → 1 ≤ (fX8_targetCount A r x).toInt) ∧ (¬ (fX6_usesLocal A (fX8_opAt A r x)).toInt = 0 → (fX8_localOf A r x).toInt < 24) ∧ ((fX8_opAt A r x).toInt = 179 → 0 ≤ ((fX8_argAt A r x).toInt32).toInt ∧ ((fX8_argAt A r x).toInt32).toInt < 24) ∧ ((fX8_opAt A r x).toInt = 184 → 0 ≤ ((fX8_argAt A r x).toInt32).toInt ∧ ((fX8_argAt A r x).toInt32).toInt < (qI A q 8).toInt)
def PtR (A : MS) (q r : Nat) : Prop := (0 ≤ (qI A r 10).toInt ∧ (qI A r 10).toInt ≤ 24) ∧ (∀ x : Int32, 0 ≤ x.toInt → x.toInt < nR A r → PtO A q r x) ∧ ∀ c : Nat, (c : Int) < (qI A r 9).toInt → 0 ≤ (qI A (qO A r 7) c).toInt ∧ (qI A (qO A r 7) c).toInt < nR A r
def MdR (A : MS) (q m : Nat) : Prop := qR A (qO A q 13) m = some (rwM A q m) ∧ qT A (rwM A q m) = 47 ∧ RwK A (rwM A q m) ∧ 0 < nR A (rwM A q m) ∧ (qI A (rwM A q m) 11).toInt = (m : Int)
/-- a Unit that was checked without a fault -/
def MdA (A : MS) (q : Nat) (C : Nat → Nat → Prop) : Prop := (qT A q = 49 ∧ UnK A q ∧ KdU A q) ∧ ∀ m : Nat, (m : Int) < (qI A q 8).toInt → MdR A q m ∧ ChC A q (rwM A q m) (C m) ∧ PtR A q (rwM A q m)
def dpM (u : MS) : Nat := (qI u 44 11).toInt.toNat
def mD (u : MS) (d : Nat) : Nat := (qI u 51 (3 * d)).toInt.toNat
/-- a place that can be come to -/
def PcI (A : MS) (q : Nat) (C : Nat → Nat → Prop) (m : Nat) (x : Int32) : Prop := (m : Int) < (qI A q 8).toInt ∧ (0 ≤ x.toInt ∧ x.toInt < nR A (rwM A q m)) ∧ C m x.toInt.toNat
/-- a frame that waits at a call -/
def FrX (A : MS) (q : Nat) (C : Nat → Nat → Prop) (u : MS) (d : Nat) : Prop := 0 ≤ (qI u 51 (3 * d)).toInt ∧ PcI A q C (mD u d) (qI u 51 (3 * d + 1)) ∧ (fX8_opAt A (rwM A q (mD u d)) (qI u 51 (3 * d + 1))).toInt = 184 ∧ (qI u 51 (3 * d + 2)).toInt = (fX8_heightAt A (rwM A q (mD u d)) (qI u 51 (3 * d + 1))).toInt - ndW A q (rwM A q (mD u d)) (qI u 51 (3 * d + 1)) ∧ (fX8_argAt A (rwM A q (mD u d)) (qI u 51 (3 * d + 1))).toInt32 = qI u 51 (3 * (d + 1))
/-- the arrays -/
def ArIk (u : MS) : Prop := (0 ≤ (qI u 44 5).toInt ∧ (qI u 44 5).toInt ≤ 400 ∧ (qI u 44 5).toInt < (qN u (qO u 44 4) : Int)) ∧ (0 ≤ (qI u 44 3).toInt ∧ (qI u 44 3).toInt ≤ 20000 ∧ (qI u 44 3).toInt ≤ (qN u (qO u 44 2) : Int)) ∧ ∀ a : Nat, 1 ≤ a → (a : Int) ≤ (qI u 44 5).toInt → 0 ≤ (qI u (qO u 44 4) a).toInt ∧ (qI u (qO u 44 4) a).toInt ≤ (qI u 44 3).toInt
def Y3E (A : MS) (q : Nat) (u : MS) : Prop := cfr KX FX A u ∧ qR u 44 0 = some q ∧ qI u 44 19 = qI A 44 19 ∧ Mx u ∧ ArIk u
def Y3B (A : MS) (q : Nat) (C : Nat → Nat → Prop) (u : MS) : Prop := Y3E A q u ∧ (∀ d, d < dpM u → FrX A q C u d) ∧ 0 ≤ (qI u 51 (3 * dpM u)).toInt ∧ PcI A q C (mD u (dpM u)) (qI u 44 13) ∧ qR u 44 12 = some (rwM A q (mD u (dpM u)))
def Y3I (A : MS) (q : Nat) (C : Nat → Nat → Prop) (u : MS) : Prop := Y3B A q C u ∧ tpM u = (fX8_heightAt A (rwM A q (mD u (dpM u))) (qI u 44 13)).toInt ∧ tpM u ≤ 24
def Y3J (A : MS) (q : Nat) (C : Nat → Nat → Prop) (u : MS) : Prop := Y3E A q u ∧ ((qI u 44 15).toInt < 0 → Y3I A q C u)
def KV : List Nat := [215, 402, 404, 405]
def FV : List (Nat × Nat) := [(45, 7), (45, 13), (45, 14), (45, 15), (45, 16), (45, 17), (45, 18)]
section MKS
variable {A S u v U V : MS} {q r m d : Nat} {C : Nat → Nat → Prop} {x y : Int32} {K : List Nat} {F : List (Nat × Nat)}
theorem wfC.k51 (w : wfC S) : qT S 51 = 217 := (w.2.1 _ finC_6).2.1
/-- heights stay -/
theorem hx_fr (w : wfC A) (k : qT A r = 47) (f : cfr KX FX A u) : fX8_heightAt u r x = fX8_heightAt A r x := by
  have g : qR u r 12 = qR A r 12 := f.kO k (by decide) (by decide)
  unfold fX8_heightAt
  by_cases z : qR A r 12 = none
  · rw [if_pos z, if_pos (g.trans z)]; rfl
  · obtain ⟨b, hb⟩ := Option.ne_none_iff_exists'.mp z
    have kb : qT A b = etgC 47 12 := w.ref hb k
    have o : qO A r 12 = b := qO_of hb
    have o' : qO u r 12 = b := qO_of (g.trans hb)
    have n : qN u b = qN A b := (f.1.1 _ (by rw [kb]; decide)).2
    have i : ∀ j, qI u b j = qI A b j := fun j => f.kI kb (by decide) (okO_n (F := FX) (by decide) (by decide))
    rw [if_neg z, if_neg (by rw [g]; exact z), o, o', n, i]
    rfl
theorem ArIk.mv (w : wfC S) (h : ArIk S) (f : cfr K F S v) (h5 : K.contains 45 = false) (h6 : K.contains 216 = false) (hF : okL [(45, 2), (45, 3), (45, 4), (45, 5)] F = true) (hA : okO F = true) : ArIk v := by
  have k4 : qT S (qO S 44 4) = 216 := w.ref (w.ptr (by decide)) w.k44
  have e5 : qI v 44 5 = qI S 44 5 := f.kI w.k44 h5 (okL_n hF (by decide))
  have e3 : qI v 44 3 = qI S 44 3 := f.kI w.k44 h5 (okL_n hF (by decide))
  have o4 : qO v 44 4 = qO S 44 4 := qO_eq (f.kO w.k44 h5 (okL_n hF (by decide)))
  have l4 := f.kL (j := 4) w w.k44 (w.ptr (by decide)) h5 (okL_n hF (by decide))
  have l2 := f.kL (j := 2) w w.k44 (w.ptr (by decide)) h5 (okL_n hF (by decide))
  have i4 : ∀ j, qI v (qO S 44 4) j = qI S (qO S 44 4) j := fun j => f.kI k4 h6 (okO_n hA (by decide))
  obtain ⟨a, b, c⟩ := h
  refine ⟨by rw [e5, l4]; exact a, by rw [e3, l2]; exact b, fun j h1 h2 => ?_⟩
  rw [o4, i4, e3]
  rw [e5] at h2
  exact c j h1 h2
theorem Y3E.mv (w : wfC S) (h : Y3E A q S) (f : cfr KV FV S v) : Y3E A q v := by
  obtain ⟨a, b, c, d, e⟩ := h
  exact ⟨a.tr (f.mo rfl rfl), by rw [f.kO w.k44 (by decide) (by decide)]; exact b, by rw [f.kI w.k44 (by decide) (by decide)]; exact c, d.fr w f (by decide) (by decide) (by decide) (by decide), e.mv w f (by decide) (by decide) (by decide) (by decide)⟩
theorem FrX.eq (h : FrX A q C S d) (e : ∀ j, j < 3 * (d + 1) + 1 → qI v 51 j = qI S 51 j) : FrX A q C v d := by
  have e0 := e (3 * d) (by omega)
  have e1 := e (3 * d + 1) (by omega)
  have e2 := e (3 * d + 2) (by omega)
  have e3 := e (3 * (d + 1)) (by omega)
  have em : mD v d = mD S d := by unfold mD; rw [e0]
  unfold FrX at h ⊢
  rw [e0, e1, e2, e3, em]
  exact h
/-- the frames stay, the place may be another one -/
theorem Y3B.mv (w : wfC S) (h : Y3B A q C S) (f : cfr KV FV S v) (hp : PcI A q C (mD S (dpM S)) (qI v 44 13)) : Y3B A q C v := by
  obtain ⟨a, b, c, d, e⟩ := h
  have ed : dpM v = dpM S := by unfold dpM; rw [f.kI w.k44 (by decide) (by decide)]
  have i : ∀ j, qI v 51 j = qI S 51 j := fun j => f.kI w.k51 (by decide) (okO_n (F := FV) (by decide) (by decide))
  have em : ∀ d, mD v d = mD S d := fun d => by unfold mD; rw [i]
  refine ⟨a.mv w f, fun d hd => (b d (by omega)).eq (fun j _ => i j), by rw [ed, i]; exact c, by rw [ed, em]; exact hp, ?_⟩
  rw [ed, em, f.kO w.k44 (by decide) (by decide)]
  exact e
/-- what the Row at work says -/
theorem Y3B.at (w : wfC A) (M : MdA A q C) (h : Y3B A q C u) : qO u 44 12 = rwM A q (mD u (dpM u)) ∧ qO u 44 0 = q ∧ (rC A u (rwM A q (mD u (dpM u))) ∧ qT u (rwM A q (mD u (dpM u))) = 47 ∧ RwK u (rwM A q (mD u (dpM u)))) ∧ (uC A u q ∧ qT u q = 49 ∧ UnK u q) ∧ (∀ x, fX8_heightAt u (rwM A q (mD u (dpM u))) x = fX8_heightAt A (rwM A q (mD u (dpM u))) x) := by
  obtain ⟨a, b, c, d, e⟩ := h
  have md := (M.2 _ d.1).1
  exact ⟨qO_of e, qO_of a.2.1, rC.fx w md.2.1 md.2.2.1 a.1 (by decide), uC.fr w M.1.1 M.1.2.1 a.1 (by decide), fun x => hx_fr w md.2.1 a.1⟩
theorem Y3B.hg (M : MdA A q C) (h : Y3B A q C u) : HgS A q (rwM A q (mD u (dpM u))) (C (mD u (dpM u))) (qI u 44 13) (fX8_heightAt A (rwM A q (mD u (dpM u))) (qI u 44 13)).toInt ∧ RtP A q (rwM A q (mD u (dpM u))) (qI u 44 13) ∧ PtO A q (rwM A q (mD u (dpM u))) (qI u 44 13) := by
  obtain ⟨a, b, c, ⟨d1, d2, d3⟩, e⟩ := h
  obtain ⟨md, ch, pt⟩ := M.2 _ d1
  have z := ch.2 (qI u 44 13).toInt.toNat (by omega) d3
  rw [ofI (v := qI u 44 13) (by omega)] at z
  exact ⟨z.1, z.2, pt.2.1 _ d2.1 d2.2⟩
/-- on to the next instruction -/
theorem Y3I.go (w : wfC S) (M : MdA A q C) (h : Y3B A q C S) (hh : tpM S = (fX8_heightAt A (rwM A q (mD S (dpM S))) (qI S 44 13)).toInt) (f : cfr KV FV S v) (ho : ¬ (fX6_goesOn A (fX8_opAt A (rwM A q (mD S (dpM S))) (qI S 44 13))).toInt = 0) (ht : tpM v = lfV A q (rwM A q (mD S (dpM S))) (qI S 44 13) (tpM S)) (hp : qI v 44 13 = qI S 44 13 + 1) : Y3I A q C v := by
  obtain ⟨hg, _, _⟩ := h.hg M
  obtain ⟨h1, h2, _, _⟩ := hg
  obtain ⟨n1, n2, n3⟩ := h2 ho
  have hb := h
  obtain ⟨a, b, c, ⟨d1, d2, d3⟩, e⟩ := h
  obtain ⟨md, ch, pt⟩ := M.2 _ d1
  have l1 := li_1k
  have r0 := d2
  have rb : nR A (rwM A q (mD S (dpM S))) ≤ 1296 := by have := md.2.2.1.2; unfold nR; omega
  have e1 : (qI S 44 13 + 1).toInt = (qI S 44 13).toInt + 1 := by rw [t_addk (by rw [l1]; omega), l1]
  have P : PcI A q C (mD S (dpM S)) (qI v 44 13) := by rw [hp]; exact ⟨d1, ⟨by omega, n1⟩, n2⟩
  have ed : dpM v = dpM S := by unfold dpM; rw [f.kI w.k44 (by decide) (by decide)]
  have i : ∀ j, qI v 51 j = qI S 51 j := fun j => f.kI w.k51 (by decide) (okO_n (F := FV) (by decide) (by decide))
  have em : mD v (dpM v) = mD S (dpM S) := by unfold mD; rw [ed, i]
  refine ⟨hb.mv w f P, ?_, ?_⟩
  · rw [em, hp, n3, ht, hh]
  · rw [ht, hh]
    have := pt.1
    omega
/-- on to a target -/
theorem Y3I.to (w : wfC S) (M : MdA A q C) (h : Y3B A q C S) (hh : tpM S = (fX8_heightAt A (rwM A q (mD S (dpM S))) (qI S 44 13)).toInt) (f : cfr KV FV S v) {j : Int32} (j0 : 0 ≤ j.toInt) (j1 : j.toInt < (fX8_targetCount A (rwM A q (mD S (dpM S))) (qI S 44 13)).toInt) (ht : tpM v = lfV A q (rwM A q (mD S (dpM S))) (qI S 44 13) (tpM S)) (hp : qI v 44 13 = fX8_targetAt A (rwM A q (mD S (dpM S))) (qI S 44 13) j) : Y3I A q C v := by
  obtain ⟨hg, _, po⟩ := h.hg M
  obtain ⟨h1, _, h3, _⟩ := hg
  obtain ⟨t0, t1⟩ := po.2.1 j j0 j1
  obtain ⟨n2, n3⟩ := h3 j j0 j1 t0 t1
  have hb := h
  obtain ⟨a, b, c, ⟨d1, d2, d3⟩, e⟩ := h
  obtain ⟨md, ch, pt⟩ := M.2 _ d1
  have P : PcI A q C (mD S (dpM S)) (qI v 44 13) := by rw [hp]; exact ⟨d1, ⟨t0, t1⟩, n2⟩
  have ed : dpM v = dpM S := by unfold dpM; rw [f.kI w.k44 (by decide) (by decide)]
  have i : ∀ j, qI v 51 j = qI S 51 j := fun j => f.kI w.k51 (by decide) (okO_n (F := FV) (by decide) (by decide))
  have em : mD v (dpM v) = mD S (dpM S) := by unfold mD; rw [ed, i]
  refine ⟨hb.mv w f P, ?_, ?_⟩
  · rw [em, hp, n3, ht, hh]
  · rw [ht, hh]
    have := pt.1
    omega
theorem Y3I.j (h : Y3I A q C u) : Y3J A q C u := ⟨h.1.1, fun _ => h⟩
theorem Y3E.j (h : Y3E A q u) (ho : 0 ≤ (qI u 44 15).toInt) : Y3J A q C u := ⟨h, fun z => by omega⟩
end MKS
/-! Machine: errors, frames that close and open -/
section MRA
variable {A S u v U V : MS} {q r m d : Nat} {C : Nat → Nat → Prop} {x y : Int32} {Q : MS → Prop} {Q1 : Int32 → MS → Prop} {Q2 : Option Nat → MS → Prop}
theorem Y3E.dp (h : Y3E A q u) : 0 ≤ (qI u 44 11).toInt ∧ (qI u 44 11).toInt ≤ 59 := h.2.2.2.1.1
theorem Y3E.nd (h : Y3E A q u) : ((dpM u : Nat) : Int) = (qI u 44 11).toInt := by have := h.dp; unfold dpM; omega
/-- rowAt of a method that is there -/
theorem ct_mrow (w : wfC S) (k : qT S q = 49) (R : UnK S q) (hx : 0 ≤ x.toInt ∧ x.toInt < (qI S q 8).toInt) (hr : qR S (qO S q 13) x.toInt.toNat = some r) (h : wX10_rowAt S q x Q2) : wX10_rowAt S q x (fun b u => Q2 b u ∧ b = some r ∧ u = S) := by
  have l := R.2
  unfold wX10_rowAt at h ⊢
  refine ⟨fun c => absurd c (by omega), fun c => ?_⟩
  obtain ⟨e, h1, h2⟩ := h.2 c
  refine ⟨e, fun c1 => ?_, fun c1 => absurd (show x.toInt < (qN S (qO S q 13) : Int) by omega) c1⟩
  obtain ⟨e1, b1, h3, h4⟩ := h1 c1
  refine ⟨e1, b1, fun c2 => (by rw [hr] at c2; cases c2), fun c2 => ⟨h4 c2, ?_, rfl⟩⟩
  rw [hr]; rfl
theorem ct_mhand : ∀ (n : Nat) {U : MS} {v1 v2 : Int32}, 0 ≤ v2.toInt → w_X5_handlerOf_L2 Q1 n U v1 v2 → w_X5_handlerOf_L2 (fun z u => Q1 z u ∧ u = U ∧ (z.toInt < 0 ∨ ∃ c : Int32, 0 ≤ c.toInt ∧ c.toInt < (qI U (qO U 44 12) 9).toInt ∧ ¬ (fX8_catchHas U (qO U 44 12) c (qI U 44 13)).toInt = 0 ∧ z = qI U (qO U (qO U 44 12) 7) c.toInt.toNat)) n U v1 v2 := by
  intro n
  induction n with
  | zero => intro U v1 v2 _ h; exact h
  | succ n ih =>
    intro U v1 v2 v0 h
    unfold w_X5_handlerOf_L2 at h ⊢
    intro w
    obtain ⟨e, h1, h2⟩ := h w
    refine ⟨e, fun c => ⟨h1 c, rfl, Or.inl (by decide)⟩, fun c => ?_⟩
    obtain ⟨e1, d1, h3, h4⟩ := h2 c
    have rb := rgI (qI U (qO U 44 12) 9)
    have nx : w_X5_handlerOf_J64 Q1 (w_X5_handlerOf_L2 Q1 n) U v1 v2 → w_X5_handlerOf_J64 (fun z u => Q1 z u ∧ u = U ∧ (z.toInt < 0 ∨ ∃ c : Int32, 0 ≤ c.toInt ∧ c.toInt < (qI U (qO U 44 12) 9).toInt ∧ ¬ (fX8_catchHas U (qO U 44 12) c (qI U 44 13)).toInt = 0 ∧ z = qI U (qO U (qO U 44 12) 7) c.toInt.toNat)) (w_X5_handlerOf_L2 (fun z u => Q1 z u ∧ u = U ∧ (z.toInt < 0 ∨ ∃ c : Int32, 0 ≤ c.toInt ∧ c.toInt < (qI U (qO U 44 12) 9).toInt ∧ ¬ (fX8_catchHas U (qO U 44 12) c (qI U 44 13)).toInt = 0 ∧ z = qI U (qO U (qO U 44 12) 7) c.toInt.toNat)) n) U v1 v2 := fun hj => by
      unfold w_X5_handlerOf_J64 at hj ⊢
      intro w a e
      have ea : a.toInt = v2.toInt + 1 := by rw [e, t_addk (by rw [lo_1k]; omega), lo_1k]
      exact ih (by omega) (hj w a e)
    refine ⟨e1, d1, fun c1 => nx (h3 c1), fun c1 => ?_⟩
    have got : w_X5_handlerOf_J54 Q1 U v2 → w_X5_handlerOf_J54 (fun z u => Q1 z u ∧ u = U ∧ (z.toInt < 0 ∨ ∃ c : Int32, 0 ≤ c.toInt ∧ c.toInt < (qI U (qO U 44 12) 9).toInt ∧ ¬ (fX8_catchHas U (qO U 44 12) c (qI U 44 13)).toInt = 0 ∧ z = qI U (qO U (qO U 44 12) 7) c.toInt.toNat)) U v2 := fun hj => by
      unfold w_X5_handlerOf_J54 at hj ⊢
      intro w
      obtain ⟨a, b, bb, hq⟩ := hj w
      exact ⟨a, b, bb, hq, rfl, Or.inr ⟨v2, v0, by omega, c1, rfl⟩⟩
    obtain ⟨e2, e3, b3, h5, h6⟩ := h4 c1
    refine ⟨e2, e3, b3, fun c2 => got (h5 c2), fun c2 => ?_⟩
    obtain ⟨e4, e5, b5, h7, h8⟩ := h6 c2
    exact ⟨e4, e5, b5, fun c3 => got (h7 c3), fun c3 => nx (h8 c3)⟩
/-- back to the frame below, whatever the row and the place were -/
theorem ct_mclose (M : MdA A q C) (wA : wfC A) (w : wfC S) (e : Y3E A q S) (d0 : 0 < dpM S) (fr : ∀ d, d < dpM S → FrX A q C S d) (h : wX5_closeFrame S Q) : wX5_closeFrame S (fun u => Q u ∧ Y3B A q C u ∧ dpM u + 1 = dpM S ∧ tpM u = (qI S 51 (3 * dpM u + 2)).toInt ∧ qI u 44 13 = qI S 51 (3 * dpM u + 1) ∧ (∀ j, qI u 51 j = qI S 51 j) ∧ qI u 44 15 = qI S 44 15) := by
  have dp := e.dp
  have nd := e.nd
  have l1 := li_1k
  have l0 := li_0k
  have l3 := li_3k
  have l2 := li_2k
  have e1 : (qI S 44 11 - (1 : Int32)).toInt = (qI S 44 11).toInt - 1 := by rw [t_subk (by rw [l1]; omega), l1]
  have em : (if (0 : Int32) < (qI S 44 11) - (1 : Int32) then (qI S 44 11) - (1 : Int32) else (0 : Int32)).toInt = (qI S 44 11).toInt - 1 := by
    split
    · exact e1
    · rename_i c
      have : ¬ (0 : Int32).toInt < ((qI S 44 11) - (1 : Int32)).toInt := fun z => c (n_lt.mpr z)
      omega
  unfold wX5_closeFrame at h ⊢
  intro S3 e3 k3 w3
  obtain ⟨p0, df, h⟩ := h S3 e3 k3 w3
  have f3 : cfr [] [(45, 11)] S S3 := by rw [e3]; exact cfr.oI k3 rfl
  have d3 : (qI S3 44 11).toInt = (qI S 44 11).toInt - 1 := by rw [e3, qI_wI, if_pos ⟨rfl, rfl⟩]; exact em
  have i3 : ∀ j, qI S3 51 j = qI S 51 j := fun j => f3.kI w.k51 (by decide) (okO_n (F := [(45, 11)]) (by decide) (by decide))
  have q3 : qO S3 44 0 = q := by rw [qO_eq (f3.kO w.k44 (by decide) (by decide))]; exact qO_of e.2.1
  have eD : dpM S - 1 < dpM S := by omega
  have fx := fr (dpM S - 1) eD
  have n3 : (qI S3 44 11).toInt.toNat = dpM S - 1 := by unfold dpM at d0 ⊢; omega
  have frame : ∀ {W : MS} {k : Int32}, qI W 44 11 = qI S3 44 11 → (∀ j, qI W 51 j = qI S 51 j) → 0 ≤ k.toInt → k.toInt ≤ 2 → fX5_frameAt W k = qI S 51 (3 * (dpM S - 1) + k.toInt.toNat) := fun {W k} eW iW k0 k2 => by
    unfold fX5_frameAt
    have a : ((3 : Int32) * (qI W 44 11)).toInt = 3 * (qI S3 44 11).toInt := by rw [eW, t_mulk (by rw [l3]; omega), l3]
    have b : (((3 : Int32) * (qI W 44 11)) + k).toInt = 3 * (qI S3 44 11).toInt + k.toInt := by rw [t_addk (by rw [a]; omega), a]
    rw [if_neg (by rw [eW]; omega), if_neg (by rw [eW]; omega), iW, b]
    congr 1
    omega
  have F0 := frame (W := S3) (k := 0) rfl i3 (by decide) (by decide)
  rw [show (0 : Int32).toInt.toNat = 0 from rfl, Nat.add_zero] at F0
  rw [q3, F0] at h
  rw [q3, F0]
  refine ⟨p0.trans (by rw [q3]), df, fun t1 => ?_⟩
  obtain ⟨Q9, p9, h9⟩ := h t1
  have E3 : cfr KX FX A S3 := e.1.tr (f3.mo rfl rfl)
  have uu := uC.fr wA M.1.1 M.1.2.1 E3 (by decide)
  have md := (M.2 _ fx.2.1.1).1
  have q13 : qO S3 q 13 = qO A q 13 := qO_eq (E3.kO M.1.1 (by decide) (by decide))
  have k6 : qT A (qO A q 13) = 6 := wA.ref M.1.2.1.1.2.2.2.2.2.2.2.2 M.1.1
  have r13 : qR S3 (qO S3 q 13) (qI S 51 (3 * (dpM S - 1))).toInt.toNat = some (rwM A q (mD S (dpM S - 1))) := by
    rw [q13, E3.kO k6 (by decide) (okO_n (F := FX) (by decide) (by decide))]
    exact md.1
  have e8 : qI S3 q 8 = qI A q 8 := E3.kI M.1.1 (by decide) (by decide)
  have fx0 := fx.1
  have fx1 := fx.2.1.1
  refine ⟨_, ct_mrow w3 uu.2.1 uu.2.2 (by rw [e8]; unfold mD at fx1; omega) r13 p9, ?_⟩
  rintro b S11 ⟨g11, eb, e11⟩ w11 s11 k11 S14 e14 k14 w14
  obtain ⟨d14, h14⟩ := h9 b S11 g11 w11 s11 k11 S14 e14 k14 w14
  rw [e11] at e14
  have f14 : cfr [] [(45, 12)] S3 S14 := by rw [e14]; exact cfr.oR w3.k44 rfl
  have i14 : ∀ j, qI S14 51 j = qI S 51 j := fun j => by rw [f14.kI w3.k51 (by decide) (okO_n (F := [(45, 12)]) (by decide) (by decide)), i3]
  have F1 := frame (W := S14) (k := 1) (f14.kI w3.k44 (by decide) (by decide)) i14 (by decide) (by decide)
  rw [show (1 : Int32).toInt.toNat = 1 from rfl] at F1
  refine ⟨d14, fun S18 e18 k18 w18 => ?_⟩
  obtain ⟨d18, h18⟩ := h14 S18 e18 k18 w18
  rw [F1] at e18
  have f18 : cfr [] [(45, 13)] S14 S18 := by rw [e18]; exact cfr.oI k18 rfl
  have i18 : ∀ j, qI S18 51 j = qI S 51 j := fun j => by rw [f18.kI w14.k51 (by decide) (okO_n (F := [(45, 13)]) (by decide) (by decide)), i14]
  have F2 := frame (W := S18) (k := 2) ((f18.kI w14.k44 (by decide) (by decide)).trans (f14.kI w3.k44 (by decide) (by decide))) i18 (by decide) (by decide)
  rw [show (2 : Int32).toInt.toNat = 2 from rfl] at F2
  refine ⟨d18, fun S22 e22 k22 w22 => ?_⟩
  have h22 := h18 S22 e22 k22 w22
  rw [F2] at e22
  have f22 : cfr [] [(45, 14)] S18 S22 := by rw [e22]; exact cfr.oI k22 rfl
  have i22 : ∀ j, qI S22 51 j = qI S 51 j := fun j => by rw [f22.kI w18.k51 (by decide) (okO_n (F := [(45, 14)]) (by decide) (by decide)), i18]
  have G : cfr [] [(45, 11), (45, 12), (45, 13), (45, 14)] S S22 := (((f3.mo rfl rfl).tr (f14.mo rfl rfl)).tr (f18.mo rfl rfl)).tr (f22.mo rfl rfl)
  have d22 : qI S22 44 11 = qI S3 44 11 := by rw [f22.kI w18.k44 (by decide) (by decide), f18.kI w14.k44 (by decide) (by decide), f14.kI w3.k44 (by decide) (by decide)]
  have D22 : dpM S22 = dpM S - 1 := by unfold dpM; rw [d22]; exact n3
  have p22 : qI S22 44 13 = qI S 51 (3 * dpM S22 + 1) := by
    rw [f22.kI w18.k44 (by decide) (by decide), e18, qI_wI, if_pos ⟨rfl, rfl⟩, D22]
  have t22 : tpM S22 = (qI S 51 (3 * dpM S22 + 2)).toInt := by
    unfold tpM
    rw [e22, qI_wI, if_pos ⟨rfl, rfl⟩, ← e22, D22]
  have r22 : qR S22 44 12 = some (rwM A q (mD S (dpM S - 1))) := by
    rw [f22.kO w18.k44 (by decide) (by decide), f18.kO w14.k44 (by decide) (by decide), e14, qR_wR, if_pos ⟨rfl, rfl⟩]
    exact eb
  have m22 : mD S22 (dpM S22) = mD S (dpM S - 1) := by unfold mD; rw [D22, i22]
  obtain ⟨E1, E2, E3', E4, E5⟩ := e
  refine ⟨h22, ⟨⟨E1.tr (G.mo rfl rfl), by rw [G.kO w.k44 (by decide) (by decide)]; exact E2, by rw [G.kI w.k44 (by decide) (by decide)]; exact E3', ?_, E5.mv w G (by decide) (by decide) (by decide) (by decide)⟩, fun d hd => (fr d (by omega)).eq (fun j _ => i22 j), by rw [D22, i22]; exact fx.1, by rw [m22, p22, D22]; exact fx.2.1, by rw [m22]; exact r22⟩, by omega, t22, p22, i22, G.kI w.k44 (by decide) (by decide)⟩
  obtain ⟨M1, M2, M3⟩ := E4
  refine ⟨by rw [d22]; omega, ?_, ?_⟩
  · rw [G.kL w w.k44 (w.ptr (by decide)) (by decide) (by decide)]; exact M2
  · rw [G.kL w w.k44 (w.ptr (by decide)) (by decide) (by decide)]; exact M3
/-- an error goes to a handler, or out -/
theorem ct_mraiseL (M : MdA A q C) (wA : wfC A) : ∀ (n : Nat) {U : MS} {v1 v2 : Int32}, (v2.toInt < 0 → Y3E A q U) → (¬ v2.toInt < 0 → Y3B A q C U ∧ v2.toInt = (qI U 44 11).toInt) → w_X5_raise_L5 Q n U v1 v2 → w_X5_raise_L5 (fun u => Q u ∧ Y3J A q C u) n U v1 v2 := by
  intro n
  induction n with
  | zero => intro U v1 v2 _ _ h; exact h
  | succ n ih =>
    intro U v1 v2 hn hb h
    unfold w_X5_raise_L5 at h ⊢
    intro w
    obtain ⟨h1, h2⟩ := h w
    refine ⟨fun c S3 e3 k3 w3 S4 e4 k4 w4 => ⟨h1 c S3 e3 k3 w3 S4 e4 k4 w4, ?_⟩, fun c => ?_⟩
    · have f3 : cfr KV FV U S3 := by rw [e3]; exact cfr.oI k3 rfl
      have f4 : cfr KV FV S3 S4 := by rw [e4]; exact cfr.oI k4 rfl
      refine ((hn c).mv w (f3.tr f4)).j ?_
      have : qI S4 44 15 = 1 := by rw [e4, qI_wI, if_neg (fun z => by cases z.2), e3, qI_wI, if_pos ⟨rfl, rfl⟩]
      rw [this]; decide
    obtain ⟨B, ev⟩ := hb c
    obtain ⟨Q5, p5, h5⟩ := h2 c
    have p5' : wX5_handlerOf U v1 (fun z u => Q5 z u ∧ u = U ∧ (z.toInt < 0 ∨ ∃ c : Int32, 0 ≤ c.toInt ∧ c.toInt < (qI U (qO U 44 12) 9).toInt ∧ ¬ (fX8_catchHas U (qO U 44 12) c (qI U 44 13)).toInt = 0 ∧ z = qI U (qO U (qO U 44 12) 7) c.toInt.toNat)) := by
      unfold wX5_handlerOf at p5 ⊢
      obtain ⟨m, p5⟩ := p5
      exact ⟨m, ct_mhand m (by decide) p5⟩
    refine ⟨_, p5', ?_⟩
    rintro r6 S7 ⟨g6, e6, hz⟩ w7 s7
    obtain ⟨h6, h7⟩ := h5 r6 S7 g6 w7 s7
    rw [e6] at h6 h7 w7 ⊢
    have J : ∀ V : MS, (∀ a : Int32, a.toInt = v2.toInt - 1 → (a.toInt < 0 → Y3E A q V) ∧ (¬ a.toInt < 0 → Y3B A q C V ∧ a.toInt = (qI V 44 11).toInt)) → w_X5_raise_J46 Q (w_X5_raise_L5 Q n) V v1 v2 → w_X5_raise_J46 (fun u => Q u ∧ Y3J A q C u) (w_X5_raise_L5 (fun u => Q u ∧ Y3J A q C u) n) V v1 v2 := fun V hV hj => by
      unfold w_X5_raise_J46 at hj ⊢
      intro w' a ea
      have rv := rgI v2
      have e : a.toInt = v2.toInt - 1 := by rw [ea, t_addk (by rw [lo_m1k]; omega), lo_m1k]; omega
      exact ih (hV a e).1 (hV a e).2 (hj w' a ea)
    refine ⟨fun c1 => ?_, fun c1 => ?_⟩
    · obtain ⟨h8, h9⟩ := h6 c1
      refine ⟨fun c2 => J U (fun a ea => ⟨fun _ => B.1, fun z => by omega⟩) (h8 c2), fun c2 => ?_⟩
      obtain ⟨Q12, p12, h12⟩ := h9 c2
      have nd := B.1.nd
      refine ⟨_, ct_mclose M wA w B.1 (by omega) B.2.1 p12, ?_⟩
      rintro S13 ⟨g13, b13, d13, _, _, _, _⟩ w13 s13
      have nd13 := b13.1.nd
      exact J S13 (fun a ea => ⟨fun z => by omega, fun _ => ⟨b13, by omega⟩⟩) (h12 S13 g13 w13 s13)
    · intro S15 e15 k15 w15 S16 e16 k16 w16
      obtain ⟨Q18, p18, h18⟩ := h7 c1 S15 e15 k15 w15 S16 e16 k16 w16
      obtain ⟨c, c0, c9, hc, ez⟩ := hz.resolve_left c1
      have at' := B.at wA M
      have hg := (B.hg M).1.2.2.2
      obtain ⟨o12, o0, ⟨rc, kr, R⟩, uu, hx⟩ := at'
      have pt := (M.2 _ B.2.2.2.1.1).2.2.2.2
      rw [o12, rc.2.1] at c9
      rw [o12, rc.ch] at hc
      have e7 : qI U (qO U (qO U 44 12) 7) c.toInt.toNat = qI A (qO A (rwM A q (mD U (dpM U))) 7) c.toInt.toNat := by rw [o12, rc.2.2.1.2.2, rc.2.2.2.2.2]
      rw [e7] at ez
      have b7 := pt c.toInt.toNat (by omega)
      obtain ⟨n2, n3⟩ := hg c c0 c9 hc b7.1 b7.2
      have f15 : cfr KV FV U S15 := by rw [e15]; exact cfr.oI k15 rfl
      have f16 : cfr KV FV S15 S16 := by rw [e16]; exact cfr.oI k16 rfl
      have f := f15.tr f16
      have p16 : qI S16 44 13 = r6 := by rw [e16, qI_wI, if_neg (fun z => by cases z.2), e15, qI_wI, if_pos ⟨rfl, rfl⟩]
      have B16 : Y3B A q C S16 := B.mv w f (by rw [p16, ez]; exact ⟨B.2.2.2.1.1, b7, n2⟩)
      have t16 : tpM S16 = 0 := by unfold tpM; rw [e16, qI_wI, if_pos ⟨rfl, rfl⟩]; rfl
      refine ⟨_, ct_mpush B16.1.2.2.2.1 (by omega) p18, ?_⟩
      rintro S19 ⟨⟨g19, t19⟩, f19⟩ w19 s19
      have F19 : cfr KV FV S16 S19 := f19.mo rfl rfl
      have p19 : qI S19 44 13 = qI S16 44 13 := f19.kI w16.k44 (by decide) (by decide)
      have D16 : dpM S16 = dpM U := by unfold dpM; rw [f.kI w.k44 (by decide) (by decide)]
      have i16 : ∀ j, qI S16 51 j = qI U 51 j := fun j => f.kI w.k51 (by decide) (okO_n (F := FV) (by decide) (by decide))
      have i19 : ∀ j, qI S19 51 j = qI U 51 j := fun j => by rw [F19.kI w16.k51 (by decide) (okO_n (F := FV) (by decide) (by decide)), i16]
      have D19 : dpM S19 = dpM U := by unfold dpM; rw [F19.kI w16.k44 (by decide) (by decide), f.kI w.k44 (by decide) (by decide)]
      have m19 : mD S19 (dpM S19) = mD U (dpM U) := by unfold mD; rw [D19, i19]
      refine ⟨h18 S19 g19 w19 s19, Y3I.j ⟨B16.mv w16 F19 (by rw [p19]; exact B16.2.2.2.1), ?_, by omega⟩⟩
      rw [m19, p19, p16, ez, n3]
      omega
theorem ct_mraise (M : MdA A q C) (wA : wfC A) (B : Y3B A q C S) (h : wX5_raise S x Q) : wX5_raise S x (fun u => Q u ∧ Y3J A q C u) := by
  unfold wX5_raise at h ⊢
  intro a e
  obtain ⟨n, h⟩ := h a e
  have dp := B.1.dp
  exact ⟨n, ct_mraiseL M wA n (fun z => by rw [e] at z; omega) (fun _ => ⟨B, by rw [e]⟩) h⟩
end MRA
