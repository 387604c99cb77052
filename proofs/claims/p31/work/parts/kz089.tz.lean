/-! rule 10 -/
def TyE (S R : MS) (r : Int32) (u : MS) (oo : MS ⊕ MS) : Prop := (r = 1 ∧ T3 S u ∧ oo = .inl R) ∨ (r = 0 ∧ ∃ w, oo = .inr w ∧ BadP u w)
section TZ
variable {S S' R R' T u w : MS} {x y z r c v e len o N i x1 k t : Int32} {oo : MS ⊕ MS}
theorem pp_sameL : ∀ (n : Nat) {i p : Int32}, v_parameterPlaces_L17 c T n R k i p → T = R := by
  intro n
  induction n with
  | zero => intro i p h; unfold v_parameterPlaces_L17 at h; exact h.elim
  | succ n ih =>
    intro i p h
    unfold v_parameterPlaces_L17 at h
    have J94 : ∀ {t a : Int32}, v_parameterPlaces_J94 c T R t k a p → T = R := fun h => by
      rcases h with ⟨-, -, e⟩ | ⟨-, -, h⟩
      · exact e
      · rcases h with ⟨-, -, e⟩ | ⟨-, -, e⟩
        · exact e
        · exact e
    have J43 : ∀ {t : Int32}, v_parameterPlaces_J43 c T (v_parameterPlaces_L17 c T n) R t p k i → T = R := fun h => by
      obtain ⟨a, -, -, b, -, h⟩ := h
      exact ih h
    obtain ⟨-, h⟩ := h
    rcases h with ⟨-, -, h⟩ | ⟨-, -, h⟩
    · rcases h with ⟨-, a, -, -, h⟩ | ⟨-, -, e⟩
      · rcases h with ⟨-, h⟩ | ⟨-, -, h⟩
        · exact J94 h
        · exact J94 h
      · exact e
    · rcases h with ⟨-, h⟩ | ⟨-, h⟩
      · exact J43 h
      · exact J43 h
theorem pp_same (h : v_parameterPlaces R k c T) : T = R := by
  obtain ⟨-, h⟩ := h
  rcases h with ⟨-, n, h⟩ | ⟨-, -, e⟩
  · exact pp_sameL n h
  · exact e
theorem s_ty80 {S0 : MS} (hE : LyE S0 R) (me : ∀ j : Int32, 0 ≤ j.toInt → j.toInt < ((qI S0 9 7) + (qI S0 9 8)).toInt → MeN S0 j) : ∀ (n m : Nat) {S : MS} {k : Int32}, T3 S0 S → 0 ≤ k.toInt → v_X7_typesHold_L80 r u n S k → v_types_L102 oo m R k → TyE S0 R r u oo := by
  intro n
  induction n with
  | zero => intro m S k _ _ h _; unfold v_X7_typesHold_L80 at h; exact h.elim
  | succ n ih =>
    intro m S k ht k0 h g
    cases m with
    | zero => unfold v_types_L102 at g; exact g.elim
    | succ m =>
      obtain ⟨m1, m2, m3, m4, m5⟩ := hE.cnt
      unfold v_X7_typesHold_L80 at h
      unfold v_types_L102 at g
      rw [m3] at g
      obtain ⟨wS, h⟩ := h
      rw [ht.2.1 7 (by decide) (by decide) (by decide), ht.2.1 8 (by decide) (by decide) (by decide), m4] at h
      rcases h with ⟨c, er, eu⟩ | ⟨c, h⟩
      · rcases g with ⟨-, g⟩ | ⟨c2, -⟩
        · exact Or.inl ⟨er, by rw [eu]; exact ht, g⟩
        · exact absurd c c2
      rcases g with ⟨c2, -⟩ | ⟨-, -, a6, e6, -, r11, S12, g11, g⟩
      · exact absurd c2 c
      have mp := hE.mp (k := k) k0 (by omega)
      obtain ⟨b1, b2, b3⟩ := hE.mem k.toInt.toNat (by omega)
      have hb2 := hE.1.2.1
      have q4 : ((qI R 9 k.toInt.toNat) + (4 : Int32)).toInt = (qI R 9 k.toInt.toNat).toInt + 4 := by rw [t_add (by rw [li_4]; omega), li_4]
      have ety : f_two R a6 = fX7_typeOf S0 k := by
        rw [e6, hE.u2 (by omega) (by omega)]
        unfold fX7_typeOf
        rw [mp]
      have MN := me k k0 (by rw [m4]; omega)
      rw [ety] at g11
      have e12 := pp_same g11
      rw [e12, m5, ety] at g
      -- the end of one turn
      have JC : ∀ {U : MS} {t : Int32}, T3 S0 U → v_X7_typesHold_J147 r u (v_X7_typesHold_L80 r u n) U t k → (t.toInt = 0 ∧ r = 0 ∧ u = bRk U 10 a6) ∨ (t.toInt ≠ 0 ∧ ∃ a : Int32, a = k + Int32.ofInt 1 ∧ v_X7_typesHold_L80 r u n U a) := fun {U t} tU h => by
        obtain ⟨-, -, h⟩ := h
        rcases h with ⟨z, -, a9, e9, r12, S13, h, -, -, er, eu⟩ | ⟨z, a5, e5, h⟩
        · obtain ⟨a, b⟩ := cv_breaks h
          exact Or.inl ⟨z, by rw [er, a], by rw [eu, b, e9, tU.mp, mp, e6]⟩
        · exact Or.inr ⟨z, a5, e5, h⟩
      have JR : ∀ {t : Int32}, v_types_J165 oo (v_types_L102 oo m) R t k a6 → (t.toInt = 0 ∧ oo = .inr (rBk R 10 a6)) ∨ (t.toInt ≠ 0 ∧ ∃ a : Int32, a = k + Int32.ofInt 1 ∧ v_types_L102 oo m R a) := fun hj => by
        rcases hj with ⟨S6, hm, a, ea, hj⟩ | ⟨u9, hm, hj⟩
        · rcases rv_must hm with ⟨q, z⟩ | ⟨q, z⟩
          · injection z with z
            rw [z] at hj
            exact Or.inr ⟨q, a, ea, hj⟩
          · exact nomatch z
        · rcases rv_must hm with ⟨q, z⟩ | ⟨q, z⟩
          · exact nomatch z
          · injection z with z
            exact Or.inl ⟨q, by rw [hj, z]⟩
      have GO : ∀ {U : MS} {t t2 : Int32}, T3 S0 U → (t.toInt = 0 ↔ t2.toInt = 0) → v_X7_typesHold_J147 r u (v_X7_typesHold_L80 r u n) U t k → v_types_J165 oo (v_types_L102 oo m) R t2 k a6 → TyE S0 R r u oo := fun tU hz h g => by
        rcases JC tU h with ⟨z, er, eu⟩ | ⟨z, a, ea, h⟩
        · rcases JR g with ⟨-, e⟩ | ⟨z2, -⟩
          · exact Or.inr ⟨er, _, e, by rw [eu]; exact badP⟩
          · exact absurd (hz.mp z) z2
        · rcases JR g with ⟨z2, -⟩ | ⟨-, a2, ea2, g⟩
          · exact absurd (hz.mpr z2) z
          · have ek : a.toInt = k.toInt + 1 := by rw [ea, t_add (by rw [show (Int32.ofInt 1).toInt = 1 from rfl]; omega)]; rfl
            rw [ea2, ← ea] at g
            exact ih m tU (by omega) h g
      have o0 : (0 : Int32).toInt = 0 := rfl
      have o1 : (1 : Int32).toInt = 1 := li_1
      rcases h with ⟨c3, -, a19, e19, r21, S22, h21, -, -, h⟩ | ⟨c3, -, a29, e29, -, a33, e33, h⟩
      · rcases g with ⟨-, g⟩ | ⟨c4, -⟩
        · rw [e19, ht.to] at h21
          have hES := hE.mvS ht
          obtain ⟨t22, -, M⟩ := s_mt hES (k := fX7_typeOf S0 k) (by rw [ht.tg]; exact MN.2.1) wS h21 g11
          have tU := ht.tr t22
          rcases M with ⟨er, n0, e13⟩ | ⟨er, en⟩
          · rw [er, e13] at h
            rcases h with ⟨z, -⟩ | ⟨-, h⟩
            · exact absurd z (by decide)
            rcases g with ⟨z, -⟩ | ⟨-, g⟩
            · omega
            rcases h with ⟨c5, -, h⟩ | ⟨c5, h⟩
            · rcases g with ⟨-, g⟩ | ⟨c6, -⟩
              · exact GO tU (t := 0) (t2 := 0) Iff.rfl h g
              · exact absurd c5 c6
            · rcases g with ⟨c6, -⟩ | ⟨-, g⟩
              · exact absurd c6 c5
              · exact GO tU (t := 1) (t2 := 1) Iff.rfl h g
          · rw [er] at h
            rw [en] at g
            rcases h with ⟨-, -, h⟩ | ⟨z, -⟩
            · rcases g with ⟨-, g⟩ | ⟨z, -⟩
              · exact GO tU (t := 0) (t2 := 0) Iff.rfl h g
              · exact absurd (by decide) z
            · exact absurd (by decide) z
        · exact absurd c3 c4
      · rcases g with ⟨c4, -⟩ | ⟨-, -, -, g⟩
        · exact absurd c4 c3
        · rw [e33, e29, ht.to, ht.kt] at h
          have KT := kt_ty hE MN.2.1
          rcases h with ⟨c5, h⟩ | ⟨c5, h⟩
          · refine GO ht ⟨fun _ => ?_, fun _ => o0⟩ h g
            by_cases q : (f_isType R (fX7_typeOf S0 k)).toInt = 0
            · exact q
            · exact absurd c5 (KT.mp q)
          · refine GO ht ⟨fun q => ?_, fun q => ?_⟩ h g
            · rw [o1] at q
              omega
            · exact absurd q (KT.mpr c5)
theorem s_tyL {S0 : MS} (hE : LyE S0 R) (pt : ∀ j, ptOK S0 j) (me : ∀ j : Int32, 0 ≤ j.toInt → j.toInt < ((qI S0 9 7) + (qI S0 9 8)).toInt → MeN S0 j) : ∀ (n m : Nat) {S : MS} {k : Int32}, T3 S0 S → 1 ≤ k.toInt → k.toInt ≤ 600 → v_X7_typesHold_L2 r u n S k → v_types_L2 oo m R k → TyE S0 R r u oo := by
  intro n
  induction n with
  | zero => intro m S k _ _ _ h _; unfold v_X7_typesHold_L2 at h; exact h.elim
  | succ n ih =>
    intro m S k ht k1 k6 h g
    cases m with
    | zero => unfold v_types_L2 at g; exact g.elim
    | succ m =>
      obtain ⟨⟨e14, p1, p5⟩, -⟩ := hE.ent
      unfold v_X7_typesHold_L2 at h
      unfold v_types_L2 at g
      rw [e14] at g
      obtain ⟨wS, h⟩ := h
      rw [ht.2.1 5 (by decide) (by decide) (by decide)] at h
      rcases h with ⟨c, n1, h⟩ | ⟨c, -, a38, e38, h⟩
      · rcases g with ⟨-, m1, g⟩ | ⟨c2, -⟩
        · exact s_ty80 hE me n1 m1 ht (by decide) h g
        · exact absurd c c2
      rcases g with ⟨c2, -⟩ | ⟨-, -, g⟩
      · exact absurd c2 c
      rw [ht.tg] at e38
      obtain ⟨tg, -⟩ := tg_in hE k1 (by omega)
      rw [← tg, ← e38] at g
      have o0 : (0 : Int32).toInt = 0 := rfl
      have o1 : (1 : Int32).toInt = 1 := li_1
      -- the pair's type, a NAME
      have PR : a38.toInt = 9 ∨ a38.toInt = 10 → (qI R 7 k.toInt.toNat = fX7_secondOf S0 k ∧ qI R 7 (fX7_secondOf S0 k).toInt.toNat = fX7_secondOf S0 (fX7_secondOf S0 k)) ∧ (fX7_tagOf S0 (fX7_secondOf S0 (fX7_secondOf S0 k))).toInt = 1 ∧ qI R 5 k.toInt.toNat = fX7_entryAt S0 k := fun q => by
        rw [e38] at q
        have P := (pt k).2.2 q
        have f1 := (fs_7 hE (k := k) (by omega)).2 (by omega)
        have f2 := (fs_7 hE (k := fX7_secondOf S0 k) (by omega)).2 (by omega)
        exact ⟨⟨f1, f2⟩, ((pt (fX7_secondOf S0 k)).2.1 P.2).2, (tg_en hE (by omega)).1.2.1⟩
      have NXT : ∀ {U : MS}, T3 S0 U → v_X7_typesHold_J72 r u (v_X7_typesHold_L2 r u n) U k → v_types_J94 oo (v_types_L2 oo m) R k → TyE S0 R r u oo := fun tU h g => by
        obtain ⟨-, a, ea, h⟩ := h
        obtain ⟨a2, ea2, g⟩ := g
        have ek : a.toInt = k.toInt + 1 := by rw [ea, t_add (by rw [show (Int32.ofInt 1).toInt = 1 from rfl]; omega)]; rfl
        rw [ea2, ← ea] at g
        exact ih m tU (by omega) (by omega) h g
      have BR : ∀ {U : MS}, T3 S0 U → v_X7_typesHold_J60 r u U k → r = 0 ∧ u = bRk U 10 (fX7_entryAt S0 k) := fun tU h => by
        obtain ⟨-, -, a42, e42, r44, S45, h, -, -, er, eu⟩ := h
        obtain ⟨a, b⟩ := cv_breaks h
        exact ⟨by rw [er, a], by rw [eu, b, e42, tU.ea]⟩
      have M38 : ∀ {U : MS}, wfC U → T3 S0 U → v_X7_typesHold_J38 r u (v_X7_typesHold_L2 r u n) U k a38 → v_types_J48 oo (v_types_L2 oo m) R k → TyE S0 R r u oo := fun wU tU h g => by
        unfold v_types_J48 at g
        rw [← tg, ← e38] at g
        obtain ⟨-, h⟩ := h
        obtain ⟨-, g⟩ := g
        rcases h with ⟨c5, -, a52, e52, -, a56, e56, r58, S59, h58, -, -, h⟩ | ⟨c5, h⟩
        · obtain ⟨⟨f1, f2⟩, t1, e5⟩ := PR (Or.inr c5)
          rw [tU.so] at e52
          rw [e52, tU.so] at e56
          rcases g with ⟨-, -, -, r38, S39, g38, g⟩ | ⟨c6, -⟩
          · rw [f1, f2] at g38
            rw [e56] at h58
            obtain ⟨t59, e39, M⟩ := s_mt (hE.mvS tU) (by rw [tU.tg]; exact t1) wU h58 g38
            rw [e39] at g
            have tW := tU.tr t59
            have JR : ∀ {t : Int32}, v_types_J83 oo (v_types_L2 oo m) R t k → (t.toInt = 0 ∧ oo = .inr (rBk R 10 (fX7_entryAt S0 k))) ∨ (t.toInt ≠ 0 ∧ v_types_J94 oo (v_types_L2 oo m) R k) := fun hj => by
              unfold v_types_J83 at hj
              rw [e5] at hj
              obtain ⟨-, hj⟩ := hj
              rcases hj with ⟨S6, hm, hj⟩ | ⟨u9, hm, hj⟩
              · rcases rv_must hm with ⟨q, z⟩ | ⟨q, z⟩
                · injection z with z
                  rw [z] at hj
                  exact Or.inr ⟨q, hj⟩
                · exact nomatch z
              · rcases rv_must hm with ⟨q, z⟩ | ⟨q, z⟩
                · exact nomatch z
                · injection z with z
                  exact Or.inl ⟨q, by rw [hj, z]⟩
            rcases M with ⟨er, n0, -⟩ | ⟨er, en⟩
            · rcases h with ⟨z, -⟩ | ⟨-, h⟩
              · exact absurd z (by rw [er]; decide)
              rcases g with ⟨z, -⟩ | ⟨-, g⟩
              · omega
              rcases JR g with ⟨z, -⟩ | ⟨-, g⟩
              · exact absurd z (by decide)
              · exact NXT tW h g
            · rcases h with ⟨-, h⟩ | ⟨z, -⟩
              · rcases g with ⟨-, g⟩ | ⟨z, -⟩
                · rcases JR g with ⟨-, e⟩ | ⟨z, -⟩
                  · obtain ⟨a, b⟩ := BR tW h
                    exact Or.inr ⟨a, _, e, by rw [b]; exact badP⟩
                  · exact absurd o0 z
                · exact absurd (by rw [en]; decide) z
              · exact absurd (by rw [er]; rfl) z
          · exact absurd c5 c6
        · rcases g with ⟨c6, -⟩ | ⟨-, g⟩
          · exact absurd c6 c5
          · exact NXT tU h g
      rcases h with ⟨c3, -, a66, e66, -, a70, e70, -, a74, e74, h⟩ | ⟨c3, h⟩
      · obtain ⟨⟨f1, f2⟩, t1, e5⟩ := PR (Or.inl c3)
        rw [ht.so] at e66
        rw [e66, ht.so] at e70
        rw [e74, e70, ht.kt] at h
        have KT := kt_ty hE t1
        rcases g with ⟨-, -, -, -, -, g⟩ | ⟨c4, -⟩
        · rw [f1, f2, e5] at g
          rcases g with ⟨S58, hm, g⟩ | ⟨u9, hm, g⟩
          · rcases rv_must hm with ⟨q, z⟩ | ⟨q, z⟩
            · injection z with z
              rw [z] at g
              rcases h with ⟨c5, -⟩ | ⟨-, h⟩
              · exact absurd c5 (KT.mp q)
              · exact M38 wS ht h g
            · exact nomatch z
          · rcases rv_must hm with ⟨q, z⟩ | ⟨q, z⟩
            · exact nomatch z
            · injection z with z
              rcases h with ⟨-, h⟩ | ⟨c5, -⟩
              · obtain ⟨a, b⟩ := BR ht h
                exact Or.inr ⟨a, u9, g, by rw [b, z]; exact badP⟩
              · exact absurd q (KT.mpr c5)
        · exact absurd c3 c4
      · rcases g with ⟨c4, -⟩ | ⟨-, g⟩
        · exact absurd c4 c3
        · exact M38 wS ht h g
theorem s_types (hE : LyE S R) (pt : ∀ j, ptOK S j) (me : ∀ j : Int32, 0 ≤ j.toInt → j.toInt < ((qI S 9 7) + (qI S 9 8)).toInt → MeN S j) (h : vX7_typesHold S r u) (g : v_types R oo) : TyE S R r u oo := by
  obtain ⟨n, h⟩ := h
  obtain ⟨m, g⟩ := g
  exact s_tyL hE pt me n m T3.rf (by decide) (by decide) h g
end TZ
