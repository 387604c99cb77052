/-! the first bytes, and the pool with its number -/
section MF
variable {S S' R R' T u w : MS} {x y z r c v e len o N i x1 : Int32} {k a p : Nat} {oo : MS ⊕ MS}
theorem cv_fillL {A : MS} {b : Int32} (hb : b.toInt = qN A p) : ∀ (n : Nat) {U : MS} {v : Int32}, 0 ≤ v.toInt → (∀ j : Nat, (j : Int) < v.toInt → qI U p j = x) → (∀ a, a ≠ p → qI U a = qI A a) → qJ U = qJ A → qR U = qR A → qT U = qT A → qN U = qN A → v_J7_fill_53178_L5 u n U p x v b → (∀ j : Nat, j < qN A p → qI u p j = x) ∧ (∀ a, a ≠ p → qI u a = qI A a) ∧ qJ u = qJ A ∧ qR u = qR A ∧ qT u = qT A ∧ qN u = qN A := by
  intro n
  induction n with
  | zero => intro U v _ _ _ _ _ _ _ h; unfold v_J7_fill_53178_L5 at h; exact h.elim
  | succ n ih =>
    intro U v v0 g h1 h2 h3 h4 h5 h
    unfold v_J7_fill_53178_L5 at h
    obtain ⟨-, h⟩ := h
    rcases h with ⟨c, eu⟩ | ⟨c, -, S4, e4, -, a5, e5, h⟩
    · rw [eu]
      exact ⟨fun j hj => g j (by omega), h1, h2, h3, h4, h5⟩
    · have rb := rgI b
      have e : a5.toInt = v.toInt + 1 := by rw [e5, t_add (by rw [show (Int32.ofInt 1).toInt = 1 from rfl]; omega)]; rfl
      refine ih (by omega) (fun j hj => ?_) (fun a ha => by rw [e4, rdH ha, h1 a ha]) (by rw [e4]; exact h2) (by rw [e4]; exact h3) (by rw [e4]; exact h4) (by rw [e4]; exact h5) h
      by_cases z : j = v.toInt.toNat
      · rw [e4, z, g_eq]
      · rw [e4, g_nf z]
        exact g j (by omega)
theorem cv_fill (hn : qN S p ≤ 8388608) (h : vJ7_fill_53178 S p x u) : (∀ j : Nat, j < qN S p → qI u p j = x) ∧ (∀ a, a ≠ p → qI u a = qI S a) ∧ qJ u = qJ S ∧ qR u = qR S ∧ qT u = qT S ∧ qN u = qN S := by
  obtain ⟨b, eb, n, h⟩ := h
  exact cv_fillL (by rw [eb]; exact toI_len hn) n (by decide) (fun j hj => absurd hj (by rw [show (0 : Int32).toInt = 0 from rfl]; omega)) (fun _ _ => rfl) rfl rfl rfl rfl h
theorem mg_eq (h0 : 0 ≤ v.toInt) (h1 : v.toInt < 8) : stMG.getD v.toInt.toNat 0 = f_headByte R v := by
  unfold f_headByte
  have z : ∀ n : Fin 8, stMG.getD n.val 0 = (if (n.val : Int) = 0 then (202 : Int32) else (if (n.val : Int) = 1 then (254 : Int32) else (if (n.val : Int) = 2 then (186 : Int32) else (if (n.val : Int) = 3 then (190 : Int32) else (if (n.val : Int) = 7 then (49 : Int32) else (0 : Int32)))))) := by decide
  have q := z ⟨v.toInt.toNat, by omega⟩
  have e : ((v.toInt.toNat : Nat) : Int) = v.toInt := by omega
  simp only [e] at q
  exact q
theorem s_mgL (hb : BtE S R) (hs : SrN R) : ∀ (n m : Nat) {v : Int32}, 0 ≤ v.toInt → v.toInt ≤ 8 → v.toInt ≤ (qI S 9 1).toInt → v_X7_magicHolds_L2 r u n S v → v_layout_L2 oo m R v → (r = 1 ∧ u = wI S 9 15 8 ∧ 8 ≤ (qI S 9 1).toInt ∧ ∃ (m' : Nat) (v' : Int32), 8 ≤ v'.toInt ∧ v_layout_L2 oo (m' + 1) R v') ∨ (r = 0 ∧ ∃ w, oo = .inr w ∧ BadP u w) := by
  intro n
  induction n with
  | zero => intro m v _ _ _ h _; unfold v_X7_magicHolds_L2 at h; exact h.elim
  | succ n ih =>
    intro m v v0 v8 vn h g
    cases m with
    | zero => unfold v_layout_L2 at g; exact g.elim
    | succ m =>
      have g0 := g
      unfold v_X7_magicHolds_L2 at h
      unfold v_layout_L2 at g
      obtain ⟨-, h⟩ := h
      have b12 := hb.1
      rcases h with ⟨c, S4, e4, -, -, er, eu⟩ | ⟨c, h⟩
      · exact Or.inl ⟨er, by rw [eu, e4], by omega, m, v, c, g0⟩
      rcases g with ⟨c2, -⟩ | ⟨-, g⟩
      · exact absurd c2 c
      rcases h with ⟨c3, h⟩ | ⟨c3, h⟩
      · rcases g with ⟨c4, -⟩ | ⟨-, g⟩
        · rw [b12] at c4
          omega
        · rcases g with ⟨S5, hm, g⟩ | ⟨u9, hm, -⟩
          · rcases rv_must hm with ⟨-, z⟩ | ⟨z, -⟩
            · injection z with z
              rw [z] at g
              obtain ⟨-, -, g⟩ := g
              rw [← hb.u1 v0 c3, ← mg_eq v0 (by omega)] at g
              obtain ⟨-, -, h⟩ := h
              have JJ : ∀ {t : Int32}, v_layout_J48 oo (v_layout_L2 oo m) R t v → (t.toInt ≠ 0 ∧ ∃ a : Int32, a = v + Int32.ofInt 1 ∧ v_layout_L2 oo m R a) ∨ (t.toInt = 0 ∧ ∃ w, oo = .inr w ∧ w = rBk R 1 v) := fun hj => by
                rcases hj with ⟨S6, hm, a, ea, hj⟩ | ⟨u9, hm, hj⟩
                · rcases rv_must hm with ⟨q, z⟩ | ⟨q, z⟩
                  · injection z with z
                    rw [z] at hj
                    exact Or.inl ⟨q, a, ea, hj⟩
                  · exact nomatch z
                · rcases rv_must hm with ⟨q, z⟩ | ⟨q, z⟩
                  · exact nomatch z
                  · injection z with z
                    exact Or.inr ⟨q, u9, hj, z⟩
              rcases h with ⟨c5, a12, e12, h⟩ | ⟨c5, r14, S15, h, -, -, er, eu⟩
              · rcases g with ⟨-, g⟩ | ⟨c6, -⟩
                · rcases JJ g with ⟨-, a, ea, g⟩ | ⟨q, -⟩
                  · have e : a12.toInt = v.toInt + 1 := by rw [e12, t_add (by rw [show (Int32.ofInt 1).toInt = 1 from rfl]; omega)]; rfl
                    rw [ea, ← e12] at g
                    exact ih m (by omega) (by omega) (by omega) h g
                  · exact absurd q (by decide)
                · exact absurd c5 c6
              · rcases g with ⟨c6, -⟩ | ⟨-, g⟩
                · exact absurd c6 c5
                · rcases JJ g with ⟨q, -⟩ | ⟨-, w, e, ew⟩
                  · exact absurd (by decide) q
                  · obtain ⟨a, b⟩ := cv_breaks h
                    exact Or.inr ⟨by rw [er, a], w, e, by rw [eu, b, ew]; exact badP⟩
            · exact absurd z (by decide)
          · rcases rv_must hm with ⟨-, z⟩ | ⟨z, -⟩
            · exact nomatch z
            · exact absurd z (by decide)
      · rcases g with ⟨-, g⟩ | ⟨c4, -⟩
        · rcases g with ⟨S5, hm, -⟩ | ⟨u9, hm, g⟩
          · rcases rv_must hm with ⟨z, -⟩ | ⟨-, z⟩
            · exact absurd (by decide) z
            · exact nomatch z
          · rcases rv_must hm with ⟨z, -⟩ | ⟨-, z⟩
            · exact absurd (by decide) z
            · injection z with z
              obtain ⟨r18, S19, h, -, -, er, eu⟩ := h
              obtain ⟨a, b⟩ := cv_breaks h
              exact Or.inr ⟨by rw [er, a], u9, g, by rw [eu, b, z, b12]; exact badP⟩
        · rw [b12] at c4
          omega
theorem rv_l112 {A : MS} (h5 : qN A 4 = 502) : ∀ (n : Nat) {U : MS} {v : Int32}, 0 ≤ v.toInt → v.toInt ≤ 502 → (∀ j : Nat, (j : Int) < v.toInt → qI U 4 j = 0) → (∀ a, a ≠ 4 → qI U a = qI A a) → qJ U = qJ A → qR U = qR A → qN U = qN A → v_layout_L112 oo n U v → ∃ (W : MS) (m : Nat), v_layout_L136 oo m W 1 ∧ (∀ j : Nat, j < 502 → qI W 4 j = 0) ∧ (∀ a, a ≠ 4 → qI W a = qI A a) ∧ qJ W = qJ A ∧ qR W = qR A ∧ qN W = qN A := by
  intro n
  induction n with
  | zero => intro U v _ _ _ _ _ _ _ h; unfold v_layout_L112 at h; exact h.elim
  | succ n ih =>
    intro U v v0 v5 g h1 h2 h3 h4 h
    unfold v_layout_L112 at h
    have e5 : (Int32.ofNat (qN U 4)).toInt = 502 := by rw [h4, h5]; decide
    rw [e5] at h
    rcases h with ⟨c, m, h⟩ | ⟨c, -, S4, e4, a5, ea, h⟩
    · exact ⟨U, m, h, fun j hj => g j (by omega), h1, h2, h3, h4⟩
    · have e : a5.toInt = v.toInt + 1 := by rw [ea, t_add (by rw [show (Int32.ofInt 1).toInt = 1 from rfl]; omega)]; rfl
      refine ih (by omega) (by omega) (fun j hj => ?_) (fun a ha => by rw [e4, rdH ha, h1 a ha]) (by rw [e4]; exact h2) (by rw [e4]; exact h3) (by rw [e4]; exact h4) h
      by_cases z : j = v.toInt.toNat
      · rw [e4, z, g_eq]
      · rw [e4, g_nf z]
        exact g j (by omega)
/-- the pool with its number: from the place behind the first bytes -/
theorem s_pool {m : Nat} (hb : BtE S R) (hs : SrN R) (hp : PsI S) (e15 : (qI S 9 15).toInt = 8) (h502 : qN R 4 = 502) (wS : wfC S) (h : vX7_poolFits S r u) (hv : 8 ≤ v.toInt) (g : v_layout_L2 oo (m + 1) R v) : (r = 1 ∧ ∃ (R' : MS) (m' : Nat) (v' : Int32), PoI u R' v'.toInt ∧ (qI u 9 5).toInt ≤ v'.toInt ∧ v_layout_L136 oo (m' + 1) R' v') ∨ (r = 0 ∧ ∃ w, oo = .inr w ∧ BadP u w) := by
  have hp' := hp
  obtain ⟨pa, pb, pc⟩ := hp'
  have l2 : (2 : Int64).toInt = 2 := by decide
  have l8 : (8 : Int32).toInt = 8 := li_8
  unfold v_layout_L2 at g
  rcases g with ⟨-, S2, e2, g⟩ | ⟨c, -⟩
  · have f2 : AtF R S2 0 := by rw [e2]; exact AtF.rf.w13 hs
    have n2 : qI S2 0 13 = qI S 9 15 := Int32.toInt_inj.mp (by rw [e2, n_13, e15, l8])
    have b2 := rd12 hb f2.1 (f2.2.1 12 (by decide) (by decide))
    obtain ⟨r2, S3, h2, -, -, h⟩ := h
    rcases g with ⟨r4, S5, g4, -, S10, e10, g⟩ | ⟨u9, g4, g⟩
    · rcases ov_at (y := 2) l2 (by omega) b2.1 hp (by rw [n2]; omega) (by rw [n2]; omega) g4 with ⟨c4, v4, ev4, e⟩ | ⟨-, e⟩
      · injection e with e
        injection e with er4 eS5
        rw [n2] at ev4 er4 c4
        have f5 : AtF R S5 0 := by rw [eS5]; exact f2.w13 hs
        have b5 := rd12 hb f5.1 (f5.2.1 12 (by decide) (by decide))
        rcases cv_there hp (by decide) h2 with ⟨c1, er, eS⟩ | ⟨c1, er, eS⟩
        · rcases h with ⟨z, -⟩ | ⟨-, -, a9, e9, S10', e10', -, w10, h⟩
          · exact absurd z (by rw [er]; decide)
          rw [eS] at e9 e10'
          have x5 : qI S10' 9 5 = fX7_u2 S (qI S 9 15) := by rw [e10', g_eq, e9]
          have y14 : qI S10 0 14 = fX7_u2 S (qI S 9 15) := by rw [e10, g_eq, er4, b5.u2 (by omega) (by omega)]
          have x15 : qI S10' 9 15 = qI S 9 15 := by rw [e10', g_nf (by decide)]
          have s10 : smX S S10' := by rw [e10']; exact smX.wk wS (wS.2.1 _ finC_2).2.1 (by decide) (fun _ => by decide)
          rw [x5] at h
          rw [y14] at g
          have BB : v_X7_poolFits_J40 r u S10' → r = 0 ∧ u = bRk S10' 5 (qI S10' 9 15) := fun h => by
            obtain ⟨-, r5, S5, h, -, -, er, eu⟩ := h
            obtain ⟨a, b⟩ := cv_breaks h
            exact ⟨by rw [er, a], by rw [eu, b]⟩
          have BR : v_layout_J103 oo S10 → ∃ w, oo = .inr w ∧ w = rBk S10 5 8 := fun g => by
            rcases g with ⟨S12, hm, -⟩ | ⟨u9, hm, g⟩
            · rcases rv_must hm with ⟨z, -⟩ | ⟨-, z⟩
              · exact absurd (by decide) z
              · exact nomatch z
            · rcases rv_must hm with ⟨z, -⟩ | ⟨-, z⟩
              · exact absurd (by decide) z
              · injection z with z
                exact ⟨u9, g, z⟩
          have e8 : qI S 9 15 = 8 := Int32.toInt_inj.mp (by rw [e15, l8])
          have BAD : v_X7_poolFits_J40 r u S10' → v_layout_J103 oo S10 → (r = 0 ∧ ∃ w, oo = .inr w ∧ BadP u w) := fun h g => by
            obtain ⟨a, b⟩ := BB h
            obtain ⟨w, e, ew⟩ := BR g
            exact ⟨a, w, e, by rw [b, ew, x15, e8]; exact badP⟩
          rcases h with ⟨c5, h⟩ | ⟨c5, h⟩
          · rcases g with ⟨-, g⟩ | ⟨c6, -⟩
            · exact Or.inr (BAD h g)
            · exact absurd c5 c6
          rcases g with ⟨c6, -⟩ | ⟨-, g⟩
          · exact absurd c6 c5
          rcases h with ⟨c7, S18, e18, -, w18, k11, S20, hf, w20, -, n20, h⟩ | ⟨c7, h⟩
          · rcases g with ⟨c8, -⟩ | ⟨-, g⟩
            · omega
            rcases g with ⟨S12, hm, n12, g⟩ | ⟨u9, hm, -⟩
            · rcases rv_must hm with ⟨-, z⟩ | ⟨z, -⟩
              · injection z with z
                rw [z] at g
                have f10 : smB R S10 := f5.1.tr (by rw [e10]; exact ⟨rfl, rdH (hs.sm f5.1).nz⟩)
                have h502' : qN S10 4 = 502 := by rw [e10]; show qN S5 4 = 502; rw [eS5]; show qN S2 4 = 502; rw [e2]; exact h502
                obtain ⟨W, m9, g, z4, fa, fj, fr, fn⟩ := rv_l112 h502' n12 (by decide) (by decide) (fun j hj => absurd hj (by rw [show (0 : Int32).toInt = 0 from rfl]; omega)) (fun _ _ => rfl) rfl rfl rfl g
                have q11 : qN S18 11 = 500 := (w18.2.1 _ finC_7).2.2
                obtain ⟨z11, ga, gj, gr, gt, gn⟩ := cv_fill (by rw [q11]; decide) hf
                rw [q11] at z11
                have s18 : smX S S18 := s10.tr (by rw [e18]; exact sm915 w10)
                have dn : qO S18 9 0 ≠ 11 := fun q => by
                  have kd : qT S18 (qO S18 9 0) = 101 := w18.ref (w18.ptr ptrC_3) (w18.2.1 _ finC_2).2.1
                  rw [q, k11] at kd
                  exact absurd kd (by decide)
                have s20 : smX S18 S20 := ⟨by rw [ga 9 (by decide)], by unfold qO; rw [gr], by rw [gn], by rw [ga _ dn]⟩
                have sW : smB S10 W := by
                  refine ⟨by rw [fr], ?_⟩
                  have hs10 := hs.sm f10
                  rw [fa _ (fun q => hs10 4 (by decide) (by decide) q.symm)]
                have x20 : qI S20 9 15 = (qI S 9 15) + (2 : Int32) := by rw [ga 9 (by decide), e18, g_eq, x15]
                have q10 : ((qI S 9 15) + (2 : Int32)).toInt = 10 := by rw [t_add (by rw [li_2]; omega), li_2, e15]; rfl
                have y5 : qI S20 9 5 = fX7_u2 S (qI S 9 15) := by rw [ga 9 (by decide), e18, g_nf (by decide), x5]
                have yW : ∀ j : Nat, qI W 0 j = qI S10 0 j := fun j => by rw [fa 0 (by decide)]
                have wW : qI W 0 13 = qI S20 9 15 := Int32.toInt_inj.mp (by rw [yW, e10, g_nf (by decide), eS5, n_13, x20, q10]; omega)
                have b20 : BtE S20 W := (rd12 hb (f10.tr sW) (by rw [yW, e10, g_nf (by decide), f5.2.1 12 (by decide) (by decide)])).mv (s18.tr s20) smB.rf rfl
                refine s_poolL n20 m9 ⟨b20, hs.sm (f10.tr sW), ⟨by rw [x20]; omega, by rw [x20, (s18.tr s20).1]; omega, by rw [(s18.tr s20).1]; exact pc⟩, ⟨by rw [x20]; omega, wW⟩, ⟨by rw [yW, y14, y5], by rw [y5]; omega, by rw [y5]; exact c7⟩, fun j hj hj5 => Or.inl ⟨z11 j hj5, z4 j (by omega)⟩, fun j _ => ⟨fun hj => z11 j hj, fun hj => z4 j hj⟩⟩ (by decide) (by decide) h g
              · exact absurd z (by decide)
            · rcases rv_must hm with ⟨-, z⟩ | ⟨z, -⟩
              · exact nomatch z
              · exact absurd z (by decide)
          · rcases g with ⟨-, g⟩ | ⟨c8, -⟩
            · exact Or.inr (BAD h g)
            · omega
        · rw [li_2] at c1
          omega
      · exact nomatch e
    · rcases ov_at (y := 2) l2 (by omega) b2.1 hp (by rw [n2]; omega) (by rw [n2]; omega) g4 with ⟨-, v4, -, e⟩ | ⟨c4, e⟩
      · exact nomatch e
      · injection e with e
        rw [n2] at c4
        rcases cv_there hp (by decide) h2 with ⟨c1, er, eS⟩ | ⟨c1, er, eS⟩
        · rw [li_2] at c1
          omega
        · rcases h with ⟨-, er2, eu⟩ | ⟨z, -⟩
          · exact Or.inr ⟨er2, u9, g, by rw [eu, eS, e]; exact badP⟩
          · exact absurd (by rw [er]; decide) z
  · exact absurd hv c
end MF
