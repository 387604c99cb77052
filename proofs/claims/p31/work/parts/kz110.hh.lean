/-! rules 13 and 14: catches and attributes of a code -/
section WI
variable {S S' R R' T u w : MS} {x y z r c v e len o N i x1 x2 k t a b f q : Int32} {oo : MS ⊕ MS} {p : Nat}
theorem rv_within {y : Int64} {oo : (Int32 × MS) ⊕ MS} (hn : 0 ≤ (qI R 0 13).toInt ∧ (qI R 0 13).toInt ≤ (qI R 0 35).toInt ∧ (qI R 0 35).toInt ≤ 131072) (hy : 0 ≤ y.toInt ∧ y.toInt ≤ 4294967296) (h : v_within R y oo) : ((qI R 0 13).toInt + y.toInt ≤ (qI R 0 35).toInt ∧ ∃ v : Int32, v.toInt = (qI R 0 13).toInt + y.toInt ∧ oo = .inl (qI R 0 13, wI R 0 13 v)) ∨ ((qI R 0 35).toInt < (qI R 0 13).toInt + y.toInt ∧ oo = .inr (rBk R 14 (qI R 0 35))) := by
  have e1 : (((qI R 0 13).toInt64) + y).toInt = (qI R 0 13).toInt + y.toInt := by rw [tl_add (by rw [tl_of]; omega), tl_of]
  unfold v_within at h
  rw [c_le, e1, tl_of] at h
  rcases h with ⟨c, a4, ea, S6, e6, e⟩ | ⟨c, n, w, h, e⟩
  · refine Or.inl ⟨c, (qI R 0 13) + (y.toInt32), ?_, by rw [e, ea, e6]⟩
    have ey : y.toInt32.toInt = y.toInt := tl_to (by omega)
    rw [t_add (by omega), ey]
  · exact Or.inr ⟨by omega, by rw [e, rv_broken h]⟩
theorem wn_at {U : MS} {yy : Int64} {y : Int} {pp : (Int32 × MS) ⊕ MS} (ey : yy.toInt = y) (hy : 0 ≤ y ∧ y ≤ 4294967296) (e35 : qI U 0 35 = x2) (e13 : qI U 0 13 = q) (h0 : 0 ≤ q.toInt) (h1 : q.toInt ≤ x2.toInt) (h2 : x2.toInt ≤ 131072) (h : v_within U yy pp) : (q.toInt + y ≤ x2.toInt ∧ ∃ v : Int32, v.toInt = q.toInt + y ∧ pp = .inl (q, wI U 0 13 v)) ∨ (x2.toInt < q.toInt + y ∧ pp = .inr (rBk U 14 x2)) := by
  have g := rv_within (by rw [e13, e35]; omega) (by rw [ey]; exact hy) h
  rw [e13, e35, ey] at g
  exact g
theorem rv_J391 (h : v_codeItems_J391 oo R t) : (t.toInt ≠ 0 ∧ oo = .inl R) ∨ (t.toInt = 0 ∧ oo = .inr (rBk R 14 (qI R 0 13))) := by
  unfold v_codeItems_J391 at h
  rcases h with ⟨S1, hm, e⟩ | ⟨u9, hm, e⟩
  · rcases rv_must hm with ⟨c, z⟩ | ⟨c, z⟩
    · injection z with z
      exact Or.inl ⟨c, by rw [e, z]⟩
    · exact nomatch z
  · rcases rv_must hm with ⟨c, z⟩ | ⟨c, z⟩
    · exact nomatch z
    · injection z with z
      exact Or.inr ⟨c, by rw [e, z]⟩
theorem cv_J129 (h : v_X2_catchesHold_J129 r u S x2) : r = 0 ∧ u = bRk S 14 x2 := by
  obtain ⟨-, r28, S29, h, -, -, er, eu⟩ := h
  obtain ⟨a, b⟩ := cv_breaks h
  exact ⟨by rw [er, a], by rw [eu, b]⟩
theorem BtE.w13 (hb : BtE S R) (hs : SrN R) : BtE S (wI R 0 13 v) := hb.mv smX.rf (sm13 hs) (g_nf (by decide))
theorem SrN.w13 (hs : SrN R) : SrN (wI R 0 13 v) := hs.sm (sm13 hs)
theorem s_wiL : ∀ (n m : Nat) {R : MS} {q i : Int32}, BtE S R → SrN R → qI R 0 35 = x2 → x2.toInt ≤ (qI S 9 1).toInt → 0 < q.toInt → q.toInt ≤ x2.toInt → qI R 0 13 = q → 0 ≤ i.toInt → N.toInt ≤ 65535 → v_X2_catchesHold_L90 r u n S x2 q N i → v_codeItems_L328 oo m R N i → (r = 1 ∧ u = S ∧ ∃ v : Int32, oo = .inl (wI R 0 13 v)) ∨ (r = 0 ∧ ∃ w, oo = .inr w ∧ BadP u w) := by
  intro n
  induction n with
  | zero => intro m R q i _ _ _ _ _ _ _ _ _ h; unfold v_X2_catchesHold_L90 at h; exact h.elim
  | succ n ih =>
    intro m R q i hb hs e35 hx q0 q1 e13 i0 N1 h g
    cases m with
    | zero => unfold v_codeItems_L328 at g; exact g.elim
    | succ m =>
      have x13 : x2.toInt ≤ 131072 := by have := hb.2.1.2.1; omega
      unfold v_X2_catchesHold_L90 at h
      unfold v_codeItems_L328 at g
      obtain ⟨wS, h⟩ := h
      rcases h with ⟨c, h⟩ | ⟨c, h⟩
      · rcases g with ⟨-, g⟩ | ⟨c2, -⟩
        swap
        · exact absurd c c2
        rw [e13, e35] at g
        rcases h with ⟨e, -, er, eu⟩ | ⟨e, r22, S23, h22, -, -, h⟩
        · rcases g with ⟨-, g⟩ | ⟨e2, -⟩
          swap
          · exact absurd e e2
          rcases rv_J391 g with ⟨-, z⟩ | ⟨z, -⟩
          · exact Or.inl ⟨er, eu, q, by rw [z, ← e13, wI_id]⟩
          · exact absurd z (by decide)
        · obtain ⟨er, eu⟩ := cv_breaks h22
          rcases h with ⟨-, er2, eu2⟩ | ⟨z, -⟩
          swap
          · exact absurd (by rw [er]; rfl) z
          rcases g with ⟨e2, -⟩ | ⟨-, g⟩
          · exact absurd e2 e
          rcases rv_J391 g with ⟨z, -⟩ | ⟨-, z⟩
          · exact absurd rfl z
          · refine Or.inr ⟨er2, _, z, ?_⟩
            rw [eu2, eu, e13]
            exact badP
      · rcases g with ⟨c2, -⟩ | ⟨-, g⟩
        · exact absurd c2 c
        have q2 : (q + (2 : Int32)).toInt = q.toInt + 2 := by rw [t_add (by rw [li_2]; omega), li_2]
        have q6 : (q + (6 : Int32)).toInt = q.toInt + 6 := by rw [t_add (by rw [li_6]; omega), li_6]
        have l2 : (2 : Int64).toInt = 2 := by decide
        have l4 : (4 : Int64).toInt = 4 := by decide
        have BAD : ∀ {W : MS}, r = 0 ∧ u = bRk S 14 x2 → oo = .inr (rBk W 14 x2) → (r = 1 ∧ u = S ∧ ∃ v : Int32, oo = .inl (wI R 0 13 v)) ∨ (r = 0 ∧ ∃ w, oo = .inr w ∧ BadP u w) := fun a e => Or.inr ⟨a.1, _, e, by rw [a.2]; exact badP⟩
        have g1 : (∃ W : MS, oo = .inr (rBk W 14 x2) ∧ x2.toInt < q.toInt + 6) ∨ ∃ a22 : Int64, a22 = fX7_u4 S (q + (2 : Int32)) ∧ (0 ≤ a22.toInt ∧ a22.toInt ≤ 4294967295) ∧ q.toInt + 6 ≤ x2.toInt ∧ ((x2.toInt < q.toInt + 6 + a22.toInt ∧ ∃ W : MS, oo = .inr (rBk W 14 x2)) ∨ (q.toInt + 6 + a22.toInt ≤ x2.toInt ∧ ∃ v a : Int32, v.toInt = q.toInt + 6 + a22.toInt ∧ a = i + Int32.ofInt 1 ∧ v_codeItems_L328 oo m (wI R 0 13 v) N a)) := by
          rcases g with ⟨r1, S1, g1, g⟩ | ⟨u9, g1, g⟩
          swap
          · rcases wn_at l2 (by decide) e35 e13 (by omega) q1 x13 g1 with ⟨-, v1, -, e⟩ | ⟨d, e⟩
            · exact nomatch e
            · injection e with e
              exact Or.inl ⟨R, by rw [g, e], by omega⟩
          rcases wn_at l2 (by decide) e35 e13 (by omega) q1 x13 g1 with ⟨d1, v1, ev1, e⟩ | ⟨d, e⟩
          swap
          · exact nomatch e
          injection e with e
          injection e with er1 eS1
          have n1 : qI S1 0 13 = q + (2 : Int32) := Int32.toInt_inj.mp (by rw [eS1, n_13, q2, ev1])
          have f1 : qI S1 0 35 = x2 := by rw [eS1, g_nf (by decide), e35]
          rcases g with ⟨r3, S3, g3, g⟩ | ⟨u9, g3, g⟩
          swap
          · rcases wn_at l4 (by decide) f1 n1 (by omega) (by omega) x13 g3 with ⟨-, v3, -, e⟩ | ⟨d, e⟩
            · exact nomatch e
            · injection e with e
              exact Or.inl ⟨S1, by rw [g, e], by omega⟩
          rcases wn_at l4 (by decide) f1 n1 (by omega) (by omega) x13 g3 with ⟨d3, v3, ev3, e⟩ | ⟨d, e⟩
          swap
          · exact nomatch e
          injection e with e
          injection e with er3 eS3
          have n3 : qI S3 0 13 = q + (6 : Int32) := Int32.toInt_inj.mp (by rw [eS3, n_13, q6, ev3, q2]; omega)
          have f3 : qI S3 0 35 = x2 := by rw [eS3, g_nf (by decide), f1]
          have S13 : S3 = wI R 0 13 v3 := by rw [eS3, eS1, wI_wI]
          have ea : fX7_u4 S (q + (2 : Int32)) = ((f_four S3 r3).toInt64 &&& (4294967295 : Int64)) := by
            unfold fX7_u4
            rw [er3, S13, (hb.w13 hs).s4 (by omega) (by omega)]
          obtain ⟨a22, e22⟩ : ∃ a22 : Int64, a22 = fX7_u4 S (q + (2 : Int32)) := ⟨_, rfl⟩
          have a64 : 0 ≤ a22.toInt ∧ a22.toInt ≤ 4294967295 := by rw [e22]; exact c_and64
          obtain ⟨-, g⟩ := g
          rw [← ea, ← e22] at g
          refine Or.inr ⟨a22, e22, a64, by omega, ?_⟩
          rcases g with ⟨r5, S5, g5, a, ea5, g⟩ | ⟨u9, g5, g⟩
          · rcases wn_at rfl (by omega) f3 n3 (by omega) (by omega) x13 g5 with ⟨d5, v5, ev5, e⟩ | ⟨d, e⟩
            swap
            · exact nomatch e
            injection e with e
            injection e with er5 eS5
            refine Or.inr ⟨by omega, v5, a, by omega, ea5, ?_⟩
            rw [eS5, S13, wI_wI] at g
            exact g
          · rcases wn_at rfl (by omega) f3 n3 (by omega) (by omega) x13 g5 with ⟨d5, v5, ev5, e⟩ | ⟨d, e⟩
            · exact nomatch e
            · injection e with e
              exact Or.inl ⟨by omega, S3, by rw [g, e]⟩
        have ed : ((x2 - q) - (6 : Int32)).toInt = x2.toInt - q.toInt - 6 := by
          rw [t_sub (by rw [t_sub (by omega), li_6]; omega), t_sub (by omega), li_6]
        rcases h with ⟨c3, h⟩ | ⟨c3, -, h⟩
        · rcases g1 with ⟨W, e, -⟩ | ⟨a22, -, -, z, -⟩
          · exact BAD (cv_J129 h) e
          · omega
        rw [c_le, tl_of, ed] at h
        rcases h with ⟨c4, -, a46, e46, a47, e47, h⟩ | ⟨c4, h⟩
        · rcases g1 with ⟨W, -, z⟩ | ⟨a22, e22, a64, z, ⟨z2, -⟩ | ⟨z2, v5, a, ev5, ea, g⟩⟩
          · omega
          · rw [← e22] at c4
            omega
          have es : a22.toInt32 = fX7_s4 S (q + (2 : Int32)) := by rw [e22]; exact u4_32
          have e32 : a22.toInt32.toInt = a22.toInt := tl_to (by omega)
          have e9 : a46 = v5 := Int32.toInt_inj.mp (by
            rw [e46, ← es, ev5, t_add (by rw [t_add (by rw [li_6]; omega), li_6]; omega), t_add (by rw [li_6]; omega), li_6, e32]
            omega)
          have ek : a.toInt = i.toInt + 1 := by rw [ea, t_add (by rw [show (Int32.ofInt 1).toInt = 1 from rfl]; omega)]; rfl
          rw [e9, e47, ← ea] at h
          rcases ih m (hb.w13 hs) hs.w13 (by rw [g_nf (by decide), e35]) hx (by omega) (by omega) n_13 (by omega) N1 h g with ⟨k1, k2, v9, k3⟩ | k
          · exact Or.inl ⟨k1, k2, v9, by rw [k3, wI_wI]⟩
          · exact Or.inr k
        · rcases g1 with ⟨W, e, -⟩ | ⟨a22, e22, a64, z, ⟨z2, W, e⟩ | ⟨z2, -⟩⟩
          · exact BAD (cv_J129 h) e
          · exact BAD (cv_J129 h) e
          · rw [← e22] at c4
            omega
end WI
