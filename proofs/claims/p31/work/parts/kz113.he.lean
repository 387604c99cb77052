/-! rules 13 and 14: the head of a code -/
section HE
variable {S S' R R' T u w : MS} {x y z r c v e len o N i x1 x2 k t a b f q m pl st : Int32} {p lo kk : Nat}
theorem c_ls {x y : Int64} : (lg_cmp x y).toInt < 0 ↔ x.toInt < y.toInt := by
  rcases c_cmp (x := x) (y := y) with ⟨a, b⟩ | ⟨a, b⟩ | ⟨a, b⟩
  · rw [a]; omega
  · rw [a]; omega
  · rw [a]; omega
theorem u4_s4 (h : 0 ≤ (fX7_s4 S x).toInt) : (fX7_u4 S x).toInt = (fX7_s4 S x).toInt := by
  have b : 0 ≤ (fX7_u4 S x).toInt ∧ (fX7_u4 S x).toInt ≤ 4294967295 := c_and64
  have z := congrArg Int32.toInt (u4_32 (S := S) (x := x))
  rw [Int64.toInt_toInt32] at z
  unfold Int.bmod at z
  split at z
  · omega
  · omega
theorem u4_lo (h : (fX7_u4 S x).toInt ≤ 2147483647) : (fX7_u4 S x).toInt = (fX7_s4 S x).toInt := by
  have b : 0 ≤ (fX7_u4 S x).toInt ∧ (fX7_u4 S x).toInt ≤ 4294967295 := c_and64
  rw [← u4_32 (S := S) (x := x), tl_to (by omega)]
/-- the reference's part behind the places of the parameters -/
def HdV (oo : MS ⊕ MS) (S24 : MS) (x1 : Int32) (r23 : Int32) : Prop := ((∃ (r27 : Int32) (S28 : MS), v_within S24 (2 : Int64) (.inl (r27, S28)) ∧ (d_two S28 r27 ∧ (((0 : Int) ≤ x1.toInt ∧ x1.toInt < 24) ∧ (∃ S34 : MS, S34 = wI S28 12 x1.toInt.toNat (f_two S28 r27) ∧ (((0 : Int) ≤ x1.toInt ∧ x1.toInt < 24) ∧ ((24 < (qI S34 12 x1.toInt.toNat).toInt ∧ (v_codeItems_J102 oo S34 0 x1 r23 r27)) ∨ (¬ 24 < (qI S34 12 x1.toInt.toNat).toInt ∧ (v_codeItems_J102 oo S34 1 x1 r23 r27)))))))) ∨ (∃ u9 : MS, v_within S24 (2 : Int64) (.inr u9) ∧ (oo = .inr u9)))
theorem s_head {oo : MS ⊕ MS} (hb : BtE S R) (hs : SrN R) (e35 : qI R 0 35 = x2) (hx : x2.toInt ≤ (qI S 9 1).toInt) (e13 : qI R 0 13 = c) (q0 : 0 < c.toInt) (q1 : c.toInt ≤ x2.toInt) (h : vX2_headHolds S c x2 pl r u) (g : HdV oo R m pl) : (r = 1 ∧ u = S ∧ ∃ w, oo = .inl w ∧ CiF 12 R w m.toInt.toNat ∧ CiR S w m.toInt.toNat c ∧ pl.toInt ≤ (qI w 13 m.toInt.toNat).toInt) ∨ (r = 0 ∧ ∃ w, oo = .inr w ∧ BadP u w) := by
  have x13 : x2.toInt ≤ 131072 := by have := hb.2.1.2.1; omega
  have l2 : (2 : Int64).toInt = 2 := by decide
  have l4 : (4 : Int64).toInt = 4 := by decide
  have c2 : (c + (2 : Int32)).toInt = c.toInt + 2 := by rw [t_add (by rw [li_2]; omega), li_2]
  have c4 : (c + (4 : Int32)).toInt = c.toInt + 4 := by rw [t_add (by rw [li_4]; omega), li_4]
  have c8 : (c + (8 : Int32)).toInt = c.toInt + 8 := by rw [t_add (by rw [li_8]; omega), li_8]
  have FIN : ∀ {a b r' : Int32} {u' W : MS}, vX7_breaks S a b r' u' → r = r' → u = u' → oo = .inr (rBk W a b) → (r = 0 ∧ ∃ w, oo = .inr w ∧ BadP u w) := fun h er eu e => by
    obtain ⟨a1, b1⟩ := cv_breaks h
    exact ⟨by rw [er, a1], _, e, by rw [eu, b1]; exact badP⟩
  unfold HdV at g
  rcases h with ⟨d1, -, h⟩ | ⟨d1, r57, S58, h, -, -, er, eu⟩
  swap
  · rcases rv_wnE l2 (by decide) e35 e13 (by omega) q1 x13 g with ⟨d, -⟩ | ⟨d, e⟩
    · omega
    · exact Or.inr (FIN h er eu e)
  rcases rv_wnE l2 (by decide) e35 e13 (by omega) q1 x13 g with ⟨d, v1, ev1, -, gm, S34, e34, -, g⟩ | ⟨d, e⟩
  swap
  · omega
  rw [← (hb.w13 hs).u2 (by omega) (by omega)] at e34
  have n1 : v1 = c + (2 : Int32) := Int32.toInt_inj.mp (by omega)
  have f1 : CiF 12 R S34 m.toInt.toNat := by rw [e34]; exact (CiF.rf.w0 hs (Or.inl rfl)).wr hs (by decide) (by decide) (by decide)
  have x12 : qI S34 12 m.toInt.toNat = fX7_u2 S c := by rw [e34, g_eq]
  have y13 : qI S34 0 13 = c + (2 : Int32) := by rw [e34, g_ne (by decide), n_13, n1]
  have y35 : qI S34 0 35 = x2 := by rw [e34, g_ne (by decide), g_nf (by decide), e35]
  rw [x12] at g
  rcases h with ⟨d2, h⟩ | ⟨d2, r53, S54, h, -, -, er, eu⟩
  swap
  · rcases g with ⟨-, g⟩ | ⟨z, -⟩
    swap
    · omega
    rcases rv_mustE g with ⟨z, -⟩ | ⟨-, e⟩
    · exact absurd rfl z
    · exact Or.inr (FIN h er eu e)
  rcases g with ⟨z, -⟩ | ⟨-, g⟩
  · omega
  rcases rv_mustE g with ⟨-, g⟩ | ⟨z, -⟩
  swap
  · exact absurd z (by decide)
  -- the locals
  rcases h with ⟨d3, -, h⟩ | ⟨d3, r49, S50, h, -, -, er, eu⟩
  swap
  · rcases rv_wnE l2 (by decide) y35 y13 (by omega) (by omega) x13 g with ⟨d, -⟩ | ⟨d, e⟩
    · omega
    · exact Or.inr (FIN h er eu e)
  rcases rv_wnE l2 (by decide) y35 y13 (by omega) (by omega) x13 g with ⟨d, v2, ev2, -, -, S48, e48, -, g⟩ | ⟨d, e⟩
  swap
  · omega
  rw [← ((f1.bt hb).w13 (hs.sm f1.1)).u2 (by omega) (by omega)] at e48
  have n2 : v2 = c + (4 : Int32) := Int32.toInt_inj.mp (by omega)
  have f2 : CiF 12 R S48 m.toInt.toNat := by rw [e48]; exact (f1.w0 hs (Or.inl rfl)).wr hs (by decide) (by decide) (by decide)
  have w13 : qI S48 13 m.toInt.toNat = fX7_u2 S (c + (2 : Int32)) := by rw [e48, g_eq]
  have w12 : qI S48 12 m.toInt.toNat = fX7_u2 S c := by rw [e48, g_ne (by decide), g_ne (by decide), x12]
  have z13 : qI S48 0 13 = c + (4 : Int32) := by rw [e48, g_ne (by decide), n_13, n2]
  have z35 : qI S48 0 35 = x2 := by rw [e48, g_ne (by decide), g_nf (by decide), y35]
  rw [w13] at g
  have BJ : v_codeItems_J156 oo S48 m (c + (2 : Int32)) → v_X2_headHolds_J89 r u S c → (r = 0 ∧ ∃ w, oo = .inr w ∧ BadP u w) := fun g h => by
    obtain ⟨-, r15, S16, h, -, -, er, eu⟩ := h
    rcases rv_mustE g with ⟨z, -⟩ | ⟨-, e⟩
    · exact absurd rfl z
    · exact FIN h er eu e
  rcases h with ⟨d4, h⟩ | ⟨d4, -, h⟩
  · rcases g with ⟨-, g⟩ | ⟨z, -⟩
    · exact Or.inr (BJ g h)
    · exact absurd d4 z
  rcases g with ⟨z, -⟩ | ⟨-, -, g⟩
  · exact absurd z d4
  rcases h with ⟨d5, h⟩ | ⟨d5, h⟩
  swap
  · rcases g with ⟨-, g⟩ | ⟨z, -⟩
    · exact Or.inr (BJ g h)
    · omega
  rcases g with ⟨z, -⟩ | ⟨-, g⟩
  · omega
  rcases rv_mustE g with ⟨-, g⟩ | ⟨z, -⟩
  swap
  · exact absurd z (by decide)
  -- the size
  rcases h with ⟨d6, -, a30, e30, h⟩ | ⟨d6, r47, S48', h, -, -, er, eu⟩
  swap
  · rcases rv_wnE l4 (by decide) z35 z13 (by omega) (by omega) x13 g with ⟨d, -⟩ | ⟨d, e⟩
    · omega
    · exact Or.inr (FIN h er eu e)
  rcases rv_wnE l4 (by decide) z35 z13 (by omega) (by omega) x13 g with ⟨d, v3, ev3, -, a61, e61, g⟩ | ⟨d, e⟩
  swap
  · omega
  have f3 : CiF 12 R (wI S48 0 13 v3) m.toInt.toNat := f2.w0 hs (Or.inl rfl)
  rw [← (f3.bt hb).s4 (by omega) (by omega)] at e61
  have n3 : v3 = c + (8 : Int32) := Int32.toInt_inj.mp (by omega)
  have l1 : (1 : Int64).toInt = 1 := by decide
  have l12 : (1200 : Int64).toInt = 1200 := by decide
  have hu := u4_s4 (S := S) (x := c + (4 : Int32))
  have hl := u4_lo (S := S) (x := c + (4 : Int32))
  have b30 : 0 ≤ a30.toInt := by rw [e30]; exact (c_and64 (a := (fX7_s4 S (c + (4 : Int32))).toInt64)).1
  rw [← e30, ← e61] at hu hl
  rw [c_ls, l1, c_le, l12] at h
  have BK : v_codeItems_J201 oo (wI S48 0 13 v3) 0 m (c + (4 : Int32)) a61 → v_X2_headHolds_J149 r u S c → (r = 0 ∧ ∃ w, oo = .inr w ∧ BadP u w) := fun g h => by
    obtain ⟨-, r15, S16, h, -, -, er, eu⟩ := h
    rcases rv_mustE g with ⟨z, -⟩ | ⟨-, e⟩
    · exact absurd rfl z
    · exact FIN h er eu e
  by_cases ok : 1 ≤ a61.toInt ∧ a61.toInt ≤ 1200
  swap
  · have g2 : v_codeItems_J201 oo (wI S48 0 13 v3) 0 m (c + (4 : Int32)) a61 := by
      rcases g with ⟨-, g⟩ | ⟨z, ⟨-, g⟩ | ⟨z2, -⟩⟩
      · exact g
      · exact g
      · omega
    rcases h with ⟨-, h⟩ | ⟨z, ⟨z2, -⟩ | ⟨-, h⟩⟩
    · exact Or.inr (BK g2 h)
    · omega
    · exact Or.inr (BK g2 h)
  rcases g with ⟨z, -⟩ | ⟨-, ⟨z, -⟩ | ⟨-, g⟩⟩
  · omega
  · omega
  rcases h with ⟨z, -⟩ | ⟨-, ⟨-, r43, S44, h, -, -, er, eu⟩ | ⟨z, -⟩⟩
  · omega
  swap
  · omega
  have ea : a30.toInt32 = a61 := Int32.toInt_inj.mp (by rw [tl_to (by omega)]; omega)
  rw [ea] at h
  have st8 : ((c + (8 : Int32)) + a61).toInt = c.toInt + 8 + a61.toInt := by rw [t_add (by omega), c8]
  rcases rv_mustE g with ⟨-, g⟩ | ⟨z, -⟩
  swap
  · exact absurd z (by decide)
  rcases rv_wnE (y := a61.toInt) tl_of (by omega) (by rw [g_nf (by decide), z35]) (by rw [n_13, n3]) (by omega) (by omega) x13 g with ⟨d, v4, ev4, -, S70, e70, -, S72, e72, g⟩ | ⟨d, e⟩
  swap
  · rcases h with ⟨z, -⟩ | ⟨-, r57, S58, h, -, -, er2, eu2⟩
    · rw [t_add (by rw [li_2]; omega), li_2, st8] at z
      omega
    · exact Or.inr (FIN h (er.trans er2) (eu.trans eu2) e)
  have n4 : v4 = (c + (8 : Int32)) + a61 := Int32.toInt_inj.mp (by rw [st8]; omega)
  have f4 : CiF 12 R S72 m.toInt.toNat := by rw [e72, e70]; exact ((f3.w0 hs (Or.inl rfl)).wr hs (by decide) (by decide) (by decide)).wr hs (by decide) (by decide) (by decide)
  have k13 : qI S72 0 13 = (c + (8 : Int32)) + a61 := by rw [e72, g_ne (by decide), e70, g_ne (by decide), n_13, n4]
  have k35 : qI S72 0 35 = x2 := by rw [e72, g_ne (by decide), e70, g_ne (by decide), g_nf (by decide), g_nf (by decide), z35]
  rcases s_cat (f4.bt hb) (hs.sm f4.1) k35 hx k13 (by omega) (by omega) h g with ⟨er1, eu1, w, e, F, t16, t17, t18, t19⟩ | ⟨er1, w, e, hbad⟩
  swap
  · exact Or.inr ⟨er.trans er1, w, e, by rw [eu]; exact hbad⟩
  have mm := F.2.2.1
  have w12' : qI w 12 m.toInt.toNat = fX7_u2 S c := by rw [mm 12 _ (by decide) (Or.inl (by decide)), e72, g_ne (by decide), e70, g_ne (by decide), g_ne (by decide), g_ne (by decide), w12]
  have w13' : qI w 13 m.toInt.toNat = fX7_u2 S (c + (2 : Int32)) := by rw [mm 13 _ (by decide) (Or.inl (by decide)), e72, g_ne (by decide), e70, g_ne (by decide), g_ne (by decide), g_ne (by decide), w13]
  have w14' : qI w 14 m.toInt.toNat = c + (8 : Int32) := by rw [mm 14 _ (by decide) (Or.inl (by decide)), e72, g_ne (by decide), e70, g_eq]
  have w15' : qI w 15 m.toInt.toNat = a61 := by rw [mm 15 _ (by decide) (Or.inl (by decide)), e72, g_eq]
  refine Or.inl ⟨er.trans er1, eu.trans eu1, w, e, f4.tr F (by decide), ⟨⟨w12', d2⟩, ⟨w13', by omega⟩, w14', ⟨by rw [w15', e61], by rw [← e61]; exact ok.1, by rw [← e61]; exact ok.2⟩, by rw [t16, st8, ← e61], (c + (8 : Int32)) + a61, by rw [st8, e61], t17, t18, q0, ?_⟩, by rw [w13']; exact d5⟩
  rw [st8]
  omega
end HE
