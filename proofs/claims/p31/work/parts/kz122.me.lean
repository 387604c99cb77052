/-! rule 16: what a field's or a call's entry means -/
section ME
variable {S S' S0 R R' T V u w : MS} {x y z r c v e len o N i x1 k t a b f pr g : Int32} {p : Nat}
theorem w16 (h0 : 0 ≤ x.toInt) (h1 : x.toInt < 65536) : (x.toInt16.toInt32 &&& (65535 : Int32)) = x := by
  apply Int32.toBitVec_inj.mp
  have e : (65535 : Int32).toBitVec = 65535#32 := by decide
  rw [Int32.toBitVec_and, e, Int16.toBitVec_toInt32, Int32.toBitVec_toInt16]
  apply BitVec.eq_of_getLsbD_eq
  intro i hi
  have m : ∀ i : Fin 32, (65535#32).getLsbD i.val = decide (i.val < 16) := by decide
  have mi := m ⟨i, hi⟩
  rw [BitVec.getLsbD_and, mi, BitVec.getLsbD_signExtend]
  by_cases c : i < 16
  · simp [c, hi]
  · have q : x.toBitVec.getLsbD i = false := by
      show x.toBitVec.toNat.testBit i = false
      apply Nat.testBit_lt_two_pow
      rw [nn_of h0]
      have : 2 ^ 16 ≤ 2 ^ i := Nat.pow_le_pow_right (by decide) (by omega)
      omega
    rw [q]
    simp [c]
theorem rg_x2 : 0 ≤ (fX2_u2 V x).toInt ∧ (fX2_u2 V x).toInt < 65536 := by
  have z : 0 ≤ (0 : Int32).toInt ∧ (0 : Int32).toInt < 65536 := by decide
  unfold fX2_u2 f_X2_u2_J14
  split
  · exact z
  · split
    · exact rg_u2
    · exact z
theorem mt_lt (tw : NtW S) (f0 : 0 ≤ f.toInt) (hg : ((f.toInt = 0 ∧ b.toInt < (qI S 9 7).toInt) ∨ (f.toInt = (qI S 9 7).toInt ∧ f.toInt + b.toInt < (qI S 9 7).toInt + (qI S 9 8).toInt))) (h48 : (qI S 9 7).toInt + (qI S 9 8).toInt ≤ 48) (h8 : 0 ≤ (qI S 9 7).toInt ∧ 0 ≤ (qI S 9 8).toInt) (a0 : 0 ≤ a.toInt) (ab : a.toInt < b.toInt) (h1 : MtP S pr f a) (h2 : MtP S pr f b) : False := by
  have ea : (f + a).toInt = f.toInt + a.toInt := t_add (by omega)
  have eb : (f + b).toInt = f.toInt + b.toInt := t_add (by omega)
  exact tw (f + b) (f + a) (by omega) (by omega) (by omega) (by omega) (h1.1.tr h2.1.sy)
theorem mt_uq (tw : NtW S) (f0 : 0 ≤ f.toInt) (hga : ((f.toInt = 0 ∧ a.toInt < (qI S 9 7).toInt) ∨ (f.toInt = (qI S 9 7).toInt ∧ f.toInt + a.toInt < (qI S 9 7).toInt + (qI S 9 8).toInt))) (hg : ((f.toInt = 0 ∧ b.toInt < (qI S 9 7).toInt) ∨ (f.toInt = (qI S 9 7).toInt ∧ f.toInt + b.toInt < (qI S 9 7).toInt + (qI S 9 8).toInt))) (h48 : (qI S 9 7).toInt + (qI S 9 8).toInt ≤ 48) (h8 : 0 ≤ (qI S 9 7).toInt ∧ 0 ≤ (qI S 9 8).toInt) (a0 : 0 ≤ a.toInt) (b0 : 0 ≤ b.toInt) (h1 : MtP S pr f a) (h2 : MtP S pr f b) : a = b := by
  apply Int32.toInt_inj.mp
  by_cases c : a.toInt < b.toInt
  · exact (mt_lt tw f0 hg h48 h8 a0 c h1 h2).elim
  · by_cases c2 : b.toInt < a.toInt
    · exact (mt_lt tw f0 hga h48 h8 b0 c2 h2 h1).elim
    · omega
theorem rv_memE {oo : (Int32 × MS) ⊕ MS} (hE : LyE S R) (me : ∀ j : Int32, 0 ≤ j.toInt → j.toInt < ((qI S 9 7) + (qI S 9 8)).toInt → MeN S j) (tw : NtW S) (k12 : (fX7_tagOf S pr).toInt = 12) (h1 : (fX7_tagOf S (fX7_firstOf S pr)).toInt = 1) (h2 : (fX7_tagOf S (fX7_secondOf S pr)).toInt = 1) (hf : (f.toInt = 0 ∧ c = qI S 9 7) ∨ (f = qI S 9 7 ∧ c = qI S 9 8)) (hg : g.toInt = f.toInt + c.toInt) {n : Nat} (h : v_member_L108 oo n R o pr f g (-1) f) : (0 ≤ (mbL S pr f c 100 0).toInt ∧ oo = .inl (mbL S pr f c 100 0, R)) ∨ ((mbL S pr f c 100 0).toInt < 0 ∧ oo = .inr (rBk R 16 ((qI R 0 36) + o))) := by
  obtain ⟨m1, m2, m3, m4, m5⟩ := hE.cnt
  have f0 : 0 ≤ f.toInt ∧ 0 ≤ c.toInt ∧ c.toInt ≤ 24 ∧ f.toInt + c.toInt ≤ (qI S 9 7).toInt + (qI S 9 8).toInt := by
    rcases hf with ⟨a, b⟩ | ⟨a, b⟩
    · rw [b]; omega
    · rw [a, b]; omega
  have G : ∀ {j : Int32}, j.toInt < c.toInt → ((f.toInt = 0 ∧ j.toInt < (qI S 9 7).toInt) ∨ (f.toInt = (qI S 9 7).toInt ∧ f.toInt + j.toInt < (qI S 9 7).toInt + (qI S 9 8).toInt)) := fun {j} hj => by
    rcases hf with ⟨a, b⟩ | ⟨a, b⟩
    · rw [b] at hj; omega
    · rw [b] at hj; rw [a]; omega
  have mm : (-1 : Int32).toInt = -1 := by decide
  have z0 : (0 : Int32).toInt = 0 := rfl
  have B := mb_of (f := f) (c := c) hE (fun j j0 j1 => by
    have ej : (f + j).toInt = f.toInt + j.toInt := t_add (by omega)
    have MN := me (f + j) (by omega) (by rw [m4]; omega)
    exact ⟨MN.1, MN.2.1⟩) h1 h2 (by omega) 100 (i := 0) (by decide) (by rw [z0]; omega)
  rcases rv_mbL hE me k12 h1 h2 f0.1 (by omega) n (Int.le_refl _) (by omega) (Or.inl ⟨mm, fun j j0 j1 => by omega⟩) h with ⟨j, j0, j1, j2, j3⟩ | ⟨j1, j2⟩
  · rcases B with ⟨b0, b1, b2⟩ | ⟨b0, b1⟩
    · have e : j = mbL S pr f c 100 0 := mt_uq tw f0.1 (G (by omega)) (G b1) (by omega) (by omega) j0 b0 j2 b2
      exact Or.inl ⟨b0, by rw [j3, e]⟩
    · exact absurd j2 (b1 j (by rw [z0]; exact j0) (by omega))
  · rcases B with ⟨b0, b1, b2⟩ | ⟨b0, b1⟩
    · exact absurd b2 (j1 _ b0 (by omega))
    · exact Or.inr ⟨by rw [b0]; decide, j2⟩
theorem rv_member {oo : (Int32 × MS) ⊕ MS} (hE : LyE S R) (pt : ∀ j, ptOK S j) (me : ∀ j : Int32, 0 ≤ j.toInt → j.toInt < ((qI S 9 7) + (qI S 9 8)).toInt → MeN S j) (tw : NtW S) (hd7 : (fX7_tagOf S (fX7_u2 S ((qI S 9 6) + (2 : Int32)))).toInt = 7) (hb : BtE V R) (hc : CoE V R) (o0 : 0 ≤ o.toInt) (o3 : o.toInt + 3 ≤ (qI V 8 2).toInt) (ht : t.toInt = 9 ∨ t.toInt = 10) (h : v_member R o t oo) : (0 ≤ (memF S (fX2_u2 V (o + (1 : Int32))) t).toInt ∧ oo = .inl (memF S (fX2_u2 V (o + (1 : Int32))) t, R)) ∨ ((memF S (fX2_u2 V (o + (1 : Int32))) t).toInt < 0 ∧ oo = .inr (rBk R 16 ((qI R 0 36) + o))) := by
  obtain ⟨m1, m2, m3, m4, m5⟩ := hE.cnt
  obtain ⟨d1, d2, d3, d4⟩ := hE.hd
  have c34 := hc.2.1
  have o1 : (o + (1 : Int32)).toInt = o.toInt + 1 := by rw [t_add (by rw [li_1]; omega), li_1]
  obtain ⟨-, a6, e6, -, h⟩ := h
  have r2 := rg_x2 (V := V) (x := o + (1 : Int32))
  rw [hc.u2 hb (by omega) (by omega), w16 r2.1 r2.2] at e6
  rw [← e6]
  have mm : (-1 : Int32).toInt = -1 := by decide
  rcases rv_pointE h with ⟨c, -, a15, e15, -, -, -, -, r27, S28, h27, h⟩ | ⟨c, e⟩
  swap
  · have tg := (ie_no hE (by omega)).mp c
    have em : memF S a6 t = -1 := by unfold memF; rw [if_neg tg]
    rw [em, mm]
    exact Or.inr ⟨by decide, e⟩
  have tg := (ie_of hE (by omega)).mp c
  obtain ⟨t7, t12⟩ := (pt a6).2.2 (by rw [tg]; exact ht)
  have k6 := (fs_7 hE (k := a6) (by rw [tg]; omega))
  have k66 := (fs_7 hE (k := fX7_firstOf S a6) (Or.inl t7)).1
  have e2 : ((qI S 9 6) + (2 : Int32)).toInt = (qI S 9 6).toInt + 2 := by rw [t_add (by rw [li_2]; omega), li_2]
  have eo : f_two R ((qI R 0 20) + (2 : Int32)) = fX7_u2 S ((qI S 9 6) + (2 : Int32)) := by rw [d1, hE.u2 (by omega) (by omega)]
  have ko := (fs_7 hE (Or.inl hd7)).1
  rw [eo, k6.1, k66, ko] at h27
  have ta := (pt (fX7_firstOf S a6)).1 t7
  have tb := (pt _).1 hd7
  obtain ⟨e28, q9⟩ := rv_isSame hE ta tb h27
  rw [e28] at h
  have u9 := sn_of hE ta tb
  rcases rv_pointE h with ⟨c2, h⟩ | ⟨c2, e⟩
  swap
  · have sn0 : (snF S (fX7_firstOf S (fX7_firstOf S a6)) (fX7_firstOf S (fX7_u2 S ((qI S 9 6) + (2 : Int32))))).toInt = 0 := by
      rcases u9 with ⟨z, -⟩ | ⟨-, z⟩
      · exact z
      · rcases q9 with ⟨er, -⟩ | ⟨-, z2⟩
        · exact absurd c2 (by rw [er]; decide)
        · exact absurd z z2
    have em : memF S a6 t = -1 := by unfold memF; rw [if_pos tg, if_pos sn0]
    rw [em, mm]
    exact Or.inr ⟨by decide, e⟩
  have sn1 : ¬ (snF S (fX7_firstOf S (fX7_firstOf S a6)) (fX7_firstOf S (fX7_u2 S ((qI S 9 6) + (2 : Int32))))).toInt = 0 := by
    rcases u9 with ⟨-, z⟩ | ⟨z, -⟩
    · rcases q9 with ⟨-, z2⟩ | ⟨er, -⟩
      · exact absurd z2 z
      · exact absurd (by rw [er]; rfl) c2
    · exact z
  rw [k6.2 (by rw [tg]; omega)] at e15
  rw [e15] at h
  obtain ⟨p1, p2⟩ := (pt (fX7_secondOf S a6)).2.1 t12
  rcases h with ⟨c3, h⟩ | ⟨c3, h⟩
  · have em : memF S a6 t = mbL S (fX7_secondOf S a6) 0 (qI S 9 7) 100 0 := by unfold memF; rw [if_pos tg, if_neg sn1, if_pos c3]
    rw [em]
    rcases h with ⟨-, n, h⟩ | ⟨z, -⟩
    swap
    · exact absurd c3 z
    exact rv_memE hE me tw t12 p1 p2 (Or.inl ⟨rfl, rfl⟩) (by rw [m5]; exact (Int.zero_add _).symm) h
  · have em : memF S a6 t = mbL S (fX7_secondOf S a6) (qI S 9 7) (qI S 9 8) 100 0 := by unfold memF; rw [if_pos tg, if_neg sn1, if_neg c3]
    rw [em]
    rcases h with ⟨z, -⟩ | ⟨-, n, h⟩
    · exact absurd z c3
    rw [m5] at h
    exact rv_memE hE me tw t12 p1 p2 (Or.inr ⟨rfl, rfl⟩) m3 h
end ME
