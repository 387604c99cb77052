/-! attributes and members of bytes that were written (behind f_tw, f_fo, mOK, aOK) -/
def AtD (S : MS) (n d : Int) (u : MS) : Prop := RdI u ∧ smB S u ∧ qI u 0 12 = qI S 0 12 ∧ (qI u 0 13).toInt = (qI S 0 13).toInt + d ∧ (qI u 0 25).toInt = (qI S 0 25).toInt + n ∧ (∀ a : Nat, (a : Int) < (qI S 0 25).toInt → qI u 10 a = qI S 10 a) ∧ ∀ a : Nat, (qI S 0 25).toInt ≤ a → (a : Int) < (qI u 0 25).toInt → aOK u a
theorem at_x {Q E : MS → Prop} {U : MS} {o n i : Int32} {m : Nat} (hi : n.toInt ≤ i.toInt) (hQ : Q U) : w_attributesOf_L14 Q E (m + 1) U o n i := by
  unfold w_attributesOf_L14
  exact ⟨fun _ => hQ, fun c => absurd hi c⟩
theorem sp_at0 {S : MS} {o : Int32} (h : RdI S) (h0 : tw (gB S) (pS S) = 0) : w_attributesOf S o (AtD S 0 2) (fun _ => True) := by
  have hb := h.bnd
  unfold w_attributesOf
  refine ⟨_, _, sp_over h (by decide), ?_, fun _ _ => trivial⟩
  rintro r2 S3 ⟨e2, v, rfl, a1, b1⟩
  have l2 : (2 : Int64).toInt = 2 := by decide
  rw [l2] at a1
  have h1 : RdI (wI S 0 13 v) := h.nx (by omega) b1
  refine ⟨h1.two (by rw [e2]; omega) (by rw [e2, n_12]; omega), fun a8 e8 => ⟨1, ?_⟩⟩
  have k9 : smB S (wI S 0 13 v) := h.ss (a := 0) (t := 10) (j := 13) (v := v) h.z (by decide)
  have ea : a8.toInt = 0 := by
    rw [e8, f_tw (by rw [e2]; omega), k9.g, e2]
    exact h0
  have q25 : qI (wI S 0 13 v) 0 25 = qI S 0 25 := by rw [qI_wI, if_neg (by decide)]
  refine at_x (m := 0) (by rw [ea]; decide) ⟨h1, k9, n_12, by rw [n_13]; exact a1, by rw [q25]; omega, fun a _ => by rw [rdH (by decide)], fun a ha ha2 => ?_⟩
  rw [q25] at ha2
  omega
theorem sp_at1 {S : MS} {o : Int32} (h : RdI S) (h25 : 0 ≤ (qI S 0 25).toInt ∧ (qI S 0 25).toInt ≤ 100) (h0 : tw (gB S) (pS S) = 1) (hs : fo (gB S) (pS S + 4) ≤ 4040) : w_attributesOf S o (AtD S 1 (8 + fo (gB S) (pS S + 4))) (fun _ => True) := by
  have hb := h.bnd
  have ps : ((pS S : Nat) : Int) = (qI S 0 13).toInt := by unfold pS; omega
  unfold w_attributesOf
  refine ⟨_, _, sp_over h (by decide), ?_, fun _ _ => trivial⟩
  rintro r2 S3 ⟨e2, v, rfl, a1, b1⟩
  have l2 : (2 : Int64).toInt = 2 := by decide
  have l4 : (4 : Int64).toInt = 4 := by decide
  rw [l2] at a1
  have h1 : RdI (wI S 0 13 v) := h.nx (by omega) b1
  refine ⟨h1.two (by rw [e2]; omega) (by rw [e2, n_12]; omega), fun a8 e8 => ⟨2, ?_⟩⟩
  have k9 : smB S (wI S 0 13 v) := h.ss (a := 0) (t := 10) (j := 13) (v := v) h.z (by decide)
  have ea : a8.toInt = 1 := by
    rw [e8, f_tw (by rw [e2]; omega), k9.g, e2]
    exact h0
  unfold w_attributesOf_L14
  refine ⟨fun c => by rw [ea, li_0] at c; omega, fun _ => ?_⟩
  refine ⟨_, _, sp_over h1 (by decide), ?_, fun _ _ => trivial⟩
  rintro r11 S1 ⟨e11, v1, e1, a2, b2⟩
  rw [wI_wI] at e1
  subst e1
  rw [n_13, l2] at a2
  rw [n_12] at b2
  rw [n_13] at e11
  have h2 : RdI (wI S 0 13 v1) := h.nx (by omega) b2
  refine ⟨_, _, sp_over h2 (by decide), ?_, fun _ _ => trivial⟩
  rintro r15 S2 ⟨e15, v2, e2', a3, b3⟩
  rw [wI_wI] at e2'
  subst e2'
  rw [n_13, l4] at a3
  rw [n_12] at b3
  rw [n_13] at e15
  have h3 : RdI (wI S 0 13 v2) := h.nx (by omega) b3
  have k2 : smB S (wI S 0 13 v2) := h.ss (a := 0) (t := 10) (j := 13) (v := v2) h.z (by decide)
  have er : r15.toInt.toNat = pS S + 4 := by rw [e15]; omega
  have ef : ((f_four (wI S 0 13 v2) r15).toInt64 &&& (4294967295 : Int64)).toInt = fo (gB S) (pS S + 4) := by
    have z := f_fo (S := wI S 0 13 v2) (x := r15) (by rw [e15]; omega) (by rw [k2.g, er]; exact hs)
    rw [k2.g, er] at z
    exact z
  refine ⟨h3.four (by rw [e15]; omega) (by rw [e15, n_12]; omega), ?_⟩
  have f0 := fo_b (g := gB S) (j := pS S + 4)
  refine ⟨_, _, sp_over h3 (by rw [ef]; omega), ?_, fun _ _ => trivial⟩
  rintro r23 S3 ⟨-, v3, e3, a4, b4⟩
  rw [wI_wI] at e3
  subst e3
  rw [n_13, ef] at a4
  rw [n_12] at b4
  have h4 : RdI (wI S 0 13 v3) := h.nx (by omega) b4
  have q25 : qI (wI S 0 13 v3) 0 25 = qI S 0 25 := by rw [qI_wI, if_neg (by decide)]
  rw [q25]
  refine ⟨⟨h25.1, by omega⟩, fun S4 e4 => ?_⟩
  subst e4
  have q25b : qI (wI (wI S 0 13 v3) 10 (qI S 0 25).toInt.toNat r11) 0 25 = qI S 0 25 := by rw [rdH (by decide), q25]
  rw [q25b]
  refine ⟨⟨h25.1, by omega⟩, fun S5 e5 S6 e6 a32 e32 => ?_⟩
  have q25c : qI S5 0 25 = qI S 0 25 := by rw [e5, rdH (by decide), q25b]
  rw [q25c] at e6
  have e33 : a32.toInt = 1 := by rw [e32]; decide
  refine at_x (m := 0) (by omega) ?_
  have t10 : qT S 10 = 2 := h.fin fin_26
  have t11 : qT S 11 = 2 := h.fin fin_27
  have s25 : (qI S 0 25 + (1 : Int32)).toInt = (qI S 0 25).toInt + 1 := by rw [t_add (by rw [li_1]; omega), li_1]
  have u25 : qI S6 0 25 = qI S 0 25 + 1 := by rw [e6, qI_wI, if_pos ⟨rfl, rfl⟩]
  have u13 : qI S6 0 13 = v3 := by rw [e6, qI_wI, if_neg (by decide), e5, rdH (by decide), rdH (by decide), n_13]
  have u12 : qI S6 0 12 = qI S 0 12 := by rw [e6, qI_wI, if_neg (by decide), e5, rdH (by decide), rdH (by decide), n_12]
  have u10 : ∀ j : Nat, qI S6 10 j = if j = (qI S 0 25).toInt.toNat then v else qI S 10 j := fun j => by
    rw [e6, rdH (by decide), e5, rdH (by decide), qI_wI, e11]
    by_cases e : j = (qI S 0 25).toInt.toNat
    · rw [if_pos ⟨rfl, e⟩, if_pos e]
    · rw [if_neg (fun q => e q.2), if_neg e, rdH (by decide)]
  have r2 := h4.row (a := 10) (j := (qI S 0 25).toInt.toNat) (v := r11) (by decide)
  have r3 := r2.row (a := 11) (j := (qI S 0 25).toInt.toNat) (v := o) (by decide)
  have hs2 : smB S S6 := by
    rw [e6, e5]
    exact (h.ss (a := 0) h.z (by decide)).tr ((h4.ss (a := 10) (t := 2) t10 (by decide)).tr ((r2.ss (a := 11) (t := 2) t11 (by decide)).tr (r3.ss (a := 0) (t := 10) r3.z (by decide))))
  refine ⟨by rw [e6, e5]; exact r3.fld (by decide), hs2, u12, by rw [u13]; omega, by rw [u25, s25], fun a ha => by rw [u10, if_neg (by omega)], fun a ha ha2 => ?_⟩
  rw [u25, s25] at ha2
  have e : a = (qI S 0 25).toInt.toNat := by omega
  unfold aOK
  rw [u10, if_pos e, u12, f_same hs2.1 hs2.2]
  have ev : v + (2 : Int32) = r15 := by
    apply Int32.toInt_inj.mp
    rw [t_add (by rw [li_2]; omega), li_2, e15]
    omega
  have ef2 : f_four (wI S 0 13 v2) r15 = f_four S r15 := f_same (S := S) (u := wI S 0 13 v2) k2.1 k2.2 r15
  rw [ev, ← ef2, ef]
  omega
theorem sp_atD {S : MS} {o : Int32} {c : Int} (h : RdI S) (h25 : 0 ≤ (qI S 0 25).toInt ∧ (qI S 0 25).toInt ≤ 100) (hc : c = 0 ∨ c = 1) (h0 : tw (gB S) (pS S) = c) (hs : c = 1 → fo (gB S) (pS S + 4) ≤ 4040) : w_attributesOf S o (AtD S c (if c = 0 then 2 else 8 + fo (gB S) (pS S + 4))) (fun _ => True) := by
  rcases hc with q | q
  · rw [if_pos q, q]
    exact sp_at0 h (by rw [h0, q])
  · rw [if_neg (by omega), q]
    exact sp_at1 h h25 (by rw [h0, q]) (hs q)
def MbB (g : Nat → Int32) (mp : Nat → Nat) (c : Int) (n : Nat) : Prop := ∀ i : Nat, i < n → tw g (mp i + 6) = c ∧ (c = 1 → fo g (mp i + 10) ≤ 4040) ∧ (mp (i + 1) : Int) = mp i + 6 + (if c = 0 then 2 else 8 + fo g (mp i + 10))
def MbD (S : MS) (mp : Nat → Nat) (c : Int) (i : Nat) (u : MS) : Prop := RdI u ∧ smB S u ∧ qI u 0 12 = qI S 0 12 ∧ (qI u 0 13).toInt = mp i ∧ (qI u 0 21).toInt = (qI S 0 21).toInt + i ∧ (qI u 0 25).toInt = (qI S 0 25).toInt + c * i ∧ (∀ i : Nat, (i : Int) < (qI S 0 21).toInt → qI u 9 i = qI S 9 i) ∧ (∀ i : Nat, (qI S 0 21).toInt ≤ i → (i : Int) < (qI u 0 21).toInt → mOK u i) ∧ (∀ a : Nat, (a : Int) < (qI S 0 25).toInt → qI u 10 a = qI S 10 a) ∧ ∀ a : Nat, (qI S 0 25).toInt ≤ a → (a : Int) < (qI u 0 25).toInt → aOK u a
theorem sp_membersD_L {S : MS} {Q : MS → Prop} {n : Int32} {mp : Nat → Nat} {c : Int} (hn : 0 ≤ n.toInt ∧ n.toInt ≤ 24) (h0 : 0 ≤ (qI S 0 21).toInt ∧ (qI S 0 21).toInt ≤ 24) (h25 : 0 ≤ (qI S 0 25).toInt ∧ (qI S 0 25).toInt ≤ 24) (hc : c = 0 ∨ c = 1) (hB : MbB (gB S) mp c n.toInt.toNat) (hQ : ∀ u : MS, MbD S mp c n.toInt.toNat u → Q u) :
    ∀ (m : Nat) (U : MS) (i : Int32), (0 ≤ i.toInt ∧ i.toInt ≤ n.toInt ∧ MbD S mp c i.toInt.toNat U) → (25 - i.toInt).toNat < m → w_members_L33 Q (fun _ => True) m U n i := by
  intro m
  induction m with
  | zero => intro U i _ h9; exact absurd h9 (Nat.not_lt_zero _)
  | succ m ih =>
    rintro U i ⟨i0, i1, hI⟩ hm
    unfold w_members_L33
    refine ⟨fun c1 => hQ U (by rw [show n.toInt.toNat = i.toInt.toNat by omega]; exact hI), fun c1 => ?_⟩
    obtain ⟨hR, hs, e12, h13, h21, hv25, hmo, hmn, hao, han⟩ := hI
    have hb := hR.bnd
    have l2 : (2 : Int64).toInt = 2 := by decide
    have l4 : (4 : Int64).toInt = 4 := by decide
    have b25 : 0 ≤ (qI U 0 25).toInt ∧ (qI U 0 25).toInt ≤ 48 := by
      rcases hc with q | q
      · rw [q] at hv25; omega
      · rw [q] at hv25; omega
    refine ⟨_, _, sp_over hR (by decide), ?_, fun _ _ => trivial⟩
    rintro r14 S1 ⟨e14, v1, rfl, a1, b1⟩
    rw [l2] at a1
    refine ⟨⟨by omega, by omega⟩, fun S2 e2 => ?_⟩
    have hA1 : RdI (wI U 0 13 v1) := hR.nx (by omega) b1
    have hA2 : RdI S2 := by rw [e2]; exact hA1.row (by decide)
    have x13 : qI S2 0 13 = v1 := by rw [e2, rdH (by decide), n_13]
    have x12 : qI S2 0 12 = qI U 0 12 := by rw [e2, rdH (by decide), n_12]
    refine ⟨_, _, sp_over hA2 (by decide), ?_, fun _ _ => trivial⟩
    rintro r20 S3 ⟨-, v2, e3, a2, b2⟩
    rw [x13, l4] at a2
    rw [x12] at b2
    have hA3 : RdI S3 := by rw [e3]; exact hA2.nx (by omega) (by rw [x12]; exact b2)
    have y13 : qI S3 0 13 = v2 := by rw [e3, n_13]
    have y12 : qI S3 0 12 = qI U 0 12 := by rw [e3, n_12, x12]
    have y21 : qI S3 0 21 = qI U 0 21 := by rw [e3, qI_wI, if_neg (by decide), e2, rdH (by decide), qI_wI, if_neg (by decide)]
    have y25 : qI S3 0 25 = qI U 0 25 := by rw [e3, qI_wI, if_neg (by decide), e2, rdH (by decide), qI_wI, if_neg (by decide)]
    have y9 : ∀ j : Nat, qI S3 9 j = if j = (qI U 0 21).toInt.toNat then r14 else qI U 9 j := fun j => by
      rw [e3, rdH (by decide), e2, qI_wI]
      by_cases e : j = (qI U 0 21).toInt.toNat
      · rw [if_pos ⟨rfl, e⟩, if_pos e]
      · rw [if_neg (fun q => e q.2), if_neg e, rdH (by decide)]
    have y10 : qI S3 10 = qI U 10 := by rw [e3, rdH (by decide), e2, rdH (by decide), rdH (by decide)]
    have t9 : qT (wI U 0 13 v1) 9 = 2 := hA1.fin fin_24
    have s3 : smB U S3 := by
      rw [e3, e2]
      exact (hR.ss (a := 0) (t := 10) hR.z (by decide)).tr ((hA1.ss (a := 9) (t := 2) t9 (by decide)).tr ((hA1.row (a := 9) (by decide)).ss (a := 0) (t := 10) (hA1.row (a := 9) (by decide)).z (by decide)))
    have g3 : gB S3 = gB S := (hs.tr s3).g
    have p3' : pS S3 = mp i.toInt.toNat + 6 := by
      show (qI S3 0 13).toInt.toNat = _
      rw [y13]; omega
    obtain ⟨B1, B2, B3⟩ := hB i.toInt.toNat (by omega)
    have spA := sp_atD (S := S3) (o := qI S3 0 21) (c := c) hA3 (by rw [y25]; omega) hc (by rw [g3, p3']; exact B1) (fun q => by rw [g3, p3']; exact B2 q)
    rw [g3, p3', show mp i.toInt.toNat + 6 + 4 = mp i.toInt.toNat + 10 by omega] at spA
    refine ⟨_, _, fr_attributesOf spA, ?_, fun _ _ => trivial⟩
    rintro S4 ⟨⟨p1, p2, p3, p4, p5, p6, p7⟩, hf⟩ S5 e5 a28 e28
    have z9 : qI S4 9 = qI S3 9 := (hf.2.2.2.2.1 9 (by decide) (by decide)).1
    have z21 : qI S4 0 21 = qI S3 0 21 := (hf.2.2.2.2.2 21 (by decide)).1
    have e1 : (qI U 0 21 + (1 : Int32)).toInt = (qI U 0 21).toInt + 1 := by rw [t_add (by rw [li_1]; omega), li_1]
    have w21 : qI S5 0 21 = qI U 0 21 + 1 := by rw [e5, qI_wI, if_pos ⟨rfl, rfl⟩, z21, y21]
    have w12 : qI S5 0 12 = qI U 0 12 := by rw [e5, qI_wI, if_neg (by decide), p3, y12]
    have w13 : qI S5 0 13 = qI S4 0 13 := by rw [e5, qI_wI, if_neg (by decide)]
    have w25 : qI S5 0 25 = qI S4 0 25 := by rw [e5, qI_wI, if_neg (by decide)]
    have w9 : qI S5 9 = qI S3 9 := by rw [e5, rdH (by decide), z9]
    have w10 : qI S5 10 = qI S4 10 := by rw [e5, rdH (by decide)]
    have s5 : smB S4 S5 := by rw [e5]; exact p1.ss (a := 0) (t := 10) p1.z (by decide)
    have e33 : a28.toInt = i.toInt + 1 := by rw [e28, t_add (by rw [lo_1]; omega), lo_1]
    have e34 : a28.toInt.toNat = i.toInt.toNat + 1 := by omega
    rw [y13] at p4
    rw [y25] at p5
    have m25 : c * ((i.toInt.toNat + 1 : Nat) : Int) = c * (i.toInt.toNat : Int) + c := by
      rw [show ((i.toInt.toNat + 1 : Nat) : Int) = (i.toInt.toNat : Int) + 1 by omega, Int.mul_add, Int.mul_one]
    refine ih S5 a28 ⟨by omega, by omega, ?_⟩ (by omega)
    rw [e34]
    refine ⟨by rw [e5]; exact p1.fld (by decide), hs.tr (s3.tr (p2.tr s5)), by rw [w12, e12], by rw [w13, p4, B3]; omega, by rw [w21, e1]; omega, by rw [w25, p5, m25]; omega, fun j hj => ?_, fun j hj hj2 => ?_, fun a ha => ?_, fun a ha ha2 => ?_⟩
    · rw [w9, y9, if_neg (by omega)]
      exact hmo j hj
    · rw [w21, e1] at hj2
      unfold mOK
      rw [w9, w12, y9]
      by_cases e : j = (qI U 0 21).toInt.toNat
      · rw [if_pos e, e14]; omega
      · rw [if_neg e]
        exact hmn j hj (by omega)
    · have : (a : Int) < (qI U 0 25).toInt := by
        rcases hc with q | q
        · rw [q] at hv25; omega
        · rw [q] at hv25; omega
      rw [w10, p6 a (by rw [y25]; exact this), y10]
      exact hao a ha
    · rw [w25] at ha2
      by_cases e : (a : Int) < (qI U 0 25).toInt
      · refine (han a ha e).mv (s3.tr (p2.tr s5)) ?_ w12
        rw [w10, p6 a (by rw [y25]; exact e), y10]
      · exact (p7 a (by rw [y25]; omega) ha2).mv s5 (by rw [w10]) (by rw [e5, qI_wI, if_neg (by decide)])
theorem sp_membersD {S : MS} {mp : Nat → Nat} {c : Int} {n : Nat} (h : RdI S) (h0 : 0 ≤ (qI S 0 21).toInt ∧ (qI S 0 21).toInt ≤ 24) (h25 : 0 ≤ (qI S 0 25).toInt ∧ (qI S 0 25).toInt ≤ 24) (hc : c = 0 ∨ c = 1) (hn : tw (gB S) (pS S) = n) (m0 : mp 0 = pS S + 2) (hB : MbB (gB S) mp c n) : w_members S (MbD S mp c n) (fun _ => True) := by
  have hb := h.bnd
  have ps : ((pS S : Nat) : Int) = (qI S 0 13).toInt := by unfold pS; omega
  unfold w_members
  refine ⟨_, _, sp_over h (by decide), ?_, fun _ _ => trivial⟩
  rintro r2 S3 ⟨e2, v, rfl, a1, b1⟩
  have l2 : (2 : Int64).toInt = 2 := by decide
  rw [l2] at a1
  have h1 : RdI (wI S 0 13 v) := h.nx (by omega) b1
  refine ⟨h1.two (by rw [e2]; omega) (by rw [e2, n_12]; omega), fun a8 e8 => ?_⟩
  have q21 : qI (wI S 0 13 v) 0 21 = qI S 0 21 := by rw [qI_wI, if_neg (by decide)]
  have q25 : qI (wI S 0 13 v) 0 25 = qI S 0 25 := by rw [qI_wI, if_neg (by decide)]
  have k9 : smB S (wI S 0 13 v) := h.ss (a := 0) (t := 10) (j := 13) (v := v) h.z (by decide)
  have ea : a8.toInt = n := by
    rw [e8, f_tw (by rw [e2]; omega), k9.g, e2]
    exact hn
  have en : a8.toInt.toNat = n := by omega
  have st : ∀ t : Int32, (t.toInt ≠ 0 → a8.toInt ≤ 24) → w_members_J26 (MbD S mp c n) (fun _ => True) (wI S 0 13 v) t r2 a8 := fun t ht => by
    unfold w_members_J26
    refine ⟨_, _, sp_must, ?_, fun _ _ => trivial⟩
    rintro U3 ⟨rfl, hz⟩
    refine ⟨_, sp_membersD_L (S := wI S 0 13 v) (mp := mp) (c := c) ⟨by omega, ht hz⟩ (by rw [q21]; exact h0) (by rw [q25]; exact h25) hc (by rw [k9.g, en]; exact hB) (fun u hu => ?_) _ _ 0 ⟨by decide, by rw [li_0]; omega, ?_⟩ (Nat.lt_succ_self _)⟩
    · rw [en] at hu
      obtain ⟨p1, p2, p3, p4, p5, p6, p7, p8, p9, p10⟩ := hu
      rw [q21] at p5 p7 p8
      rw [q25] at p6 p9 p10
      rw [n_12] at p3
      exact ⟨p1, k9.tr p2, p3, p4, p5, p6, fun j hj => by rw [p7 j hj, rdH (by decide)], p8, fun a ha => by rw [p9 a ha, rdH (by decide)], p10⟩
    · show MbD (wI S 0 13 v) mp c 0 (wI S 0 13 v)
      exact ⟨h1, smB.rf, rfl, by rw [n_13, m0]; omega, by omega, by rw [show ((0 : Nat) : Int) = 0 from rfl, Int.mul_zero]; omega, fun _ _ => rfl, fun a h1 h2 => absurd h2 (by omega), fun _ _ => rfl, fun a h1 h2 => absurd h2 (by omega)⟩
  exact ⟨fun _ => st 0 (fun q => absurd rfl q), fun c => st 1 (fun _ => by omega)⟩
/-! the layout of bytes that were written (behind LayB, sp_entD, sp_membersD) -/
/-- what stands behind the pool -/
def TlB (g : Nat → Int32) (P : Nat) : Prop := ∃ (F M : Nat) (mp : Nat → Nat), (F ≤ 24 ∧ tw g (P + 8) = F ∧ ∀ i : Nat, i < F → tw g (P + 10 + 8 * i + 6) = 0) ∧ (M ≤ 24 ∧ tw g (P + 10 + 8 * F) = M) ∧ mp 0 = P + 12 + 8 * F ∧ MtB g mp M ∧ tw g (mp M) = 0
theorem LayB.tl {g : Nat → Int32} {n : Int} (h : LayB g n) : ∃ (pos : Nat → Nat) (num : Nat → Int) (ne : Nat), EnB g pos num ne ∧ tw g 8 = num ne ∧ TlB g (pos ne) := by
  obtain ⟨pos, num, ne, F, M, mp, a, b, c, d, e, f, k, -⟩ := h
  exact ⟨pos, num, ne, a, b, F, M, mp, c, d, e, f, k⟩
theorem EnB.nu {g : Nat → Int32} {pos : Nat → Nat} {num : Nat → Int} {ne : Nat} (h : EnB g pos num ne) : ∀ d e : Nat, e + d ≤ ne → num e + d ≤ num (e + d) := by
  intro d
  induction d with
  | zero => intro e _; show num e + 0 ≤ num e; omega
  | succ d ih =>
    intro e hd
    have a := ih e (by omega)
    have b := (h.2.2 (e + d) (by omega)).2
    rw [show e + (d + 1) = e + d + 1 by omega]
    split at b <;> omega
def LyU (S u : MS) : Prop := RdI u ∧ smB S u ∧ qI u 0 12 = qI S 0 12 ∧ (0 ≤ (qI u 0 20).toInt ∧ (qI u 0 20).toInt + 8 ≤ (qI u 0 12).toInt) ∧ (0 ≤ (qI u 0 22).toInt ∧ (qI u 0 22).toInt ≤ 24 ∧ (qI u 0 22).toInt ≤ (qI u 0 21).toInt ∧ (qI u 0 21).toInt ≤ (qI u 0 22).toInt + 24) ∧ (∀ i : Nat, (i : Int) < (qI u 0 21).toInt → mOK u i) ∧ (0 ≤ (qI u 0 25).toInt ∧ (qI u 0 25).toInt < 3000) ∧ (∀ a : Nat, (a : Int) < (qI u 0 25).toInt → aOK u a) ∧ qI u 4 = qI S 4 ∧ qI u 6 = qI S 6 ∧ qI u 7 = qI S 7 ∧ qI u 0 14 = qI S 0 14
theorem sp_layD {U : MS} {Q : MS → Prop} (h : RdI U) (hT : TlB (gB U) (pS U)) (hQ : ∀ u, LyU U u → Q u) :
    (∃ Q16 EQ16, w_over U (2 : Int64) Q16 EQ16 ∧ (∀ r17 S18, Q16 r17 S18 → (∀ S20, S20 = wI S18 0 20 r17 → (∃ Q21 EQ21, w_over S20 (6 : Int64) Q21 EQ21 ∧ (∀ r22 S23, Q21 r22 S23 → (∀ S25, S25 = wI S23 0 21 0 → (∀ S26, S26 = wI S25 0 25 0 → (∃ Q27 EQ27, w_members S26 Q27 EQ27 ∧ (∀ S28, Q27 S28 → (∀ S30, S30 = wI S28 0 22 (qI S28 0 21) → (∃ Q31 EQ31, w_members S30 Q31 EQ31 ∧ (∀ S32, Q31 S32 → (∃ Q34 EQ34, w_attributesOf S32 (-1 : Int32) Q34 EQ34 ∧ (∀ S35, Q34 S35 → (∀ S37, S37 = wI S35 0 28 (qI S35 0 13) → Q S37)) ∧ (∀ u9, EQ34 u9 → (fun _ : MS => True) u9))) ∧ (∀ u9, EQ31 u9 → (fun _ : MS => True) u9)))) ∧ (∀ u9, EQ27 u9 → (fun _ : MS => True) u9))))) ∧ (∀ u9, EQ21 u9 → (fun _ : MS => True) u9)))) ∧ (∀ u9, EQ16 u9 → (fun _ : MS => True) u9)) := by
  obtain ⟨F, M, mp, hF, hM, m0, hMt, hend⟩ := hT
  have hb := h.bnd
  have ps : ((pS U : Nat) : Int) = (qI U 0 13).toInt := by unfold pS; omega
  have l2 : (2 : Int64).toInt = 2 := by decide
  have l6 : (6 : Int64).toInt = 6 := by decide
  refine ⟨_, _, sp_over h (by decide), ?_, fun _ _ => trivial⟩
  rintro r17 S18 ⟨e17, v1, rfl, a1, b1⟩ S20 e20
  rw [l2] at a1
  have h1 : RdI (wI U 0 13 v1) := h.nx (by omega) b1
  have h2 : RdI S20 := by rw [e20]; exact h1.fld (by decide)
  have x13 : qI S20 0 13 = v1 := by rw [e20, qI_wI, if_neg (by decide), n_13]
  have x12 : qI S20 0 12 = qI U 0 12 := by rw [e20, qI_wI, if_neg (by decide), n_12]
  have x20 : qI S20 0 20 = qI U 0 13 := by rw [e20, qI_wI, if_pos ⟨rfl, rfl⟩, e17]
  refine ⟨_, _, sp_over h2 (by decide), ?_, fun _ _ => trivial⟩
  rintro r22 S23 ⟨-, v2, e23, a2, b2⟩ S25 e25 S26 e26
  rw [x13, l6] at a2
  rw [x12] at b2
  have h3 : RdI S23 := by rw [e23]; exact h2.nx (by omega) (by rw [x12]; exact b2)
  have h4 : RdI S26 := by rw [e26, e25]; exact (h3.fld (by decide)).fld (by decide)
  have y : ∀ j : Nat, j ≠ 13 → j ≠ 21 → j ≠ 25 → j ≠ 20 → qI S26 0 j = qI U 0 j := fun j k1 k2 k3 k4 => by
    rw [e26, qI_wI, if_neg (fun q => k3 q.2), e25, qI_wI, if_neg (fun q => k2 q.2), e23, qI_wI, if_neg (fun q => k1 q.2), e20, qI_wI, if_neg (fun q => k4 q.2), qI_wI, if_neg (fun q => k1 q.2)]
  have yr : ∀ a : Nat, a ≠ 0 → qI S26 a = qI U a := fun a ha => by rw [e26, rdH ha, e25, rdH ha, e23, rdH ha, e20, rdH ha, rdH ha]
  have y13 : qI S26 0 13 = v2 := by rw [e26, qI_wI, if_neg (by decide), e25, qI_wI, if_neg (by decide), e23, n_13]
  have y20 : qI S26 0 20 = qI U 0 13 := by rw [e26, qI_wI, if_neg (by decide), e25, qI_wI, if_neg (by decide), e23, qI_wI, if_neg (by decide), x20]
  have y21 : qI S26 0 21 = 0 := by rw [e26, qI_wI, if_neg (by decide), e25, qI_wI, if_pos ⟨rfl, rfl⟩]
  have y25 : qI S26 0 25 = 0 := by rw [e26, qI_wI, if_pos ⟨rfl, rfl⟩]
  have y12 : qI S26 0 12 = qI U 0 12 := y 12 (by decide) (by decide) (by decide) (by decide)
  have sU : smB U S26 := ⟨by rw [e26, e25, e23, e20]; rfl, yr _ (h.ne h.z (by decide))⟩
  have p26 : pS S26 = pS U + 8 := by
    show (qI S26 0 13).toInt.toNat = _
    rw [y13]; omega
  have B0 : MbB (gB S26) (fun i => pS U + 10 + 8 * i) 0 F := by
    rw [sU.g]
    intro i hi
    refine ⟨hF.2.2 i hi, fun q => absurd q (by decide), ?_⟩
    rw [if_pos rfl]
    show ((pS U + 10 + 8 * (i + 1) : Nat) : Int) = ((pS U + 10 + 8 * i : Nat) : Int) + 6 + 2
    omega
  refine ⟨_, _, fr_members (sp_membersD (n := F) h4 (by rw [y21, li_0]; omega) (by rw [y25, li_0]; omega) (Or.inl rfl) (by rw [sU.g, p26]; exact hF.2.1) (by rw [p26]) B0), ?_, fun _ _ => trivial⟩
  rintro S28 ⟨⟨p1, p2, p3, p4, p5, p6, p7, p8, p9, p10⟩, hf⟩ S30 e30
  replace p4 : (qI S28 0 13).toInt = ((pS U + 10 + 8 * F : Nat) : Int) := p4
  have g20 : qI S28 0 20 = qI S26 0 20 := (hf.2.2.2.2.2 20 (by decide)).1
  have g14 : qI S28 0 14 = qI S26 0 14 := (hf.2.2.2.2.2 14 (by decide)).1
  have g4 : qI S28 4 = qI S26 4 := (hf.2.2.2.2.1 4 (by decide) (by decide)).1
  have g6 : qI S28 6 = qI S26 6 := (hf.2.2.2.2.1 6 (by decide) (by decide)).1
  have g7 : qI S28 7 = qI S26 7 := (hf.2.2.2.2.1 7 (by decide) (by decide)).1
  rw [y21, li_0] at p5 p8
  rw [y25, li_0] at p6 p10
  rw [Int.zero_mul] at p6
  have hA2 : RdI S30 := by rw [e30]; exact p1.fld (by decide)
  have z22 : qI S30 0 22 = qI S28 0 21 := by rw [e30, qI_wI, if_pos ⟨rfl, rfl⟩]
  have z : ∀ j : Nat, j ≠ 22 → qI S30 0 j = qI S28 0 j := fun j hj => by rw [e30, qI_wI, if_neg (fun q => hj q.2)]
  have zr : ∀ a : Nat, a ≠ 0 → qI S30 a = qI S28 a := fun a ha => by rw [e30, rdH ha]
  have s30 : smB S28 S30 := by rw [e30]; exact p1.ss (a := 0) (t := 10) p1.z (by decide)
  have sU3 : smB U S30 := sU.tr (p2.tr s30)
  have p30 : pS S30 = pS U + 10 + 8 * F := by
    show (qI S30 0 13).toInt.toNat = _
    rw [z 13 (by decide), p4]; omega
  have B1 : MbB (gB S30) mp 1 M := by
    rw [sU3.g]
    intro i hi
    have b := hMt i hi
    refine ⟨b.1, fun _ => b.2.1.2, ?_⟩
    rw [if_neg (by decide), b.2.2]
    omega
  refine ⟨_, _, fr_members (sp_membersD (n := M) hA2 (by rw [z 21 (by decide)]; omega) (by rw [z 25 (by decide)]; omega) (Or.inr rfl) (by rw [sU3.g, p30]; exact hM.2) (by rw [p30, m0]; omega) B1), ?_, fun _ _ => trivial⟩
  rintro S32 ⟨⟨r1, r2, r3, r4, r5, r6, r7, r8, r9, r10⟩, hf2⟩
  have i20 : qI S32 0 20 = qI S30 0 20 := (hf2.2.2.2.2.2 20 (by decide)).1
  have i22 : qI S32 0 22 = qI S30 0 22 := (hf2.2.2.2.2.2 22 (by decide)).1
  have i14 : qI S32 0 14 = qI S30 0 14 := (hf2.2.2.2.2.2 14 (by decide)).1
  have i4 : qI S32 4 = qI S30 4 := (hf2.2.2.2.2.1 4 (by decide) (by decide)).1
  have i6 : qI S32 6 = qI S30 6 := (hf2.2.2.2.2.1 6 (by decide) (by decide)).1
  have i7 : qI S32 7 = qI S30 7 := (hf2.2.2.2.2.1 7 (by decide) (by decide)).1
  rw [z 21 (by decide)] at r5 r7 r8
  rw [z 25 (by decide)] at r6 r9 r10
  rw [Int.one_mul] at r6
  rw [z 12 (by decide)] at r3
  have m32 : ∀ i : Nat, (i : Int) < (qI S32 0 21).toInt → mOK S32 i := fun i hi => by
    by_cases e : (i : Int) < (qI S28 0 21).toInt
    · exact (p8 i (by omega) e).mv (by rw [r7 i e, zr 9 (by decide)]) r3
    · exact r8 i (by omega) hi
  have a32 : ∀ a : Nat, (a : Int) < (qI S32 0 25).toInt → aOK S32 a := fun a ha => by
    by_cases e : (a : Int) < (qI S28 0 25).toInt
    · exact (p10 a (by omega) e).mv (s30.tr r2) (by rw [r9 a e, zr 10 (by decide)]) r3
    · exact r10 a (by omega) ha
  have sU4 : smB U S32 := sU3.tr r2
  have p32 : pS S32 = mp M := by
    show (qI S32 0 13).toInt.toNat = _
    rw [r4]; omega
  refine ⟨_, _, fr_attributesOf (sp_at0 r1 (by rw [sU4.g, p32]; exact hend)), ?_, fun _ _ => trivial⟩
  rintro S35 ⟨⟨o1, o2, o3, o4, o5, o6, o7⟩, hf3⟩ S37 e37
  have w : ∀ j : Nat, j ≠ 28 → qI S37 0 j = qI S35 0 j := fun j hj => by rw [e37, qI_wI, if_neg (fun q => hj q.2)]
  have wr : ∀ a : Nat, a ≠ 0 → qI S37 a = qI S35 a := fun a ha => by rw [e37, rdH ha]
  have f3 : ∀ j : Nat, j ∉ [7, 8, 13, 25] → qI S35 0 j = qI S32 0 j := fun j hj => (hf3.2.2.2.2.2 j hj).1
  have s37 : smB S35 S37 := by rw [e37]; exact o1.ss (a := 0) (t := 10) o1.z (by decide)
  have c12 : qI S37 0 12 = qI U 0 12 := by rw [w 12 (by decide), f3 12 (by decide), r3, p3, y12]
  have c20 : qI S37 0 20 = qI U 0 13 := by rw [w 20 (by decide), f3 20 (by decide), i20, z 20 (by decide), g20, y20]
  have c21 : qI S37 0 21 = qI S32 0 21 := by rw [w 21 (by decide), f3 21 (by decide)]
  have c22 : qI S37 0 22 = qI S28 0 21 := by rw [w 22 (by decide), f3 22 (by decide), i22, z22]
  have c25 : qI S37 0 25 = qI S35 0 25 := w 25 (by decide)
  have c9 : qI S37 9 = qI S32 9 := by rw [wr 9 (by decide)]; exact (hf3.2.2.2.2.1 9 (by decide) (by decide)).1
  have d12 : qI S37 0 12 = qI S32 0 12 := by rw [w 12 (by decide), f3 12 (by decide)]
  refine hQ S37 ⟨by rw [e37]; exact o1.fld (by decide), sU4.tr (o2.tr s37), c12, ?_, ?_, fun i hi => ?_, by rw [c25]; omega, fun a ha => ?_, ?_, ?_, ?_, ?_⟩
  · rw [c20, c12]; omega
  · rw [c22, c21]; omega
  · rw [c21] at hi
    exact (m32 i hi).mv (by rw [c9]) d12
  · rw [w 25 (by decide)] at ha
    by_cases e : (a : Int) < (qI S32 0 25).toInt
    · exact (a32 a e).mv (o2.tr s37) (by rw [wr 10 (by decide), o6 a e]) d12
    · exact (o7 a (by omega) ha).mv s37 (by rw [wr 10 (by decide)]) (w 12 (by decide))
  · rw [wr 4 (by decide), (hf3.2.2.2.2.1 4 (by decide) (by decide)).1, i4, zr 4 (by decide), g4, yr 4 (by decide)]
  · rw [wr 6 (by decide), (hf3.2.2.2.2.1 6 (by decide) (by decide)).1, i6, zr 6 (by decide), g6, yr 6 (by decide)]
  · rw [wr 7 (by decide), (hf3.2.2.2.2.1 7 (by decide) (by decide)).1, i7, zr 7 (by decide), g7, yr 7 (by decide)]
  · rw [w 14 (by decide), f3 14 (by decide), i14, z 14 (by decide), g14, y 14 (by decide) (by decide) (by decide) (by decide)]
section LLX
variable {g : Nat → Int32} {pos : Nat → Nat} {num : Nat → Int} {ne : Nat}
theorem sp_layoutD_L136 {S : MS} {Q : MS → Prop} (hg : gB S = g) (hE : EnB g pos num ne) (hT : TlB g (pos ne)) (hQ : ∀ u, MmI u → Q u) :
    ∀ (m : Nat) (U : MS) (k : Int32) (e : Nat), (1 ≤ k.toInt ∧ k.toInt ≤ 501 ∧ LyL S U k.toInt) → (e ≤ ne ∧ k.toInt = num e ∧ (qI U 0 13).toInt = pos e ∧ (qI U 0 14).toInt = num ne) → (502 - k.toInt).toNat < m → w_layout_L136 Q (fun _ => True) m U k := by
  intro m
  induction m with
  | zero => intro U i e _ _ h9; exact absurd h9 (Nat.not_lt_zero _)
  | succ m ih =>
    rintro U k e ⟨k0, k1, hR, hs, e12, hp, hL, hZ⟩ ⟨he, ek, e13, e14⟩ hm
    have gU : gB U = g := hs.g.trans hg
    have pU : pS U = pos e := by unfold pS; omega
    unfold w_layout_L136
    refine ⟨fun c => ?_, fun c => ?_⟩
    · have ee : e = ne := by
        by_cases q : e = ne
        · exact q
        · have := hE.nu (ne - e) e (by omega)
          rw [show e + (ne - e) = ne by omega] at this
          omega
      refine sp_layD hR (by rw [gU, pU, ee]; exact hT) (fun u hu => ?_)
      obtain ⟨p1, p2, p3, p4, p5, p6, p6b, p7, p8, p9, p10, p11⟩ := hu
      refine hQ u ⟨p1, p4, p5, p6, p6b, p7, by rw [p11]; exact hp, fun j hj hj2 => ?_⟩
      rw [p11] at hj2
      exact (hL j hj (by omega)).mv (by rw [p8]) (by rw [p9]) (by rw [p10]) p3 p2
    · have el : e < ne := by
        by_cases q : e = ne
        · rw [q] at ek; omega
        · omega
      obtain ⟨n1, n2⟩ := hE.2.2 e el
      refine ⟨_, _, fr_entry (sp_entD hR ⟨by omega, by omega⟩), ?_, fun _ _ => trivial⟩
      rintro u ⟨⟨⟨q1, q2, q3, q4, q5, q6⟩, qt, qp⟩, hf⟩
      rw [gU, pU] at qt qp
      have u13 := qp (pos (e + 1)) n1
      have f14 : qI u 0 14 = qI U 0 14 := (hf.2.2.2.2.2 14 (by decide)).1
      have hk : (k.toInt.toNat : Int) = k.toInt := by omega
      have ol : ∀ j : Nat, 1 ≤ j → (j : Int) < k.toInt + 1 → eO0 u j := fun j hj hj2 => by
        by_cases e : j = k.toInt.toNat
        · rw [e]; exact Or.inl q6
        · exact (hL j hj (by omega)).mv (q5 j e).1 (q5 j e).2.1 (q5 j e).2.2 q3 q2
      have oz : ∀ j : Nat, k.toInt + 1 ≤ (j : Int) → j < 502 → (qI u 4 j).toInt = 0 := fun j hj hj2 => by
        rw [(q5 j (by omega)).1]
        exact hZ j (by omega) hj2
      have e1 : (k + (1 : Int32)).toInt = k.toInt + 1 := by rw [t_add (by rw [li_1]; omega), li_1]
      have e2 : (k + (2 : Int32)).toInt = k.toInt + 2 := by rw [t_add (by rw [li_2]; omega), li_2]
      refine ⟨⟨by omega, by omega⟩, fun c5 => ?_, fun c5 => ?_⟩
      · unfold w_layout_J165
        intro a ea
        subst ea
        rw [if_pos (by rw [← qt]; exact c5)] at n2
        refine ih _ _ (e + 1) ⟨by omega, by omega, q1, hs.tr q2, by rw [q3, e12], by rw [f14]; exact hp, fun j hj hj2 => ?_, fun j hj hj2 => oz j (by omega) hj2⟩ ⟨by omega, by omega, u13, by rw [f14]; exact e14⟩ (by omega)
        by_cases e : (j : Int) < k.toInt + 1
        · exact ol j hj e
        · exact Or.inr (oz j (by omega) (by omega))
      · unfold w_layout_J165
        intro a ea
        subst ea
        rw [if_neg (by rw [← qt]; exact c5)] at n2
        exact ih _ _ (e + 1) ⟨by omega, by omega, q1, hs.tr q2, by rw [q3, e12], by rw [f14]; exact hp, fun j hj hj2 => ol j hj (by omega), fun j hj hj2 => oz j (by omega) hj2⟩ ⟨by omega, by omega, u13, by rw [f14]; exact e14⟩ (by omega)
theorem sp_layoutD_L112 {S : MS} {Q : MS → Prop} (hg : gB S = g) (hE : EnB g pos num ne) (hT : TlB g (pos ne)) (hQ : ∀ u, MmI u → Q u) :
    ∀ (m : Nat) (U : MS) (k : Int32), (0 ≤ k.toInt ∧ k.toInt ≤ 502 ∧ qN U 4 = 502 ∧ RdI U ∧ smB S U ∧ qI U 0 12 = qI S 0 12 ∧ (1 ≤ (qI U 0 14).toInt ∧ (qI U 0 14).toInt ≤ 500) ∧ ∀ j : Nat, (j : Int) < k.toInt → (qI U 4 j).toInt = 0) → ((qI U 0 13).toInt = 10 ∧ (qI U 0 14).toInt = num ne) → (502 - k.toInt).toNat < m → w_layout_L112 Q (fun _ => True) m U k := by
  intro m
  induction m with
  | zero => intro U i _ _ h9; exact absurd h9 (Nat.not_lt_zero _)
  | succ m ih =>
    rintro U k ⟨k0, k1, hN, hR, hs, e12, hp, hZ⟩ ⟨e13, e14⟩ hm
    unfold w_layout_L112
    have eN : (Int32.ofNat (qN U 4)).toInt = 502 := by rw [hN]; decide
    rw [eN]
    refine ⟨fun c => ⟨_, sp_layoutD_L136 hg hE hT hQ _ U 1 0 ⟨by decide, by decide, hR, hs, e12, hp, fun j hj hj2 => ?_, fun j hj hj2 => hZ j (by omega)⟩ ⟨by omega, by rw [hE.2.1]; decide, by rw [hE.1]; exact e13, e14⟩ (Nat.lt_succ_self _)⟩, fun c => ?_⟩
    · rw [li_1] at hj2; omega
    · refine ⟨⟨k0, by omega⟩, fun u eu a ea => ?_⟩
      have t4 : qT U 4 = 2 := hR.fin fin_15
      have e1 : a.toInt = k.toInt + 1 := by rw [ea, t_add (by rw [lo_1]; omega), lo_1]
      have u0 : qI u 0 = qI U 0 := by rw [eu, rdH (by decide)]
      refine ih u a ⟨by omega, by omega, by rw [eu]; exact hN, by rw [eu]; exact hR.row (by decide), by rw [eu]; exact hs.tr (hR.ss (a := 4) (t := 2) t4 (by decide)), by rw [u0, e12], by rw [u0]; exact hp, fun j hj => ?_⟩ (by rw [u0]; exact ⟨e13, e14⟩) (by omega)
      rw [eu, qI_wI]
      by_cases e : j = k.toInt.toNat
      · rw [if_pos ⟨rfl, e⟩]; decide
      · rw [if_neg (fun q => e q.2)]; exact hZ j (by omega)
theorem sp_layoutD_L2 {S : MS} {Q : MS → Prop} (hB : BsI S) (hN : qN S 4 = 502) (hg : gB S = g) (hE : EnB g pos num ne) (h8 : tw g 8 = num ne) (hT : TlB g (pos ne)) (hQ : ∀ u, MmI u → Q u) :
    ∀ (m : Nat) (k : Int32), (0 ≤ k.toInt ∧ k.toInt ≤ 8 ∧ k.toInt ≤ (qI S 0 12).toInt) → (8 - k.toInt).toNat < m → w_layout_L2 Q (fun _ => True) m S k := by
  intro m
  induction m with
  | zero => intro i _ h9; exact absurd h9 (Nat.not_lt_zero _)
  | succ m ih =>
    rintro k ⟨k0, k1, k2⟩ hm
    unfold w_layout_L2
    refine ⟨fun c S2 e2 => ?_, fun c => ?_⟩
    · have l2 : (2 : Int64).toInt = 2 := by decide
      have h2 : RdI S2 := by rw [e2]; exact hB.nx (by decide) (by rw [li_8]; omega)
      have x13 : qI S2 0 13 = 8 := by rw [e2, n_13]
      have x12 : qI S2 0 12 = qI S 0 12 := by rw [e2, n_12]
      refine ⟨_, _, sp_over h2 (by decide), ?_, fun _ _ => trivial⟩
      rintro r4 S5 ⟨e4, v, e5, a1, b1⟩
      rw [x13, l2, li_8] at a1
      rw [x12] at b1
      have h5 : RdI S5 := by rw [e5]; exact h2.nx (by omega) (by rw [x12]; exact b1)
      have y12 : qI S5 0 12 = qI S 0 12 := by rw [e5, n_12, x12]
      have y13 : qI S5 0 13 = v := by rw [e5, n_13]
      have s5 : smB S S5 := by rw [e5, e2, wI_wI]; exact hB.sm
      refine ⟨h5.two (by rw [e4, x13, li_8]; omega) (by rw [e4, x13, li_8, y12]; omega), fun S10 e10 => ?_⟩
      have h10 : RdI S10 := by rw [e10]; exact h5.fld (by decide)
      have z12 : qI S10 0 12 = qI S 0 12 := by rw [e10, qI_wI, if_neg (by decide), y12]
      have z13 : qI S10 0 13 = v := by rw [e10, qI_wI, if_neg (by decide), y13]
      have z14 : (qI S10 0 14).toInt = num ne := by
        rw [e10, qI_wI, if_pos ⟨rfl, rfl⟩, f_tw (by rw [e4, x13, li_8]; omega), s5.g, hg, e4, x13, li_8]
        exact h8
      have s10 : smB S S10 := s5.tr (by rw [e10]; exact h5.ss (a := 0) (t := 10) h5.z (by decide))
      have st : ∀ t : Int32, (t.toInt ≠ 0 → 1 ≤ (qI S10 0 14).toInt ∧ (qI S10 0 14).toInt ≤ 500) → w_layout_J104 Q (fun _ => True) S10 t := fun t ht => by
        unfold w_layout_J104
        refine ⟨_, _, sp_must, ?_, fun _ _ => trivial⟩
        rintro U3 ⟨rfl, hz⟩
        exact ⟨_, sp_layoutD_L112 hg hE hT hQ _ _ 0 ⟨by decide, by decide, by rw [e10, e5, e2]; exact hN, h10, s10, z12, ht hz, fun j hj => absurd hj (by rw [li_0]; omega)⟩ ⟨by rw [z13]; omega, z14⟩ (Nat.lt_succ_self _)⟩
      refine ⟨fun _ => ?_, fun c1 => ⟨fun _ => ?_, fun c2 => st 1 (fun _ => ⟨by omega, by omega⟩)⟩⟩
      · unfold w_layout_J103; exact st 0 (fun q => absurd rfl q)
      · unfold w_layout_J103; exact st 0 (fun q => absurd rfl q)
    · have e1 : (k + Int32.ofInt 1).toInt = k.toInt + 1 := by rw [t_add (by rw [lo_1]; omega), lo_1]
      have s48 : k.toInt < (qI S 0 12).toInt → ∀ t : Int32, w_layout_J48 Q (fun _ => True) (w_layout_L2 Q (fun _ => True) m) S t k := fun hk t => by
        unfold w_layout_J48
        refine ⟨_, _, sp_must, ?_, fun _ _ => trivial⟩
        rintro U3 ⟨rfl, -⟩ a ea
        subst ea
        exact ih _ ⟨by omega, by omega, by omega⟩ (by omega)
      have s22 : ∀ t : Int32, (t.toInt ≠ 0 → k.toInt < (qI S 0 12).toInt) → w_layout_J22 Q (fun _ => True) (w_layout_L2 Q (fun _ => True) m) S t k := fun t ht => by
        unfold w_layout_J22
        refine ⟨_, _, sp_must, ?_, fun _ _ => trivial⟩
        rintro U3 ⟨rfl, hz⟩
        exact ⟨hB.oct k0 (ht hz), trivial, fun _ => s48 (ht hz) 1, fun _ => s48 (ht hz) 0⟩
      exact ⟨fun _ => s22 0 (fun q => absurd rfl q), fun c2 => s22 1 (fun _ => by omega)⟩
end LLX
theorem sp_layoutD {S : MS} {n : Int} (hB : BsI S) (hN : qN S 4 = 502) (hL : LayB (gB S) n) : w_layout S MmI (fun _ => True) := by
  obtain ⟨pos, num, ne, hE, h8, hT⟩ := hL.tl
  unfold w_layout
  have h0 : 0 ≤ (qI S 0 12).toInt := by obtain ⟨b, -, -, -, h5, -⟩ := hB; exact h5
  exact ⟨_, sp_layoutD_L2 hB hN rfl hE h8 hT (fun u hu => hu) _ 0 ⟨by decide, by decide, by rw [li_0]; exact h0⟩ (Nat.lt_succ_self _)⟩
/-! a file is read and kept (behind sp_readFile, sp_layoutD) -/
def KdP (V : MS → Nat → Prop) (S u : MS) : Prop := FsI V u ∧ knI u ∧ (∀ a : Nat, a ≠ 0 → a ≠ 1 → (a < 4 ∨ 21 < a) → (a < qn S ∨ qn u ≤ a) → sm5 S u a) ∧ (∀ a : Nat, a ≤ 21 → qT u a = qT S a ∧ qN u a = qN S a) ∧ (∀ j : Nat, j ∉ JL → j ≠ 1 → qI u 0 j = qI S 0 j) ∧ (∀ j : Nat, j ∉ JL → qJ u 0 j = qJ S 0 j ∧ qR u 0 j = qR S 0 j) ∧ (∀ i : Nat, (i : Int) < (qI S 0 1).toInt → qR u 1 i = qR S 1 i) ∧ (XsI S → XsI u) ∧ (qn S ≤ qn u ∧ ((qI u 0 1 = qI S 0 1 ∧ qn u ≤ qn S + 14 ∧ qu u ≤ qu S + 335) ∨ ((qI u 0 1).toInt = (qI S 0 1).toInt + 1 ∧ qn u ≤ qn S + 780 ∧ qu u ≤ qu S + 106400)))
theorem sp_rk {V : MS → Nat → Prop} {S : MS} {b : Nat} {n : Int32} (hV : stab V) (h : FsI V S) (h12 : (qI S 0 1).toInt < 12) (RI : RfI S b n) (hby : byt S b) (hbn : b = 2 ∨ 21 < b) (hlay : ∃ Q3, w_layout (wI (wR S 0 11 (some b)) 0 12 n) Q3 (fun _ => True) ∧ ∀ u, Q3 u → MmI u) : ∃ Q6 EQ6, w_readFile S b n Q6 EQ6 ∧ (∀ (f : Nat) (U : MS), Q6 f U → ∃ Q12, w_kept U f Q12 ∧ ∀ (r : Int32) (W : MS), Q12 r W → KdP V S W) ∧ ∀ u : MS, EQ6 u → KdP V S u := by
  have h1 := h.1
  have hk := RI.2.2.1
  have hr := RI.2.2.2.2.2
  refine ⟨_, _, sp_readFile RI hby hbn hlay, ?_, ?_⟩
  · rintro f U ⟨ef, ⟨hF, h21⟩, hR, hK, hX⟩
    obtain ⟨r1, r2, r3, r4, r5⟩ := hR
    have u1 : qI U 0 1 = qI S 0 1 := (r3 1 (by decide)).1
    have FU : FsI V U := h.mv hV hk (fun a a0 a1 => r1 a (by omega) (by omega) (Or.inl (by omega))) (fun a a0 => r1 a (by rw [show TXB = 10000000 from rfl] at a0; omega) (by rw [show TXB = 10000000 from rfl] at a0; omega) (Or.inr (by rw [show TXB = 10000000 from rfl] at a0; have := hK.2.1; rw [show KC = 300000 from rfl] at this; omega))) (by omega) (r3 1 (by decide)).1 (r1 1 (by decide) (by decide) (Or.inl (by have := hk.1; omega))).2.2.1
    refine ⟨fun r W => ∃ D : MS, D = wR U 1 (qI U 0 1).toInt.toNat (some f) ∧ W = wI D 0 1 (qI D 0 1 + 1), ⟨by rw [u1]; omega, fun D eD W eW => ⟨D, eD, eW⟩⟩, ?_⟩
    rintro r W ⟨D, eD, eW⟩
    have d0 : qI D 0 1 = qI S 0 1 := by rw [eD]; exact u1
    have w1 : (qI W 0 1).toInt = (qI S 0 1).toInt + 1 := by rw [eW, qI_wI, if_pos ⟨rfl, rfl⟩, d0, t_add (by rw [li_1]; omega), li_1]
    have sW : ∀ a : Nat, a ≠ 0 → a ≠ 1 → sm5 U W a := fun a a0 a1 => by
      have q1 : sm5 U D a := by rw [eD]; exact sm5.wR a1
      have q2 : sm5 D W a := by rw [eW]; exact sm5.wI a0
      exact q1.tr q2
    have wn : qn W = qn U := by rw [eW, eD]; rfl
    have wu : qu W = qu U := by rw [eW, eD]; rfl
    have wR1 : ∀ i : Nat, qR W 1 i = if i = (qI S 0 1).toInt.toNat then some f else qR U 1 i := fun i => by
      rw [eW]
      show qR D 1 i = _
      rw [eD, qR_wR, u1]
      by_cases q : i = (qI S 0 1).toInt.toNat
      · rw [if_pos ⟨rfl, q⟩, if_pos q]
      · rw [if_neg (fun z => q z.2), if_neg q]
    have w0 : ∀ j : Nat, j ≠ 1 → qI W 0 j = qI U 0 j := fun j hj => by rw [eW, qI_wI, if_neg (fun q => hj q.2), eD]; rfl
    have XW : XsI S → XsI W := fun hs => by
      have XU : XsI U := hs.mv h (fun a a0 a1 => (r1 a (by omega) (by omega) (Or.inl a1)).s6) u1 (r1 1 (by decide) (by decide) (Or.inl (by have := hk.1; omega))).2.2.1
      intro i f' hi hr'
      rw [wR1] at hr'
      by_cases q : i = (qI S 0 1).toInt.toNat
      · rw [if_pos q] at hr'
        have ef' : f = f' := by injection hr'
        subst ef'
        exact hX.mv hF (fun a a0 _ => (sW a (by have := hF.1.1.1; omega) (by have := hF.1.1.1; omega)).s6)
      · rw [if_neg q] at hr'
        have hi' : (i : Int) < (qI U 0 1).toInt := by rw [u1]; omega
        obtain ⟨f2, a2, b2, _⟩ := FU.2 i hi'
        have ef' : f2 = f' := by rw [hr'] at a2; injection a2.symm
        subst ef'
        exact (XU i f2 hi' hr').mv b2 (fun a a0 _ => (sW a (by have := b2.1.1.1; omega) (by have := b2.1.1.1; omega)).s6)
    refine ⟨⟨⟨by omega, by omega⟩, fun i hi => ?_⟩, ⟨by rw [wn]; exact hK.1, by rw [wn]; exact hK.2.1, fun a ha => ?_⟩, fun a a0 a1 a2 a3 => (r1 a a0 a2 (by omega)).tr (sW a a0 a1), fun a ha => ?_, fun j j0 j1 => ?_, fun j j0 => ?_, fun i hi => ?_, XW, by omega, Or.inr ⟨w1, by omega, by omega⟩⟩
    · have fl : ∀ f' : Nat, FlI U f' → ((qI U f' 21).toInt = 1 → V U f') → FlI W f' ∧ ((qI W f' 21).toInt = 1 → V W f') := fun f' hf' hv => by
        have hb := hf'.1.1.1
        have sf := sW f' (by omega) (by omega)
        exact ⟨hf'.mv (fun a a0 _ => (sW a (by omega) (by omega)).s6) (by omega), fun z => hV U W f' (hv (by rw [sf.1] at z; exact z)) hK (fun a a0 _ => (sW a (by omega) (by omega)).s6) (fun a a0 => sW a (by rw [show TXB = 10000000 from rfl] at a0; omega) (by rw [show TXB = 10000000 from rfl] at a0; omega)) (by rw [sf.1]) (by rw [sf.2.2.1]) (by omega)⟩
      rw [wR1]
      by_cases q : i = (qI S 0 1).toInt.toNat
      · rw [if_pos q]
        exact ⟨f, rfl, (fl f hF (fun z => by omega)).1, (fl f hF (fun z => by omega)).2⟩
      · rw [if_neg q]
        obtain ⟨f', a, b, d⟩ := FU.2 i (by rw [u1]; omega)
        exact ⟨f', a, fl f' b d⟩
    · have : qT W a = qT U a := by rw [eW, eD]; rfl
      rw [this] at ha
      rw [wn]
      exact hK.2.2 a ha
    · have z1 : qT W a = qT U a := by rw [eW, eD]; rfl
      have z2 : qN W a = qN U a := by rw [eW, eD]; rfl
      rw [z1, z2]
      exact r2 a ha
    · rw [w0 j j1, (r3 j j0).1]
    · have z1 : qJ W 0 j = qJ U 0 j := by rw [eW, eD]; rfl
      have z2 : qR W 0 j = qR U 0 j := by rw [eW]; show qR D 0 j = _; rw [eD, qR_wR, if_neg (fun q => absurd q.1 (by decide))]
      exact ⟨by rw [z1, (r3 j j0).2.1], by rw [z2, (r3 j j0).2.2]⟩
    · rw [wR1, if_neg (by omega), (r1 1 (by decide) (by decide) (Or.inl (by have := hk.1; omega))).2.2.1]
  · rintro U hR
    obtain ⟨r1, r2, r3, r4, r5⟩ := hR
    have w1 : qI U 0 1 = qI S 0 1 := (r3 1 (by decide)).1
    refine ⟨h.mv hV hk (fun a a0 a1 => r1 a (by omega) (by omega) (Or.inl a1)) (fun a a0 => r1 a (by rw [show TXB = 10000000 from rfl] at a0; omega) (by rw [show TXB = 10000000 from rfl] at a0; omega) (Or.inr (by rw [show TXB = 10000000 from rfl] at a0; rw [show KC = 300000 from rfl] at hr; omega))) (by omega) w1 (r1 1 (by decide) (by decide) (Or.inl (by have := hk.1; omega))).2.2.1, ⟨by have := hk.1; omega, by omega, fun a ha => ?_⟩, fun a a0 _ a2 a3 => r1 a a0 a2 a3, r2, fun j j0 _ => (r3 j j0).1, fun j j0 => (r3 j j0).2, fun i _ => by rw [(r1 1 (by decide) (by decide) (Or.inl (by have := hk.1; omega))).2.2.1], fun hs => hs.mv h (fun a a0 a1 => (r1 a (by omega) (by omega) (Or.inl a1)).s6) w1 (r1 1 (by decide) (by decide) (Or.inl (by have := hk.1; omega))).2.2.1, by omega, Or.inl ⟨w1, by omega, by omega⟩⟩
    by_cases q : a < qn U
    · exact Or.inl q
    · have h93 := hk.1
      rw [(r1 a (by omega) (by omega) (Or.inr (by omega))).2.2.2.1] at ha
      have := hk.2.2 a ha
      omega
