/-! rules 1 to 12 and 17: isSound, and the reference's first half -/
section SO
variable {S S' R R' T u w : MS} {x y z r c v e len o N i x1 k t a b f : Int32} {p : Nat} {L : List Int32}
theorem ptOK.mv (s : T3 S u) (h : ptOK S k) : ptOK u k := by
  unfold ptOK at h ⊢
  rw [s.tg, s.fo, s.so, s.tg, s.tg]
  exact h
theorem AtN.mv (s : T3 S u) : ∀ (n : Nat) {q : Int32}, AtN S n q → AtN u n q := by
  intro n
  induction n with
  | zero => intro q h; exact h
  | succ n ih =>
    intro q h
    unfold AtN at h ⊢
    rw [s.tg, s.1.u2, s.1.s4]
    exact ⟨h.1, ih h.2⟩
theorem MeN.mv (s : T3 S u) (h : MeN S k) : MeN u k := by
  unfold MeN at h ⊢
  rw [s.no, s.to, s.mp, s.tg, s.tg, s.1.u2]
  exact ⟨h.1, h.2.1, AtN.mv s _ h.2.2⟩
theorem CdM.mv (s : T3 S u) {j : Nat} : CdM u R j = CdM S R j := by
  unfold CdM
  rw [s.1.u2, CdC.mv s]
/-- what stands when the class's Reader is content -/
def SdE (u R : MS) : Prop := wfC u ∧ LyE u R ∧ (∀ j, ptOK u j) ∧ (∀ j : Int32, 0 ≤ j.toInt → j.toInt < ((qI u 9 7) + (qI u 9 8)).toInt → MeN u j) ∧ (∀ m : Nat, (m : Int) < (qI u 9 8).toInt → CoK u R u m) ∧ (qI u 9 15).toInt = (qI u 9 1).toInt ∧ ((fX7_tagOf u (fX7_u2 u ((qI u 9 6) + (2 : Int32)))).toInt = 7 ∧ (fX7_tagOf u (fX7_u2 u ((qI u 9 6) + (4 : Int32)))).toInt = 7)
theorem cv_head7 (h : vX7_headHolds S r u) (hr : r.toInt ≠ 0) : (fX7_tagOf S (fX7_u2 S ((qI S 9 6) + (2 : Int32)))).toInt = 7 ∧ (fX7_tagOf S (fX7_u2 S ((qI S 9 6) + (4 : Int32)))).toInt = 7 := by
  obtain ⟨-, a5, e5, -, a9, e9, h⟩ := h
  rw [e9, e5] at h
  rcases h with ⟨c, -, a15, e15, -, a19, e19, h⟩ | ⟨c, r40, S41, h, -, -, er, -⟩
  · rw [e19, e15] at h
    rcases h with ⟨c2, -⟩ | ⟨c2, r35, S36, h, -, -, er, -⟩
    · exact ⟨c, c2⟩
    · exact absurd (by rw [er, (cv_breaks h).1]; rfl) hr
  · exact absurd (by rw [er, (cv_breaks h).1]; rfl) hr
theorem s_sound {oo : (Nat × MS) ⊕ MS} {pS pR : Nat} (hs : ∀ a : Nat, a < 60 → a ≠ 2 → a ≠ pR) (h502 : qN R 4 = 502) (hT : TxH R 10000000 txCode) (wS : wfC S) (k40 : qT S pS = 40) (hx : x = qI S pS 1) (hn : 0 ≤ x.toInt ∧ x.toInt ≤ 131072 ∧ x.toInt ≤ (qN S (qO S pS 0) : Int)) (hbt : ∀ p : Nat, (p : Int) < x.toInt → qI S (qO S pS 0) p = qI R pR p) (h : vX7_isSound S pS r u) (g : v_readFile R pR x oo) : (r = 1 ∧ ∃ (R' : MS) (a31 : Int32) (n : Nat), SdE u R' ∧ a31 = ((qI R' 0 21) - (qI R' 0 22)) ∧ v_readFile_L81 oo n R' a31 0) ∨ (r = 0 ∧ ∃ w, oo = .inr w ∧ BadP u w) := by
  obtain ⟨g0, S3, e3, -, w3, S4, e4, -, w4, S5, e5, -, w5, S6, e6, -, w6, S7, e7, -, w7, h⟩ := h
  have dk : qT S (qO S pS 0) = 101 := by rw [(wS.rf3 pS 0 _ g0).1, k40]; rfl
  have d9 : qO S pS 0 ≠ 9 := fun q => by rw [q, wS.q9] at dk; exact absurd dk (by decide)
  have p9 : pS ≠ 9 := fun q => by rw [q, wS.q9] at k40; exact absurd k40 (by decide)
  have x1' : qI S7 9 1 = x := by rw [e7, g_nf (by decide), e6, g_nf (by decide), e5, g_nf (by decide), e4, g_eq, e3, hx]; rfl
  have xO : qO S7 9 0 = qO S pS 0 := by
    have q : qR S7 9 0 = some (qO S pS 0) := by
      rw [e7, e6, e5, e4, e3]
      show qR (wR S 9 0 (some (qO S pS 0))) 9 0 = _
      rw [qR_wR, if_pos ⟨rfl, rfl⟩]
    unfold qO
    rw [q]
    rfl
  have xd : qI S7 (qO S pS 0) = qI S (qO S pS 0) := by rw [e7, rdH d9, e6, rdH d9, e5, rdH d9, e4, rdH d9, e3]; rfl
  have xN : qN S7 = qN S := by rw [e7, e6, e5, e4, e3]; rfl
  have x15 : qI S7 9 15 = 0 := by rw [e7, g_eq]
  obtain ⟨R1, eR1, R2, eR2, g⟩ := g
  have r0 : pR ≠ 0 := fun q => hs 0 (by decide) (by decide) q.symm
  have rO : qO R2 0 11 = pR := by
    have q : qR R2 0 11 = some pR := by
      rw [eR2, eR1]
      show qR (wR R 0 11 (some pR)) 0 11 = _
      rw [qR_wR, if_pos ⟨rfl, rfl⟩]
    unfold qO
    rw [q]
    rfl
  have rb : qI R2 pR = qI R pR := by rw [eR2, rdH r0, eR1]; rfl
  have hs2 : SrN R2 := fun a h1 h2 => by rw [rO]; exact hs a h1 h2
  have b2 : BtE S7 R2 := by
    refine ⟨by rw [eR2, g_eq, x1'], by rw [x1', xO, xN]; exact hn, fun p hp => ?_⟩
    rw [x1'] at hp
    rw [xO, xd, rO, rb]
    refine ⟨hbt p hp, ?_⟩
    rw [← hbt p hp]
    have fb := wS.by (i := p) dk (by decide)
    have fb2 : ((-128 : Int32) ≤ qI S (qO S pS 0) p && qI S (qO S pS 0) p ≤ (127 : Int32)) = true := fb
    rw [Bool.and_eq_true, decide_eq_true_eq, decide_eq_true_eq, Int32.le_iff_toInt_le, Int32.le_iff_toInt_le] at fb2
    exact fb2
  have h502' : qN R2 4 = 502 := by rw [eR2, eR1]; exact h502
  have hT2 : TxH R2 10000000 txCode := by
    obtain ⟨t1, t2, t3, t4⟩ := hT
    exact ⟨by rw [eR2, eR1]; exact t1, t2, fun k => by rw [eR2, g_ne (by decide), eR1]; exact t3 k, t4⟩
  have tS7 : TxH S7 10000000 txCode := by
    obtain ⟨a1, a2, a3, a4⟩ := w7.tx6 0 (by decide)
    exact ⟨a3, by decide, a4, by decide⟩
  -- the layout
  have LAY : ∀ {rr : Int32} {uu : MS} {o1 : MS ⊕ MS}, LyV S7 rr uu → v_layout R2 o1 → (rr = 1 ∧ ∃ w, o1 = .inl w ∧ LyE uu w) ∨ (rr = 0 ∧ ∃ w, o1 = .inr w ∧ BadP uu w) := fun hv hl => s_layout (n := 0) b2 hs2 x15 h502' w7 hv hl
  have FAIL : ∀ {uu : MS}, LyV S7 0 uu → r = 0 ∧ u = uu → (r = 0 ∧ ∃ w, oo = .inr w ∧ BadP u w) := fun hv e => by
    rcases g with ⟨R4, g4, -⟩ | ⟨u9, g4, g⟩
    · rcases LAY hv g4 with ⟨z, -⟩ | ⟨-, w, z, -⟩
      · exact absurd z (by decide)
      · exact nomatch z
    · rcases LAY hv g4 with ⟨z, -⟩ | ⟨-, w, z, hbad⟩
      · exact absurd z (by decide)
      · injection z with z
        exact ⟨e.1, u9, g, by rw [e.2, z]; exact hbad⟩
  obtain ⟨r9, S10, h9, w10, -, h⟩ := h
  rcases h with ⟨z9, -, er, eu⟩ | ⟨z9, r14, S15, h14, w15, -, h⟩
  · exact Or.inr (FAIL ⟨r9, S10, h9, w10, Or.inl ⟨z9, rfl, rfl⟩⟩ ⟨er, eu⟩)
  rcases h with ⟨z14, -, er, eu⟩ | ⟨z14, r19, S20, h19, w20, -, h⟩
  · exact Or.inr (FAIL ⟨r9, S10, h9, w10, Or.inr ⟨z9, r14, S15, h14, w15, Or.inl ⟨z14, rfl, rfl⟩⟩⟩ ⟨er, eu⟩)
  rcases h with ⟨z19, -, er, eu⟩ | ⟨z19, r24, S25, h24, w25, -, h⟩
  · exact Or.inr (FAIL ⟨r9, S10, h9, w10, Or.inr ⟨z9, r14, S15, h14, w15, Or.inr ⟨z14, r19, S20, h19, w20, Or.inl ⟨z19, rfl, rfl⟩⟩⟩⟩ ⟨er, eu⟩)
  rcases h with ⟨z24, -, er, eu⟩ | ⟨z24, r29, S30, h29, w30, -, h⟩
  · exact Or.inr (FAIL ⟨r9, S10, h9, w10, Or.inr ⟨z9, r14, S15, h14, w15, Or.inr ⟨z14, r19, S20, h19, w20, Or.inr ⟨z19, r24, S25, h24, w25, Or.inl ⟨z24, rfl, rfl⟩⟩⟩⟩⟩ ⟨er, eu⟩)
  rcases h with ⟨z29, -, er, eu⟩ | ⟨z29, r34, S35, h34, w35, -, h⟩
  · exact Or.inr (FAIL ⟨r9, S10, h9, w10, Or.inr ⟨z9, r14, S15, h14, w15, Or.inr ⟨z14, r19, S20, h19, w20, Or.inr ⟨z19, r24, S25, h24, w25, Or.inr ⟨z24, r29, S30, h29, w30, Or.inl ⟨z29, rfl, rfl⟩⟩⟩⟩⟩⟩ ⟨er, eu⟩)
  rcases h with ⟨z34, -, er, eu⟩ | ⟨z34, r39, S40, h39, w40, -, h⟩
  · exact Or.inr (FAIL ⟨r9, S10, h9, w10, Or.inr ⟨z9, r14, S15, h14, w15, Or.inr ⟨z14, r19, S20, h19, w20, Or.inr ⟨z19, r24, S25, h24, w25, Or.inr ⟨z24, r29, S30, h29, w30, Or.inr ⟨z29, r34, S35, h34, w35, Or.inl ⟨z34, rfl, rfl⟩⟩⟩⟩⟩⟩⟩ ⟨er, eu⟩)
  have hV : LyV S7 1 S35 := ⟨r9, S10, h9, w10, Or.inr ⟨z9, r14, S15, h14, w15, Or.inr ⟨z14, r19, S20, h19, w20, Or.inr ⟨z19, r24, S25, h24, w25, Or.inr ⟨z24, r29, S30, h29, w30, Or.inr ⟨z29, r34, S35, h34, w35, Or.inr ⟨z34, rfl, rfl⟩⟩⟩⟩⟩⟩⟩
  rcases g with ⟨R4, g4, g⟩ | ⟨u9, g4, -⟩
  swap
  · rcases LAY hV g4 with ⟨-, w, z, -⟩ | ⟨z, -⟩
    · exact nomatch z
    · exact absurd z (by decide)
  rcases LAY hV g4 with ⟨-, w, z, hE⟩ | ⟨z, -⟩
  swap
  · exact absurd z (by decide)
  injection z with z
  rw [← z] at hE
  have s7 : ∀ {X : MS}, T3 S35 X → True := fun _ => trivial
  have BADU : ∀ {uu w9 : MS} {o1 : MS ⊕ MS}, BadP uu w9 → r = 0 ∧ u = uu → oo = .inr w9 → (r = 0 ∧ ∃ w, oo = .inr w ∧ BadP u w) := fun hb e eo => ⟨e.1, _, eo, by rw [e.2]; exact hb⟩
  -- rule 6
  have pt : r39.toInt ≠ 0 → ∀ j, ptOK S35 j := fun z => cv_eP hE.ent.1.2.2 h39 z
  rcases g with ⟨R7, g7, g⟩ | ⟨u9, g7, g⟩
  swap
  · rcases s_entries hE h39 g7 with ⟨-, -, z⟩ | ⟨er9, w9, z, hbad⟩
    · exact nomatch z
    · injection z with z
      rcases h with ⟨-, -, er, eu⟩ | ⟨z2, -⟩
      · exact Or.inr ⟨er, u9, g, by rw [eu, z]; exact hbad⟩
      · exact absurd (by rw [er9]; rfl) z2
  rcases s_entries hE h39 g7 with ⟨er39, eS40, z⟩ | ⟨-, w9, z, -⟩
  swap
  · exact nomatch z
  injection z with z
  rw [z] at g
  rcases h with ⟨z2, -⟩ | ⟨z39, r44, S45, h44, -, -, h⟩
  · exact absurd z2 (by rw [er39]; decide)
  rw [eS40] at h44
  replace pt := pt z39
  -- rule 7
  rcases g with ⟨R10, g10, g⟩ | ⟨u9, g10, g⟩
  swap
  · rcases s_flags hE h44 g10 with ⟨-, -, z⟩ | ⟨er9, w9, z, hbad⟩
    · exact nomatch z
    · injection z with z
      rcases h with ⟨-, -, er, eu⟩ | ⟨z2, -⟩
      · exact Or.inr ⟨er, u9, g, by rw [eu, z]; exact hbad⟩
      · exact absurd (by rw [er9]; rfl) z2
  rcases s_flags hE h44 g10 with ⟨er44, eS45, z⟩ | ⟨-, w9, z, -⟩
  swap
  · exact nomatch z
  injection z with z
  rw [z] at g
  rcases h with ⟨z2, -⟩ | ⟨z44, r49, S50, h49, -, -, h⟩
  · exact absurd z2 (by rw [er44]; decide)
  rw [eS45] at h49
  -- rule 8
  rcases g with ⟨R13, g13, g⟩ | ⟨u9, g13, g⟩
  swap
  · rcases s_heads hE h49 g13 with ⟨-, -, z⟩ | ⟨er9, w9, z, hbad⟩
    · exact nomatch z
    · injection z with z
      rcases h with ⟨-, -, er, eu⟩ | ⟨z2, -⟩
      · exact Or.inr ⟨er, u9, g, by rw [eu, z]; exact hbad⟩
      · exact absurd (by rw [er9]; rfl) z2
  rcases s_heads hE h49 g13 with ⟨er49, eS50, z⟩ | ⟨-, w9, z, -⟩
  swap
  · exact nomatch z
  injection z with z
  rw [z] at g
  rcases h with ⟨z2, -⟩ | ⟨z49, r54, S55, h54, -, -, h⟩
  · exact absurd z2 (by rw [er49]; decide)
  rw [eS50] at h54
  have hd7 := cv_head7 h49 z49
  -- rule 9
  have me : r54.toInt ≠ 0 → ∀ j : Int32, 0 ≤ j.toInt → j.toInt < ((qI S35 9 7) + (qI S35 9 8)).toInt → MeN S35 j := fun z => cv_na (by have q := hE.cnt; rw [q.2.2.2.1]; omega) h54 z
  rcases g with ⟨R16, g16, g⟩ | ⟨u9, g16, g⟩
  swap
  · rcases s_names hE h54 g16 with ⟨-, -, z⟩ | ⟨er9, w9, z, hbad⟩
    · exact nomatch z
    · injection z with z
      rcases h with ⟨-, -, er, eu⟩ | ⟨z2, -⟩
      · exact Or.inr ⟨er, u9, g, by rw [eu, z]; exact hbad⟩
      · exact absurd (by rw [er9]; rfl) z2
  rcases s_names hE h54 g16 with ⟨er54, eS55, z⟩ | ⟨-, w9, z, -⟩
  swap
  · exact nomatch z
  injection z with z
  rw [z] at g
  rcases h with ⟨z2, -⟩ | ⟨z54, r59, S60, h59, w60, -, h⟩
  · exact absurd z2 (by rw [er54]; decide)
  rw [eS55] at h59
  replace me := me z54
  -- rule 10
  rcases g with ⟨R19, g19, g⟩ | ⟨u9, g19, g⟩
  swap
  · rcases s_types hE pt me h59 g19 with ⟨-, -, z⟩ | ⟨er9, w9, z, hbad⟩
    · exact nomatch z
    · injection z with z
      rcases h with ⟨-, -, er, eu⟩ | ⟨z2, -⟩
      · exact Or.inr ⟨er, u9, g, by rw [eu, z]; exact hbad⟩
      · exact absurd (by rw [er9]; rfl) z2
  rcases s_types hE pt me h59 g19 with ⟨er59, t60, z⟩ | ⟨-, w9, z, -⟩
  swap
  · exact nomatch z
  injection z with z
  rw [z] at g
  rcases h with ⟨z2, -⟩ | ⟨z59, r64, S65, h64, -, -, h⟩
  · exact absurd z2 (by rw [er59]; decide)
  have hE6 := hE.mvS t60
  have me6 : ∀ j : Int32, 0 ≤ j.toInt → j.toInt < ((qI S60 9 7) + (qI S60 9 8)).toInt → MeN S60 j := fun j h1 h2 => MeN.mv t60 (me j h1 (by rw [t60.2.1 7 (by decide) (by decide) (by decide), t60.2.1 8 (by decide) (by decide) (by decide)] at h2; exact h2))
  -- rule 11
  rcases g with ⟨R22, g22, g⟩ | ⟨u9, g22, g⟩
  swap
  · rcases s_twice hE6 me6 h64 g22 with ⟨-, -, z⟩ | ⟨er9, w9, z, hbad⟩
    · exact nomatch z
    · injection z with z
      rcases h with ⟨-, -, er, eu⟩ | ⟨z2, -⟩
      · exact Or.inr ⟨er, u9, g, by rw [eu, z]; exact hbad⟩
      · exact absurd (by rw [er9]; rfl) z2
  rcases s_twice hE6 me6 h64 g22 with ⟨er64, eS65, z⟩ | ⟨-, w9, z, -⟩
  swap
  · exact nomatch z
  injection z with z
  rw [z] at g
  rcases h with ⟨z2, -⟩ | ⟨z64, r69, S70, h69, w70, -, h⟩
  · exact absurd z2 (by rw [er64]; decide)
  rw [eS65] at h69
  -- rule 12
  have hT4 : TxH R4 10000000 txCode := by
    have F := (vz_layout g4 (fr_layout (vw_layout g4)))
    sorry
  have t60x : TxH S60 10000000 txCode := by
    obtain ⟨a1, a2, a3, a4⟩ := w60.tx6 0 (by decide)
    exact ⟨a3, by decide, a4, by decide⟩
  rcases g with ⟨R25, g25, g⟩ | ⟨u9, g25, g⟩
  swap
  · rcases s_codes hE6 hT4 t60x me6 h69 g25 with ⟨-, -, -, z⟩ | ⟨er9, w9, z, hbad⟩
    · exact nomatch z
    · injection z with z
      rcases h with ⟨-, -, er, eu⟩ | ⟨z2, -⟩
      · exact Or.inr ⟨er, u9, g, by rw [eu, z]; exact hbad⟩
      · exact absurd (by rw [er9]; rfl) z2
  rcases s_codes hE6 hT4 t60x me6 h69 g25 with ⟨er69, t70, hK, z⟩ | ⟨-, w9, z, -⟩
  swap
  · exact nomatch z
  injection z with z
  rw [z] at g
  rcases h with ⟨z2, -⟩ | ⟨z69, h⟩
  · exact absurd z2 (by rw [er69]; decide)
  -- rule 17
  have tt := t60.tr t70
  have hE7 := hE.mvS tt
  have e28 : qI R4 0 28 = qI S70 9 15 := hE7.2.2.2.2.2.2.2.2
  have e12 : qI R4 0 12 = qI S70 9 1 := hE7.1.1
  have JR : ∀ {t : Int32}, v_readFile_J59 oo R4 t → (t.toInt = 0 ∧ oo = .inr (rBk R4 17 (qI S70 9 15))) ∨ (t.toInt ≠ 0 ∧ ∃ (a31 : Int32) (n : Nat), a31 = ((qI R4 0 21) - (qI R4 0 22)) ∧ v_readFile_L81 oo n R4 a31 0) := fun hj => by
    unfold v_readFile_J59 at hj
    rw [e28] at hj
    rcases hj with ⟨S6, hm, a, ea, n, hj⟩ | ⟨u9, hm, hj⟩
    · rcases rv_must hm with ⟨q, z⟩ | ⟨q, z⟩
      · injection z with z
        rw [z] at ea hj
        exact Or.inr ⟨q, a, n, ea, hj⟩
      · exact nomatch z
    · rcases rv_must hm with ⟨q, z⟩ | ⟨q, z⟩
      · exact nomatch z
      · injection z with z
        exact Or.inl ⟨q, by rw [hj, z]⟩
  rw [e28, e12] at g
  rcases h with ⟨c, -, er, eu⟩ | ⟨c, r75, S76, h75, -, -, h⟩
  · rcases g with ⟨-, g⟩ | ⟨c2, -⟩
    · rcases JR g with ⟨z, -⟩ | ⟨-, a31, n, ea, g⟩
      · exact absurd z (by decide)
      · refine Or.inl ⟨er, R4, a31, n, ?_, ea, g⟩
        rw [eu]
        refine ⟨w70, hE7, fun j => ptOK.mv tt (pt j), fun j h1 h2 => MeN.mv t70 (me6 j h1 (by rw [t70.2.1 7 (by decide) (by decide) (by decide), t70.2.1 8 (by decide) (by decide) (by decide)] at h2; exact h2)), fun m hm => ?_, c, ?_⟩
        · rw [t70.2.1 8 (by decide) (by decide) (by decide)] at hm
          obtain ⟨k1, k2, k3⟩ := hK m hm
          unfold CoK
          rw [t70.2.1 7 (by decide) (by decide) (by decide), CdM.mv t70, t70.1.s4]
          exact ⟨k1, k2, k3⟩
        · rw [tt.2.1 6 (by decide) (by decide) (by decide), tt.1.u2, tt.1.u2, tt.tg, tt.tg]
          exact hd7
    · exact absurd c c2
  · obtain ⟨a75, b75⟩ := cv_breaks h75
    rcases g with ⟨c2, -⟩ | ⟨-, g⟩
    · exact absurd c2 c
    · rcases JR g with ⟨-, e⟩ | ⟨z, -⟩
      · rcases h with ⟨-, -, er, eu⟩ | ⟨z, -⟩
        · exact Or.inr ⟨er, _, e, by rw [eu, b75]; exact badP⟩
        · exact absurd (by rw [a75]; rfl) z
      · exact absurd (by decide) z
end SO
