/-! rules 13 and 14, put together -/
/-- an attribute stands at f, whole -/
def InB (S : MS) (f : Int32) : Prop := 0 < f.toInt ∧ 0 ≤ (fX7_s4 S (f + (2 : Int32))).toInt ∧ f.toInt + 6 + (fX7_s4 S (f + (2 : Int32))).toInt ≤ (qI S 9 1).toInt
/-- the class: nothing but the method type that was read last -/
def T4 (S u : MS) : Prop := T3 S u ∧ qI u 13 = qI S 13 ∧ qI u 14 = qI S 14
/-- the reference: nothing but next, codeEnd and rows 12 .. 17 -/
def WmF (R w : MS) : Prop := smB R w ∧ (∀ j, j ≠ 13 → j ≠ 35 → qI w 0 j = qI R 0 j) ∧ (∀ b, b ≠ 0 → (b < 12 ∨ 17 < b) → qI w b = qI R b) ∧ qJ w = qJ R ∧ qR w = qR R ∧ qT w = qT R ∧ qN w = qN R
section LM
variable {S S' R R' T u w : MS} {x y z r c v e len o N i x1 x2 k t a b f q m pl st : Int32} {p lo kk : Nat}
theorem LyE.mvR (h : LyE S R) (s : smB R w) (e0 : ∀ j, j = 12 ∨ j = 14 ∨ j = 20 ∨ j = 21 ∨ j = 22 ∨ j = 25 ∨ j = 28 → qI w 0 j = qI R 0 j) (f : ∀ b j, 4 ≤ b → b ≤ 11 → qI w b j = qI R b j) (g : qJ w = qJ R) : LyE S w := by
  obtain ⟨h1, h2, h3, h4, h5, h6, h7, ⟨q0, q1, a1, a2, m0, M1, M2, AF, m3, m4, m5, m6⟩, h9⟩ := h
  refine ⟨h1.mv smX.rf s (e0 12 (by decide)), h2.sm s, h3, ⟨by rw [e0 14 (by decide)]; exact h4.1, h4.2⟩, en_mv h5 smX.rf rfl (fun _ => rfl) (fun b j l1 l2 => f b j l1 (by omega)) g, ⟨by rw [e0 20 (by decide)]; exact h6.1, h6.2⟩, ⟨by rw [e0 22 (by decide)]; exact h7.1, h7.2.1, h7.2.2.1, by rw [e0 21 (by decide)]; exact h7.2.2.2⟩, ⟨q0, q1, a1, a2, m0, ?_, ?_, ?_, by rw [e0 25 (by decide)]; exact m3, m4, m5, m6⟩, by rw [e0 28 (by decide)]; exact h9⟩
  · exact MbC.mv _ M1 (Nat.zero_le _) smX.rf (fun j _ _ => ⟨rfl, f 9 j (by decide) (by decide)⟩) (fun b j hb _ _ => f b j (by omega) (by omega))
  · exact MbC.mv _ M2 (MbC.le _ M2) smX.rf (fun j _ _ => ⟨rfl, f 9 j (by decide) (by decide)⟩) (fun b j hb _ _ => f b j (by omega) (by omega))
  · exact AtC.mv _ AF smX.rf (fun b j hb _ _ => f b j (by omega) (by omega))
theorem T4.rf : T4 S S := ⟨T3.rf, rfl, rfl⟩
theorem T4.tr (h : T4 S T) (g : T4 T u) : T4 S u := ⟨h.1.tr g.1, g.2.1.trans h.2.1, g.2.2.trans h.2.2⟩
theorem WmF.rf : WmF R R := ⟨smB.rf, fun _ _ _ => rfl, fun _ _ _ => rfl, rfl, rfl, rfl, rfl⟩
theorem WmF.tr (h : WmF R T) (g : WmF T w) : WmF R w := ⟨h.1.tr g.1, fun j h1 h2 => (g.2.1 j h1 h2).trans (h.2.1 j h1 h2), fun b h0 hk => (g.2.2.1 b h0 hk).trans (h.2.2.1 b h0 hk), g.2.2.2.1.trans h.2.2.2.1, g.2.2.2.2.1.trans h.2.2.2.2.1, g.2.2.2.2.2.1.trans h.2.2.2.2.2.1, g.2.2.2.2.2.2.trans h.2.2.2.2.2.2⟩
theorem CiF.wm (l : 12 ≤ lo) (h : CiF lo R w kk) : WmF R w := ⟨h.1, h.2.1, fun b h0 hk => funext fun j => h.2.2.1 b j h0 (by omega), h.2.2.2⟩
theorem WmF.ly (h : WmF R w) (hE : LyE S R) : LyE S w := hE.mvR h.1 (fun j hj => h.2.1 j (by omega) (by omega)) (fun b j l1 l2 => by rw [h.2.2.1 b (by omega) (by omega)]) h.2.2.2.1
theorem WmF.tx {L : List Int32} (h : WmF R w) (hT : TxH R 10000000 L) : TxH w 10000000 L := by
  obtain ⟨t1, t2, t3, t4⟩ := hT
  exact ⟨by rw [h.2.2.2.2.2.2]; exact t1, t2, fun k => by rw [h.2.2.1 10000001 (by decide) (Or.inr (by decide))]; exact t3 k, t4⟩
theorem CiR.mv (h : CiR S T kk c) (f : ∀ b, 12 ≤ b → b ≤ 17 → qI w b kk = qI T b kk) : CiR S w kk c := by
  unfold CiR at h ⊢
  rw [f 12 (by decide) (by decide), f 13 (by decide) (by decide), f 14 (by decide) (by decide), f 15 (by decide) (by decide), f 16 (by decide) (by decide), f 17 (by decide) (by decide)]
  exact h
theorem CiR.mvS (h : CiR S T kk c) (s : smX u S) : CiR u T kk c := by
  unfold CiR at h ⊢
  obtain ⟨h1, h2, h3, h4, h5, q, h6, h7, h8, h9, h10⟩ := h
  rw [s.u2] at h1 h2
  rw [s.s4] at h4 h5 h6
  rw [s.u2] at h7 h8 h10
  rw [s.1] at h10
  exact ⟨h1, h2, h3, h4, h5, q, h6, h7, h8, h9, h10⟩
theorem CdC.in : ∀ (n : Nat) {q f q2 : Int32} {a c : Nat}, AtC S R o n q a q2 → ((CdC S n q c f).1 = c ∧ (CdC S n q c f).2 = f) ∨ InB S (CdC S n q c f).2 := by
  intro n
  induction n with
  | zero => intro q f q2 a c _; exact Or.inl ⟨rfl, rfl⟩
  | succ n ih =>
    intro q f q2 a c h
    obtain ⟨⟨h1, h2, h3, h4, h5⟩, h6⟩ := h
    unfold CdC
    split
    · rcases ih (f := q) (c := c + 1) h6 with ⟨-, b⟩ | b
      · rw [b]
        exact Or.inr ⟨h3, h4, h5⟩
      · exact Or.inr b
    · exact ih h6
theorem LyE.cdin (h : LyE S R) {j : Nat} (hj : (j : Int) < (qI S 9 7).toInt + (qI S 9 8).toInt) (hc : (CdM S R j).1 = 1) : InB S (CdM S R j).2 := by
  obtain ⟨o, q1, aj, -, hC, -⟩ := h.own j hj
  rcases CdC.in (f := (-1 : Int32)) (c := 0) _ hC with ⟨a, -⟩ | b
  · unfold CdM at hc
    rw [a] at hc
    exact absurd hc (by decide)
  · exact b
theorem LyE.ty (hE : LyE S R) (h0 : 0 ≤ k.toInt) (hk : k.toInt < (qI S 9 7).toInt + (qI S 9 8).toInt) : f_two R ((qI R 9 k.toInt.toNat) + (4 : Int32)) = fX7_typeOf S k := by
  obtain ⟨b1, b2, b3⟩ := hE.mem k.toInt.toNat (by omega)
  have hb2 := hE.1.2.1
  have q4 : ((qI R 9 k.toInt.toNat) + (4 : Int32)).toInt = (qI R 9 k.toInt.toNat).toInt + 4 := by rw [t_add (by rw [li_4]; omega), li_4]
  rw [hE.u2 (by omega) (by omega)]
  unfold fX7_typeOf
  rw [hE.mp h0 hk]
theorem s_lmL {oo : (Nat × MS) ⊕ MS} {S0 R0 : MS} (hE : LyE S0 R0) (hT : TxH R0 10000000 txCode) (me : ∀ j : Int32, 0 ≤ j.toInt → j.toInt < ((qI S0 9 7) + (qI S0 9 8)).toInt → MeN S0 j) (mt : ∀ j : Nat, (j : Int) < (qI R0 0 21).toInt → MtM R0 j) (hC : ∀ m : Nat, (m : Int) < (qI S0 9 8).toInt → CoK S0 R0 S0 m) (ea : a.toInt = (qI S0 9 8).toInt) : ∀ (n n2 : Nat) {S R : MS} {m : Int32}, T4 S0 S → WmF R0 R → (∀ j : Nat, (j : Int) < m.toInt → CiR S0 R j (qI S0 13 j)) → 0 ≤ m.toInt → m.toInt ≤ 24 → v_X2_limitsHold_L2 r u n S m → v_readFile_L81 oo n2 R a m → (r = 1 ∧ T4 S0 u ∧ wfC u ∧ ∃ (R' : MS) (n3 : Nat), WmF R0 R' ∧ (∀ j : Nat, (j : Int) < (qI S0 9 8).toInt → CiR S0 R' j (qI S0 13 j)) ∧ v_readFile_L102 oo n3 R' a 0) ∨ (r = 0 ∧ ∃ w, oo = .inr w ∧ BadP u w) := by
  intro n
  induction n with
  | zero => intro n2 S R m _ _ _ _ _ h; unfold v_X2_limitsHold_L2 at h; exact h.elim
  | succ n ih =>
    intro n2 S R m hS hR hI m0 m24 h g
    cases n2 with
    | zero => unfold v_readFile_L81 at g; exact g.elim
    | succ n2 =>
      obtain ⟨m1, m2, m3, m4, m5⟩ := hE.cnt
      unfold v_X2_limitsHold_L2 at h
      unfold v_readFile_L81 at g
      obtain ⟨wS, h⟩ := h
      rw [hS.1.2.1 7 (by decide) (by decide) (by decide), hS.1.2.1 8 (by decide) (by decide) (by decide)] at h
      rw [ea] at g
      rcases h with ⟨c, er, eu⟩ | ⟨c, h⟩
      · rcases g with ⟨-, n3, g⟩ | ⟨z, -⟩
        swap
        · exact absurd c z
        exact Or.inl ⟨er, by rw [eu]; exact hS, by rw [eu]; exact wS, R, n3, hR, fun j hj => hI j (by omega), g⟩
      rcases g with ⟨z, -⟩ | ⟨-, g⟩
      · exact absurd z c
      rcases h with ⟨z, -⟩ | ⟨-, -, a7, e7, r9, S10, h9, w10, -, -, -, r17, S18, h17, w18, -, h⟩
      · omega
      have hk7 : ((qI S0 9 7) + m).toInt = (qI S0 9 7).toInt + m.toInt := t_add (by omega)
      have kn : ((qI S0 9 7) + m).toInt.toNat = (qI S0 9 7).toInt.toNat + m.toInt.toNat := by omega
      have MN := me ((qI S0 9 7) + m) (by omega) (by rw [m4]; omega)
      have hEs : LyE S R0 := hE.mvS hS.1
      have hEr : LyE S0 R := hR.ly hE
      rw [hS.1.to] at e7
      rw [e7] at h9
      have tg1 : (fX7_tagOf S (fX7_typeOf S0 ((qI S0 9 7) + m))).toInt = 1 := by rw [hS.1.tg]; exact MN.2.1
      -- the type is one, by rule 10
      obtain ⟨p9, hp9, p0, -⟩ := (mt ((qI S0 9 7) + m).toInt.toNat (by omega)).1 (by rw [m5]; omega)
      rw [hE.ty (by omega) (by omega)] at hp9
      obtain ⟨t9, -, K9⟩ := s_mt hEs tg1 wS h9 hp9
      have er9 : r9 = 1 := by
        rcases K9 with ⟨er, -⟩ | ⟨-, en⟩
        · exact er
        · rw [en] at p0
          exact absurd p0 (by decide)
      -- rows 13 and 14 stay
      have F := vpX7_isMethodType h9 (frX7_isMethodType wS (vwX7_isMethodType h9))
      have k13 : qT S 13 = 220 := (wS.2.1 _ finC_9).2.1
      have k14 : qT S 14 = 221 := (wS.2.1 _ finC_10).2.1
      have t10 : T4 S S10 := ⟨t9, funext fun j => (F.2.2.2 13 j (by rw [k13]; decide) rfl (by rw [k13]; simp)).1, funext fun j => (F.2.2.2 14 j (by rw [k14]; decide) rfl (by rw [k14]; simp)).1⟩
      have s10 : T4 S0 S10 := hS.tr t10
      -- the reference
      have CK := hC m.toInt.toNat (by omega)
      obtain ⟨ck1, ck2, ck3⟩ := CK
      have IN := hE.cdin (j := (qI S0 9 7).toInt.toNat + m.toInt.toNat) (by omega) ck1
      obtain ⟨f, ef⟩ : ∃ f : Int32, f = (CdM S0 R0 ((qI S0 9 7).toInt.toNat + m.toInt.toNat)).2 := ⟨_, rfl⟩
      rw [← ef] at ck2 ck3 IN
      obtain ⟨i0, i1, i2⟩ := IN
      have hb2 := hE.1.2.1
      have GO : ∀ {o1 : MS ⊕ MS}, v_codeItems R m o1 → (r17 = 1 ∧ S18 = S10 ∧ ∃ w, o1 = .inl w ∧ WmF R w ∧ (∀ b j, 12 ≤ b → b ≤ 17 → j ≠ m.toInt.toNat → qI w b j = qI R b j) ∧ CiR S0 w m.toInt.toNat (qI S0 13 m.toInt.toNat)) ∨ (r17 = 0 ∧ ∃ w, o1 = .inr w ∧ BadP S18 w) := fun {o1} g => by
        have e22 : qI R 0 22 = qI S0 9 7 := by rw [hR.2.1 22 (by decide) (by decide), m5]
        obtain ⟨r3, S4, g3, S7, e7', -, S14, e14, -, -, r23, S24, g23, g⟩ := g
        rw [e22] at g3
        obtain ⟨eS4, K3⟩ := rv_codeOf hEr (hR.tx hT) me (by omega) (by omega) g3
        have cdm : CdM S0 R ((qI S0 9 7) + m).toInt.toNat = CdM S0 R0 ((qI S0 9 7).toInt.toNat + m.toInt.toNat) := by
          unfold CdM
          rw [hR.2.2.1 9 (by decide) (Or.inl (by decide)), kn]
        rw [cdm] at K3
        rcases K3 with ⟨-, er3, -⟩ | ⟨z, -⟩
        swap
        · exact absurd ck1 z
        rw [← ef] at er3
        rw [eS4, er3] at e7'
        have f7 : CiF 12 R S7 m.toInt.toNat := by rw [e7']; exact CiF.rf.w0 hEr.2.1 (Or.inl rfl)
        have f14 : CiF 12 R S14 m.toInt.toNat := by rw [e14]; exact f7.w0 hEr.2.1 (Or.inr rfl)
        have hE14 : LyE S0 S14 := (f14.wm (by decide)).ly hEr
        have c6 : (f + (6 : Int32)).toInt = f.toInt + 6 := by rw [t_add (by rw [li_6]; omega), li_6]
        have c2 : (f + (2 : Int32)).toInt = f.toInt + 2 := by rw [t_add (by rw [li_2]; omega), li_2]
        have x13 : qI S14 0 13 = f + (6 : Int32) := by rw [e14, g_nf (by decide), e7', n_13]
        have f4 : f_four S7 (r3 + (2 : Int32)) = fX7_s4 S0 (f + (2 : Int32)) := by rw [er3, ((f7.wm (by decide)).ly hEr).1.s4 (by omega) (by omega)]
        have x35 : qI S14 0 35 = (f + (6 : Int32)) + (fX7_s4 S0 (f + (2 : Int32))) := by
          rw [e14, g_eq, f4, e7', n_13]
          apply Int32.toInt_inj.mp
          have q1 : ((fX7_s4 S0 (f + (2 : Int32))).toInt64 &&& (4294967295 : Int64)).toInt = (fX7_s4 S0 (f + (2 : Int32))).toInt := u4_s4 i1
          have q2 : ((f + (6 : Int32)).toInt64 + ((fX7_s4 S0 (f + (2 : Int32))).toInt64 &&& (4294967295 : Int64))).toInt = f.toInt + 6 + (fX7_s4 S0 (f + (2 : Int32))).toInt := by rw [tl_add (by rw [tl_of, q1]; omega), tl_of, q1, c6]
          rw [tl_to (by rw [q2]; omega), q2, t_add (by omega), c6]
        have e22' : qI S14 0 22 = qI S0 9 7 := by rw [f14.2.1 22 (by decide) (by decide), e22]
        rw [e22', hE14.ty (by omega) (by omega)] at g23
        obtain ⟨-, e24, K⟩ := s_mt (hE14.mvS hS.1) tg1 wS h9 g23
        rcases K with ⟨-, -, e13⟩ | ⟨z, -⟩
        swap
        · rw [er9] at z
          exact absurd z (by decide)
        rw [e24] at g
        rw [t10.2.1, t10.2.2, hS.2.1, hS.2.2, ck2, ck3, e13] at h17
        have l1 : ((f + (6 : Int32)) + (fX7_s4 S0 (f + (2 : Int32)))).toInt = f.toInt + 6 + (fX7_s4 S0 (f + (2 : Int32))).toInt := by rw [t_add (by omega), c6]
        rcases s_head (hE14.mvS s10.1).1 hE14.2.1 x35 (by rw [s10.1.1.1, l1]; exact i2) x13 (by omega) (by omega) h17 g with ⟨a1, a2, w, a3, a4, a5, -⟩ | K
        · refine Or.inl ⟨a1, a2, w, a3, (f14.tr a4 (Nat.le_refl _)).wm (by decide), fun b j _ _ hj => ?_, ?_⟩
          · have FF := f14.tr a4 (Nat.le_refl _)
            exact FF.2.2.1 b j (by omega) (Or.inr (Or.inr hj))
          · rw [ck2]
            exact a5.mvS s10.1.1.sy
        · exact Or.inr K
      rcases g with ⟨S230, g, a232, e232, g2⟩ | ⟨u9, g, g2⟩
      · rcases GO g with ⟨er17, e18, w, z, W1, W2, W3⟩ | ⟨-, w, z, -⟩
        swap
        · exact nomatch z
        injection z with z
        rcases h with ⟨z2, -⟩ | ⟨-, a21, e21, h⟩
        · exact absurd z2 (by rw [er17]; decide)
        rw [e18] at h
        rw [z, e232, ← e21] at g2
        have ek : a21.toInt = m.toInt + 1 := by rw [e21, t_add (by rw [show (Int32.ofInt 1).toInt = 1 from rfl]; omega)]; rfl
        refine ih n2 s10 (hR.tr W1) (fun j hj => ?_) (by omega) (by omega) h g2
        by_cases c9 : j = m.toInt.toNat
        · rw [c9]
          exact W3
        · exact (hI j (by omega)).mv (fun b h1 h2 => W2 b j h1 h2 c9)
      · rcases GO g with ⟨-, -, w, z, -⟩ | ⟨er17, w, z, hbad⟩
        · exact nomatch z
        injection z with z
        rcases h with ⟨-, er, eu⟩ | ⟨z2, -⟩
        · exact Or.inr ⟨er, u9, g2, by rw [eu, z]; exact hbad⟩
        · exact absurd (by rw [er17]; rfl) z2
end LM
