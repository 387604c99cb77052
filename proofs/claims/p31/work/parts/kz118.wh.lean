/-! rule 15: the instructions, one behind another -/
/-- the first place where no whole instruction stands -/
def fbO (V : MS) : Nat → Int32 → Option Int32
  | 0, _ => none
  | k + 1, o => if (qI V 8 2).toInt ≤ o.toInt then none else if 0 < (laF V o).toInt then fbO V k (o + laF V o) else some o
/-- the code that begins behind c, as the class looks at it -/
def VmS (S : MS) (c : Int32) : MS := wI (wI (wI (wI (wI (wI S 8 3 (fX7_u2 S c)) 8 4 (fX7_u2 S (c + (2 : Int32)))) 8 2 (szV S c)) 8 1 (c + (8 : Int32))) 8 5 (((c + (8 : Int32)) + szV S c) + (2 : Int32))) 8 6 (fX7_u2 S ((c + (8 : Int32)) + szV S c))
/-- what wholes leaves as it was -/
def WhF (R w : MS) : Prop := smB R w ∧ (∀ j, j ≠ 36 → j ≠ 37 → j ≠ 39 → qI w 0 j = qI R 0 j) ∧ (∀ b, b ≠ 0 → b ≠ 18 → qI w b = qI R b) ∧ qJ w = qJ R ∧ qR w = qR R ∧ qT w = qT R ∧ qN w = qN R
/-- the reference's numbers are those of the code -/
def NuR (V w : MS) : Prop := (∀ j : Nat, (j : Int) < (qI V 8 2).toInt → qI w 18 j = nuA V 1300 0 0 j) ∧ qI w 18 (qI V 8 2).toInt.toNat = qI w 0 39 ∧ (qI w 0 39).toInt = cN V 1300 0
section WH
variable {S S' R R' T U V u w : MS} {x y z r c v e len o N i x1 x2 k t a b f q m pl st : Int32} {p lo kk : Nat}
theorem fbO_s : fbO V (kk + 1) o = if (qI V 8 2).toInt ≤ o.toInt then none else if 0 < (laF V o).toInt then fbO V kk (o + laF V o) else some o := rfl
theorem VmS.sx (wS : wfC S) : smX S (VmS S c) := by
  have h : ∀ {u : MS} {j : Nat} {v : Int32}, smX S u → smX S (wI u 8 j v) := fun {u j v} s => by
    have k8 : qT S 8 = 42 := (wS.2.1 _ finC_26).2.1
    obtain ⟨s1, s2, s3, s4⟩ := s
    refine ⟨by rw [g_ne (by decide)]; exact s1, s2, s3, ?_⟩
    by_cases c8 : qO S 9 0 = 8
    · exfalso
      cases e : qR S 9 0 with
      | none => unfold qO at c8; rw [e] at c8; exact absurd c8 (by decide)
      | some b =>
        have q := (wS.rf3 9 0 b e).1
        have eb : b = 8 := by unfold qO at c8; rw [e] at c8; exact c8
        rw [eb, k8, wS.q9] at q
        exact absurd q (by decide)
    · rw [rdH c8]
      exact s4
  exact h (h (h (h (h (h smX.rf)))))
theorem VmS.i1 : qI (VmS S c) 8 1 = c + (8 : Int32) := by unfold VmS; rw [g_nf (by decide), g_nf (by decide), g_eq]
theorem VmS.i2 : qI (VmS S c) 8 2 = szV S c := by unfold VmS; rw [g_nf (by decide), g_nf (by decide), g_nf (by decide), g_eq]
theorem VmS.lo (wS : wfC S) (h : LoR S c u) : smY (VmS S c) u := by
  obtain ⟨⟨l1, l2, l3, -⟩, -⟩ := h
  exact ⟨(VmS.sx wS).sy.tr l1, by rw [l2, VmS.i1], by rw [l3, VmS.i2]⟩
theorem la_add (o0 : 0 ≤ o.toInt ∧ o.toInt ≤ 1200) (h : 0 < (laF V o).toInt) : (o + laF V o).toInt = o.toInt + (laF V o).toInt ∧ (o + laF V o).toInt ≤ (qI V 8 2).toInt ∧ stp (laF V o) = laF V o := by
  obtain ⟨⟨l0, l1⟩, l2⟩ := rg_la (S := V) o0
  have e := t_add (a := o) (b := laF V o) (by omega)
  refine ⟨e, by rcases l2 with z | z <;> omega, ?_⟩
  unfold stp
  by_cases c : (1 : Int32) < laF V o
  · rw [if_pos c]
  · rw [if_neg c]
    rw [Int32.lt_iff_toInt_lt, li_1] at c
    exact Int32.toInt_inj.mp (by rw [li_1]; omega)
theorem cv_len (wS : wfC S) (h9 : 0 ≤ (qI S 9 1).toInt) (h : vX2_lengthAt S o r u) : r = laF S o ∧ u = S := (vpX2_lengthAt h (cu_lengthAt wS (vwX2_lengthAt h) h9)).2
theorem cv_L20 {K : MS → Int32 → Prop} (h9 : 0 ≤ (qI V 9 1).toInt) (h2 : (qI V 8 2).toInt ≤ 1200) : ∀ (n k : Nat) {U : MS} {o : Int32}, smY V U → 0 ≤ o.toInt → (qI V 8 2).toInt - o.toInt ≤ k → v_X2_instructionsHold_L20 r u K n U m o → (fbO V k o = none ∧ ∃ a : Int32, a = m + Int32.ofInt 1 ∧ wfC U ∧ K U a) ∨ (∃ x, fbO V k o = some x ∧ r = 0 ∧ u = bRk U 15 ((qI V 8 1) + x)) := by
  intro n
  induction n with
  | zero => intro k U o _ _ _ h; unfold v_X2_instructionsHold_L20 at h; exact h.elim
  | succ n ih =>
    intro k U o y o0 hk h
    unfold v_X2_instructionsHold_L20 at h
    obtain ⟨w, h⟩ := h
    rw [y.2.2] at h
    rcases h with ⟨c, a6, e6, h⟩ | ⟨c, r8, S9, h8, w9, -, h⟩
    · refine Or.inl ⟨?_, a6, e6, w, h⟩
      cases k with
      | zero => rfl
      | succ k => rw [fbO_s, if_pos c]
    · obtain ⟨k, rfl⟩ : ∃ k', k = k' + 1 := ⟨k - 1, by omega⟩
      obtain ⟨er8, e9⟩ := cv_len w (y.h9 h9) h8
      rw [fbO_s, if_neg c]
      rw [y.xla] at er8
      rcases h with ⟨c2, r13, S14, h13, w14, -, a17, e17, h⟩ | ⟨c2, r20, S21, h20, -, -, er, eu⟩
      · rw [er8] at c2
        rw [if_pos c2]
        rw [e9] at h13
        obtain ⟨er13, e14⟩ := cv_len w (y.h9 h9) h13
        rw [y.xla] at er13
        rw [e14, e17, er13] at h
        obtain ⟨l1, l2, l3⟩ := la_add (V := V) ⟨o0, by omega⟩ c2
        exact ih k y (by omega) (by omega) h
      · rw [er8] at c2
        rw [if_neg c2]
        obtain ⟨a1, b1⟩ := cv_breaks h20
        exact Or.inr ⟨o, rfl, by rw [er, a1], by rw [eu, b1, e9, y.2.1]⟩
theorem WhF.rf : WhF R R := ⟨smB.rf, fun _ _ _ _ => rfl, fun _ _ _ => rfl, rfl, rfl, rfl, rfl⟩
theorem WhF.tr (h : WhF R T) (g : WhF T w) : WhF R w := ⟨h.1.tr g.1, fun j h1 h2 h3 => (g.2.1 j h1 h2 h3).trans (h.2.1 j h1 h2 h3), fun b h0 hk => (g.2.2.1 b h0 hk).trans (h.2.2.1 b h0 hk), g.2.2.2.1.trans h.2.2.2.1, g.2.2.2.2.1.trans h.2.2.2.2.1, g.2.2.2.2.2.1.trans h.2.2.2.2.2.1, g.2.2.2.2.2.2.trans h.2.2.2.2.2.2⟩
theorem WhF.w0 {j : Nat} (hs : SrN R) (hj : j = 36 ∨ j = 37 ∨ j = 39) : WhF R (wI R 0 j v) := ⟨sm_wr hs (by decide) (by decide), fun i h1 h2 h3 => g_nf (by omega), fun b h0 _ => rdH h0, rfl, rfl, rfl, rfl⟩
theorem WhF.w18 {j : Nat} (hs : SrN R) : WhF R (wI R 18 j v) := ⟨sm_wr hs (by decide) (by decide), fun i _ _ _ => g_ne (by decide), fun b _ h1 => rdH h1, rfl, rfl, rfl, rfl⟩
theorem WhF.bt (h : WhF R w) (hb : BtE S R) : BtE S w := hb.mv smX.rf h.1 (h.2.1 12 (by decide) (by decide) (by decide))
theorem WhF.sr (h : WhF R w) (hs : SrN R) : SrN w := hs.sm h.1
theorem rv_L35 {oo : MS ⊕ MS} (h2 : (qI V 8 2).toInt ≤ 1200) : ∀ (n k : Nat) {U : MS} {o : Int32}, BtE V U → SrN U → CoE V U → 0 ≤ o.toInt → o.toInt ≤ (qI V 8 2).toInt → 1201 - o.toInt ≤ k → (∀ j : Nat, (j : Int) < o.toInt → qI U 18 j = nuA V 1300 0 0 j) → (∀ j : Nat, o.toInt ≤ (j : Int) → (j : Int) ≤ (qI V 8 2).toInt → qI U 18 j = -1) → (∀ j : Nat, o.toInt ≤ (j : Int) → nuA V 1300 0 0 j = nuA V k o (qI U 0 39) j) → (0 ≤ (qI U 0 39).toInt ∧ (qI U 0 39).toInt ≤ o.toInt) → (qI U 0 39).toInt + cN V k o = cN V 1300 0 → v_wholes_L35 oo n U o → (fbO V k o = none ∧ ∃ w, oo = .inl w ∧ WhF U w ∧ NuR V w ∧ qI w 0 36 = qI U 0 36 ∧ qI w 0 37 = qI U 0 37) ∨ (∃ x W, fbO V k o = some x ∧ oo = .inr (rBk W 15 ((qI V 8 1) + x))) := by
  intro n
  induction n with
  | zero => intro k U o _ _ _ _ _ _ _ _ _ _ _ h; unfold v_wholes_L35 at h; exact h.elim
  | succ n ih =>
    intro k U o hb hs hc o0 o1 hk ha hm hn hi hcn h
    unfold v_wholes_L35 at h
    rw [hc.1.2] at h
    obtain ⟨k, rfl⟩ : ∃ k', k = k' + 1 := ⟨k - 1, by omega⟩
    rw [fbO_s]
    rw [cN_s] at hcn
    rcases h with ⟨c, -, S8, e8, e⟩ | ⟨c, r10, S11, h10, h⟩
    · rw [if_pos c]
      rw [if_pos c] at hcn
      refine Or.inl ⟨rfl, S8, e, by rw [e8]; exact WhF.w18 hs, ⟨fun j hj => ?_, ?_, ?_⟩, by rw [e8, g_ne (by decide)], by rw [e8, g_ne (by decide)]⟩
      · rw [e8, g_nf (by omega)]
        exact ha j (by omega)
      · rw [e8, g_eq, g_ne (by decide)]
      · rw [e8, g_ne (by decide)]
        omega
    · rw [if_neg c]
      rw [if_neg c] at hcn
      obtain ⟨eT, K⟩ := rv_span hb hc o0 (by omega) h10
      rw [eT] at h
      rcases K with ⟨l0, er⟩ | ⟨l0, er⟩
      · rw [if_pos l0]
        rcases h with ⟨z, -⟩ | ⟨-, h⟩
        · rw [er] at z
          omega
        rcases rv_mustE h with ⟨-, -, S18, e18, S20, e20, a22, e22, h⟩ | ⟨z, -⟩
        swap
        · exact absurd z (by decide)
        obtain ⟨l1, l2, l3⟩ := la_add (V := V) ⟨o0, by omega⟩ l0
        rw [er] at e22
        rw [l3] at hcn
        have f18 : WhF U S18 := by rw [e18]; exact WhF.w18 hs
        have f20 : WhF U S20 := f18.tr (by rw [e20]; exact WhF.w0 (f18.sr hs) (by decide))
        have x39 : qI S20 0 39 = (qI U 0 39) + (1 : Int32) := by rw [e20, g_eq, e18, g_ne (by decide)]
        have y39 : (qI S20 0 39).toInt = (qI U 0 39).toInt + 1 := by rw [x39, t_add (by rw [li_1]; omega), li_1]
        have x36 : qI S20 0 36 = qI U 0 36 := by rw [e20, g_nf (by decide), e18, g_ne (by decide)]
        have x37 : qI S20 0 37 = qI U 0 37 := by rw [e20, g_nf (by decide), e18, g_ne (by decide)]
        have r18 : ∀ j, qI S20 18 j = if j = o.toInt.toNat then qI U 0 39 else qI U 18 j := fun j => by
          rw [e20, g_ne (by decide), e18, qI_wI]
          by_cases t : j = o.toInt.toNat
          · rw [if_pos ⟨rfl, t⟩, if_pos t]
          · rw [if_neg (fun s => t s.2), if_neg t]
        have cv := hn o.toInt.toNat (by omega)
        rw [nuA_s, if_neg c, if_pos rfl] at cv
        have cj : ∀ j : Nat, o.toInt < (j : Int) → nuA V 1300 0 0 j = nuA V k a22 (qI S20 0 39) j := fun j hj => by
          have q := hn j (by omega)
          rw [nuA_s, if_neg c, if_neg (by omega), l3] at q
          rw [q, x39, e22]
        have KK := ih k (o := a22) (f20.bt hb) (f20.sr hs) ⟨⟨by rw [x36]; exact hc.1.1, by rw [x37]; exact hc.1.2⟩, hc.2⟩ (by rw [e22]; omega) (by rw [e22]; omega) (by rw [e22]; omega) (fun j hj => ?_) (fun j hj hj2 => ?_) (fun j hj => cj j (by rw [e22] at hj; omega)) (by rw [e22]; omega) (by rw [y39, e22]; omega) h
        · rw [e22] at KK
          rcases KK with ⟨k1, w, k2, k3, k4, k5, k6⟩ | K
          · exact Or.inl ⟨k1, w, k2, f20.tr k3, k4, by rw [k5, x36], by rw [k6, x37]⟩
          · exact Or.inr K
        · rw [r18]
          by_cases t : j = o.toInt.toNat
          · rw [if_pos t, t]
            exact cv.symm
          · rw [if_neg t]
            by_cases t2 : (j : Int) < o.toInt
            · exact ha j t2
            · rw [hm j (by omega) (by rw [e22] at hj; omega), cj j (by omega), nuA_lt h2 k a22 _ j (by rw [e22]; omega) hj]
        · rw [e22] at hj
          rw [r18, if_neg (by omega)]
          exact hm j (by omega) hj2
      · rw [if_neg (by omega)]
        rcases h with ⟨-, h⟩ | ⟨z, -⟩
        swap
        · exact absurd er z
        rcases rv_mustE h with ⟨z, -⟩ | ⟨-, e⟩
        · exact absurd rfl z
        · exact Or.inr ⟨o, _, rfl, by rw [e, hc.1.1]⟩
theorem rv_L7 {oo : MS ⊕ MS} {sz : Int} (hz : 0 ≤ sz ∧ sz ≤ 1200) : ∀ (n : Nat) {U : MS} {k : Int32}, SrN U → (qI U 0 37).toInt = sz → 0 ≤ k.toInt → k.toInt ≤ sz + 1 → (∀ j : Nat, (j : Int) < k.toInt → qI U 18 j = -1) → v_wholes_L7 oo n U k → ∃ (W : MS) (n2 : Nat), WhF U W ∧ qI W 0 36 = qI U 0 36 ∧ qI W 0 37 = qI U 0 37 ∧ (∀ j : Nat, (j : Int) ≤ sz → qI W 18 j = -1) ∧ v_wholes_L35 oo n2 (wI W 0 39 0) 0 := by
  intro n
  induction n with
  | zero => intro U k _ _ _ _ _ h; unfold v_wholes_L7 at h; exact h.elim
  | succ n ih =>
    intro U k hs e37 k0 k1 hm h
    unfold v_wholes_L7 at h
    rcases h with ⟨c, S5, e5, n2, h⟩ | ⟨c, -, S25, e25, a, ea, h⟩
    · rw [e5] at h
      exact ⟨U, n2, WhF.rf, rfl, rfl, fun j hj => hm j (by omega), h⟩
    · have ek : a.toInt = k.toInt + 1 := by rw [ea, t_add (by rw [show (Int32.ofInt 1).toInt = 1 from rfl]; omega)]; rfl
      have f25 : WhF U S25 := by rw [e25]; exact WhF.w18 hs
      have i25 : ∀ j, qI S25 0 j = qI U 0 j := fun j => by rw [e25, g_ne (by decide)]
      obtain ⟨W, n2, h1, h2, h3, h4, h5⟩ := ih (f25.sr hs) (by rw [i25]; exact e37) (by omega) (by omega) (fun j hj => by
        rw [e25, qI_wI]
        by_cases t : j = k.toInt.toNat
        · rw [if_pos ⟨rfl, t⟩]
        · rw [if_neg (fun q => t q.2)]
          exact hm j (by omega)) h
      exact ⟨W, n2, f25.tr h1, by rw [h2, i25], by rw [h3, i25], h4, h5⟩
theorem szV_of (h : (fX7_s4 S (c + (4 : Int32))).toInt ≤ 1200) : szV S c = fX7_s4 S (c + (4 : Int32)) := by
  unfold szV
  rw [if_neg]
  rw [Int32.lt_iff_toInt_lt, show (1200 : Int32).toInt = 1200 from by decide]
  omega
/-- all of one method's instructions -/
theorem rv_wholes {oo : MS ⊕ MS} (hb : BtE S R) (hs : SrN R) (wS : wfC S) (hC : CiR S R m.toInt.toNat c) (h : v_wholes R m oo) : (fbO (VmS S c) 1300 0 = none ∧ ∃ w, oo = .inl w ∧ WhF R w ∧ NuR (VmS S c) w ∧ CoE (VmS S c) w) ∨ (∃ x W, fbO (VmS S c) 1300 0 = some x ∧ oo = .inr (rBk W 15 ((c + (8 : Int32)) + x))) := by
  obtain ⟨C1, C2, C3, ⟨C4, C5, C6⟩, C7, q, C8, C9, C10, C11, C12⟩ := hC
  have rq := rg_u2 (S := S) (x := q)
  have ez := szV_of (S := S) (c := c) C6
  have hb2 := hb.2.1
  have c8 : (c + (8 : Int32)).toInt = c.toInt + 8 := by rw [t_add (by rw [li_8]; omega), li_8]
  obtain ⟨S2, ⟨-, S3, e3, -, S6, e6, eS2⟩, n, h⟩ := h
  rw [eS2] at h
  have f3 : WhF R S3 := by rw [e3]; exact WhF.w0 hs (by decide)
  have f6 : WhF R S6 := f3.tr (by rw [e6]; exact WhF.w0 (f3.sr hs) (by decide))
  have x36 : qI S6 0 36 = c + (8 : Int32) := by rw [e6, g_nf (by decide), e3, g_eq, C3]
  have x37 : qI S6 0 37 = fX7_s4 S (c + (4 : Int32)) := by rw [e6, g_eq, e3, g_ne (by decide), C4]
  obtain ⟨W, n2, h1, h2, h3, h4, h5⟩ := rv_L7 (sz := (fX7_s4 S (c + (4 : Int32))).toInt) (by omega) n (f6.sr hs) (by rw [x37]) (by decide) (by rw [show (0 : Int32).toInt = 0 from rfl]; omega) (fun j hj => by rw [show (0 : Int32).toInt = 0 from rfl] at hj; omega) h
  have fW : WhF R (wI W 0 39 0) := (f6.tr h1).tr (WhF.w0 ((f6.tr h1).sr hs) (by decide))
  have y36 : qI (wI W 0 39 0) 0 36 = c + (8 : Int32) := by rw [g_nf (by decide), h2, x36]
  have y37 : qI (wI W 0 39 0) 0 37 = fX7_s4 S (c + (4 : Int32)) := by rw [g_nf (by decide), h3, x37]
  have y39 : qI (wI W 0 39 0) 0 39 = 0 := g_eq
  have sx := VmS.sx (c := c) wS
  have hbV : BtE (VmS S c) (wI W 0 39 0) := (fW.bt hb).mv sx smB.rf rfl
  have hcV : ∀ {w : MS}, qI w 0 36 = c + (8 : Int32) → qI w 0 37 = fX7_s4 S (c + (4 : Int32)) → CoE (VmS S c) w := fun a b => by
    refine ⟨⟨by rw [a, VmS.i1], by rw [b, VmS.i2, ez]⟩, by rw [VmS.i2, ez]; exact ⟨C5, C6⟩, by rw [VmS.i1, c8]; omega, ?_⟩
    rw [VmS.i1, VmS.i2, ez, c8, sx.1]
    omega
  have o0 : (0 : Int32).toInt = 0 := rfl
  have K := rv_L35 (V := VmS S c) (by rw [VmS.i2, ez]; exact C6) n2 1300 hbV (fW.sr hs) (hcV y36 y37) (by decide) (by rw [VmS.i2, ez, o0]; omega) (by rw [o0]; decide) (fun j hj => by rw [o0] at hj; omega) (fun j _ hj => by rw [g_ne (by decide)]; exact h4 j (by rw [VmS.i2, ez] at hj; exact hj)) (fun j _ => by rw [y39]) (by rw [y39]; decide) (by rw [y39, o0]; omega) h5
  rw [VmS.i1] at K
  rcases K with ⟨k1, w, k2, k3, k4, k5, k6⟩ | K
  · exact Or.inl ⟨k1, w, k2, fW.tr k3, k4, hcV (by rw [k5, y36]) (by rw [k6, y37])⟩
  · exact Or.inr K
end WH
