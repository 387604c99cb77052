/-! frames (behind VmA.mm, okA.nx, VmI.st) -/
def slF (S : MS) (i : Nat) : Nat → TV := fun k => qW S 45 (24 * i + k)
/-- what is looked at, and what is kept of its check -/
def LoK (S : MS) (f m : Nat) (U : MS) : Prop := LoP S f m U ∧ KeS S f U
theorem KeS.mk2 {S u U : MS} {f : Nat} (h : KeS S f U) (f92 : 92 < f) (hk : ∀ h : Nat, 92 < h → sm5 S u h) : KeS u f U := by
  have e : qO u f 22 = qO S f 22 := by unfold qO; rw [(hk f f92).2.2.1]
  unfold KeS
  rw [e, (hk _ h.2.1).1]
  exact h
/-- the frame i stands at a place of the checked method m of f; U has its types, a those of the place -/
def FrU (S : MS) (f i : Nat) (U : MS) (s p : Nat) (a : AS) : Prop := 92 < f ∧ (0 ≤ (qI S 42 i).toInt ∧ (qI S 42 i).toInt < (qI S f 4).toInt) ∧ (qR S (f + 6) (qI S 42 i).toInt.toNat = some s ∧ qR S (f + 7) (qI S 42 i).toInt.toNat = some p) ∧ LoK S f (qI S 42 i).toInt.toNat U ∧ (LkI U ∧ TxI U ∧ VmI U s p) ∧ (0 ≤ (qI U 0 56).toInt ∧ (qI U 0 56).toInt ≤ 24) ∧ ((∀ h : Nat, okH U h → sm5 U S h) ∧ ∀ h : Nat, 92 < h → qT U h = 11 → sm7 U S h) ∧ (0 ≤ (qI S 43 i).toInt ∧ (qI S 43 i).toInt < (qI U 0 52).toInt) ∧ StT U (qI S 43 i) p a
def FrTop (S : MS) (f i : Nat) (n : Int) : Prop := ∃ (U : MS) (s p : Nat) (a : AS), FrU S f i U s p a ∧ (qI S 44 i).toInt = (aT a).toInt ∧ okA n a (slF S i) (plF S i)
def FrMid (S : MS) (f i : Nat) (n : Int) : Prop := ∃ (U : MS) (s p : Nat) (a : AS), FrU S f i U s p a ∧ (f_op U (qI S 43 i)).toInt = 184 ∧ f_first U (qI S 43 i) = qI S 42 (i + 1) ∧ (qI S 44 i).toInt = (aT a).toInt - tkV U (qI S 43 i) ∧ (∀ k : Nat, k < 24 → okV n (aL a k) (slF S i k)) ∧ ∀ k : Nat, (k : Int) < (aT a).toInt - tkV U (qI S 43 i) → okV n (aP a k) (plF S i k)
theorem sm5.s {S u v : MS} {a : Nat} (h : sm5 S u a) (k : sm5 u v a) : sm5 S v a := ⟨k.1.trans h.1, k.2.1.trans h.2.1, k.2.2.1.trans h.2.2.1, k.2.2.2.1.trans h.2.2.2.1, k.2.2.2.2.trans h.2.2.2.2⟩
theorem LoP.mk2 {S u U : MS} {f m : Nat} (h : LoP S f m U) (f92 : 92 < f) (hk : ∀ h : Nat, 92 < h → sm5 S u h) : LoP u f m U := by
  unfold LoP
  rw [(hk f f92).2.2.1, (hk (f + 10) (by omega)).1, (hk (f + 11) (by omega)).1, (hk (f + 12) (by omega)).1, (hk (f + 13) (by omega)).1]
  exact h
theorem LoK.mk2 {S u U : MS} {f m : Nat} (h : LoK S f m U) (f92 : 92 < f) (hk : ∀ h : Nat, 92 < h → sm5 S u h) : LoK u f m U := ⟨h.1.mk2 f92 hk, h.2.mk2 f92 hk⟩
/-- the frame goes on to the place j' of its own method -/
theorem FrU.go {S u : MS} {f i : Nat} {U : MS} {s p : Nat} {a : AS} (h : FrU S f i U s p a) (hk : ∀ h : Nat, 92 < h → sm5 S u h) (e42 : qI u 42 i = qI S 42 i) {y : Int} {t : Nat → Int32} (hj : 0 ≤ (qI u 43 i).toInt ∧ (qI u 43 i).toInt < (qI U 0 52).toInt) (hn : nxT U (qI u 43 i).toInt.toNat y t) : ∃ b : AS, FrU u f i U s p b ∧ (aT b).toInt = y := by
  obtain ⟨f92, h1, h2, h3, h4, h5, h6, h7, h8⟩ := h
  obtain ⟨b, hb⟩ := h4.2.2.st h4.1 h4.2.1 h5 hj hn.1
  refine ⟨b, ⟨f92, ?_, ?_, ?_, h4, h5, ⟨fun a ha => (h6.1 a ha).s (hk a ha.1), fun a ha hq => ?_⟩, hj, hb⟩, by rw [hb.1.2.2]; exact hn.2.1⟩
  · rw [e42, (hk f f92).1]; exact h1
  · rw [e42, (hk (f + 6) (by omega)).2.2.1, (hk (f + 7) (by omega)).2.2.1]; exact h2
  · rw [e42]; exact h3.mk2 f92 hk
  · have z := h6.2 a ha hq
    have q := hk a ha
    exact ⟨fun j hj => by rw [q.1]; exact z.1 j hj, fun j hj => by rw [q.2.2.1]; exact z.2.1 j hj, by rw [q.2.2.2.1]; exact z.2.2.1, by rw [q.2.2.2.2]; exact z.2.2.2⟩
theorem FrTop.go {S u : MS} {f i : Nat} {U : MS} {s p : Nat} {a : AS} {n' : Int} (h : FrU S f i U s p a) (hk : ∀ h : Nat, 92 < h → sm5 S u h) (e42 : qI u 42 i = qI S 42 i) {y : Int} {t : Nat → Int32} (hj : 0 ≤ (qI u 43 i).toInt ∧ (qI u 43 i).toInt < (qI U 0 52).toInt) (hn : nxT U (qI u 43 i).toInt.toNat y t) (hy : 0 ≤ y) (eT : (qI u 44 i).toInt = y) (n0 : 0 ≤ n') (v1 : ∀ k : Nat, k < 24 → okV n' (nb (t k)) (slF u i k)) (v2 : ∀ k : Nat, (k : Int) < y → okV n' (nb (t (24 + k))) (plF u i k)) : FrTop u f i n' := by
  obtain ⟨b, hb, eb⟩ := h.go hk e42 hj hn
  exact ⟨U, s, p, b, hb, by rw [eT, eb], okA.nx n0 hn hb.2.2.2.2.2.2.2.2.1 v1 v2 hy⟩
/-- a frame below is left alone -/
theorem FrMid.mv {S u : MS} {f i : Nat} {n n' : Int} (h : FrMid S f i n) (hn : n ≤ n') (hk : ∀ h : Nat, 92 < h → sm5 S u h) (e42 : qI u 42 i = qI S 42 i ∧ qI u 42 (i + 1) = qI S 42 (i + 1)) (e43 : qI u 43 i = qI S 43 i) (e44 : qI u 44 i = qI S 44 i) (e45 : ∀ k : Nat, k < 24 → slF u i k = slF S i k) (e46 : ∀ k : Nat, k < 24 → plF u i k = plF S i k) : FrMid u f i n' := by
  obtain ⟨U, s, p, a, hF, h1, h2, h3, h4, h5⟩ := h
  obtain ⟨f92, g1, g2, g3, g4, g5, g6, g7, g8⟩ := hF
  have t24 : (aT a).toInt ≤ 24 := by have := g8.2.2.1; omega
  have tk0 : 0 ≤ tkV U (qI S 43 i) := by
    unfold tkV
    by_cases c : 0 < (f_moved U (f_op U (qI S 43 i))).toInt
    · rw [if_pos c]; omega
    · rw [if_neg c]; exact (g4.1.tk g7 g4.2.1).2.2.2.1
  refine ⟨U, s, p, a, ⟨f92, ?_, ?_, ?_, g4, g5, ⟨fun a ha => (g6.1 a ha).s (hk a ha.1), fun a ha hq => ?_⟩, by rw [e43]; exact g7, by rw [e43]; exact g8⟩, by rw [e43]; exact h1, by rw [e43, e42.2]; exact h2, by rw [e43, e44]; exact h3, fun k hk' => by rw [e45 k hk']; exact (h4 k hk').mono hn, fun k hk' => ?_⟩
  · rw [e42.1, (hk f f92).1]; exact g1
  · rw [e42.1, (hk (f + 6) (by omega)).2.2.1, (hk (f + 7) (by omega)).2.2.1]; exact g2
  · rw [e42.1]; exact g3.mk2 f92 hk
  · have z := g6.2 a ha hq
    have q := hk a ha
    exact ⟨fun j hj => by rw [q.1]; exact z.1 j hj, fun j hj => by rw [q.2.2.1]; exact z.2.1 j hj, by rw [q.2.2.2.1]; exact z.2.2.1, by rw [q.2.2.2.2]; exact z.2.2.2⟩
  · rw [e43] at hk'
    rw [e46 k (by omega)]
    exact (h5 k hk').mono hn
/-! throwError (behind FrTop.go, sp_putV, sp_look) -/
theorem big_frm {S u : MS} {W J : List Nat} (f : frm W J S u) (hW : ∀ w ∈ W, w ≤ 92) : ∀ h : Nat, 92 < h → sm5 S u h := fun h hh => by
  have q := f.2.2.2.2.1 h (by omega) (fun z => by have := hW h z; omega)
  exact ⟨q.1, q.2.1, q.2.2, by rw [f.1], by rw [f.2.1]⟩
theorem FlI.fm {S u : MS} {f : Nat} {W J : List Nat} (h : FlI S f) (f92 : 92 < f) (k : frm W J S u) (hW : ∀ w ∈ W, w ≤ 92) : FlI u f := h.mv (fun a ha _ => ⟨fun _ => big_frm k hW a (by omega), fun _ => (big_frm k hW a (by omega)).s7⟩) (by rw [k.2.2.1]; exact Nat.le_refl _)
def FrH (S : MS) (f i : Nat) (n : Int) : Prop := ∃ (U : MS) (s p : Nat) (a : AS), FrU S f i U s p a ∧ ∀ k : Nat, k < 24 → okV n (aL a k) (slF S i k)
theorem FrMid.h {S : MS} {f i : Nat} {n : Int} (h : FrMid S f i n) : FrH S f i n := by
  obtain ⟨U, s, p, a, hF, h1, h2, h3, h4, h5⟩ := h
  exact ⟨U, s, p, a, hF, h4⟩
theorem FrU.mm {S u : MS} {f i : Nat} {U : MS} {s p : Nat} {a : AS} (h : FrU S f i U s p a) (hk : ∀ h : Nat, 92 < h → sm5 S u h) (hl : LoP S f (qI S 42 i).toInt.toNat u) : smM U u := by
  obtain ⟨f92, g1, g2, h3, g4, g5, g6, g7, g8⟩ := h
  refine ⟨⟨fun a ha => (g6.1 a ha).s (hk a ha.1), fun a ha hq => ?_⟩, fun j a b => ?_, fun j a b => ?_⟩
  · have z := g6.2 a ha hq
    have q := hk a ha
    exact ⟨fun j hj => by rw [q.1]; exact z.1 j hj, fun j hj => by rw [q.2.2.1]; exact z.2.1 j hj, by rw [q.2.2.2.1]; exact z.2.2.1, by rw [q.2.2.2.2]; exact z.2.2.2⟩
  · obtain ⟨⟨a1, a2, a3, a4⟩, -⟩ := h3.1
    obtain ⟨⟨b1, b2, b3, b4⟩, -⟩ := hl
    have : j = 47 ∨ j = 48 ∨ j = 49 ∨ j = 50 := by omega
    rcases this with e | e | e | e <;> subst e
    · rw [a1, b1]
    · rw [a2, b2]
    · rw [a3, b3]
    · rw [a4, b4]
  · obtain ⟨-, a1, a2, a3, a4⟩ := h3.1
    obtain ⟨-, b1, b2, b3, b4⟩ := hl
    have : j = 51 ∨ j = 52 ∨ j = 53 ∨ j = 54 := by omega
    rcases this with e | e | e | e <;> subst e
    · rw [a1, b1]
    · rw [a2, b2]
    · rw [a3, b3]
    · rw [a4, b4]
def JT : List Nat := [47, 48, 49, 50, 51, 52, 53, 54, 97, 98, 102]
def ThP (S : MS) (f : Nat) (n : Int) (u : MS) : Prop := frm [43, 44, 46, 48] JT S u ∧ ((qI u 0 98).toInt = 1 ∨ (qI u 0 98 = qI S 0 98 ∧ FrB u ∧ fN u ≤ fN S ∧ FrTop u f (fN u).toNat n ∧ ∀ i : Nat, (i : Int) < fN u → FrMid u f i n))
theorem thr_v {e : Int32} (he : 0 ≤ e.toInt) : -2147483648 ≤ ((-1 : Int32) - e).toInt64.toInt ∧ ((-1 : Int32) - e).toInt64.toInt ≤ 0 := by
  have l1 : (-1 : Int32).toInt = -1 := by decide
  have h2 := e.toInt_lt
  have ev : ((-1 : Int32) - e).toInt = -1 - e.toInt := by rw [t_sub (by rw [l1]; omega), l1]
  rw [tl_of, ev]
  omega
theorem sp_throw {S : MS} {f : Nat} {n : Int} {e : Int32} (he : 0 ≤ e.toInt) (hF : FrB S) (hl : FlI S f) (h80 : qR S 0 80 = some f) (n0 : 0 ≤ n) (top : FrH S f (fN S).toNat n) (mid : ∀ i : Nat, (i : Int) < fN S → FrMid S f i n) : w_throwError S e (ThP S f n) := by
  have f92 : 92 < f := by obtain ⟨_, _, _, _, q, _⟩ := top; exact q.1
  have L0 : ∀ (c : Nat) (V : MS), frm [] [47, 48, 49, 50, 51, 52, 53, 54, 97] S V → (0 ≤ (qI V 0 97).toInt ∧ (qI V 0 97).toInt ≤ (qI S 0 97).toInt) → (qI V 0 97).toInt.toNat < c → w_throwError_L0 (ThP S f n) c V e := by
    intro c
    induction c with
    | zero => intro V _ _ h9; exact absurd h9 (Nat.not_lt_zero _)
    | succ c ih =>
      intro V fV hV hc
      unfold w_throwError_L0
      refine ⟨fun q A eA B eB => ⟨?_, Or.inl ?_⟩, fun q => ?_⟩
      · exact (fV.mo (by decide) (by decide)).tr ((show frm [43, 44, 46, 48] JT V A by rw [eA]; exact frm.pI0 (by decide)).tr (by rw [eB]; exact frm.pI0 (by decide)))
      · rw [eB, qI_wI, if_neg (by decide), eA, qI_wI, if_pos ⟨rfl, rfl⟩]; rfl
      · have bV : FrB V := ⟨by omega, by have := hF.2; omega⟩
        obtain ⟨e1, e2, e3, e4⟩ := bV.e
        have v80 : qR V 0 80 = some f := by rw [(fV.2.2.2.2.2 80 (by decide)).2.2]; exact h80
        have o80 : qO V 0 80 = f := by unfold qO; rw [v80]; rfl
        have le : fN V ≤ fN S := by unfold fN; omega
        have top' : FrH S f (fN V).toNat n := by
          by_cases z : fN V = fN S
          · rw [z]; exact top
          · exact (mid (fN V).toNat (by omega)).h
        obtain ⟨U, s, p, a, hU, hval⟩ := top'
        have i42 : qI V 42 = qI S 42 := (fV.2.2.2.2.1 42 (by decide) (by decide)).1
        have kV := big_frm fV (by decide)
        rw [o80, e1]
        refine ⟨v80, ⟨e2, e3⟩, _, sp_look (hl.fm f92 fV (by decide)) (by rw [i42, (kV f f92).1]; exact hU.2.1), ?_⟩
        rintro u ⟨⟨fu, ku⟩, lo⟩
        have fSu : frm [] [47, 48, 49, 50, 51, 52, 53, 54, 97] S u := fV.tr (fu.mo (by decide) (by decide))
        have kS := big_frm fSu (by decide)
        rw [i42] at lo
        have loS : LoP S f (qI S 42 (fN V).toNat).toInt.toNat u := lo.mk2 f92 (fun h hh => by have q := kV h hh; exact ⟨q.1.symm, q.2.1.symm, q.2.2.1.symm, q.2.2.2.1.symm, q.2.2.2.2.symm⟩)
        have mm := hU.mm kS loS
        have u97 : qI u 0 97 = qI V 0 97 := (fu.2.2.2.2.2 97 (by decide)).1
        have u43 : qI u 43 = qI S 43 := (fSu.2.2.2.2.1 43 (by decide) (by decide)).1
        have bu : FrB u := by unfold FrB; rw [u97]; exact bV
        have nu : fN u = fN V := by unfold fN; rw [u97]
        obtain ⟨w1, w2, w3, w4⟩ := bu.e
        rw [nu] at w1 w2 w3 w4
        rw [w1]
        refine ⟨⟨e2, e3⟩, fun x ex => ?_⟩
        rw [u43] at ex
        have cn := ku.cnt
        have e54 : qI u 0 54 = qI U 0 54 := mm.2.2 54 (by decide) (by decide)
        have gL := hU.2.2.2.2.1
        have gS := hU.2.2.2.2.2.2.2.2
        have hi := hU.2.2.2.2.2.2.2.1
        have j79 : ∀ k : Int32, (0 ≤ k.toInt ∧ k.toInt < (qI u 0 54).toInt) → (f_isCaught u x k).toInt ≠ 0 → w_throwError_J79 (ThP S f n) u e k := fun k hk hcg => by
          rw [mm.ic gL.1, ex] at hcg
          have nx := gS.2.2.2.2.2.1 k hk.1 (by rw [← e54]; exact hk.2) hcg
          have cw := gL.1.cw (c := k) ⟨hk.1, by rw [← e54]; exact hk.2⟩
          unfold w_throwError_J79
          rw [w1]
          refine ⟨⟨e2, e3⟩, fun A eA => ?_⟩
          have fA : frm [43, 44, 46, 48] [] u A := by rw [eA]; exact frm.pI (by decide)
          have a97 : qI A 0 97 = qI u 0 97 := by rw [eA, rdH (by decide)]
          have bA : FrB A := by unfold FrB; rw [a97]; exact bu
          have nA : fN A = fN V := by unfold fN; rw [a97, u97]
          have tA : fT A = 0 := by
            unfold fT
            rw [nA, eA, qI_wI, if_pos ⟨rfl, rfl⟩]
            rfl
          refine ⟨_, sp_putV bA (Or.inl li_1) ⟨by omega, by rw [li_1]; omega⟩, ?_⟩
          rintro B ⟨fB, b46, b44, bT⟩
          rw [nA, tA] at b46
          have kB := (bA.mv fB)
          have LB : LkI B := ku.mv ((smL.fm fA (by decide) (by decide)).tr (smL.fm fB (by decide) (by decide)))
          have cwB : f_catchWord B k 2 = f_catchWord U k 2 := by rw [((smL.fm fA (by decide) (by decide)).tr (smL.fm fB (by decide) (by decide))).cw ku, mm.cw gL.1]
          have b54 : qI B 0 54 = qI u 0 54 := by rw [(fB.2.2.2.2.2 54 (by decide)).1, (fA.2.2.2.2.2 54 (by decide)).1]
          refine ⟨LB.dcw ⟨hk.1, by rw [b54]; exact hk.2⟩ ⟨by decide, by decide⟩, _, sp_goTo kB.1, ?_⟩
          rintro D ⟨fD, d43⟩
          rw [kB.2, nA, cwB] at d43
          have fSD : frm [43, 44, 46, 48] [47, 48, 49, 50, 51, 52, 53, 54, 97] S D := (fSu.mo (by decide) (by decide)).tr ((fA.mo (by decide) (by decide)).tr ((fB.mo (by decide) (by decide)).tr (fD.mo (by decide) (by decide))))
          have d97 : qI D 0 97 = qI V 0 97 := by rw [(fD.2.2.2.2.2 97 (by decide)).1, (fB.2.2.2.2.2 97 (by decide)).1, a97, u97]
          have nD : fN D = fN V := by unfold fN; rw [d97]
          have B43 : qI B 43 = qI S 43 := by rw [(fB.2.2.2.2.1 43 (by decide) (by decide)).1, eA, rdH (by decide), u43]
          have kD := big_frm fSD (by decide)
          have D42 : qI D 42 = qI S 42 := (fSD.2.2.2.2.1 42 (by decide) (by decide)).1
          have D45 : qW D 45 = qW S 45 := fW fSD (h := 45) (by decide) (by decide) (by decide)
          have D44 : qI D 44 = qI B 44 := (fD.2.2.2.2.1 44 (by decide) (by decide)).1
          have D46 : qW D 46 = qW B 46 := fW fD (h := 46) (by decide) (by decide) (by decide)
          have A46 : qW A 46 = qW S 46 := by rw [eA, qW_I (by decide)]; exact fW fSu (h := 46) (by decide) (by decide) (by decide)
          have A44 : ∀ i : Nat, i ≠ (fN V).toNat → qI A 44 i = qI S 44 i := fun i hi => by rw [eA, qI_wI, if_neg (fun z => hi z.2), (fSu.2.2.2.2.1 44 (by decide) (by decide)).1]
          have at43 : qI D 43 (fN V).toNat = f_catchWord U k 2 := by rw [d43]; unfold upd; rw [if_pos rfl]
          have at44 : (qI D 44 (fN V).toNat).toInt = 1 := by
            have z : fT B = 1 := by rw [bT, tA, li_1]; rfl
            unfold fT at z
            rw [kB.2, nA] at z
            rw [D44]
            exact z
          refine ⟨fSD.mo (by decide) (by decide), Or.inr ⟨(fSD.2.2.2.2.2 98 (by decide)).1, ⟨by rw [d97]; exact bV.1, by rw [d97]; exact bV.2⟩, by rw [nD]; exact le, ?_, fun i hi' => ?_⟩⟩
          · rw [nD]
            refine FrTop.go hU kD (by rw [D42]) (y := 1) (t := fun k => if k < 24 then aL a k else 5) (by rw [at43]; exact cw.2.2.1) (by rw [at43]; exact nx) (by decide) at44 n0 (fun k hk => ?_) (fun k hk => ?_)
            · show okV n (nb (if k < 24 then aL a k else 5)) (qW D 45 (24 * (fN V).toNat + k))
              rw [if_pos hk, gS.1.nb.1 k hk, D45]
              exact hval k hk
            · show okV n (nb (if 24 + k < 24 then aL a (24 + k) else 5)) _
              rw [if_neg (by omega)]
              have ep : plF D (fN V).toNat k = (((-1 : Int32) - e).toInt64, ptT ((-1 : Int32) - e).toInt64 1) := by
                unfold plF
                rw [D46, b46, if_pos (by omega)]
              have tv := thr_v he
              have h5 := ptT_5 (v := ((-1 : Int32) - e).toInt64) (n := 1) (by decide) tv.2
              rw [ep]
              generalize ((-1 : Int32) - e).toInt64 = w at tv h5 ⊢
              exact okV.e tv h5
          · rw [nD] at hi'
            refine (mid i (by omega)).mv (Int.le_refl _) kD ⟨by rw [D42], by rw [D42]⟩ ?_ ?_ (fun k _ => ?_) (fun k hk => ?_)
            · rw [d43, B43]; unfold upd; rw [if_neg (by omega)]
            · rw [D44, b44, nA]; unfold upd; rw [if_neg (by omega), A44 i (by omega)]
            · show qW D 45 _ = qW S 45 _
              rw [D45]
            · show qW D 46 _ = qW S 46 _
              rw [D46, b46, if_neg (by omega), if_neg (fun q => absurd q.1 (by decide)), A46]
        have L40 : ∀ (c2 : Nat) (k : Int32), (0 ≤ k.toInt ∧ k.toInt ≤ (qI u 0 54).toInt) → ((qI u 0 54).toInt - k.toInt).toNat < c2 → w_throwError_L40 (ThP S f n) (w_throwError_L0 (ThP S f n) c) c2 u e x k := by
          intro c2
          induction c2 with
          | zero => intro k _ h9; exact absurd h9 (Nat.not_lt_zero _)
          | succ c2 ih2 =>
            intro k hk hc2
            have ek : (k + Int32.ofInt 1).toInt = k.toInt + 1 := by rw [t_add (by rw [lo_1]; omega), lo_1]
            have nxt : k.toInt < (qI u 0 54).toInt → w_throwError_J111 (ThP S f n) (w_throwError_L40 (ThP S f n) (w_throwError_L0 (ThP S f n) c) c2) u e x k := fun q a22 e22 => by
              subst e22
              exact ih2 _ ⟨by omega, by omega⟩ (by omega)
            unfold w_throwError_L40
            refine ⟨fun q A eA => ?_, fun q => ?_⟩
            · have a97 : (qI A 0 97).toInt = (qI V 0 97).toInt - 1 := by rw [eA, qI_wI, if_pos ⟨rfl, rfl⟩, u97]; exact e1
              exact ih A (fSu.tr (by rw [eA]; exact frm.pI0 (by decide))) ⟨by omega, by omega⟩ (by omega)
            · have hk' : 0 ≤ k.toInt ∧ k.toInt < (qI u 0 54).toInt := ⟨hk.1, by omega⟩
              have dw : d_catchWord u k 3 := ku.dcw hk' ⟨by decide, by decide⟩
              refine ⟨ku.dic hk', fun _ => nxt hk'.2, fun g => ⟨dw, fun _ => j79 k hk' g, fun _ => ⟨dw, fun _ => j79 k hk' g, fun _ => nxt hk'.2⟩⟩⟩
        exact ⟨_, L40 _ 0 ⟨by decide, by rw [li_0]; exact cn.2.1.1⟩ (Nat.lt_succ_self _)⟩
  exact ⟨_, L0 _ S frm.rf ⟨by have := hF.1; omega, Int.le_refl _⟩ (Nat.lt_succ_self _)⟩
