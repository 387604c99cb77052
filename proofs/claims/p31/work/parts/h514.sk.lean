/-! Heights: seek, its loops -/
def HzR (p : Nat) (S u : MS) : Prop := cfr [213, 214, 304] [(44, 6), (44, 7)] S u ∧ (∀ i k : Nat, btk (hC S p i) k = true → btk (hC u p i) k = true) ∧ MhC u p ≤ MhC S p ∧ ((qI S p 6).toInt = 0 → ¬ (qI u p 6).toInt = 0 → MhC u p < MhC S p)
/-- what has come waits, or has been sent on; h0 and higher of e at i0 are still to be -/
def PsI (S U : MS) (p q r : Nat) (lim I : Int) (i0 : Nat) (e : Int32) (h0 : Int) : Prop := HsB S U p q r lim ∧ (∀ i k : Nat, (i : Int) < nR S r → btk (hW U p i) k = true → k ≤ 30) ∧ (∀ i k : Nat, (i : Int) < nR S r → btk (hC U p i) k = true → k ≤ 30 ∧ (btk (hW U p i) k = true ∨ (i = i0 ∧ h0 ≤ k ∧ btk e k = true) ∨ ¬ (hX U p i).toInt = 0 ∨ ClS S U p q r lim (Int32.ofInt i) k)) ∧ ((qI U p 6).toInt = 0 → ∀ i : Nat, (i : Int) < I → hW U p i = 0)
section SKL
variable {S u v U V A : MS} {p q r i0 : Nat} {lim I h0 : Int} {Q Q' : MS → Prop} {e : Int32}
theorem HzR.rf : HzR p S S := ⟨cfr.rf, fun _ _ h => h, Nat.le_refl _, fun a b => absurd a b⟩
theorem HzR.tr (h : HzR p S u) (k : HzR p u v) : HzR p S v := by
  obtain ⟨a1, a2, a3, a4⟩ := h
  obtain ⟨b1, b2, b3, b4⟩ := k
  refine ⟨a1.tr b1, fun i k q => b2 i k (a2 i k q), by omega, fun c d => ?_⟩
  by_cases z : (qI u p 6).toInt = 0
  · have := b4 z d; omega
  · have := a4 c z; omega
theorem HtR.z (h : HtR p S u) : HzR p S u := ⟨h.1, h.2.1, h.2.2.2.2.2.2.2⟩
theorem PsI.ht (P : PsI S U p q r lim I i0 e h0) (w : wfC U) (h : HtR p U u) : PsI S u p q r lim I i0 e h0 := by
  obtain ⟨b, ww, cc, dn⟩ := P
  refine ⟨b.ht w h, fun i k hi z => ?_, fun i k hi z => ?_, fun z i hi => ?_⟩
  · rcases h.2.2.2.2.1 i k z with y | y
    · exact ww i k hi y
    · exact y
  · rcases h.2.2.2.1 i k z with y | y
    · obtain ⟨c1, c2⟩ := cc i k hi y
      refine ⟨c1, ?_⟩
      rcases c2 with a | a | a | a
      · exact Or.inl (h.2.2.1 i k a)
      · exact Or.inr (Or.inl a)
      · exact Or.inr (Or.inr (Or.inl (h.2.2.2.2.2.1 i a)))
      · exact Or.inr (Or.inr (Or.inr (a.mo h.2.1)))
    · exact ⟨y.1, Or.inl y.2⟩
  · have y := h.2.2.2.2.2.2.1 z
    rw [y.2]
    exact dn y.1 i hi
theorem ct_sk109 {k67 k67' : MS → Nat → Int32 → Int32 → Prop} {v4 v5 : Int32} (hl : lim ≤ 30) (hx : 0 ≤ v5.toInt ∧ v5.toInt < nR S r) (hN : nR S r ≤ 1296) (hc7 : ∀ x : Int32, (fX8_targetCount S r x).toInt ≤ 100000) (he : ∀ k : Nat, btk e k = true → k ≤ 30) (hk : ∀ (U : MS) (a : Int32), a.toInt = v5.toInt + 1 → PsI S U p q r lim (v5.toInt + 1) 0 0 0 → HzR p A U → k67 U p v4 a → k67' U p v4 a) : ∀ (n : Nat) {U : MS} {v7 : Int32}, PsI S U p q r lim (v5.toInt + 1) v5.toInt.toNat e v7.toInt → HzR p A U → 0 ≤ v7.toInt → w_X4_seek_L109 Q k67 n U p v4 v5 e v7 → w_X4_seek_L109 Q' k67' n U p v4 v5 e v7 := by
  intro n
  induction n with
  | zero => intro U v7 _ _ _ h; exact h
  | succ n ih =>
    intro U v7 P hz v0 hh
    unfold w_X4_seek_L109 at hh ⊢
    intro w k
    obtain ⟨h1, h2⟩ := hh w k
    -- nothing is left of e
    have J148 : (∀ k : Nat, v7.toInt ≤ k → btk e k = false) → w_X4_seek_J148 Q k67 U p v4 v5 → w_X4_seek_J148 Q' k67' U p v4 v5 := fun hno hj => by
      unfold w_X4_seek_J148 at hj ⊢
      intro w k a ea
      have e1 : a.toInt = v5.toInt + 1 := by rw [ea, t_addk (by rw [lo_1k]; omega), lo_1k]
      refine hk U a e1 ⟨P.1, P.2.1, fun i k hi z => ⟨(P.2.2.1 i k hi z).1, ?_⟩, P.2.2.2⟩ hz (hj w k a ea)
      rcases (P.2.2.1 i k hi z).2 with y | y | y | y
      · exact Or.inl y
      · rw [hno k y.2.1] at y
        exact absurd y.2.2 (by decide)
      · exact Or.inr (Or.inr (Or.inl y))
      · exact Or.inr (Or.inr (Or.inr y))
    refine ⟨fun c => ?_, fun c => ?_⟩
    · by_cases s : v7.toInt ≤ 31
      · refine J148 (fun k hk => ?_) (h1 c)
        have e31 : btk e 31 = false := by
          by_cases z : btk e 31 = true
          · have := he 31 z; omega
          · exact Bool.eq_false_iff.mpr z
        exact bt_ush v0 s e31 c (by omega)
      · refine J148 (fun k hk => ?_) (h1 c)
        by_cases z : btk e k = true
        · have := he k z; omega
        · exact Bool.eq_false_iff.mpr z
    · obtain ⟨h3, h4⟩ := h2 c
      refine ⟨fun d => J148 (fun k hk => ?_) (h3 d), fun d => ?_⟩
      · by_cases z : btk e k = true
        · have := he k z; omega
        · exact Bool.eq_false_iff.mpr z
      · obtain ⟨h5, h6⟩ := h4 d
        have T := bt_test0k (v := e) (h := v7) v0 (by omega)
        have J142 : ∀ V : MS, PsI S V p q r lim (v5.toInt + 1) v5.toInt.toNat e (v7.toInt + 1) → HzR p A V → w_X4_seek_J142 Q (w_X4_seek_L109 Q k67 n) V p v4 v5 e v7 → w_X4_seek_J142 Q' (w_X4_seek_L109 Q' k67' n) V p v4 v5 e v7 := fun V PV zV hj => by
          unfold w_X4_seek_J142 at hj ⊢
          intro w k a ea
          have e1 : a.toInt = v7.toInt + 1 := by rw [ea, t_addk (by rw [lo_1k]; omega), lo_1k]
          exact ih (by rw [e1]; exact PV) zV (by omega) (hj w k a ea)
        refine ⟨fun z => J142 U ⟨P.1, P.2.1, fun i k hi y => ⟨(P.2.2.1 i k hi y).1, ?_⟩, P.2.2.2⟩ hz (h5 z), fun z kk => ?_⟩
        · rcases (P.2.2.1 i k hi y).2 with t | t | t | t
          · exact Or.inl t
          · by_cases s : (k : Int) = v7.toInt
            · have ek : k = v7.toInt.toNat := by omega
              rw [ek] at t
              exact absurd t.2.2 (T.mp z)
            · exact Or.inr (Or.inl ⟨t.1, by omega, t.2.2⟩)
          · exact Or.inr (Or.inr (Or.inl t))
          · exact Or.inr (Or.inr (Or.inr t))
        · obtain ⟨Q44, p44, h44⟩ := h6 z kk
          refine ⟨_, ct_spread P.1 w hl hx ⟨v0, by omega⟩ (hc7 v5) p44, ?_⟩
          rintro u ⟨gq, hu, hd⟩ wu su
          have Pu := P.ht w hu
          have ev : Int32.ofInt (v5.toInt.toNat : Int) = v5 := by
            rw [show (v5.toInt.toNat : Int) = v5.toInt by omega]
            exact Int32.ofInt_toInt v5
          refine J142 u ⟨Pu.1, Pu.2.1, fun i k hi y => ⟨(Pu.2.2.1 i k hi y).1, ?_⟩, Pu.2.2.2⟩ (hz.tr hu.z) (h44 u gq wu su)
          rcases (Pu.2.2.1 i k hi y).2 with t | t | t | t
          · exact Or.inl t
          · by_cases s : (k : Int) = v7.toInt
            · rw [t.1, ev, s]
              exact Or.inr (Or.inr hd)
            · exact Or.inr (Or.inl ⟨t.1, by omega, t.2.2⟩)
          · exact Or.inr (Or.inr (Or.inl t))
          · exact Or.inr (Or.inr (Or.inr t))
theorem ct_sk67 {k45 k45' : MS → Nat → Int32 → Prop} {v4 : Int32} (hl : lim ≤ 30) (hN : nR S r ≤ 1296) (hc7 : ∀ x : Int32, (fX8_targetCount S r x).toInt ≤ 100000) (v40 : 0 ≤ v4.toInt ∧ v4.toInt < 1000000) (hk : ∀ (U : MS) (a : Int32), a.toInt = v4.toInt + 1 → PsI S U p q r lim (nR S r) 0 0 0 → HzR p A U → k45 U p a → k45' U p a) : ∀ (n : Nat) {U : MS} {v5 : Int32}, PsI S U p q r lim v5.toInt 0 0 0 → HzR p A U → 0 ≤ v5.toInt → w_X4_seek_L67 Q k45 n U p v4 v5 → w_X4_seek_L67 Q' k45' n U p v4 v5 := by
  intro n
  induction n with
  | zero => intro U v5 _ _ _ h; exact h
  | succ n ih =>
    intro U v5 P hz v0 hh
    have o4 := P.1.o.2
    have c := P.1.2.2.1.1
    have eN : (qI U r 2).toInt = nR S r := by rw [← c.nE]; rfl
    have H := P.1.1.2
    have k0 := P.1.1.1
    have nl := P.1.2.2.2.2
    unfold w_X4_seek_L67 at hh ⊢
    intro w k
    obtain ⟨e4, h1, h2⟩ := hh w k
    have J : nR S r ≤ v5.toInt → w_X4_seek_J154 Q k45 U p v4 → w_X4_seek_J154 Q' k45' U p v4 := fun hn hj => by
      unfold w_X4_seek_J154 at hj ⊢
      intro w k a ea
      have e1 : a.toInt = v4.toInt + 1 := by rw [ea, t_addk (by rw [lo_1k]; omega), lo_1k]
      exact hk U a e1 ⟨P.1, P.2.1, P.2.2.1, fun z i hi => P.2.2.2 z i (by omega)⟩ hz (hj w k a ea)
    rw [o4, eN] at h1 h2 ⊢
    refine ⟨by rw [← o4]; exact e4, fun z => J z (h1 z), fun z => ?_⟩
    obtain ⟨e1, h3, h4⟩ := h2 z
    refine ⟨e1, fun y => J (by have := H.2.1; omega) (h3 y), fun y => ?_⟩
    obtain ⟨e1', b1, h5⟩ := h4 y
    refine ⟨e1', b1, fun a31 e31 => ?_⟩
    obtain ⟨e1'', b1', h6⟩ := h5 a31 e31
    refine ⟨e1'', b1', fun S35 e35 k35 w35 => ?_⟩
    obtain ⟨m, hm⟩ := h6 S35 e35 k35 w35
    have t0 : qT U (qO U p 0) = 213 := w.ref H.1.1 k
    have t2 : qT U (qO U p 2) = 304 := w.ref H.1.2.2 k
    have f0 : cfr [214] [] U S35 := by rw [e35]; exact cfr.aI k35 rfl
    have f : cfr [213, 214, 304] [(44, 6), (44, 7)] U S35 := f0.mo rfl rfl
    have o : ∀ j, qO S35 p j = qO U p j := fun j => by rw [e35]; rfl
    have C : ∀ i, hC S35 p i = hC U p i := fun i => by unfold hC; rw [o]; exact f0.kI t0 (by decide) rfl
    have X : ∀ i, hX S35 p i = hX U p i := fun i => by unfold hX; rw [o]; exact f0.kI t2 (by decide) rfl
    have W : ∀ i, hW S35 p i = if i = v5.toInt.toNat then 0 else hW U p i := fun i => by
      unfold hW
      rw [o, e35, qI_wI]
      by_cases t : i = v5.toInt.toNat
      · rw [if_pos ⟨rfl, t⟩, if_pos t]
      · rw [if_neg (fun s => t s.2), if_neg t]
    have e6 : qI S35 p 6 = qI U p 6 := f0.kI k (by decide) rfl
    have M : MhC S35 p = MhC U p := by
      unfold MhC nR
      rw [o, o4, f0.kI P.1.2.2.1.2.1 (by decide) rfl]
      exact sumN_eqk _ (fun j _ => by show cnt0k (hC S35 p j) 32 = _; rw [C])
    have hz' : HzR p A S35 := hz.tr ⟨f, fun i k h => by rw [C]; exact h, by omega, fun a b => by rw [e6] at b; exact absurd a b⟩
    have ea : a31 = hW U p v5.toInt.toNat := e31
    have P' : PsI S S35 p q r lim (v5.toInt + 1) v5.toInt.toNat a31 (0 : Int32).toInt := by
      refine ⟨P.1.fr w f, fun i k hi h => ?_, fun i k hi h => ?_, fun h i hi => ?_⟩
      · rw [W] at h
        by_cases t : i = v5.toInt.toNat
        · rw [if_pos t, bt_0] at h; exact absurd h (by decide)
        · rw [if_neg t] at h; exact P.2.1 i k hi h
      · rw [C] at h
        refine ⟨(P.2.2.1 i k hi h).1, ?_⟩
        rcases (P.2.2.1 i k hi h).2 with t | t | t | t
        · by_cases s : i = v5.toInt.toNat
          · refine Or.inr (Or.inl ⟨s, by rw [li_0k]; omega, ?_⟩)
            rw [ea, ← s]; exact t
          · exact Or.inl (by rw [W, if_neg s]; exact t)
        · have := t.2.2
          rw [bt_0] at this
          exact absurd this (by decide)
        · exact Or.inr (Or.inr (Or.inl (by rw [X]; exact t)))
        · exact Or.inr (Or.inr (Or.inr (t.mo (fun i k h => by rw [C]; exact h))))
      · rw [e6] at h
        rw [W]
        by_cases t : i = v5.toInt.toNat
        · rw [if_pos t]
        · rw [if_neg t]; exact P.2.2.2 h i (by omega)
    refine ⟨m, ct_sk109 (A := A) hl ⟨v0, by omega⟩ hN hc7 (fun k h => P.2.1 v5.toInt.toNat k (by omega) (by rw [← ea]; exact h)) (fun V a e1 PV zV hj => ih (by rw [e1]; exact PV) zV (by omega) hj) m P' hz' (by rw [li_0k]; omega) hm⟩
/-- what seek has found -/
def HtF (S u : MS) (p q r : Nat) (lim : Int) : Prop := HsB S u p q r lim ∧ ∀ i k : Nat, (i : Int) < nR S r → btk (hC u p i) k = true → k ≤ 30 ∧ (¬ (hX u p i).toInt = 0 ∨ ClS S u p q r lim (Int32.ofInt i) k)
theorem ct_sk45 {G : MS → Prop} (hG : ∀ u, HtF S u p q r lim → (∀ i k : Nat, btk (hC A p i) k = true → btk (hC u p i) k = true) → G u) (hl : lim ≤ 30) (hN : nR S r ≤ 1296) (hc7 : ∀ x : Int32, (fX8_targetCount S r x).toInt ≤ 100000) : ∀ (n : Nat) {U : MS} {v4 : Int32}, PsI S U p q r lim 0 0 0 0 → HzR p A U → ((qI U p 6).toInt = 0 → PsI S U p q r lim (nR S r) 0 0 0) → (¬ (qI U p 6).toInt = 0 → v4.toInt + MhC U p ≤ 41472) → 0 ≤ v4.toInt → w_X4_seek_L45 Q n U p v4 → w_X4_seek_L45 (fun u => Q u ∧ G u) n U p v4 := by
  intro n
  induction n with
  | zero => intro U v4 _ _ _ _ _ h; exact h
  | succ n ih =>
    intro U v4 P hz Pd hm v0 hh
    have o4 := P.1.o.2
    unfold w_X4_seek_L45 at hh ⊢
    intro w k
    obtain ⟨h1, h2⟩ := hh w k
    refine ⟨fun z => ⟨h1 z, hG U ⟨P.1, fun i k hi y => ?_⟩ hz.2.1⟩, fun z => ?_⟩
    · have P9 := Pd z
      refine ⟨(P.2.2.1 i k hi y).1, ?_⟩
      rcases (P9.2.2.1 i k hi y).2 with t | t | t | t
      · rw [P9.2.2.2 z i hi, bt_0] at t
        exact absurd t (by decide)
      · have := t.2.2
        rw [bt_0] at this
        exact absurd this (by decide)
      · exact Or.inl t
      · exact Or.inr t
    · obtain ⟨h3, h4⟩ := h2 z
      have hm' := hm z
      refine ⟨fun y => absurd y (by omega), fun y S18 e18 k18 w18 => ?_⟩
      obtain ⟨m, hj⟩ := h4 y S18 e18 k18 w18
      have H := P.1.1.2
      have f0 : cfr [] [(44, 6)] U S18 := by rw [e18]; exact cfr.oI k18 rfl
      have f : cfr [213, 214, 304] [(44, 6), (44, 7)] U S18 := f0.mo rfl rfl
      have o : ∀ j, qO S18 p j = qO U p j := fun j => by rw [e18]; rfl
      have C : ∀ i, hC S18 p i = hC U p i := fun i => by unfold hC; rw [o]; exact f0.kI (w.ref H.1.1 k : qT U (qO U p 0) = 213) (by decide) rfl
      have W : ∀ i, hW S18 p i = hW U p i := fun i => by unfold hW; rw [o]; exact f0.kI (w.ref H.1.2.1 k : qT U (qO U p 1) = 214) (by decide) rfl
      have X : ∀ i, hX S18 p i = hX U p i := fun i => by unfold hX; rw [o]; exact f0.kI (w.ref H.1.2.2 k : qT U (qO U p 2) = 304) (by decide) rfl
      have M : MhC S18 p = MhC U p := by
        unfold MhC nR
        rw [o, o4, f0.kI P.1.2.2.1.2.1 (by decide) rfl]
        exact sumN_eqk _ (fun j _ => by show cnt0k (hC S18 p j) 32 = _; rw [C])
      have e6 : (qI S18 p 6).toInt = 0 := by rw [e18, qI_wI, if_pos ⟨rfl, rfl⟩]; rfl
      have P' : PsI S S18 p q r lim (0 : Int32).toInt 0 0 0 := by
        refine ⟨P.1.fr w f, fun i k hi h => by rw [W] at h; exact P.2.1 i k hi h, fun i k hi h => ?_, fun _ i hi => by rw [li_0k] at hi; omega⟩
        rw [C] at h
        refine ⟨(P.2.2.1 i k hi h).1, ?_⟩
        rcases (P.2.2.1 i k hi h).2 with t | t | t | t
        · exact Or.inl (by rw [W]; exact t)
        · exact Or.inr (Or.inl t)
        · exact Or.inr (Or.inr (Or.inl (by rw [X]; exact t)))
        · exact Or.inr (Or.inr (Or.inr (t.mo (fun i k h => by rw [C]; exact h))))
      have hz18 : ∀ V : MS, HzR p S18 V → HzR p A V := fun V h => by
        obtain ⟨b1, b2, b3, b4⟩ := h
        refine ⟨(hz.1.tr f).tr b1, fun i k q => b2 i k (by rw [C]; exact hz.2.1 i k q), ?_, fun c d => ?_⟩
        · have := hz.2.2.1; omega
        · have := b4 e6 d
          have := hz.2.2.1
          omega
      refine ⟨m, ct_sk67 (A := S18) hl hN hc7 ⟨v0, by omega⟩ (fun V a e1 PV zV hj => ?_) m P' HzR.rf (by rw [li_0k]; omega) hj⟩
      refine ih ⟨PV.1, PV.2.1, PV.2.2.1, fun _ i hi => by omega⟩ (hz18 V zV) (fun _ => PV) (fun d => ?_) (by omega) hj
      have := zV.2.2.2 e6 d
      omega
end SKL
/-! Heights: seek -/
section SKR
variable {K : List Nat} {F : List (Nat × Nat)} {S u v U V A : MS} {p q r N : Nat} {lim : Int} {Q : MS → Prop} {x : Int32}
theorem HtK.fr (w : wfC U) (k : qT U p = 44) (H : HtK U p) (f : cfr K F U u) (hK : K.contains 44 = false) (h0 : F.contains (44, 0) = false) (h1 : F.contains (44, 1) = false) (h2 : F.contains (44, 2) = false) : HtK u p := by
  have o0 := qO_eq (f.kO (j := 0) k hK h0)
  have o1 := qO_eq (f.kO (j := 1) k hK h1)
  have o2 := qO_eq (f.kO (j := 2) k hK h2)
  have l0 : qN u (qO U p 0) = qN U (qO U p 0) := (f.1.1 _ (by rw [(w.ref H.1.1 k : qT U (qO U p 0) = 213)]; decide)).2
  have l1 : qN u (qO U p 1) = qN U (qO U p 1) := (f.1.1 _ (by rw [(w.ref H.1.2.1 k : qT U (qO U p 1) = 214)]; decide)).2
  have l2 : qN u (qO U p 2) = qN U (qO U p 2) := (f.1.1 _ (by rw [(w.ref H.1.2.2 k : qT U (qO U p 2) = 304)]; decide)).2
  refine ⟨⟨f.kP k H.1.1 hK h0, f.kP k H.1.2.1 hK h1, f.kP k H.1.2.2 hK h2⟩, ?_, ?_⟩
  · rw [o0, o1, l0, l1]; exact H.2.1
  · rw [o0, o2, l0, l2]; exact H.2.2
/-- nothing has come, nothing waits -/
def MzI (p N : Nat) (u : MS) : Prop := (qT u p = 44 ∧ HtK u p) ∧ (∀ i : Nat, i < N → hC u p i = 0 ∧ hW u p i = 0) ∧ N ≤ qN u (qO u p 0)
theorem MzI.fr (h : MzI p N U) (w : wfC U) (f : cfr [304] [] U u) : MzI p N u := by
  obtain ⟨⟨k, H⟩, z, n⟩ := h
  have o0 := qO_eq (f.kO (j := 0) k (by decide) (by decide))
  have o1 := qO_eq (f.kO (j := 1) k (by decide) (by decide))
  have t0 : qT U (qO U p 0) = 213 := w.ref H.1.1 k
  have t1 : qT U (qO U p 1) = 214 := w.ref H.1.2.1 k
  refine ⟨⟨f.1.T k (by decide), H.fr w k f (by decide) (by decide) (by decide) (by decide)⟩, fun i hi => ?_, ?_⟩
  · unfold hC hW
    rw [o0, o1, f.kI t0 (by decide) rfl, f.kI t1 (by decide) rfl]
    exact z i hi
  · rw [o0, (f.1.1 _ (by rw [t0]; decide)).2]; exact n
theorem ct_mr54 : ∀ (n : Nat) {U : MS} {y : Int32}, MzI p N U → w_X4_makeRoom_L54 Q n U p y → w_X4_makeRoom_L54 (fun u => Q u ∧ MzI p N u) n U p y := by
  intro n
  induction n with
  | zero => intro U y _ h; exact h
  | succ n ih =>
    intro U y P h
    unfold w_X4_makeRoom_L54 at h ⊢
    intro w k
    obtain ⟨e, h1, h2⟩ := h w k
    refine ⟨e, fun c => ⟨h1 c, P⟩, fun c => ?_⟩
    obtain ⟨e', b, h3⟩ := h2 c
    refine ⟨e', b, fun S21 e21 k21 w21 a ea => ih (P.fr w (by rw [e21]; exact cfr.aI k21 rfl)) (h3 S21 e21 k21 w21 a ea)⟩
theorem ct_mr36 (H : HtK U p) (n0 : N ≤ qN U (qO U p 0)) (h : w_X4_makeRoom_J36 Q U p) : w_X4_makeRoom_J36 (fun u => Q u ∧ MzI p N u) U p := by
  unfold w_X4_makeRoom_J36 at h ⊢
  intro w k
  obtain ⟨e0, h⟩ := h w k
  refine ⟨e0, fun k0 => ?_⟩
  obtain ⟨Q6, p6, h6⟩ := h k0
  refine ⟨_, frJ7_fill_53178 k0 (by decide) (ct_fil0 w k0 (by decide) p6), ?_⟩
  rintro S7 ⟨⟨g7, z7⟩, f7⟩ w7 s7
  obtain ⟨e1, h7⟩ := h6 S7 g7 w7 s7
  refine ⟨e1, fun k1 => ?_⟩
  obtain ⟨Q11, p11, h11⟩ := h7 k1
  refine ⟨_, frJ7_fill_53178 k1 (by decide) (ct_fil0 w7 k1 (by decide) p11), ?_⟩
  rintro S12 ⟨⟨g12, z12⟩, f12⟩ w12 s12
  obtain ⟨n, h12⟩ := h11 S12 g12 w12 s12
  have k7 : qT S7 p = 44 := f7.1.T k (by decide)
  have H7 : HtK S7 p := H.fr w k f7 (by decide) (by decide) (by decide) (by decide)
  have H12 : HtK S12 p := H7.fr w7 k7 f12 (by decide) (by decide) (by decide) (by decide)
  have o0 := qO_eq (f7.kO (j := 0) k (by decide) (by decide))
  have o0' := qO_eq (f12.kO (j := 0) k7 (by decide) (by decide))
  have o1 := qO_eq (f7.kO (j := 1) k (by decide) (by decide))
  have o1' := qO_eq (f12.kO (j := 1) k7 (by decide) (by decide))
  have t0 : qT S7 (qO S7 p 0) = 213 := w7.ref H7.1.1 k7
  have l0 : qN S7 (qO U p 0) = qN U (qO U p 0) := (f7.1.1 _ (by rw [k0]; decide)).2
  have l1 : qN S7 (qO S7 p 1) = qN S7 (qO S7 p 0) := by have := H7.2.1; omega
  refine ⟨n, ct_mr54 n ⟨⟨f12.1.T k7 (by decide), H12⟩, fun i hi => ⟨?_, ?_⟩, ?_⟩ h12⟩
  · unfold hC
    rw [o0', f12.kI t0 (by decide) rfl, o0]
    exact z7 i (by omega)
  · unfold hW
    rw [o1']
    exact z12 i (by rw [l1, o0, l0]; omega)
  · rw [o0', (f12.1.1 _ (by rw [t0]; decide)).2, o0, l0]
    exact n0
theorem ct_mroom (w : wfC S) (d : dnC S) (k : qT S p = 44) (H : HtK S p) (hp : p < qn S) (h0 : 0 ≤ x.toInt ∧ x.toInt ≤ 100000) (h : wX4_makeRoom S p x Q) : wX4_makeRoom S p x (fun u => Q u ∧ MzI p x.toInt.toNat u) := by
  unfold wX4_makeRoom at h ⊢
  obtain ⟨e0, h1, h2⟩ := h
  refine ⟨e0, fun c => ct_mr36 H (by omega) (h1 c), fun c => ?_⟩
  have m2 := mul2_of (x := x) (by omega)
  obtain ⟨b1, h3⟩ := h2 c
  refine ⟨b1, fun S28 e28 w28 S30 e30 k30 w30 => ?_⟩
  obtain ⟨b2, h4⟩ := h3 S28 e28 w28 S30 e30 k30 w30
  refine ⟨b2, fun S35 e35 w35 S37 e37 k37 w37 => ?_⟩
  obtain ⟨b3, h5⟩ := h4 S35 e35 w35 S37 e37 k37 w37
  refine ⟨b3, fun S42 e42 w42 S44 e44 k44 w44 => ?_⟩
  have h6 := h5 S42 e42 w42 S44 e44 k44 w44
  have s1 : S30 = wR (wN S 213 (((2 : Int32) * x).toInt.toNat) (((2 : Int32) * x).toInt.toNat)) p 0 (some (qn S)) := by rw [e30, e28]
  have s2 : S37 = wR (wN S30 214 (((2 : Int32) * x).toInt.toNat) (((2 : Int32) * x).toInt.toNat)) p 1 (some (qn S30)) := by rw [e37, e35]
  have s3 : S44 = wR (wN S37 304 (((2 : Int32) * x).toInt.toNat) (((2 : Int32) * x).toInt.toNat)) p 2 (some (qn S37)) := by rw [e44, e42]
  obtain ⟨a1, b1', c1, d1, r1, t1, l1, q1, u1⟩ := nwr s1 (by omega)
  obtain ⟨a2, b2', c2, d2, r2, t2, l2, q2, u2⟩ := nwr s2 (by omega)
  obtain ⟨a3, b3', c3, d3, r3, t3, l3, q3, u3⟩ := nwr s3 (by omega)
  have R0 : qR S44 p 0 = some (qn S) := by rw [d3 0 (by decide), d2 0 (by decide), r1]
  have R1 : qR S44 p 1 = some (qn S30) := by rw [d3 1 (by decide), r2]
  have O0 := qO_of R0
  have O1 := qO_of R1
  have O2 := qO_of r3
  have N0 : qN S44 (qn S) = ((2 : Int32) * x).toInt.toNat := by rw [(b3' _ (by omega)).2, (b2' _ (by omega)).2, l1]
  have N1 : qN S44 (qn S30) = ((2 : Int32) * x).toInt.toNat := by rw [(b3' _ (by omega)).2, l2]
  refine ct_mr36 ⟨⟨by rw [O0]; exact R0, by rw [O1]; exact R1, by rw [O2]; exact r3⟩, by rw [O0, O1, N0, N1], by rw [O0, O2, N0, l3]⟩ (by rw [O0, N0]; omega) h6
theorem ct_seek (w : wfC S) (d : dnC S) (k : qT S p = 44) (hp : p < qn S) (kq : qT S q = 49) (kr : qT S r = 47) (H : HtK S p) (R : RwK S r) (UK : UnK S q) (hl : x.toInt ≤ 30) (hc7 : ∀ y : Int32, (fX8_targetCount S r y).toInt ≤ 100000) (h : wX4_seek S p q r x Q) : wX4_seek S p q r x (fun u => Q u ∧ HtF S u p q r x.toInt ∧ (0 < nR S r → btk (hC u p 0) 0 = true)) := by
  have hN : 0 ≤ nR S r ∧ nR S r ≤ 1296 := by unfold nR; have := R.2; omega
  unfold wX4_seek at h ⊢
  intro S1 e1 k1 w1 S2 e2 k2 w2 S3 e3 k3 w3 S4 e4 k4 w4
  obtain ⟨f4, h⟩ := h S1 e1 k1 w1 S2 e2 k2 w2 S3 e3 k3 w3 S4 e4 k4 w4
  have g1 : cfr [] [(44, 3), (44, 4), (44, 5), (44, 7)] S S1 := by rw [e1]; exact cfr.oR k1 rfl
  have g2 : cfr [] [(44, 3), (44, 4), (44, 5), (44, 7)] S1 S2 := by rw [e2]; exact cfr.oR k2 rfl
  have g3 : cfr [] [(44, 3), (44, 4), (44, 5), (44, 7)] S2 S3 := by rw [e3]; exact cfr.oI k3 rfl
  have g4 : cfr [] [(44, 3), (44, 4), (44, 5), (44, 7)] S3 S4 := by rw [e4]; exact cfr.oI k4 rfl
  have g : cfr [] [(44, 3), (44, 4), (44, 5), (44, 7)] S S4 := ((g1.tr g2).tr g3).tr g4
  have R3 : qR S4 p 3 = some q := by rw [e4, e3]; show qR S2 p 3 = _; rw [e2, qR_wR, if_neg (fun t => by cases t.2), e1, qR_wR, if_pos ⟨rfl, rfl⟩]
  have R4 : qR S4 p 4 = some r := by rw [e4, e3]; show qR S2 p 4 = _; rw [e2, qR_wR, if_pos ⟨rfl, rfl⟩]
  have I5 : qI S4 p 5 = x := by rw [e4, qI_wI, if_neg (fun t => by cases t.2), e3, qI_wI, if_pos ⟨rfl, rfl⟩]
  have k4' : qT S4 p = 44 := g.1.T k (by decide)
  have H4 : HtK S4 p := H.fr w k g (by decide) (by decide) (by decide) (by decide)
  have rr := rC.fx w kr R g (by decide)
  have uu := uC.fr w kq UK g (by decide)
  have O4 := qO_of R4
  have n4 : qI S4 r 2 = qI S r 2 := rr.1.1.1.1
  have d4 : dnC S4 := by rw [e4, e3, e2, e1]; exact d
  have q4 : qn S4 = qn S := by rw [e4, e3, e2, e1]; rfl
  refine ⟨f4, fun kk => ?_⟩
  obtain ⟨Q7, p7, h7⟩ := h kk
  rw [O4, n4] at p7 ⊢
  have hN' : 0 ≤ (qI S r 2).toInt ∧ (qI S r 2).toInt ≤ 1296 := hN
  refine ⟨_, frX4_makeRoom w4 (ct_mroom w4 d4 k4' H4 (by rw [q4]; exact hp) ⟨by omega, by omega⟩ p7), ?_⟩
  rintro S8 ⟨⟨g8, Z⟩, f8⟩ w8 s8
  have h8 := h7 S8 g8 w8 s8
  have rr8 := rC.fx w4 rr.2.1 rr.2.2 f8 (by decide)
  have uu8 := uC.fr w4 uu.2.1 uu.2.2 f8 (by decide)
  have b8 : HsB S S8 p q r x.toInt := ⟨Z.1, ⟨by rw [f8.kO k4' (by decide) (by decide)]; exact R3, by rw [f8.kO k4' (by decide) (by decide)]; exact R4, by rw [f8.kI k4' (by decide) rfl, I5]⟩, ⟨rr.1.tr rr8.1, rr8.2⟩, ⟨uu.1.tr uu8.1, uu8.2⟩, by have := Z.2.2; unfold nR; omega⟩
  refine fun k8 => ?_
  obtain ⟨Q11, p11, h11⟩ := h8 k8
  refine ⟨_, ct_hcome w8 k8 Z.1.2 p11, ?_⟩
  rintro S12 ⟨g12, t12, hb⟩ w12 s12 S14 e14 k14 w14
  obtain ⟨n, h14⟩ := h11 S12 g12 w12 s12 S14 e14 k14 w14
  have b12 := b8.ht w8 t12
  have H12 := b12.1.2
  have f0 : cfr [] [(44, 6)] S12 S14 := by rw [e14]; exact cfr.oI k14 rfl
  have o : ∀ j, qO S14 p j = qO S12 p j := fun j => by rw [e14]; rfl
  have C : ∀ i, hC S14 p i = hC S12 p i := fun i => by unfold hC; rw [o]; exact f0.kI (w12.ref H12.1.1 k14 : qT S12 (qO S12 p 0) = 213) (by decide) rfl
  have W : ∀ i, hW S14 p i = hW S12 p i := fun i => by unfold hW; rw [o]; exact f0.kI (w12.ref H12.1.2.1 k14 : qT S12 (qO S12 p 1) = 214) (by decide) rfl
  have e6 : (qI S14 p 6).toInt = 1 := by rw [e14, qI_wI, if_pos ⟨rfl, rfl⟩]; rfl
  have b14 : HsB S S14 p q r x.toInt := b12.fr w12 (f0.mo rfl rfl)
  have hZ : ∀ i : Nat, (i : Int) < nR S r → hC S8 p i = 0 ∧ hW S8 p i = 0 := fun i hi => Z.2.1 i (by unfold nR at hi; omega)
  have M14 : MhC S14 p ≤ 41472 := by
    unfold MhC
    have t := sumN_top (g := fun i => cnt0k (hC S14 p i) 32) (c := 32) (fun j => cnt0_top 32) (nR S14 (qO S14 p 4)).toNat
    have : nR S14 (qO S14 p 4) = nR S r := by rw [b14.o.2]; exact b14.2.2.1.1.nE
    rw [this] at t ⊢
    omega
  refine ⟨n, ?_⟩
  have P14 : PsI S S14 p q r x.toInt 0 0 0 0 := by
    refine ⟨b14, fun i k hi y => ?_, fun i k hi y => ?_, fun _ i hi => by omega⟩
    · rw [W] at y
      rcases t12.2.2.2.2.1 i k y with t | t
      · rw [(hZ i hi).2, bt_0] at t; exact absurd t (by decide)
      · exact t
    · rw [C] at y
      rcases t12.2.2.2.1 i k y with t | t
      · rw [(hZ i hi).1, bt_0] at t; exact absurd t (by decide)
      · exact ⟨t.1, Or.inl (by rw [W]; exact t.2)⟩
  refine ct_sk45 (A := S14) (fun u t1 t2 => ⟨t1, fun t0 => t2 0 0 ?_⟩) hl hN.2 hc7 n P14 HzR.rf (fun t => by omega) (fun _ => by rw [li_0k]; omega) (by rw [li_0k]; omega) h14
  rw [C]
  have l0 : (0 : Int32).toInt = 0 := by decide
  have y := hb (by decide) (by rw [b8.o.2, b8.2.2.1.1.nE, l0]; exact t0) (by have := b8.2.2.2.2; rw [l0]; omega) (by decide) (by decide)
  rw [l0] at y
  exact y
end SKR
/-! Integer.bitCount: at most one bit -/
theorem nt_sl {x y a b : Nat} (hx : x < 256) (ha : a < 256) : (x + 256 * y) &&& (a + 256 * b) = (x &&& a) + 256 * (y &&& b) := by
  have hxa : x &&& a < 2 ^ 8 := Nat.and_lt_two_pow x (by omega)
  apply Nat.eq_of_testBit_eq
  intro i
  have e1 := Nat.testBit_two_pow_mul_add y (b := x) (i := 8) (by omega) i
  have e2 := Nat.testBit_two_pow_mul_add b (b := a) (i := 8) (by omega) i
  have e3 := Nat.testBit_two_pow_mul_add (y &&& b) (b := x &&& a) (i := 8) hxa i
  rw [Nat.testBit_and, show x + 256 * y = 2 ^ 8 * y + x by omega, show a + 256 * b = 2 ^ 8 * b + a by omega, show (x &&& a) + 256 * (y &&& b) = 2 ^ 8 * (y &&& b) + (x &&& a) by omega, e1, e2, e3]
  split
  · rw [Nat.testBit_and]
  · rw [Nat.testBit_and]
def bA8 (x : Nat) : Nat := x - (x / 2 &&& 85)
def bB8 (x : Nat) : Nat := (x &&& 51) + (x / 4 &&& 51)
def bC8 (x : Nat) : Nat := (x + x / 16) % 16
def bP8 (x : Nat) : Nat := bC8 (bB8 (bA8 x))
def bA (q n : Nat) : Nat := n - (n / 2 &&& q)
def bB (q n : Nat) : Nat := (n &&& q) + (n / 4 &&& q)
def bC (q n : Nat) : Nat := (n + n / 16) &&& q
theorem b8_all : ∀ x : Fin 256, (x.val / 2 &&& 85 ≤ x.val ∧ bA8 x.val < 256 ∧ bB8 (bA8 x.val) ≤ 68 ∧ bB8 (bA8 x.val) % 16 ≤ 4 ∧ bP8 x.val ≤ 8) ∧ (bP8 x.val = 0 → x.val = 0) := by decide +kernel
theorem b8_one : ∀ x : Fin 256, bP8 x.val ≤ 1 → ∀ i j : Fin 8, x.val.testBit i.val = true → x.val.testBit j.val = true → i = j := by decide +kernel
theorem b8_m1 : ∀ (x : Fin 128) (z : Fin 2), (x.val + 128 * z.val) &&& 85 = x.val &&& 85 := by decide +kernel
theorem b8_m2 : ∀ (x : Fin 64) (z : Fin 4), (x.val + 64 * z.val) &&& 51 = x.val &&& 51 := by decide +kernel
theorem b8_m3 : ∀ (x : Fin 69) (z : Fin 5), (x.val + x.val / 16 + 16 * z.val) &&& 15 = (x.val + x.val / 16) % 16 := by decide +kernel
theorem bA_st {x y q : Nat} (hx : x < 256) : bA (85 + 256 * q) (x + 256 * y) = bA8 x + 256 * bA q y := by
  have h1 := (b8_all ⟨x, hx⟩).1.1
  simp only at h1
  have h2 : y / 2 &&& q ≤ y / 2 := Nat.and_le_left
  have m := b8_m1 ⟨x / 2, by omega⟩ ⟨y % 2, by omega⟩
  simp only at m
  have e : (x + 256 * y) / 2 = (x / 2 + 128 * (y % 2)) + 256 * (y / 2) := by omega
  unfold bA bA8
  rw [e, nt_sl (by omega) (by decide), m]
  omega
theorem bB_st {x y q : Nat} (hx : x < 256) : bB (51 + 256 * q) (x + 256 * y) = bB8 x + 256 * bB q y := by
  have m := b8_m2 ⟨x / 4, by omega⟩ ⟨y % 4, by omega⟩
  simp only at m
  have e : (x + 256 * y) / 4 = (x / 4 + 64 * (y % 4)) + 256 * (y / 4) := by omega
  unfold bB bB8
  rw [e, nt_sl hx (by decide), nt_sl (by omega) (by decide), m]
  omega
theorem bC_st {x y q : Nat} (hx : x ≤ 68) (hy : y % 16 ≤ 4) : bC (15 + 256 * q) (x + 256 * y) = bC8 x + 256 * bC q y := by
  have m := b8_m3 ⟨x, by omega⟩ ⟨y % 16, by omega⟩
  simp only at m
  have e : x + 256 * y + (x + 256 * y) / 16 = (x + x / 16 + 16 * (y % 16)) + 256 * (y + y / 16) := by omega
  unfold bC bC8
  rw [e, nt_sl (by omega) (by decide), m]
/-- the bits of a number, by its bytes -/
theorem bAll {a b c d : Nat} (ha : a < 256) (hb : b < 256) (hc : c < 256) (hd : d < 256) : bC 252645135 (bB 858993459 (bA 1431655765 (a + 256 * (b + 256 * (c + 256 * d))))) = bP8 a + 256 * (bP8 b + 256 * (bP8 c + 256 * bP8 d)) := by
  have z : ∀ q : Nat, bA q 0 = 0 ∧ bB q 0 = 0 ∧ bC q 0 = 0 := fun q => by
    unfold bA bB bC
    refine ⟨by simp, by simp, by simp⟩
  have fa := (b8_all ⟨a, ha⟩).1
  have fb := (b8_all ⟨b, hb⟩).1
  have fc := (b8_all ⟨c, hc⟩).1
  have fd := (b8_all ⟨d, hd⟩).1
  simp only at fa fb fc fd
  have A : bA 1431655765 (a + 256 * (b + 256 * (c + 256 * (d + 256 * 0)))) = bA8 a + 256 * (bA8 b + 256 * (bA8 c + 256 * (bA8 d + 256 * 0))) := by
    rw [show (1431655765 : Nat) = 85 + 256 * (85 + 256 * (85 + 256 * (85 + 256 * 0))) by decide, bA_st ha, bA_st hb, bA_st hc, bA_st hd, (z 0).1]
  have Bq : bB 858993459 (bA8 a + 256 * (bA8 b + 256 * (bA8 c + 256 * (bA8 d + 256 * 0)))) = bB8 (bA8 a) + 256 * (bB8 (bA8 b) + 256 * (bB8 (bA8 c) + 256 * (bB8 (bA8 d) + 256 * 0))) := by
    rw [show (858993459 : Nat) = 51 + 256 * (51 + 256 * (51 + 256 * (51 + 256 * 0))) by decide, bB_st fa.2.1, bB_st fb.2.1, bB_st fc.2.1, bB_st fd.2.1, (z 0).2.1]
  have Cq : bC 252645135 (bB8 (bA8 a) + 256 * (bB8 (bA8 b) + 256 * (bB8 (bA8 c) + 256 * (bB8 (bA8 d) + 256 * 0)))) = bP8 a + 256 * (bP8 b + 256 * (bP8 c + 256 * (bP8 d + 256 * 0))) := by
    rw [show (252645135 : Nat) = 15 + 256 * (15 + 256 * (15 + 256 * (15 + 256 * 0))) by decide, bC_st fa.2.2.1 (by omega), bC_st fb.2.2.1 (by omega), bC_st fc.2.2.1 (by omega), bC_st fd.2.2.1 (by omega), (z 0).2.2]
    rfl
  rw [show a + 256 * (b + 256 * (c + 256 * d)) = a + 256 * (b + 256 * (c + 256 * (d + 256 * 0))) by omega, A, Bq, Cq]
  rfl
def bcN (n : Nat) : Nat := bC 252645135 (bB 858993459 (bA 1431655765 n))
theorem bcN_sum {n : Nat} (h : n < 4294967296) : ∃ s : Nat, s = bP8 (n % 256) + bP8 (n / 256 % 256) + bP8 (n / 65536 % 256) + bP8 (n / 16777216) ∧ s ≤ 32 ∧ bcN n < 4294967296 ∧ bcN n + bcN n / 256 < 4294967296 ∧ bcN n + bcN n / 256 + (bcN n + bcN n / 256) / 65536 < 4294967296 ∧ (bcN n + bcN n / 256 + (bcN n + bcN n / 256) / 65536) % 64 = s := by
  have fa := (b8_all ⟨n % 256, by omega⟩).1.2.2.2.2
  have fb := (b8_all ⟨n / 256 % 256, by omega⟩).1.2.2.2.2
  have fc := (b8_all ⟨n / 65536 % 256, by omega⟩).1.2.2.2.2
  have fd := (b8_all ⟨n / 16777216, by omega⟩).1.2.2.2.2
  simp only at fa fb fc fd
  have e : bcN n = bP8 (n % 256) + 256 * (bP8 (n / 256 % 256) + 256 * (bP8 (n / 65536 % 256) + 256 * bP8 (n / 16777216))) := by
    unfold bcN
    rw [← bAll (by omega) (by omega) (by omega) (by omega)]
    congr 3
    omega
  obtain ⟨a, ea⟩ : ∃ a, a = bP8 (n % 256) := ⟨_, rfl⟩
  obtain ⟨b, eb⟩ : ∃ b, b = bP8 (n / 256 % 256) := ⟨_, rfl⟩
  obtain ⟨c, ec⟩ : ∃ c, c = bP8 (n / 65536 % 256) := ⟨_, rfl⟩
  obtain ⟨d, ed⟩ : ∃ d, d = bP8 (n / 16777216) := ⟨_, rfl⟩
  rw [← ea] at fa
  rw [← eb] at fb
  rw [← ec] at fc
  rw [← ed] at fd
  rw [← ea, ← eb, ← ec, ← ed] at e ⊢
  obtain ⟨f, ef⟩ : ∃ f, f = bcN n := ⟨_, rfl⟩
  rw [← ef] at e ⊢
  have q1 : f / 256 = b + 256 * c + 65536 * d := by omega
  have q2 : f + f / 256 = (a + b) + 256 * (b + c) + 65536 * ((c + d) + 256 * d) := by omega
  have q3 : (f + f / 256) / 65536 = (c + d) + 256 * d := by omega
  have q4 : f + f / 256 + (f + f / 256) / 65536 = (a + b + c + d) + 64 * (4 * (b + c + d) + 1024 * ((c + d) + 256 * d)) := by omega
  refine ⟨_, rfl, by omega, by omega, by omega, by omega, ?_⟩
  rw [q4]
  omega
theorem bc_one {n : Nat} (h : n < 4294967296) (hs : bP8 (n % 256) + bP8 (n / 256 % 256) + bP8 (n / 65536 % 256) + bP8 (n / 16777216) ≤ 1) {i j : Nat} (hi : n.testBit i = true) (hj : n.testBit j = true) : i = j := by
  -- byte and bit of an index
  have tb : ∀ (b k : Nat), k < 8 → (n / 256 ^ b % 256).testBit k = n.testBit (8 * b + k) := fun b k hk => by
    rw [show (256 : Nat) = 2 ^ 8 by decide, Nat.testBit_mod_two_pow, ← Nat.pow_mul, ← Nat.shiftRight_eq_div_pow, Nat.testBit_shiftRight]
    simp [hk]
  have lt : ∀ k : Nat, n.testBit k = true → k < 32 := fun k hk => by
    by_cases c : k < 32
    · exact c
    · have : n < 2 ^ k := Nat.lt_of_lt_of_le h (by
        have : (2 : Nat) ^ 32 ≤ 2 ^ k := Nat.pow_le_pow_right (by decide) (by omega)
        exact this)
      rw [Nat.testBit_lt_two_pow this] at hk
      exact absurd hk (by decide)
  have hi9 := lt i hi
  have hj9 := lt j hj
  have ea : n / 256 ^ 0 % 256 = n % 256 := by rw [Nat.pow_zero, Nat.div_one]
  have eb : n / 256 ^ 1 % 256 = n / 256 % 256 := by rw [Nat.pow_one]
  have ec : n / 256 ^ 2 % 256 = n / 65536 % 256 := by rw [show (256 : Nat) ^ 2 = 65536 by decide]
  have ed : n / 256 ^ 3 % 256 = n / 16777216 := by rw [show (256 : Nat) ^ 3 = 16777216 by decide]; omega
  have nz : ∀ (b k : Nat), k < 8 → n.testBit (8 * b + k) = true → ¬ bP8 (n / 256 ^ b % 256) = 0 := fun b k hk ht z => by
    have q := (b8_all ⟨n / 256 ^ b % 256, by omega⟩).2 z
    simp only at q
    have t := tb b k hk
    rw [q, Nat.zero_testBit, ht] at t
    exact absurd t (by decide)
  have one : ∀ (b k l : Nat), k < 8 → l < 8 → bP8 (n / 256 ^ b % 256) ≤ 1 → n.testBit (8 * b + k) = true → n.testBit (8 * b + l) = true → k = l := fun b k l hk hl z t1 t2 => by
    have q := b8_one ⟨n / 256 ^ b % 256, by omega⟩ z ⟨k, hk⟩ ⟨l, hl⟩ (by simp only; rw [tb b k hk]; exact t1) (by simp only; rw [tb b l hl]; exact t2)
    exact congrArg Fin.val q
  have key : ∀ (b k c l : Nat), b < 4 → c < 4 → k < 8 → l < 8 → n.testBit (8 * b + k) = true → n.testBit (8 * c + l) = true → 8 * b + k = 8 * c + l := fun b k c l hb hc hk hl t1 t2 => by
    have n1 := nz b k hk t1
    have n2 := nz c l hl t2
    have e : b = c := by
      have b4 : b = 0 ∨ b = 1 ∨ b = 2 ∨ b = 3 := by omega
      have c4 : c = 0 ∨ c = 1 ∨ c = 2 ∨ c = 3 := by omega
      rcases b4 with rfl | rfl | rfl | rfl <;> rcases c4 with rfl | rfl | rfl | rfl <;> simp only [ea, eb, ec, ed] at n1 n2 <;> omega
    subst e
    have le : bP8 (n / 256 ^ b % 256) ≤ 1 := by
      have b4 : b = 0 ∨ b = 1 ∨ b = 2 ∨ b = 3 := by omega
      rcases b4 with rfl | rfl | rfl | rfl <;> simp only [ea, eb, ec, ed] <;> omega
    have := one b k l hk hl le t1 t2
    omega
  have r := key (i / 8) (i % 8) (j / 8) (j % 8) (by omega) (by omega) (by omega) (by omega) (by rw [show 8 * (i / 8) + i % 8 = i by omega]; exact hi) (by rw [show 8 * (j / 8) + j % 8 = j by omega]; exact hj)
  omega
def i32N (v : Int32) : Nat := v.toBitVec.toNat
theorem i32N_lt (v : Int32) : i32N v < 4294967296 := v.toBitVec.isLt
theorem i32N_and {a b : Int32} : i32N (a &&& b) = i32N a &&& i32N b := by
  unfold i32N
  rw [Int32.toBitVec_and, BitVec.toNat_and]
theorem i32N_add {a b : Int32} (h : i32N a + i32N b < 4294967296) : i32N (a + b) = i32N a + i32N b := by
  unfold i32N at h ⊢
  rw [Int32.toBitVec_add, BitVec.toNat_add]
  exact Nat.mod_eq_of_lt h
theorem i32N_sub {a b : Int32} (h : i32N b ≤ i32N a) : i32N (a - b) = i32N a - i32N b := by
  unfold i32N at h ⊢
  rw [Int32.toBitVec_sub, BitVec.toNat_sub_of_le h]
theorem i32N_us {a : Int32} {s : UInt32} {k : Nat} (hs : s.toNat % 32 = k) : i32N ((a.toUInt32 >>> s).toInt32) = i32N a / 2 ^ k := by
  unfold i32N
  show ((a.toUInt32 >>> s).toBitVec).toNat = _
  rw [UInt32.toBitVec_shiftRight]
  show (a.toBitVec >>> (s.toBitVec % 32)).toNat = _
  rw [BitVec.ushiftRight_eq', BitVec.toNat_ushiftRight, Nat.shiftRight_eq_div_pow]
  congr 2
theorem bc_bits {S : MS} {v : Int32} (h : (fJ6_bitCount_0f7a4 S v).toInt ≤ 1) {i j : Nat} (hi : btk v i = true) (hj : btk v j = true) : i = j := by
  obtain ⟨s, es, s32, c1, c2, c3, c4⟩ := bcN_sum (i32N_lt v)
  have nv := i32N_lt v
  obtain ⟨a, ea⟩ : ∃ a : Int32, a = v - (((v.toUInt32 >>> ((1 : Int32).toUInt32 &&& Int32.toUInt32 31)).toInt32) &&& (1431655765 : Int32)) := ⟨_, rfl⟩
  obtain ⟨b, eb⟩ : ∃ b : Int32, b = (a &&& (858993459 : Int32)) + (((a.toUInt32 >>> ((2 : Int32).toUInt32 &&& Int32.toUInt32 31)).toInt32) &&& (858993459 : Int32)) := ⟨_, rfl⟩
  obtain ⟨c, ec⟩ : ∃ c : Int32, c = (b + ((b.toUInt32 >>> ((4 : Int32).toUInt32 &&& Int32.toUInt32 31)).toInt32)) &&& (252645135 : Int32) := ⟨_, rfl⟩
  obtain ⟨d, ed⟩ : ∃ d : Int32, d = c + ((c.toUInt32 >>> ((8 : Int32).toUInt32 &&& Int32.toUInt32 31)).toInt32) := ⟨_, rfl⟩
  have ef : fJ6_bitCount_0f7a4 S v = (d + ((d.toUInt32 >>> ((16 : Int32).toUInt32 &&& Int32.toUInt32 31)).toInt32)) &&& (63 : Int32) := by
    rw [ed, ec, eb, ea]
    rfl
  have u1 := i32N_us (a := v) (s := (1 : Int32).toUInt32 &&& Int32.toUInt32 31) (k := 1) (by decide)
  have na : i32N a = bA 1431655765 (i32N v) := by
    have le : i32N v / 2 &&& 1431655765 ≤ i32N v := Nat.le_trans Nat.and_le_left (by omega)
    rw [ea, i32N_sub (by rw [i32N_and, u1]; exact le), i32N_and, u1]
    rfl
  have u2 := i32N_us (a := a) (s := (2 : Int32).toUInt32 &&& Int32.toUInt32 31) (k := 2) (by decide)
  have m3 : i32N (858993459 : Int32) = 858993459 := by decide
  have nb : i32N b = bB 858993459 (i32N a) := by
    have l1 : i32N a &&& 858993459 ≤ 858993459 := Nat.and_le_right
    have l2 : i32N a / 2 ^ 2 &&& 858993459 ≤ 858993459 := Nat.and_le_right
    rw [eb, i32N_add (by rw [i32N_and, i32N_and, u2, m3]; omega), i32N_and, i32N_and, u2, m3]
    rfl
  have u4 := i32N_us (a := b) (s := (4 : Int32).toUInt32 &&& Int32.toUInt32 31) (k := 4) (by decide)
  have bl : i32N b ≤ 1717986918 := by
    have l1 : i32N a &&& 858993459 ≤ 858993459 := Nat.and_le_right
    have l2 : i32N a / 4 &&& 858993459 ≤ 858993459 := Nat.and_le_right
    rw [nb]
    unfold bB
    omega
  have nc : i32N c = bC 252645135 (i32N b) := by
    rw [ec, i32N_and, i32N_add (by rw [u4]; omega), u4]
    rfl
  have ncN : i32N c = bcN (i32N v) := by rw [nc, nb, na]; rfl
  have u8 := i32N_us (a := c) (s := (8 : Int32).toUInt32 &&& Int32.toUInt32 31) (k := 8) (by decide)
  have nd : i32N d = bcN (i32N v) + bcN (i32N v) / 256 := by
    rw [ed, i32N_add (by rw [u8, ncN]; omega), u8, ncN]
  have u16 := i32N_us (a := d) (s := (16 : Int32).toUInt32 &&& Int32.toUInt32 31) (k := 16) (by decide)
  have nf : i32N (fJ6_bitCount_0f7a4 S v) = s := by
    rw [ef, i32N_and, i32N_add (by rw [u16, nd]; exact c3), u16, nd, show i32N (63 : Int32) = 2 ^ 6 - 1 by decide, Nat.and_two_pow_sub_one_eq_mod]
    exact c4
  have ht : (fJ6_bitCount_0f7a4 S v).toInt = (s : Int) := by
    rw [← Int32.toInt_toBitVec, BitVec.toInt_eq_toNat_of_lt (by
      have : (fJ6_bitCount_0f7a4 S v).toBitVec.toNat = s := nf
      omega)]
    exact congrArg Int.ofNat nf
  exact bc_one (i32N_lt v) (by omega) hi hj
theorem tz_one {S : MS} : ∀ j : Fin 31, (fJ6_numberOfTrailingZeros_0f7a4 S ((1 : Int32) <<< (Int32.ofNat j.val))).toInt = (j.val : Int) := by
  intro j
  have : ∀ j : Fin 31, (fJ6_numberOfTrailingZeros_0f7a4 S ((1 : Int32) <<< (Int32.ofNat j.val))).toInt = (j.val : Int) := by
    unfold fJ6_numberOfTrailingZeros_0f7a4 f_J6_numberOfTrailingZeros_0f7a4_J34 f_J6_numberOfTrailingZeros_0f7a4_J49 f_J6_numberOfTrailingZeros_0f7a4_J62 f_J6_numberOfTrailingZeros_0f7a4_J74
    decide +kernel
  exact this j
/-- the one bit of a number -/
theorem tz_bit {S : MS} {v : Int32} {j : Nat} (hj : j ≤ 30) (h : btk v j = true) (ho : ∀ k : Nat, btk v k = true → k = j) : (fJ6_numberOfTrailingZeros_0f7a4 S v).toInt = (j : Int) := by
  have e : v = (1 : Int32) <<< (Int32.ofNat j) := by
    have b1 : ∀ j : Fin 31, ∀ k : Fin 32, btk ((1 : Int32) <<< (Int32.ofNat j.val)) k.val = decide (k.val = j.val) := by decide +kernel
    apply bt_extk
    intro k hk
    rw [b1 ⟨j, by omega⟩ ⟨k, hk⟩]
    by_cases z : btk v k = true
    · rw [z, decide_eq_true (ho k z)]
    · rw [Bool.eq_false_iff.mpr z]
      symm
      apply decide_eq_false
      intro q
      have q' : k = j := q
      exact z (by rw [q']; exact h)
  rw [e]
  exact tz_one ⟨j, by omega⟩
/-! Checker's stack keeps its bounds (laid by tp6.py) -/
def TpI (S : MS) : Prop := 0 ≤ (qI S 16 5).toInt ∧ (qI S 16 5).toInt ≤ 24
def tpR (S u : MS) : Prop := TpI S → TpI u
section TPR
variable {K : List Nat} {F : List (Nat × Nat)} {S u v U : MS} {x : Int32}
theorem tpR.rf : tpR S S := fun h => h
theorem tpR.tr (h : tpR S u) (k : tpR u v) : tpR S v := fun q => k (h q)
theorem tpR.of (w : wfC S) (f : cfr K F S u) (hK : K.contains 41 = false) (hF : F.contains (41, 5) = false) : tpR S u := fun q => by
  unfold TpI
  rw [f.kI w.k16 hK hF]
  exact q
theorem tp_pop {Q : Int32 → MS → Prop} (w : wfC S) (h : wX1_pop S Q) : wX1_pop S (fun r u => Q r u ∧ tpR S u) := by
  unfold wX1_pop at h ⊢
  refine ⟨fun c => ⟨h.1 c, tpR.rf⟩, fun c => ⟨fun d S4 e4 k4 w4 => ?_, fun d => ⟨(h.2 c).2 d, tpR.rf⟩⟩⟩
  obtain ⟨b, q⟩ := (h.2 c).1 d S4 e4 k4 w4
  refine ⟨b, q, fun _ => ?_⟩
  unfold TpI
  have l1 : (1 : Int32).toInt = 1 := by decide
  rw [e4, qI_wI, if_pos ⟨rfl, rfl⟩, t_subk (by rw [l1]; omega), l1]
  omega
theorem tp_push {Q : MS → Prop} (w : wfC S) (h : wX1_push S x Q) : wX1_push S x (fun u => Q u ∧ tpR S u) := by
  unfold wX1_push at h ⊢
  refine ⟨fun c => ⟨h.1 c, tpR.rf⟩, fun c => ⟨fun d => ⟨(h.2 c).1 d, tpR.rf⟩, fun d => ?_⟩⟩
  obtain ⟨b, q⟩ := (h.2 c).2 d
  refine ⟨b, fun S5 e5 k5 w5 S7 e7 k7 w7 => ⟨q S5 e5 k5 w5 S7 e7 k7 w7, fun _ => ?_⟩⟩
  have l1 : (1 : Int32).toInt = 1 := by decide
  have e : qI S5 16 5 = qI S 16 5 := by rw [e5, qI_wI, if_neg (fun t => by cases t.1)]
  unfold TpI
  rw [e7, qI_wI, if_pos ⟨rfl, rfl⟩, e, t_addk (by rw [l1]; omega), l1]
  omega
end TPR
set_option maxRecDepth 100000 in
theorem tp_X1_give_J12 {S0 : MS} {Q : MS → Prop} {U12 : MS} {v12_1 : Int32} (f : tpR S0 U12) (h : w_X1_give_J12 Q U12 v12_1) : w_X1_give_J12 (fun u => Q u ∧ tpR S0 u) U12 v12_1 := by
  unfold w_X1_give_J12 at h ⊢
  intro y1_
  replace h := h y1_
  refine ⟨fun c => ?_, fun c => ?_⟩
  · replace h := h.1 c
    obtain ⟨Q9, h0, h⟩ := h
    refine ⟨_, tp_push y1_ h0, ?_⟩
    intro S3 q2_ y3_ y4_
    replace h := h S3 q2_.1 y3_ y4_
    replace f := f.tr q2_.2
    exact ⟨h, f⟩
  · replace h := h.2 c
    exact ⟨h, f⟩
set_option maxRecDepth 100000 in
theorem tpX1_give {S : MS} {x1 : Int32} {Q : MS → Prop} (hw : wfC S) (h : wX1_give S x1 Q) : wX1_give S x1 (fun u => Q u ∧ tpR S u) := by
  have f : tpR S S := tpR.rf
  unfold wX1_give at h ⊢
  refine ⟨fun c => ?_, fun c => ?_⟩
  · replace h := h.1 c
    exact tp_X1_give_J12 f h
  · replace h := h.2 c
    refine ⟨h.1, ?_⟩
    replace h := h.2
    intro a9 ea9 
    replace h := h a9 ea9 
    obtain ⟨Q9, h0, h⟩ := h
    refine ⟨_, tp_push hw h0, ?_⟩
    intro S11 q5_ y6_ y7_
    replace h := h S11 q5_.1 y6_ y7_
    replace f := f.tr q5_.2
    exact tp_X1_give_J12 f h
set_option maxRecDepth 100000 in
theorem tp_X1_load_J95 {S0 : MS} {Q : MS → Prop} {U95 : MS} {t95_0 : Int32} {t95_1 : Int32} {v95_1 : Int32} (f : tpR S0 U95) (h : w_X1_load_J95 Q U95 t95_0 t95_1 v95_1) : w_X1_load_J95 (fun u => Q u ∧ tpR S0 u) U95 t95_0 t95_1 v95_1 := by
  unfold w_X1_load_J95 at h ⊢
  intro y1_ y2_
  replace h := h y1_ y2_
  refine ⟨h.1, ?_⟩
  replace h := h.2
  intro S9 eS9 y3_ y4_
  replace h := h S9 eS9 y3_ y4_
  replace f := f.tr (show tpR U95 S9 by rw [eS9]; exact tpR.of (K := []) (F := [(41, 6)]) y1_ (cfr.oI y3_ (by decide)) rfl rfl)
  refine ⟨h.1, ?_⟩
  replace h := h.2
  intro a13 ea13 
  replace h := h a13 ea13 
  obtain ⟨Q9, h0, h⟩ := h
  refine ⟨_, tpX1_give y4_ h0, ?_⟩
  intro S15 q5_ y6_ y7_
  replace h := h S15 q5_.1 y6_ y7_
  replace f := f.tr q5_.2
  exact ⟨h, f⟩
set_option maxRecDepth 100000 in
theorem tp_X1_load_J90 {S0 : MS} {Q : MS → Prop} {U90 : MS} {t90_0 : Int32} {v90_1 : Int32} (f : tpR S0 U90) (h : w_X1_load_J90 Q U90 t90_0 v90_1) : w_X1_load_J90 (fun u => Q u ∧ tpR S0 u) U90 t90_0 v90_1 := by
  unfold w_X1_load_J90 at h ⊢
  intro y8_
  replace h := h y8_
  exact tp_X1_load_J95 f h
set_option maxRecDepth 100000 in
theorem tp_X1_load_J29 {S0 : MS} {Q : MS → Prop} {U29 : MS} {t29_0 : Int32} {t29_1 : Int32} {v29_3 : Int32} (f : tpR S0 U29) (h : w_X1_load_J29 Q U29 t29_0 t29_1 v29_3) : w_X1_load_J29 (fun u => Q u ∧ tpR S0 u) U29 t29_0 t29_1 v29_3 := by
  unfold w_X1_load_J29 at h ⊢
  intro y9_ y10_
  replace h := h y9_ y10_
  refine ⟨h.1, ?_⟩
  replace h := h.2
  intro S33 eS33 y11_ y12_
  replace h := h S33 eS33 y11_ y12_
  replace f := f.tr (show tpR U29 S33 by rw [eS33]; exact tpR.of (K := []) (F := [(41, 6)]) y9_ (cfr.oI y11_ (by decide)) rfl rfl)
  refine ⟨h.1, ?_⟩
  replace h := h.2
  intro a37 ea37 
  replace h := h a37 ea37 
  refine ⟨fun c => ?_, fun c => ?_⟩
  · replace h := h.1 c
    obtain ⟨Q9, h0, h⟩ := h
    refine ⟨_, tp_push y12_ h0, ?_⟩
    intro S40 q13_ y14_ y15_
    replace h := h S40 q13_.1 y14_ y15_
    replace f := f.tr q13_.2
    exact ⟨h, f⟩
  · replace h := h.2 c
    obtain ⟨Q9, h0, h⟩ := h
    refine ⟨_, tp_push y12_ h0, ?_⟩
    intro S43 q16_ y17_ y18_
    replace h := h S43 q16_.1 y17_ y18_
    replace f := f.tr q16_.2
    exact ⟨h, f⟩
set_option maxRecDepth 100000 in
theorem tpX1_load {S : MS} {x1 : Int32} {x2 : Int32} {Q : MS → Prop} (hw : wfC S) (h : wX1_load S x1 x2 Q) : wX1_load S x1 x2 (fun u => Q u ∧ tpR S u) := by
  have f : tpR S S := tpR.rf
  unfold wX1_load at h ⊢
  refine ⟨h.1, ?_⟩
  replace h := h.2
  intro a4 ea4 
  replace h := h a4 ea4 
  refine ⟨fun c => ?_, fun c => ?_⟩
  · replace h := h.1 c
    refine ⟨h.1, ?_⟩
    replace h := h.2
    intro a30 ea30 
    replace h := h a30 ea30 
    refine ⟨fun c => ?_, fun c => ?_⟩
    · replace h := h.1 c
      exact tp_X1_load_J29 f h
    · replace h := h.2 c
      exact tp_X1_load_J29 f h
  · replace h := h.2 c
    refine ⟨fun c => ?_, fun c => ?_⟩
    · replace h := h.1 c
      refine ⟨fun c => ?_, fun c => ?_⟩
      · replace h := h.1 c
        exact tp_X1_load_J95 f h
      · replace h := h.2 c
        exact tp_X1_load_J95 f h
    · replace h := h.2 c
      refine ⟨fun c => ?_, fun c => ?_⟩
      · replace h := h.1 c
        refine ⟨h.1, ?_⟩
        replace h := h.2
        intro a23 ea23 
        replace h := h a23 ea23 
        refine ⟨fun c => ?_, fun c => ?_⟩
        · replace h := h.1 c
          exact tp_X1_load_J95 f h
        · replace h := h.2 c
          exact tp_X1_load_J90 f h
      · replace h := h.2 c
        exact tp_X1_load_J90 f h
set_option maxRecDepth 100000 in
theorem tp_X1_take_J55 {S0 : MS} {Q : Int32 → MS → Prop} {U55 : MS} {t55_0 : Int32} {t55_1 : Int32} {v55_2 : Int32} (f : tpR S0 U55) (h : w_X1_take_J55 Q U55 t55_0 t55_1 v55_2) : w_X1_take_J55 (fun r u => Q r u ∧ tpR S0 u) U55 t55_0 t55_1 v55_2 := by
  unfold w_X1_take_J55 at h ⊢
  intro y1_ y2_
  replace h := h y1_ y2_
  refine ⟨h.1, ?_⟩
  replace h := h.2
  intro S8 eS8 y3_ y4_
  replace h := h S8 eS8 y3_ y4_
  replace f := f.tr (show tpR U55 S8 by rw [eS8]; exact tpR.of (K := []) (F := [(41, 6)]) y1_ (cfr.oI y3_ (by decide)) rfl rfl)
  exact ⟨h, f⟩
set_option maxRecDepth 100000 in
theorem tp_X1_take_J90 {S0 : MS} {Q : Int32 → MS → Prop} {U90 : MS} {t90_0 : Int32} {t90_1 : Int32} {t90_2 : Int32} {v90_2 : Int32} (f : tpR S0 U90) (h : w_X1_take_J90 Q U90 t90_0 t90_1 t90_2 v90_2) : w_X1_take_J90 (fun r u => Q r u ∧ tpR S0 u) U90 t90_0 t90_1 t90_2 v90_2 := by
  unfold w_X1_take_J90 at h ⊢
  intro y5_ y6_
  replace h := h y5_ y6_
  refine ⟨h.1, ?_⟩
  replace h := h.2
  intro S18 eS18 y7_ y8_
  replace h := h S18 eS18 y7_ y8_
  replace f := f.tr (show tpR U90 S18 by rw [eS18]; exact tpR.of (K := []) (F := [(41, 6)]) y5_ (cfr.oI y7_ (by decide)) rfl rfl)
  exact ⟨h, f⟩
set_option maxRecDepth 100000 in
theorem tp_X1_take_J77 {S0 : MS} {Q : Int32 → MS → Prop} {U77 : MS} {t77_0 : Int32} {t77_1 : Int32} {v77_2 : Int32} (f : tpR S0 U77) (h : w_X1_take_J77 Q U77 t77_0 t77_1 v77_2) : w_X1_take_J77 (fun r u => Q r u ∧ tpR S0 u) U77 t77_0 t77_1 v77_2 := by
  unfold w_X1_take_J77 at h ⊢
  intro y9_ y10_
  replace h := h y9_ y10_
  obtain ⟨Q9, h0, h⟩ := h
  refine ⟨_, tp_pop y9_ h0, ?_⟩
  intro r12 S13 q11_ y12_ y13_
  replace h := h r12 S13 q11_.1 y12_ y13_
  replace f := f.tr q11_.2
  refine ⟨fun c => ?_, fun c => ?_⟩
  · replace h := h.1 c
    exact tp_X1_take_J90 f h
  · replace h := h.2 c
    exact tp_X1_take_J90 f h
set_option maxRecDepth 100000 in
theorem tp_X1_take_J119 {S0 : MS} {Q : Int32 → MS → Prop} {U119 : MS} {t119_0 : Int32} {t119_1 : Int32} {v119_2 : Int32} (f : tpR S0 U119) (h : w_X1_take_J119 Q U119 t119_0 t119_1 v119_2) : w_X1_take_J119 (fun r u => Q r u ∧ tpR S0 u) U119 t119_0 t119_1 v119_2 := by
  unfold w_X1_take_J119 at h ⊢
  intro y14_ y15_
  replace h := h y14_ y15_
  refine ⟨h.1, ?_⟩
  replace h := h.2
  intro S24 eS24 y16_ y17_
  replace h := h S24 eS24 y16_ y17_
  replace f := f.tr (show tpR U119 S24 by rw [eS24]; exact tpR.of (K := []) (F := [(41, 6)]) y14_ (cfr.oI y16_ (by decide)) rfl rfl)
  exact ⟨h, f⟩
set_option maxRecDepth 100000 in
theorem tp_X1_take_J118 {S0 : MS} {Q : Int32 → MS → Prop} {U118 : MS} {t118_0 : Int32} {v118_2 : Int32} (f : tpR S0 U118) (h : w_X1_take_J118 Q U118 t118_0 v118_2) : w_X1_take_J118 (fun r u => Q r u ∧ tpR S0 u) U118 t118_0 v118_2 := by
  unfold w_X1_take_J118 at h ⊢
  intro y18_
  replace h := h y18_
  exact tp_X1_take_J119 f h
set_option maxRecDepth 100000 in
theorem tp_X1_take_J171 {S0 : MS} {Q : Int32 → MS → Prop} {U171 : MS} {t171_0 : Int32} {t171_1 : Int32} {v171_2 : Int32} (f : tpR S0 U171) (h : w_X1_take_J171 Q U171 t171_0 t171_1 v171_2) : w_X1_take_J171 (fun r u => Q r u ∧ tpR S0 u) U171 t171_0 t171_1 v171_2 := by
  unfold w_X1_take_J171 at h ⊢
  intro y19_ y20_
  replace h := h y19_ y20_
  refine ⟨h.1, ?_⟩
  replace h := h.2
  intro S33 eS33 y21_ y22_
  replace h := h S33 eS33 y21_ y22_
  replace f := f.tr (show tpR U171 S33 by rw [eS33]; exact tpR.of (K := []) (F := [(41, 6)]) y19_ (cfr.oI y21_ (by decide)) rfl rfl)
  exact ⟨h, f⟩
set_option maxRecDepth 100000 in
theorem tp_X1_take_J147 {S0 : MS} {Q : Int32 → MS → Prop} {U147 : MS} {t147_0 : Int32} {t147_1 : Int32} {v147_2 : Int32} (f : tpR S0 U147) (h : w_X1_take_J147 Q U147 t147_0 t147_1 v147_2) : w_X1_take_J147 (fun r u => Q r u ∧ tpR S0 u) U147 t147_0 t147_1 v147_2 := by
  unfold w_X1_take_J147 at h ⊢
  intro y23_ y24_
  replace h := h y23_ y24_
  refine ⟨h.1, ?_⟩
  replace h := h.2
  intro S38 eS38 y25_ y26_
  replace h := h S38 eS38 y25_ y26_
  replace f := f.tr (show tpR U147 S38 by rw [eS38]; exact tpR.of (K := []) (F := [(41, 6)]) y23_ (cfr.oI y25_ (by decide)) rfl rfl)
  exact ⟨h, f⟩
set_option maxRecDepth 100000 in
theorem tp_X1_take_J146 {S0 : MS} {Q : Int32 → MS → Prop} {U146 : MS} {t146_0 : Int32} {v146_2 : Int32} (f : tpR S0 U146) (h : w_X1_take_J146 Q U146 t146_0 v146_2) : w_X1_take_J146 (fun r u => Q r u ∧ tpR S0 u) U146 t146_0 v146_2 := by
  unfold w_X1_take_J146 at h ⊢
  intro y27_
  replace h := h y27_
  exact tp_X1_take_J147 f h
set_option maxRecDepth 100000 in
theorem tp_X1_take_J195 {S0 : MS} {Q : Int32 → MS → Prop} {U195 : MS} {t195_0 : Int32} {t195_1 : Int32} {v195_2 : Int32} (f : tpR S0 U195) (h : w_X1_take_J195 Q U195 t195_0 t195_1 v195_2) : w_X1_take_J195 (fun r u => Q r u ∧ tpR S0 u) U195 t195_0 t195_1 v195_2 := by
  unfold w_X1_take_J195 at h ⊢
  intro y28_ y29_
  replace h := h y28_ y29_
  refine ⟨h.1, ?_⟩
  replace h := h.2
  intro S47 eS47 y30_ y31_
  replace h := h S47 eS47 y30_ y31_
  replace f := f.tr (show tpR U195 S47 by rw [eS47]; exact tpR.of (K := []) (F := [(41, 6)]) y28_ (cfr.oI y30_ (by decide)) rfl rfl)
  exact ⟨h, f⟩
set_option maxRecDepth 100000 in
theorem tpX1_take {S : MS} {x1 : Int32} {Q : Int32 → MS → Prop} (hw : wfC S) (h : wX1_take S x1 Q) : wX1_take S x1 (fun r u => Q r u ∧ tpR S u) := by
  have f : tpR S S := tpR.rf
  unfold wX1_take at h ⊢
  obtain ⟨Q9, h0, h⟩ := h
  refine ⟨_, tp_pop hw h0, ?_⟩
  intro r2 S3 q32_ y33_ y34_
  replace h := h r2 S3 q32_.1 y33_ y34_
  replace f := f.tr q32_.2
  refine ⟨fun c => ?_, fun c => ?_⟩
  · replace h := h.1 c
    refine ⟨fun c => ?_, fun c => ?_⟩
    · replace h := h.1 c
      exact tp_X1_take_J55 f h
    · replace h := h.2 c
      exact tp_X1_take_J55 f h
  · replace h := h.2 c
    refine ⟨fun c => ?_, fun c => ?_⟩
    · replace h := h.1 c
      refine ⟨fun c => ?_, fun c => ?_⟩
      · replace h := h.1 c
        exact tp_X1_take_J77 f h
      · replace h := h.2 c
        exact tp_X1_take_J77 f h
    · replace h := h.2 c
      refine ⟨fun c => ?_, fun c => ?_⟩
      · replace h := h.1 c
        refine ⟨fun c => ?_, fun c => ?_⟩
        · replace h := h.1 c
          exact tp_X1_take_J118 f h
        · replace h := h.2 c
          refine ⟨fun c => ?_, fun c => ?_⟩
          · replace h := h.1 c
            exact tp_X1_take_J118 f h
          · replace h := h.2 c
            exact tp_X1_take_J119 f h
      · replace h := h.2 c
        refine ⟨fun c => ?_, fun c => ?_⟩
        · replace h := h.1 c
          refine ⟨h.1, ?_⟩
          replace h := h.2
          refine ⟨fun c => ?_, fun c => ?_⟩
          · replace h := h.1 c
            exact tp_X1_take_J171 f h
          · replace h := h.2 c
            exact tp_X1_take_J171 f h
        · replace h := h.2 c
          refine ⟨fun c => ?_, fun c => ?_⟩
          · replace h := h.1 c
            refine ⟨fun c => ?_, fun c => ?_⟩
            · replace h := h.1 c
              exact tp_X1_take_J146 f h
            · replace h := h.2 c
              refine ⟨fun c => ?_, fun c => ?_⟩
              · replace h := h.1 c
                exact tp_X1_take_J146 f h
              · replace h := h.2 c
                exact tp_X1_take_J147 f h
          · replace h := h.2 c
            refine ⟨h.1, ?_⟩
            replace h := h.2
            refine ⟨fun c => ?_, fun c => ?_⟩
            · replace h := h.1 c
              exact tp_X1_take_J195 f h
            · replace h := h.2 c
              exact tp_X1_take_J195 f h
set_option maxRecDepth 100000 in
theorem tpX1_takeCopy {S : MS} {Q : Int32 → MS → Prop} (hw : wfC S) (h : wX1_takeCopy S Q) : wX1_takeCopy S (fun r u => Q r u ∧ tpR S u) := by
  have f : tpR S S := tpR.rf
  unfold wX1_takeCopy at h ⊢
  obtain ⟨Q9, h0, h⟩ := h
  refine ⟨_, tpX1_take hw h0, ?_⟩
  intro r2 S3 q1_ y2_ y3_
  replace h := h r2 S3 q1_.1 y2_ y3_
  replace f := f.tr q1_.2
  refine ⟨h.1, ?_⟩
  replace h := h.2
  refine ⟨fun c => ?_, fun c => ?_⟩
  · replace h := h.1 c
    exact ⟨h, f⟩
  · replace h := h.2 c
    exact ⟨h, f⟩
set_option maxRecDepth 100000 in
theorem tp_X1_shuffle_J65 {S0 : MS} {Q : MS → Prop} {U65 : MS} {t65_0 : Int32} {v65_1 : Int32} {v65_2 : Int32} (f : tpR S0 U65) (h : w_X1_shuffle_J65 Q U65 t65_0 v65_1 v65_2) : w_X1_shuffle_J65 (fun u => Q u ∧ tpR S0 u) U65 t65_0 v65_1 v65_2 := by
  unfold w_X1_shuffle_J65 at h ⊢
  intro y1_
  replace h := h y1_
  refine ⟨fun c => ?_, fun c => ?_⟩
  · replace h := h.1 c
    obtain ⟨Q9, h0, h⟩ := h
    refine ⟨_, tp_push y1_ h0, ?_⟩
    intro S6 q2_ y3_ y4_
    replace h := h S6 q2_.1 y3_ y4_
    replace f := f.tr q2_.2
    obtain ⟨Q9, h0, h⟩ := h
    refine ⟨_, tp_push y3_ h0, ?_⟩
    intro S9 q5_ y6_ y7_
    replace h := h S9 q5_.1 y6_ y7_
    replace f := f.tr q5_.2
    exact ⟨h, f⟩
  · replace h := h.2 c
    refine ⟨fun c => ?_, fun c => ?_⟩
    · replace h := h.1 c
      obtain ⟨Q9, h0, h⟩ := h
      refine ⟨_, tp_push y1_ h0, ?_⟩
      intro S12 q8_ y9_ y10_
      replace h := h S12 q8_.1 y9_ y10_
      replace f := f.tr q8_.2
      obtain ⟨Q9, h0, h⟩ := h
      refine ⟨_, tp_push y9_ h0, ?_⟩
      intro S15 q11_ y12_ y13_
      replace h := h S15 q11_.1 y12_ y13_
      replace f := f.tr q11_.2
      obtain ⟨Q9, h0, h⟩ := h
      refine ⟨_, tp_push y12_ h0, ?_⟩
      intro S18 q14_ y15_ y16_
      replace h := h S18 q14_.1 y15_ y16_
      replace f := f.tr q14_.2
      exact ⟨h, f⟩
    · replace h := h.2 c
      refine ⟨fun c => ?_, fun c => ?_⟩
      · replace h := h.1 c
        exact ⟨h, f⟩
      · replace h := h.2 c
        refine ⟨fun c => ?_, fun c => ?_⟩
        · replace h := h.1 c
          obtain ⟨Q9, h0, h⟩ := h
          refine ⟨_, tp_push y1_ h0, ?_⟩
          intro S21 q17_ y18_ y19_
          replace h := h S21 q17_.1 y18_ y19_
          replace f := f.tr q17_.2
          obtain ⟨Q9, h0, h⟩ := h
          refine ⟨_, tp_push y18_ h0, ?_⟩
          intro S24 q20_ y21_ y22_
          replace h := h S24 q20_.1 y21_ y22_
          replace f := f.tr q20_.2
          obtain ⟨Q9, h0, h⟩ := h
          refine ⟨_, tp_push y21_ h0, ?_⟩
          intro S27 q23_ y24_ y25_
          replace h := h S27 q23_.1 y24_ y25_
          replace f := f.tr q23_.2
          obtain ⟨Q9, h0, h⟩ := h
          refine ⟨_, tp_push y24_ h0, ?_⟩
          intro S30 q26_ y27_ y28_
          replace h := h S30 q26_.1 y27_ y28_
          replace f := f.tr q26_.2
          exact ⟨h, f⟩
        · replace h := h.2 c
          refine ⟨fun c => ?_, fun c => ?_⟩
          · replace h := h.1 c
            exact ⟨h, f⟩
          · replace h := h.2 c
            refine ⟨fun c => ?_, fun c => ?_⟩
            · replace h := h.1 c
              exact ⟨h, f⟩
            · replace h := h.2 c
              refine ⟨fun c => ?_, fun c => ?_⟩
              · replace h := h.1 c
                obtain ⟨Q9, h0, h⟩ := h
                refine ⟨_, tp_push y1_ h0, ?_⟩
                intro S33 q29_ y30_ y31_
                replace h := h S33 q29_.1 y30_ y31_
                replace f := f.tr q29_.2
                obtain ⟨Q9, h0, h⟩ := h
                refine ⟨_, tp_push y30_ h0, ?_⟩
                intro S36 q32_ y33_ y34_
                replace h := h S36 q32_.1 y33_ y34_
                replace f := f.tr q32_.2
                exact ⟨h, f⟩
              · replace h := h.2 c
                exact ⟨h, f⟩
set_option maxRecDepth 100000 in
theorem tp_X1_shuffle_J57 {S0 : MS} {Q : MS → Prop} {U57 : MS} {v57_1 : Int32} {v57_2 : Int32} (f : tpR S0 U57) (h : w_X1_shuffle_J57 Q U57 v57_1 v57_2) : w_X1_shuffle_J57 (fun u => Q u ∧ tpR S0 u) U57 v57_1 v57_2 := by
  unfold w_X1_shuffle_J57 at h ⊢
  intro y35_
  replace h := h y35_
  exact tp_X1_shuffle_J65 f h
set_option maxRecDepth 100000 in
theorem tp_X1_shuffle_J40 {S0 : MS} {Q : MS → Prop} {U40 : MS} {v40_1 : Int32} (f : tpR S0 U40) (h : w_X1_shuffle_J40 Q U40 v40_1) : w_X1_shuffle_J40 (fun u => Q u ∧ tpR S0 u) U40 v40_1 := by
  unfold w_X1_shuffle_J40 at h ⊢
  intro y36_
  replace h := h y36_
  obtain ⟨Q9, h0, h⟩ := h
  refine ⟨_, tpX1_takeCopy y36_ h0, ?_⟩
  intro r2 S3 q37_ y38_ y39_
  replace h := h r2 S3 q37_.1 y38_ y39_
  replace f := f.tr q37_.2
  refine ⟨fun c => ?_, fun c => ?_⟩
  · replace h := h.1 c
    exact tp_X1_shuffle_J57 f h
  · replace h := h.2 c
    refine ⟨fun c => ?_, fun c => ?_⟩
    · replace h := h.1 c
      exact tp_X1_shuffle_J57 f h
    · replace h := h.2 c
      obtain ⟨Q9, h0, h⟩ := h
      refine ⟨_, tpX1_takeCopy y38_ h0, ?_⟩
      intro r41 S42 q40_ y41_ y42_
      replace h := h r41 S42 q40_.1 y41_ y42_
      replace f := f.tr q40_.2
      exact tp_X1_shuffle_J65 f h
set_option maxRecDepth 100000 in
theorem tp_X1_shuffle_J12 {S0 : MS} {Q : MS → Prop} {U12 : MS} {v12_1 : Int32} (f : tpR S0 U12) (h : w_X1_shuffle_J12 Q U12 v12_1) : w_X1_shuffle_J12 (fun u => Q u ∧ tpR S0 u) U12 v12_1 := by
  unfold w_X1_shuffle_J12 at h ⊢
  intro y43_
  replace h := h y43_
  refine ⟨h.1, ?_⟩
  replace h := h.2
  refine ⟨fun c => ?_, fun c => ?_⟩
  · replace h := h.1 c
    exact tp_X1_shuffle_J40 f h
  · replace h := h.2 c
    refine ⟨fun c => ?_, fun c => ?_⟩
    · replace h := h.1 c
      obtain ⟨Q9, h0, h⟩ := h
      refine ⟨_, tpX1_take y43_ h0, ?_⟩
      intro r53 S54 q44_ y45_ y46_
      replace h := h r53 S54 q44_.1 y45_ y46_
      replace f := f.tr q44_.2
      exact ⟨h, f⟩
    · replace h := h.2 c
      obtain ⟨Q9, h0, h⟩ := h
      refine ⟨_, tpX1_give y43_ h0, ?_⟩
      intro S50 q47_ y48_ y49_
      replace h := h S50 q47_.1 y48_ y49_
      replace f := f.tr q47_.2
      exact ⟨h, f⟩
set_option maxRecDepth 100000 in
theorem tpX1_shuffle {S : MS} {x1 : Int32} {Q : MS → Prop} (hw : wfC S) (h : wX1_shuffle S x1 Q) : wX1_shuffle S x1 (fun u => Q u ∧ tpR S u) := by
  have f : tpR S S := tpR.rf
  unfold wX1_shuffle at h ⊢
  refine ⟨fun c => ?_, fun c => ?_⟩
  · replace h := h.1 c
    exact tp_X1_shuffle_J12 f h
  · replace h := h.2 c
    refine ⟨fun c => ?_, fun c => ?_⟩
    · replace h := h.1 c
      exact tp_X1_shuffle_J12 f h
    · replace h := h.2 c
      exact tp_X1_shuffle_J40 f h
set_option maxRecDepth 100000 in
theorem tp_X1_store_J67 {S0 : MS} {Q : MS → Prop} {U67 : MS} {v67_1 : Int32} {v67_2 : Int32} {v67_3 : Int32} {v67_4 : Int32} (f : tpR S0 U67) (h : w_X1_store_J67 Q U67 v67_1 v67_2 v67_3 v67_4) : w_X1_store_J67 (fun u => Q u ∧ tpR S0 u) U67 v67_1 v67_2 v67_3 v67_4 := by
  unfold w_X1_store_J67 at h ⊢
  intro y1_
  replace h := h y1_
  refine ⟨fun c => ?_, fun c => ?_⟩
  · replace h := h.1 c
    refine ⟨h.1, ?_⟩
    replace h := h.2
    intro a31 ea31 
    replace h := h a31 ea31 
    refine ⟨fun c => ?_, fun c => ?_⟩
    · replace h := h.1 c
      obtain ⟨Q9, h0, h⟩ := h
      refine ⟨_, frX1_setPlace y1_ h0, ?_⟩
      intro S34 q2_ y3_ y4_
      replace h := h S34 q2_.1 y3_ y4_
      replace f := f.tr (tpR.of y1_ q2_.2 rfl rfl)
      exact ⟨h, f⟩
    · replace h := h.2 c
      obtain ⟨Q9, h0, h⟩ := h
      refine ⟨_, frX1_setPlace y1_ h0, ?_⟩
      intro S37 q5_ y6_ y7_
      replace h := h S37 q5_.1 y6_ y7_
      replace f := f.tr (tpR.of y1_ q5_.2 rfl rfl)
      exact ⟨h, f⟩
  · replace h := h.2 c
    refine ⟨h.1, ?_⟩
    replace h := h.2
    intro a19 ea19 
    replace h := h a19 ea19 
    obtain ⟨Q9, h0, h⟩ := h
    refine ⟨_, frX1_setPlace y1_ h0, ?_⟩
    intro S21 q8_ y9_ y10_
    replace h := h S21 q8_.1 y9_ y10_
    replace f := f.tr (tpR.of y1_ q8_.2 rfl rfl)
    refine ⟨fun c => ?_, fun c => ?_⟩
    · replace h := h.1 c
      obtain ⟨Q9, h0, h⟩ := h
      refine ⟨_, frX1_setPlace y9_ h0, ?_⟩
      intro S26 q11_ y12_ y13_
      replace h := h S26 q11_.1 y12_ y13_
      replace f := f.tr (tpR.of y9_ q11_.2 rfl rfl)
      exact ⟨h, f⟩
    · replace h := h.2 c
      exact ⟨h, f⟩
set_option maxRecDepth 100000 in
theorem tp_X1_store_J43 {S0 : MS} {Q : MS → Prop} {U43 : MS} {v43_1 : Int32} {v43_2 : Int32} {v43_3 : Int32} {v43_4 : Int32} {v43_5 : Int32} (f : tpR S0 U43) (h : w_X1_store_J43 Q U43 v43_1 v43_2 v43_3 v43_4 v43_5) : w_X1_store_J43 (fun u => Q u ∧ tpR S0 u) U43 v43_1 v43_2 v43_3 v43_4 v43_5 := by
  unfold w_X1_store_J43 at h ⊢
  intro y14_
  replace h := h y14_
  refine ⟨fun c => ?_, fun c => ?_⟩
  · replace h := h.1 c
    exact tp_X1_store_J67 f h
  · replace h := h.2 c
    refine ⟨h.1, ?_⟩
    replace h := h.2
    intro a43 ea43 
    replace h := h a43 ea43 
    refine ⟨fun c => ?_, fun c => ?_⟩
    · replace h := h.1 c
      obtain ⟨Q9, h0, h⟩ := h
      refine ⟨_, frX1_setPlace y14_ h0, ?_⟩
      intro S46 q15_ y16_ y17_
      replace h := h S46 q15_.1 y16_ y17_
      replace f := f.tr (tpR.of y14_ q15_.2 rfl rfl)
      exact tp_X1_store_J67 f h
    · replace h := h.2 c
      exact tp_X1_store_J67 f h
set_option maxRecDepth 100000 in
theorem tpX1_store {S : MS} {x1 : Int32} {x2 : Int32} {Q : MS → Prop} (hw : wfC S) (h : wX1_store S x1 x2 Q) : wX1_store S x1 x2 (fun u => Q u ∧ tpR S u) := by
  have f : tpR S S := tpR.rf
  unfold wX1_store at h ⊢
  refine ⟨h.1, ?_⟩
  replace h := h.2
  intro a4 ea4 
  replace h := h a4 ea4 
  obtain ⟨Q9, h0, h⟩ := h
  refine ⟨_, tpX1_take hw h0, ?_⟩
  intro r6 S7 q18_ y19_ y20_
  replace h := h r6 S7 q18_.1 y19_ y20_
  replace f := f.tr q18_.2
  refine ⟨h.1, ?_⟩
  replace h := h.2
  intro a12 ea12 
  replace h := h a12 ea12 
  intro a14 ea14 
  replace h := h a14 ea14 
  refine ⟨fun c => ?_, fun c => ?_⟩
  · replace h := h.1 c
    exact tp_X1_store_J43 f h
  · replace h := h.2 c
    refine ⟨h.1, ?_⟩
    replace h := h.2
    intro a53 ea53 
    replace h := h a53 ea53 
    refine ⟨fun c => ?_, fun c => ?_⟩
    · replace h := h.1 c
      obtain ⟨Q9, h0, h⟩ := h
      refine ⟨_, frX1_setPlace y19_ h0, ?_⟩
      intro S57 q21_ y22_ y23_
      replace h := h S57 q21_.1 y22_ y23_
      replace f := f.tr (tpR.of y19_ q21_.2 rfl rfl)
      exact tp_X1_store_J43 f h
    · replace h := h.2 c
      exact tp_X1_store_J43 f h
set_option maxRecDepth 100000 in
theorem tp_X1_goThrough_J213 {S0 : MS} {Q : MS → Prop} {U213 : MS} {t213_0 : Int32} {t213_1 : Int32} (f : tpR S0 U213) (h : w_X1_goThrough_J213 Q U213 t213_0 t213_1) : w_X1_goThrough_J213 (fun u => Q u ∧ tpR S0 u) U213 t213_0 t213_1 := by
  unfold w_X1_goThrough_J213 at h ⊢
  intro y1_ y2_
  replace h := h y1_ y2_
  refine ⟨h.1, ?_⟩
  replace h := h.2
  intro S41 eS41 y3_ y4_
  replace h := h S41 eS41 y3_ y4_
  replace f := f.tr (show tpR U213 S41 by rw [eS41]; exact tpR.of (K := []) (F := [(41, 6)]) y1_ (cfr.oI y3_ (by decide)) rfl rfl)
  exact ⟨h, f⟩
set_option maxRecDepth 100000 in
theorem tp_X1_goThrough_J212 {S0 : MS} {Q : MS → Prop} {U212 : MS} {t212_0 : Int32} (f : tpR S0 U212) (h : w_X1_goThrough_J212 Q U212 t212_0) : w_X1_goThrough_J212 (fun u => Q u ∧ tpR S0 u) U212 t212_0 := by
  unfold w_X1_goThrough_J212 at h ⊢
  intro y5_
  replace h := h y5_
  exact tp_X1_goThrough_J213 f h
set_option maxRecDepth 100000 in
theorem tp_X1_goThrough_J108 {S0 : MS} {Q : MS → Prop} {U108 : MS} {t108_0 : Int32} {t108_1 : Int32} (f : tpR S0 U108) (h : w_X1_goThrough_J108 Q U108 t108_0 t108_1) : w_X1_goThrough_J108 (fun u => Q u ∧ tpR S0 u) U108 t108_0 t108_1 := by
  unfold w_X1_goThrough_J108 at h ⊢
  intro y6_ y7_
  replace h := h y6_ y7_
  refine ⟨h.1, ?_⟩
  replace h := h.2
  intro S73 eS73 y8_ y9_
  replace h := h S73 eS73 y8_ y9_
  replace f := f.tr (show tpR U108 S73 by rw [eS73]; exact tpR.of (K := []) (F := [(41, 6)]) y6_ (cfr.oI y8_ (by decide)) rfl rfl)
  exact ⟨h, f⟩
set_option maxRecDepth 100000 in
theorem tp_X1_goThrough_L131 {S0 : MS} {Q : MS → Prop} : ∀ (n : Nat) {U131 : MS} {v131_1 : Int32} {v131_2 : Int32} {v131_3 : Int32} {v131_4 : Int32}, tpR S0 U131 → w_X1_goThrough_L131 Q n U131 v131_1 v131_2 v131_3 v131_4 → w_X1_goThrough_L131 (fun u => Q u ∧ tpR S0 u) n U131 v131_1 v131_2 v131_3 v131_4 := by
  intro n
  induction n with
  | zero => intro U131 v131_1 v131_2 v131_3 v131_4 f h; unfold w_X1_goThrough_L131 at h; exact h.elim
  | succ n ih =>
    intro U131 v131_1 v131_2 v131_3 v131_4 f h
    unfold w_X1_goThrough_L131 at h ⊢
    intro y10_
    replace h := h y10_
    refine ⟨fun c => ?_, fun c => ?_⟩
    · replace h := h.1 c
      refine ⟨h.1, ?_⟩
      replace h := h.2
      refine ⟨h.1, ?_⟩
      replace h := h.2
      refine ⟨h.1, ?_⟩
      replace h := h.2
      intro a34 ea34 
      replace h := h a34 ea34 
      obtain ⟨Q9, h0, h⟩ := h
      refine ⟨_, tpX1_give y10_ h0, ?_⟩
      intro S36 q11_ y12_ y13_
      replace h := h S36 q11_.1 y12_ y13_
      replace f := f.tr q11_.2
      refine ⟨fun c => ?_, fun c => ?_⟩
      · replace h := h.1 c
        exact tp_X1_goThrough_J212 f h
      · replace h := h.2 c
        refine ⟨fun c => ?_, fun c => ?_⟩
        · replace h := h.1 c
          exact tp_X1_goThrough_J212 f h
        · replace h := h.2 c
          refine ⟨h.1, ?_⟩
          replace h := h.2
          refine ⟨h.1, ?_⟩
          replace h := h.2
          refine ⟨h.1, ?_⟩
          replace h := h.2
          intro a51 ea51 
          replace h := h a51 ea51 
          refine ⟨fun c => ?_, fun c => ?_⟩
          · replace h := h.1 c
            exact tp_X1_goThrough_J212 f h
          · replace h := h.2 c
            exact tp_X1_goThrough_J213 f h
    · replace h := h.2 c
      obtain ⟨Q9, h0, h⟩ := h
      refine ⟨_, tpX1_take y10_ h0, ?_⟩
      intro r55 S56 q14_ y15_ y16_
      replace h := h r55 S56 q14_.1 y15_ y16_
      replace f := f.tr q14_.2
      intro a59 ea59 
      replace h := h a59 ea59 
      exact ih f h
set_option maxRecDepth 100000 in
theorem tp_X1_goThrough_J29 {S0 : MS} {Q : MS → Prop} {U29 : MS} {v29_1 : Int32} {v29_2 : Int32} (f : tpR S0 U29) (h : w_X1_goThrough_J29 Q U29 v29_1 v29_2) : w_X1_goThrough_J29 (fun u => Q u ∧ tpR S0 u) U29 v29_1 v29_2 := by
  unfold w_X1_goThrough_J29 at h ⊢
  intro y17_
  replace h := h y17_
  refine ⟨h.1, ?_⟩
  replace h := h.2
  intro a10 ea10 
  replace h := h a10 ea10 
  refine ⟨fun c => ?_, fun c => ?_⟩
  · replace h := h.1 c
    refine ⟨h.1, ?_⟩
    replace h := h.2
    intro a15 ea15 
    replace h := h a15 ea15 
    refine ⟨fun c => ?_, fun c => ?_⟩
    · replace h := h.1 c
      refine ⟨fun c => ?_, fun c => ?_⟩
      · replace h := h.1 c
        refine ⟨h.1, ?_⟩
        replace h := h.2
        refine ⟨h.1, ?_⟩
        replace h := h.2
        intro a66 ea66 
        replace h := h a66 ea66 
        refine ⟨h.1, ?_⟩
        replace h := h.2
        intro a70 ea70 
        replace h := h a70 ea70 
        refine ⟨fun c => ?_, fun c => ?_⟩
        · replace h := h.1 c
          exact tp_X1_goThrough_J108 f h
        · replace h := h.2 c
          exact tp_X1_goThrough_J108 f h
      · replace h := h.2 c
        refine ⟨h.1, ?_⟩
        replace h := h.2
        refine ⟨h.1, ?_⟩
        replace h := h.2
        refine ⟨h.1, ?_⟩
        replace h := h.2
        intro a25 ea25 
        replace h := h a25 ea25 
        obtain ⟨n9, h⟩ := h
        exact ⟨n9, tp_X1_goThrough_L131 n9 f h⟩
    · replace h := h.2 c
      refine ⟨h.1, ?_⟩
      replace h := h.2
      refine ⟨h.1, ?_⟩
      replace h := h.2
      intro a80 ea80 
      replace h := h a80 ea80 
      obtain ⟨Q9, h0, h⟩ := h
      refine ⟨_, tpX1_store y17_ h0, ?_⟩
      intro S82 q18_ y19_ y20_
      replace h := h S82 q18_.1 y19_ y20_
      replace f := f.tr q18_.2
      exact ⟨h, f⟩
  · replace h := h.2 c
    refine ⟨h.1, ?_⟩
    replace h := h.2
    refine ⟨h.1, ?_⟩
    replace h := h.2
    intro a89 ea89 
    replace h := h a89 ea89 
    obtain ⟨Q9, h0, h⟩ := h
    refine ⟨_, tpX1_load y17_ h0, ?_⟩
    intro S91 q21_ y22_ y23_
    replace h := h S91 q21_.1 y22_ y23_
    replace f := f.tr q21_.2
    exact ⟨h, f⟩
set_option maxRecDepth 100000 in
theorem tpX1_goThrough {S : MS} {x1 : Int32} {Q : MS → Prop} (hw : wfC S) (h : wX1_goThrough S x1 Q) : wX1_goThrough S x1 (fun u => Q u ∧ tpR S u) := by
  have f : tpR S S := tpR.rf
  unfold wX1_goThrough at h ⊢
  refine ⟨h.1, ?_⟩
  replace h := h.2
  refine ⟨h.1, ?_⟩
  replace h := h.2
  intro a6 ea6 
  replace h := h a6 ea6 
  refine ⟨fun c => ?_, fun c => ?_⟩
  · replace h := h.1 c
    exact tp_X1_goThrough_J29 f h
  · replace h := h.2 c
    refine ⟨fun c => ?_, fun c => ?_⟩
    · replace h := h.1 c
      exact tp_X1_goThrough_J29 f h
    · replace h := h.2 c
      obtain ⟨Q9, h0, h⟩ := h
      refine ⟨_, tpX1_shuffle hw h0, ?_⟩
      intro S96 q24_ y25_ y26_
      replace h := h S96 q24_.1 y25_ y26_
      replace f := f.tr q24_.2
      exact ⟨h, f⟩
/-! Checker: what comes to an instruction -/
def kCk (S : MS) (i : Nat) : Int32 := qI S (qO S 16 2) i
def kW (S : MS) (i : Nat) : Int32 := qI S (qO S 16 3) i
def kB (S : MS) (i : Nat) : Int32 := qI S (qO S 16 1) i
/-- how often a type can still change -/
def rkT (v : Int32) : Nat := if v.toInt = 0 then 0 else if v.toInt = 6 then 2 else 1
def kS (S : MS) (i : Nat) : Nat := sumNk (fun k => rkT (kB S (48 * i + k))) 48
def kMk (S : MS) (i : Nat) : Nat := if (kCk S i).toInt = 0 then 97 else kS S i
def MkCk (S : MS) : Nat := sumNk (kMk S) (nR S (qO S 16 9)).toNat
def CkR (S u : MS) : Prop := cfr [102, 103, 301, 302] [(41, 5), (41, 6), (41, 7)] S u ∧ (∀ i : Nat, ¬ (kCk S i).toInt = 0 → ¬ (kCk u i).toInt = 0) ∧ (∀ i : Nat, ¬ (kW S i).toInt = 0 → ¬ (kW u i).toInt = 0) ∧ (∀ i : Nat, ¬ (kCk u i).toInt = 0 → ¬ (kCk S i).toInt = 0 ∨ ¬ (kW u i).toInt = 0) ∧ ((qI u 16 7).toInt = 0 → (qI S 16 7).toInt = 0 ∧ ∀ i : Nat, kW u i = kW S i) ∧ MkCk u ≤ MkCk S ∧ ((qI S 16 7).toInt = 0 → ¬ (qI u 16 7).toInt = 0 → MkCk u < MkCk S)
section CKC
variable {K : List Nat} {F : List (Nat × Nat)} {S u v U V A : MS} {i0 r : Nat} {Q : MS → Prop} {x : Int32}
theorem rkT_le (v : Int32) : rkT v ≤ 2 := by
  unfold rkT
  repeat' split
  all_goals omega
theorem kS_le (i : Nat) : kS S i ≤ 96 := by
  have := sumN_top (g := fun k => rkT (kB S (48 * i + k))) (c := 2) (fun j => rkT_le _) 48
  unfold kS
  omega
theorem CkR.rf : CkR S S := ⟨cfr.rf, fun _ h => h, fun _ h => h, fun _ h => Or.inl h, fun h => ⟨h, fun _ => rfl⟩, Nat.le_refl _, fun a b => absurd a b⟩
theorem CkR.tr (h : CkR S u) (k : CkR u v) : CkR S v := by
  obtain ⟨a1, a2, a3, a4, a5, a6, a7⟩ := h
  obtain ⟨b1, b2, b3, b4, b5, b6, b7⟩ := k
  refine ⟨a1.tr b1, fun i q => b2 i (a2 i q), fun i q => b3 i (a3 i q), fun i q => ?_, fun q => ?_, by omega, fun c d => ?_⟩
  · rcases b4 i q with z | z
    · rcases a4 i z with y | y
      · exact Or.inl y
      · exact Or.inr (b3 i y)
    · exact Or.inr z
  · have z := b5 q
    have y := a5 z.1
    exact ⟨y.1, fun i => (z.2 i).trans (y.2 i)⟩
  · by_cases z : (qI u 16 7).toInt = 0
    · have := b7 z d; omega
    · have := a7 c z; omega
theorem ck_k (w : wfC S) : qT S (qO S 16 1) = 102 ∧ qT S (qO S 16 2) = 301 ∧ qT S (qO S 16 3) = 302 := ⟨w.ref (w.ptr (by decide)) w.k16, w.ref (w.ptr (by decide)) w.k16, w.ref (w.ptr (by decide)) w.k16⟩
/-- what leaves come, waiting, before and changed alone -/
theorem CkR.qt (w : wfC S) (kr : qT S (qO S 16 9) = 47) (f : cfr K F S u) (hK : K.all (fun x => ([103] : List Nat).contains x) = true) (hF : F.all (fun x => ([(41, 5), (41, 6)] : List (Nat × Nat)).contains x) = true) : CkR S u := by
  have f1 : cfr [103] [(41, 5), (41, 6)] S u := f.mo hK hF
  obtain ⟨t1, t2, t3⟩ := ck_k w
  have o1 := qO_eq (f1.kO (j := 1) w.k16 (by decide) (by decide))
  have o2 := qO_eq (f1.kO (j := 2) w.k16 (by decide) (by decide))
  have o3 := qO_eq (f1.kO (j := 3) w.k16 (by decide) (by decide))
  have o9 := qO_eq (f1.kO (j := 9) w.k16 (by decide) (by decide))
  have c : ∀ i, kCk u i = kCk S i := fun i => by unfold kCk; rw [o2]; exact f1.kI t2 (by decide) rfl
  have d : ∀ i, kW u i = kW S i := fun i => by unfold kW; rw [o3]; exact f1.kI t3 (by decide) rfl
  have b : ∀ i, kB u i = kB S i := fun i => by unfold kB; rw [o1]; exact f1.kI t1 (by decide) rfl
  have e7 : qI u 16 7 = qI S 16 7 := f1.kI w.k16 (by decide) rfl
  have m : MkCk u = MkCk S := by
    unfold MkCk nR
    rw [o9, f1.kI kr (by decide) rfl]
    exact sumN_eqk _ (fun j _ => by
      unfold kMk kS
      rw [c]
      have : (fun k => rkT (kB u (48 * j + k))) = (fun k => rkT (kB S (48 * j + k))) := funext fun k => by rw [b]
      rw [this])
  exact ⟨f1.mo rfl rfl, fun i h => by rw [c]; exact h, fun i h => by rw [d]; exact h, fun i h => by rw [c] at h; exact Or.inl h, fun h => by rw [e7] at h; exact ⟨h, d⟩, by omega, fun h1 h2 => by rw [e7] at h2; exact absurd h1 h2⟩
/-- while the types come to instruction i0 -/
def LkIk (A U : MS) (i0 : Nat) (nw : Int32) : Prop := cfr [102, 302] [(41, 7)] A U ∧ (∀ j : Nat, (∀ k : Nat, k < 48 → j ≠ 48 * i0 + k) → kB U j = kB A j) ∧ (∀ i : Nat, i ≠ i0 → kW U i = kW A i) ∧ (((∀ j, kB U j = kB A j) ∧ (∀ i, kW U i = kW A i) ∧ qI U 16 7 = qI A 16 7) ∨ (qI U 16 7 = 1 ∧ ¬ (kW U i0).toInt = 0 ∧ (nw.toInt = 0 → kS U i0 < kS A i0)))
theorem join_rk {a b : Int32} (h : ¬ (fX1_join S a b).toInt = a.toInt) : vp_nar .byte ((fX1_join S a b).toInt8.toInt32) = fX1_join S a b ∧ rkT (fX1_join S a b) < rkT a := by
  have zero : ¬ (0 : Int32).toInt = a.toInt → rkT 0 < rkT a := fun z => by
    have l0 : (0 : Int32).toInt = 0 := by decide
    unfold rkT
    rw [if_pos l0, if_neg (by omega)]
    split <;> omega
  have J : ¬ (f_X1_join_J23 S a b).toInt = a.toInt → vp_nar .byte ((f_X1_join_J23 S a b).toInt8.toInt32) = f_X1_join_J23 S a b ∧ rkT (f_X1_join_J23 S a b) < rkT a := fun z => by
    unfold f_X1_join_J23 f_X1_join_J39 f_X1_join_J43 at z ⊢
    by_cases c : a.toInt = 6
    · rw [if_pos c] at z ⊢
      by_cases d : b.toInt = 4
      · rw [if_pos d]
        have eb : b = 4 := Int32.toInt_inj.mp (by rw [d]; rfl)
        rw [eb]
        exact ⟨by decide, by unfold rkT; rw [c]; decide⟩
      · rw [if_neg d] at z ⊢
        by_cases e : b.toInt = 5
        · rw [if_pos e]
          have eb : b = 5 := Int32.toInt_inj.mp (by rw [e]; rfl)
          rw [eb]
          exact ⟨by decide, by unfold rkT; rw [c]; decide⟩
        · rw [if_neg e] at z ⊢
          exact ⟨by decide, zero z⟩
    · rw [if_neg c] at z ⊢
      exact ⟨by decide, zero z⟩
  unfold fX1_join at h ⊢
  by_cases c : a.toInt = b.toInt
  · rw [if_pos c] at h; exact absurd rfl h
  · rw [if_neg c] at h ⊢
    by_cases d : b.toInt = 6
    · rw [if_pos d] at h ⊢
      by_cases e : a.toInt = 4
      · rw [if_pos e] at h; exact absurd rfl h
      · rw [if_neg e] at h ⊢
        by_cases g : a.toInt = 5
        · rw [if_pos g] at h; exact absurd rfl h
        · rw [if_neg g] at h ⊢
          exact J h
    · rw [if_neg d] at h ⊢
      exact J h
theorem ct_ck50 {v1 v2 v3 : Int32} (wA : wfC A) (krA : qT A (qO A 16 9) = 47) (tp : TpI A) (e2 : v2.toInt = 48 * v1.toInt) (h1 : 0 ≤ v1.toInt ∧ v1.toInt < nR A (qO A 16 9) ∧ v1.toInt ≤ 2000) (h3 : v3.toInt = 0 ↔ ¬ (kCk A v1.toInt.toNat).toInt = 0) : ∀ (n : Nat) {U : MS} {v4 : Int32}, LkIk A U v1.toInt.toNat v3 → 0 ≤ v4.toInt → (0 < v4.toInt → ¬ v3.toInt = 0 → qI U 16 7 = 1 ∧ ¬ (kW U v1.toInt.toNat).toInt = 0) → w_X1_comeTo_L50 Q n U v1 v2 v3 v4 → w_X1_comeTo_L50 (fun u => Q u ∧ CkR A u ∧ ¬ (kCk u v1.toInt.toNat).toInt = 0) n U v1 v2 v3 v4 := by
  obtain ⟨tA1, tA2, tA3⟩ := ck_k wA
  intro n
  induction n with
  | zero => intro U v4 _ _ _ h; exact h
  | succ n ih =>
    intro U v4 P v0 hnw hh
    obtain ⟨f, pb, pw, pc⟩ := P
    have o1 := qO_eq (f.kO (j := 1) wA.k16 (by decide) (by decide))
    have o2 := qO_eq (f.kO (j := 2) wA.k16 (by decide) (by decide))
    have o3 := qO_eq (f.kO (j := 3) wA.k16 (by decide) (by decide))
    have o9 := qO_eq (f.kO (j := 9) wA.k16 (by decide) (by decide))
    have e5 : qI U 16 5 = qI A 16 5 := f.kI wA.k16 (by decide) rfl
    have cA : ∀ i, kCk U i = kCk A i := fun i => by unfold kCk; rw [o2]; exact f.kI tA2 (by decide) rfl
    have l24 : (24 : Int32).toInt = 24 := by decide
    have tt : ((24 : Int32) + qI U 16 5).toInt = 24 + (qI A 16 5).toInt := by rw [t_addk (by rw [l24, e5]; have := tp; unfold TpI at this; omega), l24, e5]
    have tp0 : 0 ≤ (qI A 16 5).toInt ∧ (qI A 16 5).toInt ≤ 24 := tp
    unfold w_X1_comeTo_L50 at hh ⊢
    intro w hv
    obtain ⟨hx, hy⟩ := hh w hv
    -- the end
    have E : 0 < v4.toInt → w_X1_comeTo_J152 Q U v1 → w_X1_comeTo_J152 (fun u => Q u ∧ CkR A u ∧ ¬ (kCk u v1.toInt.toNat).toInt = 0) U v1 := fun v4p hj => by
      unfold w_X1_comeTo_J152 at hj ⊢
      intro w
      obtain ⟨b, hj⟩ := hj w
      refine ⟨b, fun S18 e18 k18 w18 => ⟨hj S18 e18 k18 w18, ?_⟩⟩
      have f18 : cfr [301] [] U S18 := by rw [e18]; exact cfr.aI k18 rfl
      have p : ∀ j, qO S18 16 j = qO U 16 j := fun j => by rw [e18]; rfl
      obtain ⟨t1, t2, t3⟩ := ck_k w
      have C : ∀ i, kCk S18 i = if i = v1.toInt.toNat then vp_nar .boolean (1 : Int32) else kCk A i := fun i => by
        unfold kCk
        rw [p, e18, qI_wI]
        by_cases z : i = v1.toInt.toNat
        · rw [if_pos ⟨rfl, z⟩, if_pos z]
        · rw [if_neg (fun s => z s.2), if_neg z]; exact cA i
      have W : ∀ i, kW S18 i = kW U i := fun i => by unfold kW; rw [p]; exact f18.kI t3 (by decide) rfl
      have Bq : ∀ i, kB S18 i = kB U i := fun i => by unfold kB; rw [p]; exact f18.kI t1 (by decide) rfl
      have one : ¬ (vp_nar .boolean (1 : Int32)).toInt = 0 := by decide
      have e7 : qI S18 16 7 = qI U 16 7 := f18.kI w.k16 (by decide) rfl
      have nn : nR S18 (qO S18 16 9) = nR A (qO A 16 9) := by
        unfold nR
        rw [p, o9, f18.kI (f.1.T krA (by decide)) (by decide) rfl, f.kI krA (by decide) rfl]
      have oth : ∀ j, j ≠ v1.toInt.toNat → kMk S18 j = kMk A j := fun j hj => by
        unfold kMk kS
        rw [C, if_neg hj]
        have : (fun k => rkT (kB S18 (48 * j + k))) = (fun k => rkT (kB A (48 * j + k))) ∨ True := Or.inr trivial
        have z : sumNk (fun k => rkT (kB S18 (48 * j + k))) 48 = sumNk (fun k => rkT (kB A (48 * j + k))) 48 := sumN_eqk 48 (fun k hk => by rw [Bq, pb _ (fun k' hk' => by omega)])
        rw [z]
      have up := sumN_updk (g := kMk A) (g' := kMk S18) (i := v1.toInt.toNat) oth (nR A (qO A 16 9)).toNat (by omega)
      have me : kMk S18 v1.toInt.toNat = kS U v1.toInt.toNat := by
        unfold kMk
        rw [C, if_pos rfl, if_neg one]
        unfold kS
        exact sumN_eqk 48 (fun k _ => by rw [Bq])
      have kl := kS_le (S := U) v1.toInt.toNat
      have F9 : cfr [102, 103, 301, 302] [(41, 5), (41, 6), (41, 7)] A S18 := (f.mo rfl rfl).tr (f18.mo rfl rfl)
      have M9 : MkCk S18 = sumNk (kMk S18) (nR A (qO A 16 9)).toNat := by unfold MkCk; rw [nn]
      have fin : ¬ (kCk S18 v1.toInt.toNat).toInt = 0 := by rw [C, if_pos rfl]; exact one
      have c2 : ∀ i : Nat, ¬ (kCk A i).toInt = 0 → ¬ (kCk S18 i).toInt = 0 := fun i h => by
        rw [C]
        by_cases z : i = v1.toInt.toNat
        · rw [if_pos z]; exact one
        · rw [if_neg z]; exact h
      have c4 : ∀ (hw : ¬ (kCk A v1.toInt.toNat).toInt = 0 ∨ ¬ (kW U v1.toInt.toNat).toInt = 0) (i : Nat), ¬ (kCk S18 i).toInt = 0 → ¬ (kCk A i).toInt = 0 ∨ ¬ (kW S18 i).toInt = 0 := fun hw i h => by
        rw [C] at h
        rw [W]
        by_cases z : i = v1.toInt.toNat
        · rw [z]; exact hw
        · rw [if_neg z] at h; exact Or.inl h
      refine ⟨?_, fin⟩
      by_cases z3 : v3.toInt = 0
      · -- it had come before
        have cz : ¬ (kCk A v1.toInt.toNat).toInt = 0 := h3.mp z3
        have mA : kMk A v1.toInt.toNat = kS A v1.toInt.toNat := by unfold kMk; rw [if_neg cz]
        rcases pc with ⟨b0, w0, q0⟩ | ⟨q0, w0, s0⟩
        · have eS : kS U v1.toInt.toNat = kS A v1.toInt.toNat := by unfold kS; exact sumN_eqk 48 (fun k _ => by rw [b0])
          refine ⟨F9, c2, fun i h => by rw [W, w0]; exact h, c4 (Or.inl cz), fun h => ⟨by rw [e7, q0] at h; exact h, fun i => by rw [W, w0]⟩, ?_, fun h9 h8 => by rw [e7, q0] at h8; exact absurd h9 h8⟩
          rw [M9]
          unfold MkCk
          omega
        · have lt := s0 z3
          have m9 : MkCk S18 < MkCk A := by
            rw [M9]
            unfold MkCk
            omega
          refine ⟨F9, c2, fun i h => ?_, c4 (Or.inl cz), fun h => by rw [e7, q0] at h; exact absurd h (by decide), by omega, fun _ _ => m9⟩
          rw [W]
          by_cases z : i = v1.toInt.toNat
          · rw [z]; exact w0
          · rw [pw i z]; exact h
      · obtain ⟨q0, w0⟩ := hnw v4p z3
        have cz : (kCk A v1.toInt.toNat).toInt = 0 := by
          by_cases z : (kCk A v1.toInt.toNat).toInt = 0
          · exact z
          · exact absurd (h3.mpr z) z3
        have mA : kMk A v1.toInt.toNat = 97 := by unfold kMk; rw [if_pos cz]
        have m9 : MkCk S18 < MkCk A := by
          rw [M9]
          unfold MkCk
          omega
        refine ⟨F9, c2, fun i h => ?_, c4 (Or.inr w0), fun h => by rw [e7, q0] at h; exact absurd h (by decide), by omega, fun _ _ => m9⟩
        rw [W]
        by_cases z : i = v1.toInt.toNat
        · rw [z]; exact w0
        · rw [pw i z]; exact h
    -- one step on
    have N : ∀ V : MS, LkIk A V v1.toInt.toNat v3 → (¬ v3.toInt = 0 → qI V 16 7 = 1 ∧ ¬ (kW V v1.toInt.toNat).toInt = 0) → v4.toInt < 48 → w_X1_comeTo_J146 Q (w_X1_comeTo_L50 Q n) V v1 v2 v3 v4 → w_X1_comeTo_J146 (fun u => Q u ∧ CkR A u ∧ ¬ (kCk u v1.toInt.toNat).toInt = 0) (w_X1_comeTo_L50 (fun u => Q u ∧ CkR A u ∧ ¬ (kCk u v1.toInt.toNat).toInt = 0) n) V v1 v2 v3 v4 := fun V PV hV v48 hj => by
      unfold w_X1_comeTo_J146 at hj ⊢
      intro w hv a ea
      have e1 : a.toInt = v4.toInt + 1 := by rw [ea, t_addk (by rw [lo_1k]; omega), lo_1k]
      exact ih PV (by omega) (fun _ z => hV z) (hj w hv a ea)
    -- a type is written
    have Wr : ∀ t : Int32, v4.toInt < 48 → (v3.toInt = 0 → vp_nar .byte (t.toInt8.toInt32) = t ∧ rkT t < rkT (qI U (qO U 16 1) (v2 + v4).toInt.toNat)) → w_X1_comeTo_J122 Q (w_X1_comeTo_L50 Q n) U v1 v2 v3 v4 t → w_X1_comeTo_J122 (fun u => Q u ∧ CkR A u ∧ ¬ (kCk u v1.toInt.toNat).toInt = 0) (w_X1_comeTo_L50 (fun u => Q u ∧ CkR A u ∧ ¬ (kCk u v1.toInt.toNat).toInt = 0) n) U v1 v2 v3 v4 t := fun t v48 ht hj => by
      unfold w_X1_comeTo_J122 at hj ⊢
      intro w hv
      obtain ⟨b, hj⟩ := hj w hv
      refine ⟨b, fun S25 e25 k25 w25 => ?_⟩
      obtain ⟨b', hj⟩ := hj S25 e25 k25 w25
      refine ⟨b', fun S28 e28 k28 w28 S29 e29 k29 w29 => N S29 ?_ ?_ v48 (hj S28 e28 k28 w28 S29 e29 k29 w29)⟩
      all_goals
        have ev : (v2 + v4).toInt = 48 * v1.toInt + v4.toInt := by rw [t_addk (by omega), e2]
        obtain ⟨t1, t2, t3⟩ := ck_k w
        have p3 : qO S25 16 3 = qO U 16 3 := by rw [e25]; rfl
        rw [p3] at e28 k28
        have p : ∀ j, qO S29 16 j = qO U 16 j := fun j => by rw [e29, e28, e25]; rfl
        have ab : qO U 16 1 ≠ qO U 16 3 := fun q => by rw [q, t3] at t1; cases t1
        have a6 : qO U 16 1 ≠ 16 := fun q => by rw [q, w.k16] at t1; cases t1
        have b6 : qO U 16 3 ≠ 16 := fun q => by rw [q, w.k16] at t3; cases t3
        have Bq : ∀ j, kB S29 j = if j = (v2 + v4).toInt.toNat then vp_nar .byte (t.toInt8.toInt32) else kB U j := fun j => by
          unfold kB
          rw [p, e29, qI_wI, if_neg (fun q => a6 q.1), e28, qI_wI, if_neg (fun q => ab q.1), e25, qI_wI]
          by_cases z : j = (v2 + v4).toInt.toNat
          · rw [if_pos ⟨rfl, z⟩, if_pos z]
          · rw [if_neg (fun s => z s.2), if_neg z]
        have Wq : ∀ j, kW S29 j = if j = v1.toInt.toNat then vp_nar .boolean (1 : Int32) else kW U j := fun j => by
          unfold kW
          have eb : qI S25 (qO U 16 3) j = qI U (qO U 16 3) j := by rw [e25, qI_wI, if_neg (fun q => ab q.1.symm)]
          rw [p, e29, qI_wI, if_neg (fun q => b6 q.1), e28, qI_wI]
          by_cases z : j = v1.toInt.toNat
          · rw [if_pos ⟨rfl, z⟩, if_pos z]
          · rw [if_neg (fun s => z s.2), if_neg z, eb]
        have q7 : qI S29 16 7 = 1 := by rw [e29, qI_wI, if_pos ⟨rfl, rfl⟩]
        have w7 : ¬ (kW S29 v1.toInt.toNat).toInt = 0 := by rw [Wq, if_pos rfl]; decide
      · have g1 : cfr [102, 302] [(41, 7)] U S25 := by rw [e25]; exact cfr.aI k25 rfl
        have g2 : cfr [102, 302] [(41, 7)] S25 S28 := by rw [e28]; exact cfr.aI k28 rfl
        have g3 : cfr [102, 302] [(41, 7)] S28 S29 := by rw [e29]; exact cfr.oI k29 rfl
        refine ⟨f.tr ((g1.tr g2).tr g3), fun j hj => ?_, fun i hi => by rw [Wq, if_neg hi]; exact pw i hi, Or.inr ⟨q7, w7, fun z3 => ?_⟩⟩
        · have := hj v4.toInt.toNat (by omega)
          rw [Bq, if_neg (by omega)]
          exact pb j hj
        · obtain ⟨ht1, ht2⟩ := ht z3
          have ix : (v2 + v4).toInt.toNat = 48 * v1.toInt.toNat + v4.toInt.toNat := by omega
          have up := sumN_updk (g := fun k => rkT (kB U (48 * v1.toInt.toNat + k))) (g' := fun k => rkT (kB S29 (48 * v1.toInt.toNat + k))) (i := v4.toInt.toNat) (fun k hk => by
            show rkT (kB S29 _) = rkT (kB U _)
            rw [Bq, if_neg (by omega)]) 48 (by omega)
          have g9 : rkT (kB S29 (48 * v1.toInt.toNat + v4.toInt.toNat)) < rkT (kB U (48 * v1.toInt.toNat + v4.toInt.toNat)) := by
            rw [Bq, if_pos ix.symm, ht1, ← ix]
            exact ht2
          have lt : kS S29 v1.toInt.toNat < kS U v1.toInt.toNat := by unfold kS; omega
          rcases pc with ⟨b0, _, _⟩ | ⟨_, _, s0⟩
          · have eS : kS U v1.toInt.toNat = kS A v1.toInt.toNat := by unfold kS; exact sumN_eqk 48 (fun k _ => by rw [b0])
            omega
          · have := s0 z3; omega
      · exact fun _ => ⟨q7, w7⟩
    refine ⟨fun c => E (by omega) (hx c), fun c => ?_⟩
    obtain ⟨h5, h6⟩ := hy c
    refine ⟨fun d => E (by omega) (h5 d), fun d => ?_⟩
    obtain ⟨h7, h8⟩ := h6 d
    refine ⟨fun z => ?_, fun z => ?_⟩
    · obtain ⟨b1, b2, dj, h9⟩ := h7 z
      refine ⟨b1, b2, dj, ?_⟩
      unfold w_X1_comeTo_J102 at h9 ⊢
      intro w hv
      obtain ⟨g1, g2⟩ := h9 w hv
      refine ⟨fun y => ?_, fun y => absurd z y⟩
      obtain ⟨b3, g3, g4⟩ := g1 y
      refine ⟨b3, fun s => N U ⟨f, pb, pw, pc⟩ (fun q => absurd z q) (by omega) (g3 s), fun s => Wr _ (by omega) (fun _ => join_rk s) (g4 s)⟩
    · obtain ⟨b1, h9⟩ := h8 z
      refine ⟨b1, ?_⟩
      unfold w_X1_comeTo_J102 at h9 ⊢
      intro w hv
      obtain ⟨g1, g2⟩ := h9 w hv
      exact ⟨fun y => absurd y z, fun y => Wr _ (by omega) (fun q => absurd q z) (g2 y)⟩
theorem ct_kcome (w : wfC S) (kr : qT S (qO S 16 9) = 47) (R : RwK S (qO S 16 9)) (tp : TpI S) (h : wX1_comeTo S x Q) : wX1_comeTo S x (fun u => Q u ∧ CkR S u ∧ (0 ≤ x.toInt → x.toInt < nR S (qO S 16 9) → (fX4_isWrong S 17 x).toInt = 0 → ¬ (kCk u x.toInt.toNat).toInt = 0)) := by
  have hN : nR S (qO S 16 9) ≤ 1296 := by unfold nR; have := R.2; omega
  unfold wX1_comeTo at h ⊢
  refine ⟨fun c => ⟨h.1 c, CkR.rf, fun a => absurd c (by omega)⟩, fun c => ?_⟩
  obtain ⟨e9, h1, h2⟩ := h.2 c
  refine ⟨e9, fun d => ⟨h1 d, CkR.rf, fun _ b => by unfold nR at b; omega⟩, fun d => ?_⟩
  obtain ⟨dw, h3, h4⟩ := h2 d
  refine ⟨dw, fun z a10 e10 => ?_, fun z => ⟨h4 z, CkR.rf, fun _ _ q => absurd q z⟩⟩
  obtain ⟨b, h5, h6⟩ := h3 z a10 e10
  have l48 : (48 : Int32).toInt = 48 := by decide
  have lt : x.toInt < nR S (qO S 16 9) := by unfold nR; omega
  have e2 : a10.toInt = 48 * x.toInt := by rw [e10, t_mulk (by rw [l48]; omega), l48]; omega
  have g : ∀ t : Int32, (t.toInt = 0 ↔ ¬ (kCk S x.toInt.toNat).toInt = 0) → w_X1_comeTo_J46 Q S t x a10 → w_X1_comeTo_J46 (fun u => Q u ∧ CkR S u ∧ (0 ≤ x.toInt → x.toInt < nR S (qO S 16 9) → (fX4_isWrong S 17 x).toInt = 0 → ¬ (kCk u x.toInt.toNat).toInt = 0)) S t x a10 := fun t ht hj => by
    unfold w_X1_comeTo_J46 at hj ⊢
    intro w hv
    obtain ⟨n, hj⟩ := hj w hv
    have y := ct_ck50 (A := S) (v1 := x) (v2 := a10) (v3 := t) w kr tp e2 ⟨by omega, lt, by omega⟩ ht n ⟨cfr.rf, fun _ _ => rfl, fun _ _ => rfl, Or.inl ⟨fun _ => rfl, fun _ => rfl, rfl⟩⟩ (by rw [li_0k]; omega) (fun q => by rw [li_0k] at q; omega) hj
    refine ⟨n, ?_⟩
    have e : (fun u => Q u ∧ CkR S u ∧ (0 ≤ x.toInt → x.toInt < nR S (qO S 16 9) → (fX4_isWrong S 17 x).toInt = 0 → ¬ (kCk u x.toInt.toNat).toInt = 0)) = (fun u => Q u ∧ CkR S u ∧ ¬ (kCk u x.toInt.toNat).toInt = 0) := by
      funext u
      apply propext
      exact ⟨fun t => ⟨t.1, t.2.1, t.2.2 (by omega) lt z⟩, fun t => ⟨t.1, t.2.1, fun _ _ _ => t.2.2⟩⟩
    rw [e]
    exact y
  have l1 : (1 : Int32).toInt = 1 := by decide
  refine ⟨b, fun s => g 1 ⟨fun q => by rw [l1] at q; omega, fun q => absurd s q⟩ (h5 s), fun s => g 0 ⟨fun _ => s, fun _ => rfl⟩ (h6 s)⟩
end CKC
/-! Checker: flowFrom -/
/-- Checker at work on Row r of Unit q, as they and Heights were in S -/
def CkB (S U : MS) (q r : Nat) : Prop := (qR U 16 8 = some q ∧ qR U 16 9 = some r) ∧ (rC S U r ∧ qT U r = 47 ∧ RwK U r ∧ qI U r 11 = qI S r 11) ∧ (uC S U q ∧ qT U q = 49 ∧ UnK U q) ∧ (∀ y : Int32, fX4_isWrong U 17 y = fX4_isWrong S 17 y) ∧ ((∀ i, hC U 17 i = hC S 17 i) ∧ qN U (qO U 17 0) = qN S (qO S 17 0))
/-- what comes to y has come -/
def CmP (S u : MS) (r : Nat) (y : Int32) : Prop := 0 ≤ y.toInt → y.toInt < nR S r → (fX4_isWrong S 17 y).toInt = 0 → ¬ (kCk u y.toInt.toNat).toInt = 0
def CmG (S u : MS) (r : Nat) (x : Int32) : Prop := ¬ (fX6_goesOn S (fX8_opAt S r x)).toInt = 0 → CmP S u r (x + 1)
def CmT (S u : MS) (r : Nat) (x : Int32) (m : Int) : Prop := ∀ j : Int32, 0 ≤ j.toInt → j.toInt < m → CmP S u r (fX8_targetAt S r x j)
def CmK (S u : MS) (r : Nat) (x : Int32) (m : Int) : Prop := ∀ c : Int32, 0 ≤ c.toInt → c.toInt < m → c.toInt < (qI S r 9).toInt → ¬ (fX8_catchHas S r c x).toInt = 0 → CmP S u r (qI S (qO S r 7) c.toInt.toNat)
def CkS (S u : MS) (r : Nat) (x : Int32) : Prop := CmG S u r x ∧ CmT S u r x (fX8_targetCount S r x).toInt ∧ CmK S u r x (qI S r 9).toInt
section CKF
variable {K : List Nat} {F : List (Nat × Nat)} {S u v U V A : MS} {q r : Nat} {Q : MS → Prop} {x y : Int32} {m : Int}
theorem CmP.mo (h : CmP S U r y) (g : ∀ i : Nat, ¬ (kCk U i).toInt = 0 → ¬ (kCk u i).toInt = 0) : CmP S u r y := fun a b c => g _ (h a b c)
theorem CmG.mo (h : CmG S U r x) (g : ∀ i : Nat, ¬ (kCk U i).toInt = 0 → ¬ (kCk u i).toInt = 0) : CmG S u r x := fun a => (h a).mo g
theorem CmT.mo (h : CmT S U r x m) (g : ∀ i : Nat, ¬ (kCk U i).toInt = 0 → ¬ (kCk u i).toInt = 0) : CmT S u r x m := fun j a b => (h j a b).mo g
theorem CmK.mo (h : CmK S U r x m) (g : ∀ i : Nat, ¬ (kCk U i).toInt = 0 → ¬ (kCk u i).toInt = 0) : CmK S u r x m := fun j a b c d => (h j a b c d).mo g
theorem CkS.mo (h : CkS S U r x) (g : ∀ i : Nat, ¬ (kCk U i).toInt = 0 → ¬ (kCk u i).toInt = 0) : CkS S u r x := ⟨h.1.mo g, h.2.1.mo g, h.2.2.mo g⟩
theorem h17_k (w : wfC S) : qT S (qO S 17 0) = 213 ∧ qT S (qO S 17 1) = 214 ∧ qT S (qO S 17 2) = 304 := ⟨w.ref (w.ptr (by decide)) w.k17, w.ref (w.ptr (by decide)) w.k17, w.ref (w.ptr (by decide)) w.k17⟩
theorem CkB.o (b : CkB S U q r) : qO U 16 8 = q ∧ qO U 16 9 = r := by
  unfold qO
  rw [b.1.1, b.1.2]
  exact ⟨rfl, rfl⟩
theorem CkB.fr (b : CkB S U q r) (w : wfC U) (f : cfr [102, 103, 301, 302] [(41, 5), (41, 6), (41, 7)] U u) : CkB S u q r := by
  obtain ⟨⟨e8, e9⟩, ⟨c, kr, R, e11⟩, ⟨d, kq, UK⟩, iw, hc, hl⟩ := b
  have rr := rC.fx w kr R f (by decide)
  have uu := uC.fr w kq UK f (by decide)
  obtain ⟨t0, t1, t2⟩ := h17_k w
  have o0 := qO_eq (f.kO (j := 0) w.k17 (by decide) (by decide))
  have o2 := qO_eq (f.kO (j := 2) w.k17 (by decide) (by decide))
  have l2 : qN u (qO U 17 2) = qN U (qO U 17 2) := (f.1.1 _ (by rw [t2]; decide)).2
  have l0 : qN u (qO U 17 0) = qN U (qO U 17 0) := (f.1.1 _ (by rw [t0]; decide)).2
  refine ⟨⟨by rw [f.kO w.k16 (by decide) (by decide)]; exact e8, by rw [f.kO w.k16 (by decide) (by decide)]; exact e9⟩, ⟨c.tr rr.1, rr.2.1, rr.2.2, by rw [f.kI kr (by decide) rfl]; exact e11⟩, ⟨d.tr uu.1, uu.2⟩, fun y => ?_, fun i => ?_, by rw [o0, l0]; exact hl⟩
  · rw [← iw y]
    unfold fX4_isWrong
    rw [o0, o2, l2, f.kI t2 (by decide) rfl, f.kI t0 (by decide) rfl]
    rfl
  · rw [← hc i]
    unfold hC
    rw [o0]
    exact f.kI t0 (by decide) rfl
theorem CkB.ck (b : CkB S U q r) (w : wfC U) (h : CkR U u) : CkB S u q r := b.fr w h.1
theorem CkB.cc (b : CkB S U q r) (w : wfC U) (tp : TpI U) (h : wX1_comeTo U y Q) : wX1_comeTo U y (fun u => (Q u ∧ CkR U u ∧ (0 ≤ y.toInt → y.toInt < nR U (qO U 16 9) → (fX4_isWrong U 17 y).toInt = 0 → ¬ (kCk u y.toInt.toNat).toInt = 0)) ∧ cfr [102, 301, 302] [(41, 7)] U u) := frX1_comeTo w (ct_kcome w (by rw [b.o.2]; exact b.2.1.2.1) (by rw [b.o.2]; exact b.2.1.2.2.1) tp h)
theorem CkB.cm (b : CkB S U q r) (w : wfC U) (tp : TpI U) (h : CkR U u ∧ (0 ≤ y.toInt → y.toInt < nR U (qO U 16 9) → (fX4_isWrong U 17 y).toInt = 0 → ¬ (kCk u y.toInt.toNat).toInt = 0)) (f : cfr [102, 301, 302] [(41, 7)] U u) : CkB S u q r ∧ TpI u ∧ CmP S u r y := by
  refine ⟨b.ck w h.1, ?_, ?_⟩
  · unfold TpI
    rw [f.kI w.k16 (by decide) rfl]
    exact tp
  · have z := h.2
    rw [b.o.2, b.2.1.1.nE, b.2.2.2.1 y] at z
    exact z
theorem ct_takeUp (w : wfC S) (h : wX1_takeUp S x Q) : wX1_takeUp S x (fun u => (Q u ∧ TpI u) ∧ cfr [103] [(41, 5)] S u) := by
  refine frX1_takeUp w ?_
  unfold wX1_takeUp at h ⊢
  obtain ⟨d, h⟩ := h
  refine ⟨d, fun S6 e6 k6 w6 => ?_⟩
  obtain ⟨b, h⟩ := h S6 e6 k6 w6
  refine ⟨b, fun S10 e10 k10 w10 => ⟨h S10 e10 k10 w10, ?_⟩⟩
  have f10 : cfr [103] [] S6 S10 := by rw [e10]; exact cfr.aC k10 rfl
  have e : qI S10 16 5 = qI S6 16 5 := f10.kI w6.k16 (by decide) rfl
  have l0 : (0 : Int32).toInt = 0 := by decide
  have l24 : (24 : Int32).toInt = 24 := by decide
  have lt : ∀ a b : Int32, a < b ↔ a.toInt < b.toInt := fun a b => Int32.lt_iff_toInt_lt
  unfold TpI
  rw [e, e6, qI_wI, if_pos ⟨rfl, rfl⟩]
  by_cases c1 : (24 : Int32) < fX4_heightAt S 17 x
  · rw [if_pos c1, if_pos (by decide)]
    omega
  · rw [if_neg c1]
    rw [lt, l24] at c1
    by_cases c2 : (0 : Int32) < fX4_heightAt S 17 x
    · rw [if_pos c2]
      rw [lt, l0] at c2
      omega
    · rw [if_neg c2]
      omega
theorem ct_fl114 (hx7 : (fX8_targetCount S r x).toInt ≤ 100000) : ∀ (n : Nat) {U : MS} {v2 v3 : Int32}, v2 = fX8_targetCount S r x → CkB S U q r → CkR A U → TpI U → CmG S U r x → CmK S U r x (qI S r 9).toInt → CmT S U r x v3.toInt → 0 ≤ v3.toInt → w_X1_flowFrom_L114 Q n U x v2 v3 → w_X1_flowFrom_L114 (fun u => Q u ∧ CkR A u ∧ CkS S u r x) n U x v2 v3 := by
  intro n
  induction n with
  | zero => intro U v2 v3 _ _ _ _ _ _ _ _ h; exact h
  | succ n ih =>
    intro U v2 v3 e2 b k tp g c t v0 hh
    have o9 := b.o.2
    unfold w_X1_flowFrom_L114 at hh ⊢
    intro w
    obtain ⟨h1, h2⟩ := hh w
    refine ⟨fun z => ⟨h1 z, k, g, fun j a b' => t j a (by rw [e2] at z; omega), c⟩, fun z => ?_⟩
    obtain ⟨e9, d, h3⟩ := h2 z
    refine ⟨e9, d, fun a35 e35 => ?_⟩
    obtain ⟨Q36, p36, h36⟩ := h3 a35 e35
    refine ⟨_, b.cc w tp p36, ?_⟩
    rintro u ⟨⟨gq, hu⟩, fu⟩ wu su a39 e39
    obtain ⟨bu, tu, cu⟩ := b.cm w tp hu fu
    have e1 : a39.toInt = v3.toInt + 1 := by rw [e39, t_addk (by rw [lo_1k]; rw [e2] at z; omega), lo_1k]
    have ea : a35 = fX8_targetAt S r x v3 := by rw [e35, o9, b.2.1.1.ta]
    refine ih e2 bu (k.tr hu.1) tu (g.mo hu.1.2.1) (c.mo hu.1.2.1) (fun j a b' => ?_) (by omega) (h36 u gq wu su a39 e39)
    by_cases s : j.toInt < v3.toInt
    · exact (t j a s).mo hu.1.2.1
    · have : j = v3 := Int32.toInt_inj.mp (by omega)
      subst this
      rw [← ea]
      exact cu
theorem ct_fl103 (hx7 : (fX8_targetCount S r x).toInt ≤ 100000) (b : CkB S U q r) (k : CkR A U) (tp : TpI U) (g : CmG S U r x) (c : CmK S U r x (qI S r 9).toInt) (h : w_X1_flowFrom_J103 Q U x) : w_X1_flowFrom_J103 (fun u => Q u ∧ CkR A u ∧ CkS S u r x) U x := by
  unfold w_X1_flowFrom_J103 at h ⊢
  intro w
  obtain ⟨e9, d, h⟩ := h w
  refine ⟨e9, d, fun a28 e28 => ?_⟩
  obtain ⟨n, h⟩ := h a28 e28
  have ea : a28 = fX8_targetCount S r x := by rw [e28, b.o.2, b.2.1.1.tc]
  exact ⟨n, ct_fl114 hx7 n ea b k tp g c (fun j a b' => by rw [li_0k] at b'; omega) (by rw [li_0k]; omega) h⟩
theorem ct_fl72 (hx7 : (fX8_targetCount S r x).toInt ≤ 100000) (b : CkB S U q r) (k : CkR A U) (c : CmK S U r x (qI S r 9).toInt) (h : w_X1_flowFrom_J72 Q U x) : w_X1_flowFrom_J72 (fun u => Q u ∧ CkR A u ∧ CkS S u r x) U x := by
  unfold w_X1_flowFrom_J72 at h ⊢
  intro w
  obtain ⟨Q7, p7, h7⟩ := h w
  refine ⟨_, ct_takeUp w p7, ?_⟩
  rintro S8 ⟨⟨g8, t8⟩, f8⟩ w8 s8
  obtain ⟨Q10, p10, h10⟩ := h7 S8 g8 w8 s8
  have k8 : CkR U S8 := CkR.qt w (by rw [b.o.2]; exact b.2.1.2.1) f8 rfl rfl
  have b8 := b.ck w k8
  refine ⟨_, frX1_goThrough w8 (tpX1_goThrough w8 p10), ?_⟩
  rintro S11 ⟨⟨g11, t11⟩, f11⟩ w11 s11
  have k11 : CkR S8 S11 := CkR.qt w8 (by rw [b8.o.2]; exact b8.2.1.2.1) f11 rfl rfl
  have b11 := b8.ck w8 k11
  have K11 := (k.tr k8).tr k11
  have c11 := (c.mo k8.2.1).mo k11.2.1
  obtain ⟨e9, d1, h11⟩ := h10 S11 g11 w11 s11
  refine ⟨e9, d1, fun a18 e18 => ?_⟩
  obtain ⟨d2, h11⟩ := h11 a18 e18
  refine ⟨d2, fun a22 e22 => ?_⟩
  obtain ⟨h1, h2⟩ := h11 a22 e22
  have eg : a22 = fX6_goesOn S (fX8_opAt S r x) := by rw [e22, e18, b11.o.2, b11.2.1.1.op]; rfl
  refine ⟨fun z => ct_fl103 hx7 b11 K11 (t11 t8) (fun y => absurd (by rw [← eg]; exact z) y) c11 (h1 z), fun z => ?_⟩
  obtain ⟨Q42, p42, h42⟩ := h2 z
  refine ⟨_, b11.cc w11 (t11 t8) p42, ?_⟩
  rintro u ⟨⟨gq, hu⟩, fu⟩ wu su
  obtain ⟨bu, tu, cu⟩ := b11.cm w11 (t11 t8) hu fu
  exact ct_fl103 hx7 bu (K11.tr hu.1) tu (fun _ => cu) (c11.mo hu.1.2.1) (h42 u gq wu su)
theorem ct_fl30 (hx7 : (fX8_targetCount S r x).toInt ≤ 100000) : ∀ (n : Nat) {U : MS} {v2 : Int32}, CkB S U q r → CkR A U → TpI U → CmK S U r x v2.toInt → 0 ≤ v2.toInt → w_X1_flowFrom_L30 Q n U x v2 → w_X1_flowFrom_L30 (fun u => Q u ∧ CkR A u ∧ CkS S u r x) n U x v2 := by
  intro n
  induction n with
  | zero => intro U v2 _ _ _ _ _ h; exact h
  | succ n ih =>
    intro U v2 b k tp c v0 hh
    have o9 := b.o.2
    have rc := b.2.1.1
    have R := b.2.1.2.2.1
    have e9 : qI U r 9 = qI S r 9 := rc.2.1
    unfold w_X1_flowFrom_L30 at hh ⊢
    intro w
    obtain ⟨f9, h1, h2⟩ := hh w
    rw [o9] at h1 h2 ⊢
    refine ⟨by rw [← o9]; exact f9, fun z => ct_fl72 hx7 b k (fun d a _ e f => c d a (by rw [e9] at z; omega) e f) (h1 z), fun z => ?_⟩
    obtain ⟨f9', dh, h3⟩ := h2 z
    refine ⟨f9', dh, fun a61 e61 => ?_⟩
    obtain ⟨h4, h5⟩ := h3 a61 e61
    have r9 : (qI U r 9).toInt ≤ 16 := by have := R.2; omega
    have eh : fX8_catchHas U r v2 x = fX8_catchHas S r v2 x := rc.ch
    have J : ∀ V : MS, CkB S V q r → CkR A V → TpI V → CmK S V r x (v2.toInt + 1) → w_X1_flowFrom_J66 Q (w_X1_flowFrom_L30 Q n) V x v2 → w_X1_flowFrom_J66 (fun u => Q u ∧ CkR A u ∧ CkS S u r x) (w_X1_flowFrom_L30 (fun u => Q u ∧ CkR A u ∧ CkS S u r x) n) V x v2 := fun V bV kV tV cV hj => by
      unfold w_X1_flowFrom_J66 at hj ⊢
      intro w a ea
      have e1 : a.toInt = v2.toInt + 1 := by rw [ea, t_addk (by rw [lo_1k]; omega), lo_1k]
      exact ih bV kV tV (by rw [e1]; exact cV) (by omega) (hj w a ea)
    refine ⟨fun y => J U b k tp (fun d a b' e f => ?_) (h4 y), fun y => ?_⟩
    · by_cases s : d.toInt < v2.toInt
      · exact c d a s e f
      · have : d = v2 := Int32.toInt_inj.mp (by omega)
        subst this
        exact absurd (by rw [← eh, ← e61]; exact y) f
    · obtain ⟨f1, f2, f3, Q70, p70, h70⟩ := h5 y
      refine ⟨f1, f2, f3, _, b.cc w tp p70, ?_⟩
      rintro u ⟨⟨gq, hu⟩, fu⟩ wu su
      obtain ⟨bu, tu, cu⟩ := b.cm w tp hu fu
      refine J u bu (k.tr hu.1) tu (fun d a b' e f => ?_) (h70 u gq wu su)
      by_cases s : d.toInt < v2.toInt
      · exact (c d a s e f).mo hu.1.2.1
      · have : d = v2 := Int32.toInt_inj.mp (by omega)
        subst this
        have e7 : qI U (qO U r 7) d.toInt.toNat = qI S (qO S r 7) d.toInt.toNat := by rw [rc.2.2.1.2.2, rc.2.2.2.2.2]
        rw [e7] at cu
        exact cu
theorem ct_flow (hx7 : (fX8_targetCount S r x).toInt ≤ 100000) (b : CkB S U q r) (w : wfC U) (h : wX1_flowFrom U x Q) : wX1_flowFrom U x (fun u => Q u ∧ CkR U u ∧ CkS S u r x) := by
  have o9 := b.o.2
  have rc := b.2.1.1
  have R := b.2.1.2.2.1
  have e9 : qI U r 9 = qI S r 9 := rc.2.1
  unfold wX1_flowFrom at h ⊢
  obtain ⟨f9, h⟩ := h
  refine ⟨f9, fun kk => ?_⟩
  obtain ⟨Q3, p3, h3⟩ := h kk
  refine ⟨_, ct_caught (by rw [o9]; have := R.2; omega) p3, ?_⟩
  rintro r4 S5 ⟨g4, e5, n4⟩ w5 s5
  have h3 := h3 r4 S5 g4 w5 s5
  rw [e5] at h3 ⊢
  refine ⟨fun z => ct_fl72 hx7 b CkR.rf (fun d a _ e f => absurd ?_ f) (h3.1 z), fun z => ?_⟩
  · have := n4 z d a (by rw [o9, e9]; exact e)
    rw [o9, rc.ch] at this
    exact this
  · obtain ⟨Q46, p46, h46⟩ := h3.2 z
    refine ⟨_, ct_takeUp w p46, ?_⟩
    rintro S47 ⟨⟨g47, t47⟩, f47⟩ w47 s47 S49 e49 k49 w49
    obtain ⟨Q50, p50, h50⟩ := h46 S47 g47 w47 s47 S49 e49 k49 w49
    refine ⟨_, frX1_setPlace w49 p50, ?_⟩
    rintro S51 ⟨g51, f51⟩ w51 s51
    obtain ⟨n, h51⟩ := h50 S51 g51 w51 s51
    have k47 : CkR U S47 := CkR.qt w (by rw [o9]; exact b.2.1.2.1) f47 rfl rfl
    have b47 := b.ck w k47
    have f49 : cfr [] [(41, 5)] S47 S49 := by rw [e49]; exact cfr.oI k49 rfl
    have k49' : CkR S47 S49 := CkR.qt w47 (by rw [b47.o.2]; exact b47.2.1.2.1) f49 rfl rfl
    have b49 := b47.ck w47 k49'
    have k51 : CkR S49 S51 := CkR.qt w49 (by rw [b49.o.2]; exact b49.2.1.2.1) f51 rfl rfl
    have t51 : TpI S51 := by
      unfold TpI
      rw [f51.kI w49.k16 (by decide) rfl, e49, qI_wI, if_pos ⟨rfl, rfl⟩]
      decide
    exact ⟨n, ct_fl30 hx7 n (b49.ck w49 k51) ((k47.tr k49').tr k51) t51 (fun d a b' => by rw [li_0k] at b'; omega) (by rw [li_0k]; omega) h51⟩
end CKF
/-! Checker: firstFault -/
section FFC
variable {K : List Nat} {F : List (Nat × Nat)} {S u v U V A D : MS} {q r N : Nat} {Q : MS → Prop} {Q1 : Int32 → MS → Prop} {x y : Int32} {m : Int}
theorem ct_km39 : ∀ (n : Nat) {U : MS} {y : Int32}, (∀ i : Nat, (i : Int) < y.toInt → (kCk U i).toInt = 0) → N ≤ qN U (qO U 16 2) → 0 ≤ y.toInt → w_X1_makeRoom_L39 Q n U y → w_X1_makeRoom_L39 (fun u => Q u ∧ (∀ i : Nat, i < N → (kCk u i).toInt = 0) ∧ N ≤ qN u (qO u 16 2)) n U y := by
  intro n
  induction n with
  | zero => intro U y _ _ _ h; exact h
  | succ n ih =>
    intro U y hz hl y0 h
    unfold w_X1_makeRoom_L39 at h ⊢
    intro w
    obtain ⟨h1, h2⟩ := h w
    refine ⟨fun c => ⟨h1 c, fun i hi => hz i (by omega), hl⟩, fun c => ?_⟩
    obtain ⟨b, h3⟩ := h2 c
    refine ⟨b, fun S8 e8 k8 w8 => ?_⟩
    obtain ⟨b', h4⟩ := h3 S8 e8 k8 w8
    refine ⟨b', fun S11 e11 k11 w11 a ea => ?_⟩
    have h5 := h4 S11 e11 k11 w11 a ea
    have ry := rgI y
    have rl := w.len9 k8 (by decide)
    have e1 : a.toInt = y.toInt + 1 := by rw [ea, t_addk (by rw [lo_1k]; omega), lo_1k]
    obtain ⟨t1, t2, t3⟩ := ck_k w
    have p3 : qO S8 16 3 = qO U 16 3 := by rw [e8]; rfl
    rw [p3] at e11 k11
    have p2 : qO S11 16 2 = qO U 16 2 := by rw [e11, e8]; rfl
    have ne : qO U 16 2 ≠ qO U 16 3 := fun z => by rw [z, t3] at t2; cases t2
    have C : ∀ i, kCk S11 i = if i = y.toInt.toNat then vp_nar .boolean (0 : Int32) else kCk U i := fun i => by
      unfold kCk
      rw [p2, e11, qI_wI, if_neg (fun z => ne z.1), e8, qI_wI]
      by_cases z : i = y.toInt.toNat
      · rw [if_pos ⟨rfl, z⟩, if_pos z]
      · rw [if_neg (fun s => z s.2), if_neg z]
    refine ih (fun i hi => ?_) (by rw [p2, e11, e8]; exact hl) (by omega) h5
    rw [C]
    by_cases z : i = y.toInt.toNat
    · rw [if_pos z]; decide
    · rw [if_neg z]; exact hz i (by omega)
theorem ct_kroom (w : wfC S) (h0 : 0 ≤ x.toInt ∧ x.toInt ≤ 100000) (hq : 16 < qn S) (h : wX1_makeRoom S x Q) : wX1_makeRoom S x (fun u => Q u ∧ (∀ i : Nat, i < x.toInt.toNat → (kCk u i).toInt = 0) ∧ x.toInt.toNat ≤ qN u (qO u 16 2)) := by
  have J : ∀ U : MS, x.toInt.toNat ≤ qN U (qO U 16 2) → w_X1_makeRoom_J37 Q U → w_X1_makeRoom_J37 (fun u => Q u ∧ (∀ i : Nat, i < x.toInt.toNat → (kCk u i).toInt = 0) ∧ x.toInt.toNat ≤ qN u (qO u 16 2)) U := fun U hl hj => by
    unfold w_X1_makeRoom_J37 at hj ⊢
    intro w
    obtain ⟨n, hj⟩ := hj w
    exact ⟨n, ct_km39 n (fun i hi => by rw [li_0k] at hi; omega) hl (by rw [li_0k]; omega) hj⟩
  have m2 := mul2_of (x := x) (by omega)
  unfold wX1_makeRoom at h ⊢
  refine ⟨fun c => J S (by omega) (h.1 c), fun c => ?_⟩
  obtain ⟨b1, h3⟩ := h.2 c
  refine ⟨b1, fun S18 e18 w18 S20 e20 k20 w20 => ?_⟩
  obtain ⟨b2, h4⟩ := h3 S18 e18 w18 S20 e20 k20 w20
  refine ⟨b2, fun S25 e25 w25 S27 e27 k27 w27 => ?_⟩
  obtain ⟨b3, h5⟩ := h4 S25 e25 w25 S27 e27 k27 w27
  refine ⟨b3, fun S32 e32 w32 S34 e34 k34 w34 => J S34 ?_ (h5 S32 e32 w32 S34 e34 k34 w34)⟩
  have s1 : S20 = wR (wN S 102 (((96 : Int32) * x).toInt.toNat) (((96 : Int32) * x).toInt.toNat)) 16 1 (some (qn S)) := by rw [e20, e18]
  have s2 : S27 = wR (wN S20 301 (((2 : Int32) * x).toInt.toNat) (((2 : Int32) * x).toInt.toNat)) 16 2 (some (qn S20)) := by rw [e27, e25]
  have s3 : S34 = wR (wN S27 302 (((2 : Int32) * x).toInt.toNat) (((2 : Int32) * x).toInt.toNat)) 16 3 (some (qn S27)) := by rw [e34, e32]
  obtain ⟨a1, b1', c1, d1, r1, t1, l1, q1, u1⟩ := nwr s1 (by omega)
  obtain ⟨a2, b2', c2, d2, r2, t2, l2, q2, u2⟩ := nwr s2 (by omega)
  obtain ⟨a3, b3', c3, d3, r3, t3, l3, q3, u3⟩ := nwr s3 (by omega)
  have R2 : qR S34 16 2 = some (qn S20) := by rw [d3 2 (by decide), r2]
  rw [qO_of R2, (b3' _ (by omega)).2, l2]
  omega
theorem ct_bb46 (b17 : CkB D A q r) : ∀ (n : Nat) {U : MS} {v1 v2 v3 v4 : Int32}, CkB D U q r → CkR A U → w_X1_beginBody_L46 Q n U v1 v2 v3 v4 → w_X1_beginBody_L46 (fun u => Q u ∧ CkR A u ∧ CmP D u r 0) n U v1 v2 v3 v4 := by
  intro n
  induction n with
  | zero => intro U v1 v2 v3 v4 _ _ h; exact h
  | succ n ih =>
    intro U v1 v2 v3 v4 b k hh
    unfold w_X1_beginBody_L46 at hh ⊢
    intro w
    obtain ⟨h1, h2⟩ := hh w
    refine ⟨fun z S15 e15 k15 w15 => ?_, fun z => ?_⟩
    · obtain ⟨Q16, p16, h16⟩ := h1 z S15 e15 k15 w15
      have f15 : cfr [] [(41, 5)] U S15 := by rw [e15]; exact cfr.oI k15 rfl
      have k15' : CkR U S15 := CkR.qt w (by rw [b.o.2]; exact b.2.1.2.1) f15 rfl rfl
      have b15 := b.ck w k15'
      have t15 : TpI S15 := by
        unfold TpI
        rw [e15, qI_wI, if_pos ⟨rfl, rfl⟩]
        decide
      refine ⟨_, b15.cc w15 t15 p16, ?_⟩
      rintro u ⟨⟨gq, hu⟩, fu⟩ wu su
      obtain ⟨bu, tu, cu⟩ := b15.cm w15 t15 hu fu
      exact ⟨h16 u gq wu su, (k.tr k15').tr hu.1, cu⟩
    · obtain ⟨Q19, p19, h19⟩ := h2 z
      refine ⟨_, frX6_kindAt w p19, ?_⟩
      rintro r20 S21 ⟨g21, f21⟩ w21 s21
      obtain ⟨d, h21⟩ := h19 r20 S21 g21 w21 s21
      have k21 : CkR U S21 := CkR.qt w (by rw [b.o.2]; exact b.2.1.2.1) f21 rfl rfl
      have b21 := b.ck w k21
      refine ⟨d, fun a26 e26 => ?_⟩
      obtain ⟨Q27, p27, h27⟩ := h21 a26 e26
      refine ⟨_, frX1_setPlace w21 p27, ?_⟩
      rintro S28 ⟨g28, f28⟩ w28 s28
      have k28 : CkR S21 S28 := CkR.qt w21 (by rw [b21.o.2]; exact b21.2.1.2.1) f28 rfl rfl
      have b28 := b21.ck w21 k28
      have K28 := (k.tr k21).tr k28
      obtain ⟨h5, h6⟩ := h27 S28 g28 w28 s28
      have J : ∀ V : MS, CkB D V q r → CkR A V → w_X1_beginBody_J84 Q (w_X1_beginBody_L46 Q n) V v1 v2 v3 v4 r20 → w_X1_beginBody_J84 (fun u => Q u ∧ CkR A u ∧ CmP D u r 0) (w_X1_beginBody_L46 (fun u => Q u ∧ CkR A u ∧ CmP D u r 0) n) V v1 v2 v3 v4 r20 := fun V bV kV hj => by
        unfold w_X1_beginBody_J84 w_X1_beginBody_J96 at hj ⊢
        intro w
        obtain ⟨g1, g2⟩ := hj w
        exact ⟨fun s w' a ea a' ea' => ih bV kV (g1 s w' a ea a' ea'), fun s w' a ea a' ea' => ih bV kV (g2 s w' a ea a' ea')⟩
      refine ⟨fun s => ?_, fun s => J S28 b28 K28 (h6 s)⟩
      obtain ⟨Q36, p36, h36⟩ := h5 s
      refine ⟨_, frX1_setPlace w28 p36, ?_⟩
      rintro S37 ⟨g37, f37⟩ w37 s37
      have k37 : CkR S28 S37 := CkR.qt w28 (by rw [b28.o.2]; exact b28.2.1.2.1) f37 rfl rfl
      exact J S37 (b28.ck w28 k37) (K28.tr k37) (h36 S37 g37 w37 s37)
theorem ct_bb2 (b17 : CkB D A q r) : ∀ (n : Nat) {U : MS} {v1 : Int32}, CkB D U q r → CkR A U → w_X1_beginBody_L2 Q n U v1 → w_X1_beginBody_L2 (fun u => Q u ∧ CkR A u ∧ CmP D u r 0) n U v1 := by
  intro n
  induction n with
  | zero => intro U v1 _ _ h; exact h
  | succ n ih =>
    intro U v1 b k hh
    unfold w_X1_beginBody_L2 at hh ⊢
    intro w
    obtain ⟨h1, h2⟩ := hh w
    refine ⟨fun z => ?_, fun z => ?_⟩
    · obtain ⟨e8, e9, d, h3⟩ := h1 z
      refine ⟨e8, e9, d, fun a9 ea => ?_⟩
      obtain ⟨Q10, p10, h10⟩ := h3 a9 ea
      refine ⟨_, frX6_kindCount w p10, ?_⟩
      rintro r11 S12 ⟨g12, f12⟩ w12 s12
      obtain ⟨m', hm⟩ := h10 r11 S12 g12 w12 s12
      have k12 : CkR U S12 := CkR.qt w (by rw [b.o.2]; exact b.2.1.2.1) f12 rfl rfl
      exact ⟨m', ct_bb46 b17 m' (b.ck w k12) (k.tr k12) hm⟩
    · obtain ⟨bb, h3⟩ := h2 z
      refine ⟨bb, fun S40 e40 k40 w40 a ea => ?_⟩
      have f40 : cfr [103] [] U S40 := by rw [e40]; exact cfr.aI k40 rfl
      have k40' : CkR U S40 := CkR.qt w (by rw [b.o.2]; exact b.2.1.2.1) f40 rfl rfl
      exact ih (b.ck w k40') (k.tr k40') (h3 S40 e40 k40 w40 a ea)
theorem ct_body (w : wfC U) (b : CkB D U q r) (h : wX1_beginBody U Q) : wX1_beginBody U (fun u => Q u ∧ CkR U u ∧ CmP D u r 0) := by
  obtain ⟨n, h⟩ := h
  exact ⟨n, ct_bb2 b n b CkR.rf h⟩
/-- what has come waits, or has been sent on -/
def FsIk (D U : MS) (q r : Nat) (I : Int) : Prop := CkB D U q r ∧ (∀ i : Nat, (i : Int) < nR D r → ¬ (kCk U i).toInt = 0 → ¬ (kW U i).toInt = 0 ∨ CkS D U r (Int32.ofInt i)) ∧ ((qI U 16 7).toInt = 0 → ∀ i : Nat, (i : Int) < I → (kW U i).toInt = 0)
/-- what goThrough finds of a return -/
def RtP (D : MS) (q r : Nat) (x : Int32) : Prop := 172 ≤ (fX8_opAt D r x).toInt → (fX8_opAt D r x).toInt ≤ 177 → (fX10_takes D q r x).toInt = (fX10_givesOfMethod D q (qI D r 11)).toInt
end FFC
