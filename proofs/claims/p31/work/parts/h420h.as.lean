/-! addSwitch and addTo: what is put -/
section ASX
variable {S S1 u v U V : MS} {Q : MS → Prop} {r i : Nat} {x : Int32} {y : Int64} {N M : Int}
theorem cu_as90 {P : Int32 → Prop} {H : Int} {hd q n : Int32} {m : Int} (h4 : 0 ≤ (qI S1 r 4).toInt) (hn : 0 ≤ n.toInt ∧ n.toInt ≤ 300) (hm : 1 ≤ m) (hH : H + 2 ≤ m) (hr : (qI S 8 9).toInt = 171 → (qI S1 r 4).toInt + m + n.toInt ≤ (qN S (r + 3) : Int)) (hb : (qI S1 r 4).toInt + m + n.toInt ≤ 100000) : ∀ (k : Nat) {U : MS} {v : Int32} {l : Int}, TaG S U r → TaX P H S1 U r hd (m + v.toInt) → 0 ≤ v.toInt → v.toInt ≤ n.toInt → w_X2_addSwitch_L90 Q k U r q n v → w_X2_addSwitch_L90 (fun u => Q u ∧ ∃ l : Int, m ≤ l ∧ TaX P H S1 u r hd l) k U r q n v := by
  intro k
  induction k with
  | zero => intro U v l _ _ _ _ h; exact h
  | succ k ih =>
    intro U v l g t v0 v1 h
    unfold w_X2_addSwitch_L90 at h ⊢
    intro w kr
    obtain ⟨h1, h2⟩ := h w kr
    refine ⟨fun c => ?_, fun c => ⟨h2 c, m + v.toInt, by omega, t⟩⟩
    obtain ⟨h3, h5⟩ := h1 c
    rw [g.2.2.2.1.1] at c
    refine ⟨fun c1 => ⟨h3 c1, m + v.toInt, by omega, t⟩, fun c1 => ?_⟩
    obtain ⟨d, h6⟩ := h5 c1
    refine ⟨d, fun a25 e25 kk => ?_⟩
    obtain ⟨Q26, p26, h26⟩ := h6 a25 e25 kk
    have hr' := hr c
    refine ⟨_, g.put t (by omega) h4 (by omega) (by omega) (fun z => by omega) (fun j hj hz => by omega) p26, ?_⟩
    rintro S27 ⟨⟨g27, t27⟩, f27⟩ w27 s27 a ea
    have e1 : a.toInt = v.toInt + 1 := by rw [ea, t_addk (by rw [lo_1k]; omega), lo_1k]
    exact ih (l := l) (g.fr w27 f27 rfl rfl rfl rfl rfl rfl rfl rfl rfl rfl) (by rw [e1, ← Int.add_assoc]; exact t27) (by omega) (by omega) (h26 S27 g27 w27 s27 a ea)
theorem cu_as60 {P : Int32 → Prop} {H : Int} {hd q n : Int32} (h4 : 0 ≤ (qI S1 r 4).toInt) (hn : 0 ≤ n.toInt ∧ n.toInt ≤ 300) (hH : H = n.toInt + 1) (hr : (qI S1 r 4).toInt + n.toInt + 3 + (if (qI S 8 9).toInt = 171 then n.toInt else 0) ≤ (qN S (r + 3) : Int)) (hb : (qI S1 r 4).toInt ≤ 50000) (hP : ∀ j : Int32, -1 ≤ j.toInt → j.toInt < n.toInt → P (fX2_numberOf S (fX2_switchTarget S q j))) (hI : ∀ j : Int32, -1 ≤ j.toInt → j.toInt < n.toInt → ¬ (fX2_isInstruction S (fX2_switchTarget S q j)).toInt = 0) : ∀ (k : Nat) {U : MS} {v : Int32}, TaG S U r → TaX P H S1 U r hd (v.toInt + 3) → -1 ≤ v.toInt → v.toInt ≤ n.toInt → w_X2_addSwitch_L60 Q k U r q n v → w_X2_addSwitch_L60 (fun u => Q u ∧ ∃ l : Int, n.toInt + 3 ≤ l ∧ TaX P H S1 u r hd l) k U r q n v := by
  intro k
  induction k with
  | zero => intro U v _ _ _ _ h; exact h
  | succ k ih =>
    intro U v g t v0 v1 h
    unfold w_X2_addSwitch_L60 at h ⊢
    intro w kr
    obtain ⟨h1, h2⟩ := h w kr
    refine ⟨fun c => ?_, fun c => ?_⟩
    · obtain ⟨m, h3⟩ := h1 c
      have ev : v.toInt = n.toInt := by omega
      have z0 := li_0k
      refine ⟨m, cu_as90 (m := n.toInt + 3) (l := 0) h4 hn (by omega) (by omega) (fun c9 => by rw [if_pos c9] at hr; omega) (by omega) m g (by rw [z0, Int.add_zero, ← ev]; exact t) (by omega) (by omega) h3⟩
    · obtain ⟨d1, h3⟩ := h2 c
      refine ⟨d1, fun a33 e33 => ?_⟩
      obtain ⟨d2, h3⟩ := h3 a33 e33
      refine ⟨d2, fun a37 e37 kk => ?_⟩
      obtain ⟨Q38, p38, h38⟩ := h3 a37 e37 kk
      have hi := hI v v0 (by omega)
      have e37' : a37 = fX2_numberOf S (fX2_switchTarget S q v) := by
        rw [e37, e33, g.2.2.1.swT g.2.2.2.1.1 g.2.2.2.1.2.2, g.2.2.1.num (ins_num hi).1]
      refine ⟨_, g.put t (by omega) h4 (by split at hr <;> omega) (by omega) (fun z => by omega) (fun j hj hz => by rw [e37']; exact hP v v0 (by omega)) p38, ?_⟩
      rintro S39 ⟨⟨g39, t39⟩, f39⟩ w39 s39 a ea
      have e1 : a.toInt = v.toInt + 1 := by rw [ea, t_addk (by rw [lo_1k]; omega), lo_1k]
      exact ih (g.fr w39 f39 rfl rfl rfl rfl rfl rfl rfl rfl rfl rfl) (by rw [e1, show v.toInt + 1 + 3 = v.toInt + 3 + 1 by omega]; exact t39) (by omega) (by omega) (h38 S39 g39 w39 s39 a ea)
/-- what addTo leaves: one instruction more -/
def AcP (N M : Int) (S u : MS) (r : Nat) : Prop := ((qI u r 2).toInt = (qI S r 2).toInt + 1 ∧ (qI S r 4).toInt ≤ (qI u r 4).toInt ∧ qO u r 3 = qO S r 3) ∧ (∀ i, i ≠ (qI S r 2).toInt.toNat → rOp u r i = rOp S r i ∧ rAr u r i = rAr S r i) ∧ (∀ j : Nat, (j : Int) < (qI S r 4).toInt → qI u (qO S r 3) j = qI S (qO S r 3) j) ∧ OkE N M u r (qI S r 2).toInt.toNat
theorem AdP.ac (a : AdP S u r x y) (hc : (qI S r 2).toInt < (qN S (qO S r 0) : Int)) (ho : okOp x.toInt) (hs : ¬ swO x) (hj : ¬ (fX6_isJump u x).toInt = 0 → 0 ≤ (y.toInt32).toInt ∧ (y.toInt32).toInt < N) (hl : ¬ (fX6_usesLocal u x).toInt = 0 → ((y.toInt32) &&& (255 : Int32)).toInt < 24) (h9 : x.toInt = 179 → 0 ≤ (y.toInt32).toInt ∧ (y.toInt32).toInt < 24) (h4 : x.toInt = 184 → 0 ≤ (y.toInt32).toInt ∧ (y.toInt32).toInt < M) : AcP N M S u r := by
  obtain ⟨⟨a1, a2, a3, a4, a5⟩, a6⟩ := a
  have q := a6.resolve_left (fun z => by omega)
  refine ⟨⟨q.1, by rw [a1]; exact Int.le_refl _, a4⟩, q.2.2.1, fun j _ => by rw [a5], ?_⟩
  unfold OkE
  rw [q.2.2.2.1, q.2.2.2.2]
  exact ⟨ho, hj, fun z => absurd z hs, hl, h9, h4⟩
/-- the numbers of instructions are below N -/
def NmB (N : Int) (S : MS) : Prop := ∀ y : Int64, ¬ (fX2_isInstruction S y).toInt = 0 → 0 ≤ (fX2_numberOf S y).toInt ∧ (fX2_numberOf S y).toInt < N
theorem cu_addSwitch {nd : Int} (w : wfC S) (P : RpK S r) (hs : (qI S 8 9).toInt = 170 ∨ (qI S 8 9).toInt = 171) (pw : PwW S) (nb : NmB N S) (hc : SwC S nd) (c0 : 0 ≤ (qI S r 2).toInt ∧ (qI S r 2).toInt < (qN S (r + 1) : Int) ∧ (qI S r 2).toInt ≤ 100000) (t0 : 0 ≤ (qI S r 4).toInt ∧ (qI S r 4).toInt ≤ 40000) (hr : (qI S r 4).toInt + nd ≤ (qN S (r + 3) : Int)) (h : wX2_addSwitch S r Q) : wX2_addSwitch S r (fun u => Q u ∧ AcP N M S u r) := by
  have cnt := hc.2.2
  have cn0 : 0 ≤ (fX2_switchCount S ((qJ S 8 10).toInt32)).toInt := by rcases hc.1 with q | q <;> omega
  have ok : okOp (qI S 8 9).toInt := by
    rcases hs with e | e
    · rw [e]; exact ⟨by decide, by decide, by decide⟩
    · rw [e]; exact ⟨by decide, by decide, by decide⟩
  have us : ∀ W : MS, (fX6_usesLocal W (qI S 8 9)).toInt = 0 := fun W => by
    exact us_no (by refine ⟨?_, ?_, ?_, ?_, ?_, ?_, ?_⟩ <;> omega)
  have js : ∀ W : MS, (fX6_isJump W (qI S 8 9)).toInt = 0 := fun W => by
    unfold fX6_isJump f_X6_isJump_J14
    rw [if_neg (by omega), if_neg (by omega), if_neg (by omega), if_neg (by omega)]
    rfl
  obtain ⟨o0, o1, o3⟩ := P.o
  unfold wX2_addSwitch at h ⊢
  intro a1 e1
  obtain ⟨d, h⟩ := h a1 e1
  refine ⟨d, fun a5 e5 kk => ?_⟩
  obtain ⟨Q6, p6, h6⟩ := h a5 e5 kk
  rw [← e1, ← e5] at cnt cn0
  have ec : (fX2_switchCount S ((qJ S 8 10).toInt32)).toInt = a5.toInt := by rw [e5, e1]
  have hP : ∀ j : Int32, -1 ≤ j.toInt → j.toInt < a5.toInt → ¬ (fX2_isInstruction S (fX2_switchTarget S a1 j)).toInt = 0 := fun j j0 j1 => by
    rw [e1]
    exact pw.2.1 hs j j0 (by rw [ec]; exact j1)
  refine ⟨_, frX8_add w (cu_add w P c0 p6), ?_⟩
  rintro S7 ⟨⟨g7, a7⟩, f7⟩ w7 s7 k7
  have G7 : TaG S S7 r := TaG.fr ⟨w, P, smP.rf, ⟨rfl, rfl, rfl⟩, rfl⟩ w7 f7 rfl rfl rfl rfl rfl rfl rfl rfl rfl rfl
  obtain ⟨Q10, p10, h10⟩ := h6 S7 g7 w7 s7 k7
  have A := a7
  have q := a7.2.resolve_left (fun z => by rw [o0] at z; omega)
  have t7 : (qI S7 r 4).toInt = (qI S r 4).toInt := by rw [a7.1.1]
  have ehd : (a5 + (1 : Int32)).toInt = a5.toInt + 1 := by rw [t_addk (by rw [li_1k]; omega), li_1k]
  have T0 : TaX (fun z => 0 ≤ z.toInt ∧ z.toInt < N) (a5.toInt + 1) S7 S7 r (a5 + (1 : Int32)) 0 := ⟨⟨by omega, rfl, rfl, rfl, rfl⟩, fun i => ⟨rfl, rfl⟩, fun j _ => rfl, fun z => by omega, fun j _ hz => by omega⟩
  have nd' : a5.toInt + 3 + (if (qI S 8 9).toInt = 171 then a5.toInt else 0) ≤ nd := by
    rw [← ec]
    rcases hc.1 with z | z
    · rw [if_neg (by omega)]; omega
    · rw [if_pos z.1]; omega
  have i0 : 0 ≤ (if (qI S 8 9).toInt = 171 then a5.toInt else 0) := by split <;> omega
  refine ⟨_, G7.put T0 (by omega) (by omega) (by omega) (by omega) (fun _ => rfl) (fun j _ hz => by omega) p10, ?_⟩
  rintro S11 ⟨⟨g11, t11⟩, f11⟩ w11 s11
  have G11 : TaG S S11 r := G7.fr w11 f11 rfl rfl rfl rfl rfl rfl rfl rfl rfl rfl
  obtain ⟨h12, h13⟩ := h10 S11 g11 w11 s11
  have done : ∀ V : MS, (∃ l : Int, a5.toInt + 3 ≤ l ∧ TaX (fun z => 0 ≤ z.toInt ∧ z.toInt < N) (a5.toInt + 1) S7 V r (a5 + (1 : Int32)) l) → AcP N M S V r := fun V ⟨l, hl, t⟩ => by
    obtain ⟨⟨b1, b2, b3, b4, b5⟩, c, d, e, f⟩ := t
    have e3 : qO S7 r 3 = qO S r 3 := A.1.2.2.2.1
    have eop : rOp V r (qI S r 2).toInt.toNat = qI S 8 9 := by rw [(c _).1, q.2.2.2.1]
    have ear : rAr V r (qI S r 2).toInt.toNat = (qI S r 4).toInt64 := by rw [(c _).2, q.2.2.2.2]
    have eaT : aTk V r (qI S r 2).toInt.toNat = (qI S r 4).toInt := by
      unfold rAr at ear
      unfold aTk
      rw [ear, i6432]
    have emT : mT V r (qI S r 2).toInt.toNat = a5.toInt + 1 := by
      unfold mT
      rw [eaT, b5, show (qI S r 4).toInt.toNat = (qI S7 r 4).toInt.toNat by omega, e (by omega), ehd]
    refine ⟨⟨by rw [b2]; exact q.1, by omega, b5.trans e3⟩, fun i hi => ⟨(c i).1.trans (q.2.2.1 i hi).1, (c i).2.trans (q.2.2.1 i hi).2⟩, fun j hj => ?_, ?_⟩
    · rw [← e3, d j (by omega), e3, A.1.2.2.2.2]
    · unfold OkE
      rw [eop, ear, eaT, emT, b5]
      refine ⟨ok, fun z => absurd (js V) z, fun _ j hj => ?_, fun z => absurd (us V) z, fun z => by omega, fun z => by omega⟩
      have := f j hj (by omega)
      rw [t7] at this
      exact this
  have J : ∀ t : Int32, w_X2_addSwitch_J54 Q S11 t r r a1 a5 → w_X2_addSwitch_J54 (fun u => Q u ∧ AcP N M S u r) S11 t r r a1 a5 := fun t hj => by
    unfold w_X2_addSwitch_J54 at hj ⊢
    intro wj k1 k2 k3
    obtain ⟨Q13, p13, h14⟩ := hj wj k1 k2 k3
    refine ⟨_, G11.put t11 (by omega) (by omega) (by omega) (by omega) (fun z => by omega) (fun j hj hz => by omega) p13, ?_⟩
    rintro S14 ⟨⟨g14, t14⟩, f14⟩ w14 s14
    obtain ⟨k, h15⟩ := h14 S14 g14 w14 s14
    have G14 : TaG S S14 r := G11.fr w14 f14 rfl rfl rfl rfl rfl rfl rfl rfl rfl rfl
    have lm := li_m1k
    have z := cu_as60 (S := S) (S1 := S7) (Q := Q) (P := fun z => 0 ≤ z.toInt ∧ z.toInt < N) (H := a5.toInt + 1) (hd := a5 + (1 : Int32)) (q := a1) (n := a5) (by omega) ⟨cn0, by omega⟩ rfl (by omega) (by omega) (fun j j0 j1 => nb _ (hP j j0 j1)) hP k G14 (v := -1) (by rw [lm]; exact t14) (by omega) (by omega) h15
    refine ⟨k, ?_⟩
    revert z
    have mono : ∀ (k : Nat) {U : MS} {v : Int32} {Q1 Q2 : MS → Prop}, (∀ u, Q1 u → Q2 u) → w_X2_addSwitch_L90 Q1 k U r a1 a5 v → w_X2_addSwitch_L90 Q2 k U r a1 a5 v := fun k => by
      induction k with
      | zero => intro U v Q1 Q2 _ h; exact h
      | succ k ih =>
        intro U v Q1 Q2 m h
        unfold w_X2_addSwitch_L90 at h ⊢
        intro w kr
        obtain ⟨h1, h2⟩ := h w kr
        refine ⟨fun c => ⟨fun c1 => m _ ((h1 c).1 c1), fun c1 => ⟨((h1 c).2 c1).1, fun a e kk => ?_⟩⟩, fun c => m _ (h2 c)⟩
        obtain ⟨Q26, p26, h26⟩ := ((h1 c).2 c1).2 a e kk
        exact ⟨Q26, p26, fun S27 g w27 s27 a2 ea => ih m (h26 S27 g w27 s27 a2 ea)⟩
    have mono60 : ∀ (k : Nat) {U : MS} {v : Int32} {Q1 Q2 : MS → Prop}, (∀ u, Q1 u → Q2 u) → w_X2_addSwitch_L60 Q1 k U r a1 a5 v → w_X2_addSwitch_L60 Q2 k U r a1 a5 v := fun k => by
      induction k with
      | zero => intro U v Q1 Q2 _ h; exact h
      | succ k ih =>
        intro U v Q1 Q2 m h
        unfold w_X2_addSwitch_L60 at h ⊢
        intro w kr
        obtain ⟨h1, h2⟩ := h w kr
        refine ⟨fun c => ?_, fun c => ?_⟩
        · obtain ⟨n, hn⟩ := h1 c
          exact ⟨n, mono n m hn⟩
        · obtain ⟨d1, h3⟩ := h2 c
          refine ⟨d1, fun a33 e33 => ?_⟩
          obtain ⟨d2, h3⟩ := h3 a33 e33
          refine ⟨d2, fun a37 e37 kk => ?_⟩
          obtain ⟨Q38, p38, h38⟩ := h3 a37 e37 kk
          exact ⟨Q38, p38, fun S39 g w39 s39 a ea => ih m (h38 S39 g w39 s39 a ea)⟩
    exact mono60 k (fun u hu => ⟨hu.1, done u hu.2⟩)
  refine ⟨fun c => ?_, fun c => J 0 (h13 c)⟩
  obtain ⟨d47, h14⟩ := h12 c
  exact ⟨d47, fun a47 e47 => J a47 (h14 a47 e47)⟩
theorem us_20 (W : MS) : (fX6_usesLocal W 20).toInt = 0 := us_no (by decide)
theorem us_17 (W : MS) : (fX6_usesLocal W 17).toInt = 0 := us_no (by decide)
theorem j_20 (W : MS) : (fX6_isJump W 20).toInt = 0 := by
  unfold fX6_isJump f_X6_isJump_J14
  rw [if_pos (by decide), if_neg (by decide), if_neg (by decide)]
  rfl
theorem j_17 (W : MS) : (fX6_isJump W 17).toInt = 0 := by
  unfold fX6_isJump f_X6_isJump_J14
  rw [if_pos (by decide), if_neg (by decide), if_neg (by decide)]
  rfl
/-- addTo puts an instruction that points well -/
theorem cu_addTo {nd : Int} (w : wfC S) (P : RpK S r) (h7 : (qI S 9 7).toInt ≤ 24) (h8 : (qI S 9 8).toInt ≤ 24) (hM : M = (qI S 9 8).toInt) (hl : (qI S 8 4).toInt ≤ 24) (pw : PwW S) (nb : NmB N S) (ok : okOp (roX (qI S 8 9)).toInt) (hsw : swO (qI S 8 9) → SwC S nd ∧ (qI S r 4).toInt + nd ≤ (qN S (r + 3) : Int)) (c0 : 0 ≤ (qI S r 2).toInt ∧ (qI S r 2).toInt < (qN S (r + 1) : Int) ∧ (qI S r 2).toInt ≤ 100000) (t0 : 0 ≤ (qI S r 4).toInt ∧ (qI S r 4).toInt ≤ 40000) (h : wX2_addTo S r Q) : wX2_addTo S r (fun u => Q u ∧ AcP N M S u r) := by
  obtain ⟨o0, o1, o3⟩ := P.o
  have ad : ∀ {V : MS} {x : Int32} {y : Int64} {Q1 : MS → Prop}, V = S → okOp x.toInt → ¬ swO x → (∀ u : MS, ¬ (fX6_isJump u x).toInt = 0 → 0 ≤ (y.toInt32).toInt ∧ (y.toInt32).toInt < N) → (∀ u : MS, ¬ (fX6_usesLocal u x).toInt = 0 → ((y.toInt32) &&& (255 : Int32)).toInt < 24) → (x.toInt = 179 → 0 ≤ (y.toInt32).toInt ∧ (y.toInt32).toInt < 24) → (x.toInt = 184 → 0 ≤ (y.toInt32).toInt ∧ (y.toInt32).toInt < M) → (∃ Q2, wX8_add V r x y Q2 ∧ ∀ S2, Q2 S2 → wfC S2 → shy V S2 → Q1 S2) → ∃ Q2, wX8_add V r x y Q2 ∧ ∀ S2, Q2 S2 → wfC S2 → shy V S2 → (Q1 S2 ∧ AcP N M S S2 r) := fun {V x y Q1} eV a1 a2 a3 a4 a5 a6 ⟨Q2, p, q⟩ => by
    subst eV
    exact ⟨_, cu_add w P c0 p, fun S2 g w2 s2 => ⟨q S2 g.1 w2 s2, g.2.ac (by rw [o0]; omega) a1 a2 (a3 S2) (a4 S2) a5 a6⟩⟩
  unfold wX2_addTo at h ⊢
  obtain ⟨d1, h1, h2⟩ := h
  refine ⟨d1, fun cj => ?_, fun cj => ?_⟩
  · obtain ⟨d2, h3, h4⟩ := h1 cj
    refine ⟨d2, fun cs => ?_, fun cs kk => ?_⟩
    · have ns := sw_no cs
      have j0 : ∀ u : MS, ¬ (fX6_isJump u (qI S 8 9)).toInt = 0 → False := fun u z => z cj
      obtain ⟨h5, h6⟩ := h3 cs
      refine ⟨fun c kk => ?_, fun c => ?_⟩
      · have z := h5 c kk
        have ok' : okOp (20 : Int32).toInt := ⟨by decide, by decide, by decide⟩
        exact ad rfl ok' (fun q => by unfold swO at q; revert q; decide) (fun u q => absurd (j_20 u) q) (fun u q => absurd (us_20 u) q) (fun q => absurd q (by decide)) (fun q => absurd q (by decide)) z
      obtain ⟨h5, h6⟩ := h6 c
      refine ⟨fun c1 => ?_, fun c1 => ?_⟩
      · obtain ⟨d3, d4, z⟩ := h5 c1
        have ok' : okOp (17 : Int32).toInt := ⟨by decide, by decide, by decide⟩
        exact ⟨d3, d4, fun kk => ad rfl ok' (fun q => by unfold swO at q; revert q; decide) (fun u q => absurd (j_17 u) q) (fun u q => absurd (us_17 u) q) (fun q => absurd q (by decide)) (fun q => absurd q (by decide)) (z kk)⟩
      obtain ⟨h5, h6⟩ := h6 c1
      refine ⟨fun c2 => ?_, fun c2 => ?_⟩
      · obtain ⟨d3, d4, z⟩ := h5 c2
        have ok' : okOp (20 : Int32).toInt := ⟨by decide, by decide, by decide⟩
        exact ⟨d3, d4, fun kk => ad rfl ok' (fun q => by unfold swO at q; revert q; decide) (fun u q => absurd (j_20 u) q) (fun u q => absurd (us_20 u) q) (fun q => absurd q (by decide)) (fun q => absurd q (by decide)) (z kk)⟩
      obtain ⟨h5, h6⟩ := h6 c2
      have rx : roX (qI S 8 9) = qI S 8 9 := by unfold roX; rw [if_neg c, if_neg c1]
      rw [rx] at ok
      have nl : (qI S 8 9).toInt = 178 ∨ (qI S 8 9).toInt = 179 ∨ (qI S 8 9).toInt = 184 → ∀ u : MS, ¬ (fX6_usesLocal u (qI S 8 9)).toInt = 0 → False := fun hx u q => q (by
        exact us_no (by refine ⟨?_, ?_, ?_, ?_, ?_, ?_, ?_⟩ <;> omega))
      have J : (qI S 8 9).toInt = 178 ∨ (qI S 8 9).toInt = 179 → w_X2_addTo_J179 Q S r → w_X2_addTo_J179 (fun u => Q u ∧ AcP N M S u r) S r := fun hx hj => by
        unfold w_X2_addTo_J179 at hj ⊢
        intro w1 k1
        obtain ⟨Q9, p9, h9⟩ := hj w1 k1
        refine ⟨_, cu_memberOf h7 h8 p9, ?_⟩
        rintro z S11 ⟨g, eu, ez⟩ w11 s11 k11
        have hm := pw.2.2.2.1 (by omega)
        have rg := (memF_rg h7 h8 hm).1 (by decide)
        have q := h9 z S11 g w11 s11 k11
        have q' := ad (x := qI S 8 9) (y := z.toInt64) eu ok ns (fun u t => (j0 u t).elim) (fun u t => (nl (by omega) u t).elim) (fun _ => by rw [i6432, ez]; omega) (fun t => by omega) q
        exact q'
      refine ⟨fun c3 => J (Or.inl c3) (h5 c3), fun c3 => ?_⟩
      obtain ⟨h5, h6⟩ := h6 c3
      refine ⟨fun c4 => J (Or.inr c4) (h5 c4), fun c4 => ?_⟩
      obtain ⟨h5, h6⟩ := h6 c4
      refine ⟨fun c5 => ?_, fun c5 kk => ?_⟩
      · obtain ⟨Q39, p39, h39⟩ := h5 c5
        refine ⟨_, cu_memberOf h7 h8 p39, ?_⟩
        rintro z S41 ⟨g, eu, ez⟩ w41 s41 k41
        have hm := pw.2.2.2.2 c5
        have rg := (memF_rg h7 h8 hm).2 (by decide)
        exact ad (x := qI S 8 9) (y := z.toInt64) eu ok ns (fun u t => (j0 u t).elim) (fun u t => (nl (by omega) u t).elim) (fun t => by omega) (fun _ => by rw [i6432, ez, hM]; omega) (h39 z S41 g w41 s41 k41)
      · refine ad rfl ok ns (fun u t => (j0 u t).elim) (fun u t => ?_) (fun t => absurd t c4) (fun t => absurd t c5) (h6 c5 kk)
        have ul := pw.2.2.1 t
        have a := c_andk (z := ((qJ S 8 10).toInt32) &&& (255 : Int32)) (x := (qJ S 8 10).toInt32) (m := 255) (k := 8) (b := 256) rfl (by decide) (by decide) (by decide)
        have lw : 1 ≤ (fX6_localWidth S (qI S 8 9)).toInt ∧ (fX6_localWidth S (qI S 8 9)).toInt ≤ 2 := by
          unfold fX6_localWidth
          split
          · exact ⟨by show (1 : Int) ≤ (2 : Int32).toInt; decide, by show (2 : Int32).toInt ≤ 2; decide⟩
          · split
            · exact ⟨by show (1 : Int) ≤ (2 : Int32).toInt; decide, by show (2 : Int32).toInt ≤ 2; decide⟩
            · exact ⟨by decide, by decide⟩
        rw [t_addk (by omega)] at ul
        omega
    · have sw := is_sw cs
      obtain ⟨sc, rm⟩ := hsw sw
      obtain ⟨Q49, p49, h49⟩ := h4 cs kk
      exact ⟨_, cu_addSwitch w P sw pw nb sc c0 t0 rm p49, fun S50 g w50 s50 => ⟨h49 S50 g.1 w50 s50, g.2⟩⟩
  · obtain ⟨d2, h3⟩ := h2 cj
    have j1 := jump1 cj
    have nr := nb _ (pw.1 cj)
    have rx : roX (qI S 8 9) = qI S 8 9 := by unfold roX; rw [if_neg (by omega), if_neg (by omega)]
    rw [rx] at ok
    refine ⟨d2, fun kk => ad rfl ok (fun q => by unfold swO at q; omega) (fun u t => by rw [i6432]; exact nr) (fun u t => absurd (by
      exact us_no (by refine ⟨?_, ?_, ?_, ?_, ?_, ?_, ?_⟩ <;> omega)) t) (fun t => by omega) (fun t => by omega) (h3 kk)⟩
end ASX
/-! what a Row that was read says of its instructions and catches -/
section GDX
variable {S u v U V : MS} {Q : MS → Prop} {Q1 : Nat → MS → Prop} {q r i : Nat} {x o : Int32} {N M : Int}
def RgI (N M : Int) (U : MS) (r : Nat) : Prop := ∀ i : Nat, (i : Int) < (qI U r 2).toInt → OkE N M U r i
theorem OkE.mono (h : OkE N M S r i) (hop : rOp u r i = rOp S r i ∧ rAr u r i = rAr S r i) (htb : ∀ j : Nat, (j : Int) < (qI S r 4).toInt → qI u (qO u r 3) j = qI S (qO S r 3) j) (rv : swO (rOp S r i) → 0 ≤ aTk S r i ∧ 1 ≤ mT S r i ∧ mT S r i ≤ 300 ∧ eT S r i ≤ (qI S r 4).toInt) : OkE N M u r i := by
  obtain ⟨a, b, c, d, e, f⟩ := h
  unfold OkE
  rw [hop.1, hop.2]
  refine ⟨a, b, fun sw => ?_, d, e, f⟩
  obtain ⟨r1, r2, r3, r4⟩ := rv sw
  have z := szT_ge (o := rOp S r i) r2
  have ee : eT S r i = aTk S r i + szT (rOp S r i) (mT S r i) := rfl
  have ea : aTk u r i = aTk S r i := by have p := hop.2; unfold rAr at p; unfold aTk; rw [p]
  have em : mT u r i = mT S r i := by
    unfold mT
    rw [ea, htb (aTk S r i).toNat (by omega)]
  rw [ea, em]
  intro j hj
  rw [htb _ (by omega)]
  exact c sw j hj
theorem RgI.mv (h : RgI N M S r) (s : rSm S u r) : RgI N M u r := fun i hi => by
  rw [s.1.1] at hi
  have ea : aTk u r i = aTk S r i := by have p := s.xAr i; unfold rAr at p; unfold aTk; rw [p]
  have et : qI u (qO u r 3) = qI S (qO S r 3) := by rw [s.2.1.2.2, s.2.2.2.2]
  have em : mT u r i = mT S r i := by unfold mT; rw [ea, et]
  have k := h i hi
  unfold OkE at k ⊢
  rw [s.xOp, s.xAr, ea, em, et]
  exact k
/-- the numbers are below the count of instructions -/
theorem NuV.nb (n : NuV S) (hs : (qI S 8 2).toInt ≤ 1200) (hc : cN S 1300 0 ≤ 100000) : NmB (cN S 1300 0) S := fun y hy => by
  obtain ⟨y1, y2⟩ := ins_num hy
  have k0 : (0 : Int64).toInt = 0 := by decide
  have k1 : ((1201 : Int32).toInt64).toInt = 1201 := by decide
  have z1 : y.toInt < (qI S 8 2).toInt := by
    rcases c_cmpk (x := y) (y := (qI S 8 2).toInt64) with q | q | q
    · omega
    · omega
    · have := q.2; rw [i64_toInt] at this; exact this
  have e : (fX2_numberOf S y).toInt = -1 ∨ 0 ≤ y.toInt ∧ fX2_numberOf S y = qI S 15 (y.toInt32).toInt.toNat := by
    unfold fX2_numberOf
    by_cases c : (lg_cmp y 0).toInt < 0
    · rw [if_pos c]; left; rfl
    · have y0 : 0 ≤ y.toInt := by rcases c_cmpk (x := y) (y := 0) with q | q | q <;> omega
      have n : ¬ 0 < (lg_cmp y ((qI S 8 2).toInt64)).toInt := by omega
      rw [if_neg c, if_neg n]
      by_cases c1 : (lg_cmp y ((1201 : Int32).toInt64)).toInt < 0
      · rw [if_pos c1]; exact Or.inr ⟨y0, rfl⟩
      · rw [if_neg c1]; left; rfl
  rcases e with e | ⟨y0, e⟩
  · omega
  · have e32 : (y.toInt32).toInt = y.toInt := l32_small ⟨y0, by omega⟩
    have rg := (nuA_rg (S := S) hs 1300 0 0 (y.toInt32).toInt.toNat (by decide) (by decide) (by rw [li_0k]; omega)).2
    rw [← n _ (by omega), ← e, li_0k] at rg
    omega
def GdR (M : Int) (u : MS) (r : Nat) : Prop := 1 ≤ (qI u r 2).toInt ∧ (0 ≤ (qI u r 10).toInt ∧ (qI u r 10).toInt ≤ 24) ∧ RgI (qI u r 2).toInt M u r ∧ ∀ c : Nat, (c : Int) < (qI u r 9).toInt → 0 ≤ (qI u (qO u r 7) c).toInt ∧ (qI u (qO u r 7) c).toInt < (qI u r 2).toInt
/-- along with a Row that stays -/
theorem GdR.mv (h : GdR M S r) (s : rSm S u r) (e9 : qI u r 9 = qI S r 9) (e10 : qI u r 10 = qI S r 10) (e7 : qI u (qO u r 7) = qI S (qO S r 7)) : GdR M u r := by
  obtain ⟨a, b, c, d⟩ := h
  have e2 : qI u r 2 = qI S r 2 := s.1.1
  refine ⟨by rw [e2]; exact a, by rw [e10]; exact b, fun i hi => ?_, fun j hj => ?_⟩
  · rw [e2] at hi ⊢
    have ea : aTk u r i = aTk S r i := by have p := s.xAr i; unfold rAr at p; unfold aTk; rw [p]
    have et : qI u (qO u r 3) = qI S (qO S r 3) := by rw [s.2.1.2.2, s.2.2.2.2]
    have em : mT u r i = mT S r i := by unfold mT; rw [ea, et]
    have k := c i hi
    unfold OkE at k ⊢
    rw [s.xOp, s.xAr, ea, em, et]
    exact k
  · rw [e9] at hj
    rw [e7, e2]
    exact d j hj
theorem NmB.mv (h : NmB N S) (s : smP S u) : NmB N u := fun y hy => by
  rw [s.ins] at hy
  rw [s.num (ins_num hy).1]
  exact h y hy
/-- a catch more -/
theorem cu_addCatch {a b c d : Int32} (h : wX8_addCatch S r a b c d Q) : wX8_addCatch S r a b c d (fun u => Q u ∧ ∀ j : Nat, (j : Int) < (qI u r 9).toInt → (j : Int) < (qI S r 9).toInt ∧ qI u (qO u r 7) j = qI S (qO S r 7) j ∨ qI u (qO u r 7) j = c) := by
  unfold wX8_addCatch at h ⊢
  obtain ⟨e, h1, h2⟩ := h
  refine ⟨e, fun z => ⟨h1 z, fun j hj => Or.inl ⟨hj, rfl⟩⟩, fun z => ?_⟩
  obtain ⟨e1, b1, h3⟩ := h2 z
  refine ⟨e1, b1, fun S8 e8 k8 w8 => ?_⟩
  obtain ⟨e2, b2, h4⟩ := h3 S8 e8 k8 w8
  refine ⟨e2, b2, fun S12 e12 k12 w12 => ?_⟩
  obtain ⟨e3, b3, h5⟩ := h4 S12 e12 k12 w12
  refine ⟨e3, b3, fun S16 e16 k16 w16 => ?_⟩
  obtain ⟨e4, b4, h6⟩ := h5 S16 e16 k16 w16
  refine ⟨e4, b4, fun S20 e20 k20 w20 S22 e22 k22 w22 => ⟨h6 S20 e20 k20 w20 S22 e22 k22 w22, fun j hj => ?_⟩⟩
  have T : ∀ a, qT S a = qT S12 a := fun a => by rw [e12, e8]; rfl
  have o7 : qO S12 r 7 = qO S r 7 := by rw [e12, e8]; rfl
  have k7 : qT S (qO S r 7) = 226 := by rw [T, ← o7]; exact k16
  have k20r : qT S20 r = qT S12 r := by rw [e20, e16]; rfl
  have kr : qT S r = 47 := by rw [T, ← k20r]; exact k22
  have n5 : qO S r 7 ≠ qO S r 5 := fun t => by rw [t, k8] at k7; cases k7
  have k12' : qT S (qO S8 r 6) = 225 := by rw [show qT S (qO S8 r 6) = qT S8 (qO S8 r 6) by rw [e8]; rfl]; exact k12
  have n6 : qO S r 7 ≠ qO S8 r 6 := fun t => by rw [t, k12'] at k7; cases k7
  have k20' : qT S (qO S16 r 8) = 227 := by rw [show qT S (qO S16 r 8) = qT S16 (qO S16 r 8) by rw [e16, e12, e8]; rfl]; exact k20
  have n8 : qO S r 7 ≠ qO S16 r 8 := fun t => by rw [t, k20'] at k7; cases k7
  have nr : qO S r 7 ≠ r := fun t => by rw [t, kr] at k7; cases k7
  have r5 : r ≠ qO S r 5 := fun t => by rw [← t, kr] at k8; cases k8
  have r6 : r ≠ qO S8 r 6 := fun t => by rw [← t, kr] at k12'; cases k12'
  have r8 : r ≠ qO S16 r 8 := fun t => by rw [← t, kr] at k20'; cases k20'
  have o22 : qO S22 r 7 = qO S r 7 := by rw [e22, e20, e16, e12, e8]; rfl
  have c8 : qI S8 r 9 = qI S r 9 := by rw [e8, qI_wI, if_neg (fun t => r5 t.1)]
  have c12 : qI S12 r 9 = qI S r 9 := by rw [e12, qI_wI, if_neg (fun t => r6 t.1), c8]
  have c16 : qI S16 r 9 = qI S r 9 := by rw [e16, qI_wI, if_neg (fun t => nr.symm (by rw [← o7]; exact t.1)), c12]
  have c20 : qI S20 r 9 = qI S r 9 := by rw [e20, qI_wI, if_neg (fun t => r8 t.1), c16]
  have c22 : qI S22 r 9 = qI S r 9 + (1 : Int32) := by rw [e22, qI_wI, if_pos ⟨rfl, rfl⟩, c20]
  have v : ∀ j, qI S22 (qO S22 r 7) j = if j = (qI S r 9).toInt.toNat then c else qI S (qO S r 7) j := fun j => by
    rw [o22, e22, qI_wI, if_neg (fun t => nr t.1), e20, qI_wI, if_neg (fun t => n8 t.1), e16, qI_wI, o7, c12]
    by_cases t : j = (qI S r 9).toInt.toNat
    · rw [if_pos ⟨rfl, t⟩, if_pos t]
    · rw [if_neg (fun s => t s.2), if_neg t, e12, qI_wI, if_neg (fun s => n6 s.1), e8, qI_wI, if_neg (fun s => n5 s.1)]
  rw [c22] at hj
  rw [v]
  have rg := rgI (qI S r 9)
  by_cases t : j = (qI S r 9).toInt.toNat
  · right; rw [if_pos t]
  · rw [if_neg t]
    left
    refine ⟨?_, rfl⟩
    by_cases y : (qI S r 9).toInt = 2147483647
    · have e : qI S r 9 = 2147483647 := Int32.toInt_inj.mp (by rw [y]; rfl)
      have e2 : ((2147483647 : Int32) + 1).toInt = -2147483648 := by decide
      rw [e, e2] at hj
      omega
    · rw [t_addk (by rw [li_1k]; omega), li_1k] at hj
      omega
/-- the catches are read -/
theorem cu_L79 {V0 : MS} (nb : NmB N V0) (pc : PwC V0) : ∀ (n : Nat) {U : MS} {c : Int32}, smP V0 U → qT U (qO U r 7) = 226 → 0 ≤ c.toInt → (∀ j : Nat, (j : Int) < (qI U r 9).toInt → 0 ≤ (qI U (qO U r 7) j).toInt ∧ (qI U (qO U r 7) j).toInt < N) → w_X2_rowOf_L79 Q1 n U r c → w_X2_rowOf_L79 (fun r' u => Q1 r' u ∧ (∀ j : Nat, (j : Int) < (qI u r 9).toInt → 0 ≤ (qI u (qO u r 7) j).toInt ∧ (qI u (qO u r 7) j).toInt < N) ∧ qI u r 10 = qI U r 10) n U r c := by
  intro n
  induction n with
  | zero => intro U c _ _ _ _ h; exact h
  | succ n ih =>
    intro U c y k226 c0 hc h
    unfold w_X2_rowOf_L79 at h ⊢
    intro w kr
    obtain ⟨h1, h2⟩ := h w kr
    refine ⟨fun z => ⟨h1 z, hc, rfl⟩, fun z a26 e26 => ?_⟩
    obtain ⟨d1, h3⟩ := h2 z a26 e26
    refine ⟨d1, fun a30 e30 => ?_⟩
    obtain ⟨d2, h3⟩ := h3 a30 e30
    refine ⟨d2, fun a34 e34 => ?_⟩
    obtain ⟨d3, h3⟩ := h3 a34 e34
    refine ⟨d3, fun a39 e39 => ?_⟩
    obtain ⟨d4, h3⟩ := h3 a39 e39
    refine ⟨d4, fun a43 e43 => ?_⟩
    obtain ⟨d5, h3⟩ := h3 a43 e43
    refine ⟨d5, fun a48 e48 => ?_⟩
    obtain ⟨d6, h3⟩ := h3 a48 e48
    refine ⟨d6, fun a52 e52 => ?_⟩
    obtain ⟨d7, h3⟩ := h3 a52 e52
    refine ⟨d7, fun a57 e57 => ?_⟩
    obtain ⟨Q58, p58, h58⟩ := h3 a57 e57
    refine ⟨_, frX2_errorOf w p58, ?_⟩
    rintro r59 S60 ⟨g60, f60⟩ w60 s60 k60
    obtain ⟨Q62, p62, h62⟩ := h58 r59 S60 g60 w60 s60 k60
    refine ⟨_, frX8_addCatch w60 (cu_addCatch p62), ?_⟩
    rintro S63 ⟨⟨g63, hj63⟩, f63⟩ w63 s63 a65 e65
    have r6 := rgI (qI U 8 6)
    have e1 : a65.toInt = c.toInt + 1 := by rw [e65, t_addk (by rw [lo_1k]; omega), lo_1k]
    have hi := pc c c0 (by rw [← y.2.1.2.2.2.2.2]; omega)
    have e52' : a52 = fX2_numberOf V0 ((fX7_u2 V0 (((qI V0 8 5) + ((8 : Int32) * c)) + (4 : Int32))).toInt64) := by
      have e48' : a48 = fX7_u2 V0 (((qI V0 8 5) + ((8 : Int32) * c)) + (4 : Int32)) := by rw [e48, y.1.1.1.u2, e26, y.2.1.2.2.2.2.1]
      rw [e52, e48', y.num (ins_num hi).1]
    have rg := nb _ hi
    rw [← e52'] at rg
    have y60 : smP V0 S60 := y.tr (smP.fr w f60 rfl rfl rfl rfl rfl rfl rfl rfl rfl)
    have y63 : smP V0 S63 := y60.tr (smP.fr w60 f63 rfl rfl rfl rfl rfl rfl rfl rfl rfl)
    have k7 : ∀ j, qI S60 r j = qI U r j := fun j => f60.kI kr rfl rfl
    have o7 : qO S60 r 7 = qO U r 7 := qO_eq (f60.kO kr rfl rfl)
    have o63 : qO S63 r 7 = qO U r 7 := by rw [qO_eq (f63.kO (j := 7) k60 (by decide) (by decide)), o7]
    have z := ih y63 (by rw [o63]; exact f63.1.T (f60.1.T k226 (by decide)) (by decide)) (c := a65) (by omega) (fun j hj => ?_) (h62 S63 g63 w63 s63 a65 e65)
    · have e10 : qI S63 r 10 = qI U r 10 := by rw [f63.kI k60 (by decide) (by decide), k7]
      rw [e10] at z
      exact z
    · rcases hj63 j hj with q | q
      · rw [q.2]
        rw [k7] at q
        have p7 : qI S60 (qO S60 r 7) j = qI U (qO U r 7) j := by
          rw [o7]
          exact f60.kI k226 rfl rfl
        rw [p7]
        exact hc j q.1
      · rw [q]
        exact rg
end GDX
