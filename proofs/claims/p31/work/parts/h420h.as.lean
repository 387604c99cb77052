/-! addSwitch and addTo: what is put -/
section ASX
variable {S S1 u v U V : MS} {Q : MS → Prop} {r i : Nat} {x : Int32} {y : Int64} {N M : Int}
theorem cu_as90 {P : Int32 → Prop} {H : Int} {hd q n : Int32} {m : Int} (h4 : 0 ≤ (qI S1 r 4).toInt) (hn : 0 ≤ n.toInt ∧ n.toInt ≤ 300) (hm : 1 ≤ m) (hH : H + 2 ≤ m) (hr : (qI S 8 9).toInt = 171 → (qI S1 r 4).toInt + m + n.toInt ≤ (qN S (r + 3) : Int)) (hb : (qI S1 r 4).toInt + m + n.toInt ≤ 100000) : ∀ (k : Nat) {U : MS} {v : Int32} {l : Int}, TaG S U r → TaX P H S1 U r hd (m + v.toInt) → 0 ≤ v.toInt → v.toInt ≤ n.toInt → w_X2_addSwitch_L90 Q k U r q n v → w_X2_addSwitch_L90 (fun u => Q u ∧ ∃ l : Int, m ≤ l ∧ TaX P H S1 u r hd l) k U r q n v := by
  intro k
  induction k with
  | zero => intro U v l _ _ _ _ h; exact h
  | succ k ih =>
    intro U v l g t v0 v1 h
    unfold w_X2_addSwitch_L90 at h ⊢
    intro w kr
    obtain ⟨h1, h2⟩ := h w kr
    refine ⟨fun c => ?_, fun c => ⟨h2 c, m + v.toInt, by omega, t⟩⟩
    obtain ⟨h3, h5⟩ := h1 c
    rw [g.2.2.2.1.1] at c
    refine ⟨fun c1 => ⟨h3 c1, m + v.toInt, by omega, t⟩, fun c1 => ?_⟩
    obtain ⟨d, h6⟩ := h5 c1
    refine ⟨d, fun a25 e25 kk => ?_⟩
    obtain ⟨Q26, p26, h26⟩ := h6 a25 e25 kk
    have hr' := hr c
    refine ⟨_, g.put t (by omega) h4 (by omega) (by omega) (fun z => by omega) (fun j hj hz => by omega) p26, ?_⟩
    rintro S27 ⟨⟨g27, t27⟩, f27⟩ w27 s27 a ea
    have e1 : a.toInt = v.toInt + 1 := by rw [ea, t_addk (by rw [lo_1k]; omega), lo_1k]
    exact ih (l := l) (g.fr w27 f27 rfl rfl rfl rfl rfl rfl rfl rfl rfl rfl) (by rw [e1, ← Int.add_assoc]; exact t27) (by omega) (by omega) (h26 S27 g27 w27 s27 a ea)
theorem cu_as60 {P : Int32 → Prop} {H : Int} {hd q n : Int32} (h4 : 0 ≤ (qI S1 r 4).toInt) (hn : 0 ≤ n.toInt ∧ n.toInt ≤ 300) (hH : H = n.toInt + 1) (hr : (qI S1 r 4).toInt + n.toInt + 3 + (if (qI S 8 9).toInt = 171 then n.toInt else 0) ≤ (qN S (r + 3) : Int)) (hb : (qI S1 r 4).toInt ≤ 50000) (hP : ∀ j : Int32, -1 ≤ j.toInt → j.toInt < n.toInt → P (fX2_numberOf S (fX2_switchTarget S q j))) (hI : ∀ j : Int32, -1 ≤ j.toInt → j.toInt < n.toInt → ¬ (fX2_isInstruction S (fX2_switchTarget S q j)).toInt = 0) : ∀ (k : Nat) {U : MS} {v : Int32}, TaG S U r → TaX P H S1 U r hd (v.toInt + 3) → -1 ≤ v.toInt → v.toInt ≤ n.toInt → w_X2_addSwitch_L60 Q k U r q n v → w_X2_addSwitch_L60 (fun u => Q u ∧ ∃ l : Int, n.toInt + 3 ≤ l ∧ TaX P H S1 u r hd l) k U r q n v := by
  intro k
  induction k with
  | zero => intro U v _ _ _ _ h; exact h
  | succ k ih =>
    intro U v g t v0 v1 h
    unfold w_X2_addSwitch_L60 at h ⊢
    intro w kr
    obtain ⟨h1, h2⟩ := h w kr
    refine ⟨fun c => ?_, fun c => ?_⟩
    · obtain ⟨m, h3⟩ := h1 c
      have ev : v.toInt = n.toInt := by omega
      have z0 := li_0k
      refine ⟨m, cu_as90 (m := n.toInt + 3) (l := 0) h4 hn (by omega) (by omega) (fun c9 => by rw [if_pos c9] at hr; omega) (by omega) m g (by rw [z0, Int.add_zero, ← ev]; exact t) (by omega) (by omega) h3⟩
    · obtain ⟨d1, h3⟩ := h2 c
      refine ⟨d1, fun a33 e33 => ?_⟩
      obtain ⟨d2, h3⟩ := h3 a33 e33
      refine ⟨d2, fun a37 e37 kk => ?_⟩
      obtain ⟨Q38, p38, h38⟩ := h3 a37 e37 kk
      have hi := hI v v0 (by omega)
      have e37' : a37 = fX2_numberOf S (fX2_switchTarget S q v) := by
        rw [e37, e33, g.2.2.1.swT g.2.2.2.1.1 g.2.2.2.1.2.2, g.2.2.1.num (ins_num hi).1]
      refine ⟨_, g.put t (by omega) h4 (by split at hr <;> omega) (by omega) (fun z => by omega) (fun j hj hz => by rw [e37']; exact hP v v0 (by omega)) p38, ?_⟩
      rintro S39 ⟨⟨g39, t39⟩, f39⟩ w39 s39 a ea
      have e1 : a.toInt = v.toInt + 1 := by rw [ea, t_addk (by rw [lo_1k]; omega), lo_1k]
      exact ih (g.fr w39 f39 rfl rfl rfl rfl rfl rfl rfl rfl rfl rfl) (by rw [e1, show v.toInt + 1 + 3 = v.toInt + 3 + 1 by omega]; exact t39) (by omega) (by omega) (h38 S39 g39 w39 s39 a ea)
/-- what addTo leaves: one instruction more -/
def AcP (N M : Int) (S u : MS) (r : Nat) : Prop := ((qI u r 2).toInt = (qI S r 2).toInt + 1 ∧ (qI S r 4).toInt ≤ (qI u r 4).toInt ∧ qO u r 3 = qO S r 3) ∧ (∀ i, i ≠ (qI S r 2).toInt.toNat → rOp u r i = rOp S r i ∧ rAr u r i = rAr S r i) ∧ (∀ j : Nat, (j : Int) < (qI S r 4).toInt → qI u (qO S r 3) j = qI S (qO S r 3) j) ∧ OkE N M u r (qI S r 2).toInt.toNat
theorem AdP.ac (a : AdP S u r x y) (hc : (qI S r 2).toInt < (qN S (qO S r 0) : Int)) (ho : okOp x.toInt) (hs : ¬ swO x) (hj : ¬ (fX6_isJump u x).toInt = 0 → 0 ≤ (y.toInt32).toInt ∧ (y.toInt32).toInt < N) (hl : ¬ (fX6_usesLocal u x).toInt = 0 → ((y.toInt32) &&& (255 : Int32)).toInt < 24) (h9 : x.toInt = 179 → 0 ≤ (y.toInt32).toInt ∧ (y.toInt32).toInt < 24) (h4 : x.toInt = 184 → 0 ≤ (y.toInt32).toInt ∧ (y.toInt32).toInt < M) : AcP N M S u r := by
  obtain ⟨⟨a1, a2, a3, a4, a5⟩, a6⟩ := a
  have q := a6.resolve_left (fun z => by omega)
  refine ⟨⟨q.1, by rw [a1]; exact Int.le_refl _, a4⟩, q.2.2.1, fun j _ => by rw [a5], ?_⟩
  unfold OkE
  rw [q.2.2.2.1, q.2.2.2.2]
  exact ⟨ho, hj, fun z => absurd z hs, hl, h9, h4⟩
/-- the numbers of instructions are below N -/
def NmB (N : Int) (S : MS) : Prop := ∀ y : Int64, ¬ (fX2_isInstruction S y).toInt = 0 → 0 ≤ (fX2_numberOf S y).toInt ∧ (fX2_numberOf S y).toInt < N
theorem cu_addSwitch {nd : Int} (w : wfC S) (P : RpK S r) (hs : (qI S 8 9).toInt = 170 ∨ (qI S 8 9).toInt = 171) (pw : PwW S) (nb : NmB N S) (hc : SwC S nd) (c0 : 0 ≤ (qI S r 2).toInt ∧ (qI S r 2).toInt < (qN S (r + 1) : Int) ∧ (qI S r 2).toInt ≤ 100000) (t0 : 0 ≤ (qI S r 4).toInt ∧ (qI S r 4).toInt ≤ 40000) (hr : (qI S r 4).toInt + nd ≤ (qN S (r + 3) : Int)) (h : wX2_addSwitch S r Q) : wX2_addSwitch S r (fun u => Q u ∧ AcP N M S u r) := by
  have cnt := hc.2.2
  have cn0 : 0 ≤ (fX2_switchCount S ((qJ S 8 10).toInt32)).toInt := by rcases hc.1 with q | q <;> omega
  have ok : okOp (qI S 8 9).toInt := by
    rcases hs with e | e
    · rw [e]; exact ⟨by decide, by decide, by decide⟩
    · rw [e]; exact ⟨by decide, by decide, by decide⟩
  have us : ∀ W : MS, (fX6_usesLocal W (qI S 8 9)).toInt = 0 := fun W => by
    exact us_no (by refine ⟨?_, ?_, ?_, ?_, ?_, ?_, ?_⟩ <;> omega)
  have js : ∀ W : MS, (fX6_isJump W (qI S 8 9)).toInt = 0 := fun W => by
    unfold fX6_isJump f_X6_isJump_J14
    rw [if_neg (by omega), if_neg (by omega), if_neg (by omega), if_neg (by omega)]
    rfl
  obtain ⟨o0, o1, o3⟩ := P.o
  unfold wX2_addSwitch at h ⊢
  intro a1 e1
  obtain ⟨d, h⟩ := h a1 e1
  refine ⟨d, fun a5 e5 kk => ?_⟩
  obtain ⟨Q6, p6, h6⟩ := h a5 e5 kk
  rw [← e1, ← e5] at cnt cn0
  have ec : (fX2_switchCount S ((qJ S 8 10).toInt32)).toInt = a5.toInt := by rw [e5, e1]
  have hP : ∀ j : Int32, -1 ≤ j.toInt → j.toInt < a5.toInt → ¬ (fX2_isInstruction S (fX2_switchTarget S a1 j)).toInt = 0 := fun j j0 j1 => by
    rw [e1]
    exact pw.2.1 hs j j0 (by rw [ec]; exact j1)
  refine ⟨_, frX8_add w (cu_add w P c0 p6), ?_⟩
  rintro S7 ⟨⟨g7, a7⟩, f7⟩ w7 s7 k7
  have G7 : TaG S S7 r := TaG.fr ⟨w, P, smP.rf, ⟨rfl, rfl, rfl⟩, rfl⟩ w7 f7 rfl rfl rfl rfl rfl rfl rfl rfl rfl rfl
  obtain ⟨Q10, p10, h10⟩ := h6 S7 g7 w7 s7 k7
  have A := a7
  have q := a7.2.resolve_left (fun z => by rw [o0] at z; omega)
  have t7 : (qI S7 r 4).toInt = (qI S r 4).toInt := by rw [a7.1.1]
  have ehd : (a5 + (1 : Int32)).toInt = a5.toInt + 1 := by rw [t_addk (by rw [li_1k]; omega), li_1k]
  have T0 : TaX (fun z => 0 ≤ z.toInt ∧ z.toInt < N) (a5.toInt + 1) S7 S7 r (a5 + (1 : Int32)) 0 := ⟨⟨by omega, rfl, rfl, rfl, rfl⟩, fun i => ⟨rfl, rfl⟩, fun j _ => rfl, fun z => by omega, fun j _ hz => by omega⟩
  have nd' : a5.toInt + 3 + (if (qI S 8 9).toInt = 171 then a5.toInt else 0) ≤ nd := by
    rw [← ec]
    rcases hc.1 with z | z
    · rw [if_neg (by omega)]; omega
    · rw [if_pos z.1]; omega
  have i0 : 0 ≤ (if (qI S 8 9).toInt = 171 then a5.toInt else 0) := by split <;> omega
  refine ⟨_, G7.put T0 (by omega) (by omega) (by omega) (by omega) (fun _ => rfl) (fun j _ hz => by omega) p10, ?_⟩
  rintro S11 ⟨⟨g11, t11⟩, f11⟩ w11 s11
  have G11 : TaG S S11 r := G7.fr w11 f11 rfl rfl rfl rfl rfl rfl rfl rfl rfl rfl
  obtain ⟨h12, h13⟩ := h10 S11 g11 w11 s11
  have done : ∀ V : MS, (∃ l : Int, a5.toInt + 3 ≤ l ∧ TaX (fun z => 0 ≤ z.toInt ∧ z.toInt < N) (a5.toInt + 1) S7 V r (a5 + (1 : Int32)) l) → AcP N M S V r := fun V ⟨l, hl, t⟩ => by
    obtain ⟨⟨b1, b2, b3, b4, b5⟩, c, d, e, f⟩ := t
    have e3 : qO S7 r 3 = qO S r 3 := A.1.2.2.2.1
    have eop : rOp V r (qI S r 2).toInt.toNat = qI S 8 9 := by rw [(c _).1, q.2.2.2.1]
    have ear : rAr V r (qI S r 2).toInt.toNat = (qI S r 4).toInt64 := by rw [(c _).2, q.2.2.2.2]
    have eaT : aTk V r (qI S r 2).toInt.toNat = (qI S r 4).toInt := by
      unfold rAr at ear
      unfold aTk
      rw [ear, i6432]
    have emT : mT V r (qI S r 2).toInt.toNat = a5.toInt + 1 := by
      unfold mT
      rw [eaT, b5, show (qI S r 4).toInt.toNat = (qI S7 r 4).toInt.toNat by omega, e (by omega), ehd]
    refine ⟨⟨by rw [b2]; exact q.1, by omega, b5.trans e3⟩, fun i hi => ⟨(c i).1.trans (q.2.2.1 i hi).1, (c i).2.trans (q.2.2.1 i hi).2⟩, fun j hj => ?_, ?_⟩
    · rw [← e3, d j (by omega), e3, A.1.2.2.2.2]
    · unfold OkE
      rw [eop, ear, eaT, emT, b5]
      refine ⟨ok, fun z => absurd (js V) z, fun _ j hj => ?_, fun z => absurd (us V) z, fun z => by omega, fun z => by omega⟩
      have := f j hj (by omega)
      rw [t7] at this
      exact this
  have J : ∀ t : Int32, w_X2_addSwitch_J54 Q S11 t r r a1 a5 → w_X2_addSwitch_J54 (fun u => Q u ∧ AcP N M S u r) S11 t r r a1 a5 := fun t hj => by
    unfold w_X2_addSwitch_J54 at hj ⊢
    intro wj k1 k2 k3
    obtain ⟨Q13, p13, h14⟩ := hj wj k1 k2 k3
    refine ⟨_, G11.put t11 (by omega) (by omega) (by omega) (by omega) (fun z => by omega) (fun j hj hz => by omega) p13, ?_⟩
    rintro S14 ⟨⟨g14, t14⟩, f14⟩ w14 s14
    obtain ⟨k, h15⟩ := h14 S14 g14 w14 s14
    have G14 : TaG S S14 r := G11.fr w14 f14 rfl rfl rfl rfl rfl rfl rfl rfl rfl rfl
    have lm := li_m1k
    have z := cu_as60 (S := S) (S1 := S7) (Q := Q) (P := fun z => 0 ≤ z.toInt ∧ z.toInt < N) (H := a5.toInt + 1) (hd := a5 + (1 : Int32)) (q := a1) (n := a5) (by omega) ⟨cn0, by omega⟩ rfl (by omega) (by omega) (fun j j0 j1 => nb _ (hP j j0 j1)) hP k G14 (v := -1) (by rw [lm]; exact t14) (by omega) (by omega) h15
    refine ⟨k, ?_⟩
    revert z
    have mono : ∀ (k : Nat) {U : MS} {v : Int32} {Q1 Q2 : MS → Prop}, (∀ u, Q1 u → Q2 u) → w_X2_addSwitch_L90 Q1 k U r a1 a5 v → w_X2_addSwitch_L90 Q2 k U r a1 a5 v := fun k => by
      induction k with
      | zero => intro U v Q1 Q2 _ h; exact h
      | succ k ih =>
        intro U v Q1 Q2 m h
        unfold w_X2_addSwitch_L90 at h ⊢
        intro w kr
        obtain ⟨h1, h2⟩ := h w kr
        refine ⟨fun c => ⟨fun c1 => m _ ((h1 c).1 c1), fun c1 => ⟨((h1 c).2 c1).1, fun a e kk => ?_⟩⟩, fun c => m _ (h2 c)⟩
        obtain ⟨Q26, p26, h26⟩ := ((h1 c).2 c1).2 a e kk
        exact ⟨Q26, p26, fun S27 g w27 s27 a2 ea => ih m (h26 S27 g w27 s27 a2 ea)⟩
    have mono60 : ∀ (k : Nat) {U : MS} {v : Int32} {Q1 Q2 : MS → Prop}, (∀ u, Q1 u → Q2 u) → w_X2_addSwitch_L60 Q1 k U r a1 a5 v → w_X2_addSwitch_L60 Q2 k U r a1 a5 v := fun k => by
      induction k with
      | zero => intro U v Q1 Q2 _ h; exact h
      | succ k ih =>
        intro U v Q1 Q2 m h
        unfold w_X2_addSwitch_L60 at h ⊢
        intro w kr
        obtain ⟨h1, h2⟩ := h w kr
        refine ⟨fun c => ?_, fun c => ?_⟩
        · obtain ⟨n, hn⟩ := h1 c
          exact ⟨n, mono n m hn⟩
        · obtain ⟨d1, h3⟩ := h2 c
          refine ⟨d1, fun a33 e33 => ?_⟩
          obtain ⟨d2, h3⟩ := h3 a33 e33
          refine ⟨d2, fun a37 e37 kk => ?_⟩
          obtain ⟨Q38, p38, h38⟩ := h3 a37 e37 kk
          exact ⟨Q38, p38, fun S39 g w39 s39 a ea => ih m (h38 S39 g w39 s39 a ea)⟩
    exact mono60 k (fun u hu => ⟨hu.1, done u hu.2⟩)
  refine ⟨fun c => ?_, fun c => J 0 (h13 c)⟩
  obtain ⟨d47, h14⟩ := h12 c
  exact ⟨d47, fun a47 e47 => J a47 (h14 a47 e47)⟩
theorem us_20 (W : MS) : (fX6_usesLocal W 20).toInt = 0 := us_no (by decide)
theorem us_17 (W : MS) : (fX6_usesLocal W 17).toInt = 0 := us_no (by decide)
theorem j_20 (W : MS) : (fX6_isJump W 20).toInt = 0 := by
  unfold fX6_isJump f_X6_isJump_J14
  rw [if_pos (by decide), if_neg (by decide), if_neg (by decide)]
  rfl
theorem j_17 (W : MS) : (fX6_isJump W 17).toInt = 0 := by
  unfold fX6_isJump f_X6_isJump_J14
  rw [if_pos (by decide), if_neg (by decide), if_neg (by decide)]
  rfl
/-- addTo puts an instruction that points well -/
theorem cu_addTo {nd : Int} (w : wfC S) (P : RpK S r) (h7 : (qI S 9 7).toInt ≤ 24) (h8 : (qI S 9 8).toInt ≤ 24) (hM : M = (qI S 9 8).toInt) (hl : (qI S 8 4).toInt ≤ 24) (pw : PwW S) (nb : NmB N S) (ok : okOp (roX (qI S 8 9)).toInt) (hsw : swO (qI S 8 9) → SwC S nd ∧ (qI S r 4).toInt + nd ≤ (qN S (r + 3) : Int)) (c0 : 0 ≤ (qI S r 2).toInt ∧ (qI S r 2).toInt < (qN S (r + 1) : Int) ∧ (qI S r 2).toInt ≤ 100000) (t0 : 0 ≤ (qI S r 4).toInt ∧ (qI S r 4).toInt ≤ 40000) (h : wX2_addTo S r Q) : wX2_addTo S r (fun u => Q u ∧ AcP N M S u r) := by
  obtain ⟨o0, o1, o3⟩ := P.o
  have ad : ∀ {V : MS} {x : Int32} {y : Int64} {Q1 : MS → Prop}, V = S → okOp x.toInt → ¬ swO x → (∀ u : MS, ¬ (fX6_isJump u x).toInt = 0 → 0 ≤ (y.toInt32).toInt ∧ (y.toInt32).toInt < N) → (∀ u : MS, ¬ (fX6_usesLocal u x).toInt = 0 → ((y.toInt32) &&& (255 : Int32)).toInt < 24) → (x.toInt = 179 → 0 ≤ (y.toInt32).toInt ∧ (y.toInt32).toInt < 24) → (x.toInt = 184 → 0 ≤ (y.toInt32).toInt ∧ (y.toInt32).toInt < M) → (∃ Q2, wX8_add V r x y Q2 ∧ ∀ S2, Q2 S2 → wfC S2 → shy V S2 → Q1 S2) → ∃ Q2, wX8_add V r x y Q2 ∧ ∀ S2, Q2 S2 → wfC S2 → shy V S2 → (Q1 S2 ∧ AcP N M S S2 r) := fun {V x y Q1} eV a1 a2 a3 a4 a5 a6 ⟨Q2, p, q⟩ => by
    subst eV
    exact ⟨_, cu_add w P c0 p, fun S2 g w2 s2 => ⟨q S2 g.1 w2 s2, g.2.ac (by rw [o0]; omega) a1 a2 (a3 S2) (a4 S2) a5 a6⟩⟩
  unfold wX2_addTo at h ⊢
  obtain ⟨d1, h1, h2⟩ := h
  refine ⟨d1, fun cj => ?_, fun cj => ?_⟩
  · obtain ⟨d2, h3, h4⟩ := h1 cj
    refine ⟨d2, fun cs => ?_, fun cs kk => ?_⟩
    · have ns := sw_no cs
      have j0 : ∀ u : MS, ¬ (fX6_isJump u (qI S 8 9)).toInt = 0 → False := fun u z => z cj
      obtain ⟨h5, h6⟩ := h3 cs
      refine ⟨fun c kk => ?_, fun c => ?_⟩
      · have z := h5 c kk
        have ok' : okOp (20 : Int32).toInt := ⟨by decide, by decide, by decide⟩
        exact ad rfl ok' (fun q => by unfold swO at q; revert q; decide) (fun u q => absurd (j_20 u) q) (fun u q => absurd (us_20 u) q) (fun q => absurd q (by decide)) (fun q => absurd q (by decide)) z
      obtain ⟨h5, h6⟩ := h6 c
      refine ⟨fun c1 => ?_, fun c1 => ?_⟩
      · obtain ⟨d3, d4, z⟩ := h5 c1
        have ok' : okOp (17 : Int32).toInt := ⟨by decide, by decide, by decide⟩
        exact ⟨d3, d4, fun kk => ad rfl ok' (fun q => by unfold swO at q; revert q; decide) (fun u q => absurd (j_17 u) q) (fun u q => absurd (us_17 u) q) (fun q => absurd q (by decide)) (fun q => absurd q (by decide)) (z kk)⟩
      obtain ⟨h5, h6⟩ := h6 c1
      refine ⟨fun c2 => ?_, fun c2 => ?_⟩
      · obtain ⟨d3, d4, z⟩ := h5 c2
        have ok' : okOp (20 : Int32).toInt := ⟨by decide, by decide, by decide⟩
        exact ⟨d3, d4, fun kk => ad rfl ok' (fun q => by unfold swO at q; revert q; decide) (fun u q => absurd (j_20 u) q) (fun u q => absurd (us_20 u) q) (fun q => absurd q (by decide)) (fun q => absurd q (by decide)) (z kk)⟩
      obtain ⟨h5, h6⟩ := h6 c2
      have rx : roX (qI S 8 9) = qI S 8 9 := by unfold roX; rw [if_neg c, if_neg c1]
      rw [rx] at ok
      have nl : (qI S 8 9).toInt = 178 ∨ (qI S 8 9).toInt = 179 ∨ (qI S 8 9).toInt = 184 → ∀ u : MS, ¬ (fX6_usesLocal u (qI S 8 9)).toInt = 0 → False := fun hx u q => q (by
        exact us_no (by refine ⟨?_, ?_, ?_, ?_, ?_, ?_, ?_⟩ <;> omega))
      have J : (qI S 8 9).toInt = 178 ∨ (qI S 8 9).toInt = 179 → w_X2_addTo_J179 Q S r → w_X2_addTo_J179 (fun u => Q u ∧ AcP N M S u r) S r := fun hx hj => by
        unfold w_X2_addTo_J179 at hj ⊢
        intro w1 k1
        obtain ⟨Q9, p9, h9⟩ := hj w1 k1
        refine ⟨_, cu_memberOf h7 h8 p9, ?_⟩
        rintro z S11 ⟨g, eu, ez⟩ w11 s11 k11
        have hm := pw.2.2.2.1 (by omega)
        have rg := (memF_rg h7 h8 hm).1 (by decide)
        have q := h9 z S11 g w11 s11 k11
        have q' := ad (x := qI S 8 9) (y := z.toInt64) eu ok ns (fun u t => (j0 u t).elim) (fun u t => (nl (by omega) u t).elim) (fun _ => by rw [i6432, ez]; omega) (fun t => by omega) q
        exact q'
      refine ⟨fun c3 => J (Or.inl c3) (h5 c3), fun c3 => ?_⟩
      obtain ⟨h5, h6⟩ := h6 c3
      refine ⟨fun c4 => J (Or.inr c4) (h5 c4), fun c4 => ?_⟩
      obtain ⟨h5, h6⟩ := h6 c4
      refine ⟨fun c5 => ?_, fun c5 kk => ?_⟩
      · obtain ⟨Q39, p39, h39⟩ := h5 c5
        refine ⟨_, cu_memberOf h7 h8 p39, ?_⟩
        rintro z S41 ⟨g, eu, ez⟩ w41 s41 k41
        have hm := pw.2.2.2.2 c5
        have rg := (memF_rg h7 h8 hm).2 (by decide)
        exact ad (x := qI S 8 9) (y := z.toInt64) eu ok ns (fun u t => (j0 u t).elim) (fun u t => (nl (by omega) u t).elim) (fun t => by omega) (fun _ => by rw [i6432, ez, hM]; omega) (h39 z S41 g w41 s41 k41)
      · refine ad rfl ok ns (fun u t => (j0 u t).elim) (fun u t => ?_) (fun t => absurd t c4) (fun t => absurd t c5) (h6 c5 kk)
        have ul := pw.2.2.1 t
        have a := c_andk (z := ((qJ S 8 10).toInt32) &&& (255 : Int32)) (x := (qJ S 8 10).toInt32) (m := 255) (k := 8) (b := 256) rfl (by decide) (by decide) (by decide)
        have lw : 1 ≤ (fX6_localWidth S (qI S 8 9)).toInt ∧ (fX6_localWidth S (qI S 8 9)).toInt ≤ 2 := by
          unfold fX6_localWidth
          split
          · exact ⟨by show (1 : Int) ≤ (2 : Int32).toInt; decide, by show (2 : Int32).toInt ≤ 2; decide⟩
          · split
            · exact ⟨by show (1 : Int) ≤ (2 : Int32).toInt; decide, by show (2 : Int32).toInt ≤ 2; decide⟩
            · exact ⟨by decide, by decide⟩
        rw [t_addk (by omega)] at ul
        omega
    · have sw := is_sw cs
      obtain ⟨sc, rm⟩ := hsw sw
      obtain ⟨Q49, p49, h49⟩ := h4 cs kk
      exact ⟨_, cu_addSwitch w P sw pw nb sc c0 t0 rm p49, fun S50 g w50 s50 => ⟨h49 S50 g.1 w50 s50, g.2⟩⟩
  · obtain ⟨d2, h3⟩ := h2 cj
    have j1 := jump1 cj
    have nr := nb _ (pw.1 cj)
    have rx : roX (qI S 8 9) = qI S 8 9 := by unfold roX; rw [if_neg (by omega), if_neg (by omega)]
    rw [rx] at ok
    refine ⟨d2, fun kk => ad rfl ok (fun q => by unfold swO at q; omega) (fun u t => by rw [i6432]; exact nr) (fun u t => absurd (by
      exact us_no (by refine ⟨?_, ?_, ?_, ?_, ?_, ?_, ?_⟩ <;> omega)) t) (fun t => by omega) (fun t => by omega) (h3 kk)⟩
end ASX
/-! what a Row that was read says of its instructions and catches -/
section GDX
variable {S u v U V : MS} {Q : MS → Prop} {Q1 : Nat → MS → Prop} {q r i : Nat} {x o : Int32} {N M : Int}
def RgI (N M : Int) (U : MS) (r : Nat) : Prop := ∀ i : Nat, (i : Int) < (qI U r 2).toInt → OkE N M U r i
theorem OkE.mono (h : OkE N M S r i) (hop : rOp u r i = rOp S r i ∧ rAr u r i = rAr S r i) (htb : ∀ j : Nat, (j : Int) < (qI S r 4).toInt → qI u (qO u r 3) j = qI S (qO S r 3) j) (rv : swO (rOp S r i) → 0 ≤ aTk S r i ∧ 1 ≤ mT S r i ∧ mT S r i ≤ 300 ∧ eT S r i ≤ (qI S r 4).toInt) : OkE N M u r i := by
  obtain ⟨a, b, c, d, e, f⟩ := h
  unfold OkE
  rw [hop.1, hop.2]
  refine ⟨a, b, fun sw => ?_, d, e, f⟩
  obtain ⟨r1, r2, r3, r4⟩ := rv sw
  have z := szT_ge (o := rOp S r i) r2
  have ee : eT S r i = aTk S r i + szT (rOp S r i) (mT S r i) := rfl
  have ea : aTk u r i = aTk S r i := by have p := hop.2; unfold rAr at p; unfold aTk; rw [p]
  have em : mT u r i = mT S r i := by
    unfold mT
    rw [ea, htb (aTk S r i).toNat (by omega)]
  rw [ea, em]
  intro j hj
  rw [htb _ (by omega)]
  exact c sw j hj
theorem RgI.mv (h : RgI N M S r) (s : rSm S u r) : RgI N M u r := fun i hi => by
  rw [s.1.1] at hi
  have ea : aTk u r i = aTk S r i := by have p := s.xAr i; unfold rAr at p; unfold aTk; rw [p]
  have et : qI u (qO u r 3) = qI S (qO S r 3) := by rw [s.2.1.2.2, s.2.2.2.2]
  have em : mT u r i = mT S r i := by unfold mT; rw [ea, et]
  have k := h i hi
  unfold OkE at k ⊢
  rw [s.xOp, s.xAr, ea, em, et]
  exact k
/-- the numbers are below the count of instructions -/
theorem NuV.nb (n : NuV S) (hs : (qI S 8 2).toInt ≤ 1200) (hc : cN S 1300 0 ≤ 100000) : NmB (cN S 1300 0) S := fun y hy => by
  obtain ⟨y1, y2⟩ := ins_num hy
  have k0 : (0 : Int64).toInt = 0 := by decide
  have k1 : ((1201 : Int32).toInt64).toInt = 1201 := by decide
  have z1 : y.toInt < (qI S 8 2).toInt := by
    rcases c_cmpk (x := y) (y := (qI S 8 2).toInt64) with q | q | q
    · omega
    · omega
    · have := q.2; rw [i64_toInt] at this; exact this
  have e : (fX2_numberOf S y).toInt = -1 ∨ 0 ≤ y.toInt ∧ fX2_numberOf S y = qI S 15 (y.toInt32).toInt.toNat := by
    unfold fX2_numberOf
    by_cases c : (lg_cmp y 0).toInt < 0
    · rw [if_pos c]; left; rfl
    · have y0 : 0 ≤ y.toInt := by rcases c_cmpk (x := y) (y := 0) with q | q | q <;> omega
      have n : ¬ 0 < (lg_cmp y ((qI S 8 2).toInt64)).toInt := by omega
      rw [if_neg c, if_neg n]
      by_cases c1 : (lg_cmp y ((1201 : Int32).toInt64)).toInt < 0
      · rw [if_pos c1]; exact Or.inr ⟨y0, rfl⟩
      · rw [if_neg c1]; left; rfl
  rcases e with e | ⟨y0, e⟩
  · omega
  · have e32 : (y.toInt32).toInt = y.toInt := l32_small ⟨y0, by omega⟩
    have rg := (nuA_rg (S := S) hs 1300 0 0 (y.toInt32).toInt.toNat (by decide) (by decide) (by rw [li_0k]; omega)).2
    rw [← n _ (by omega), ← e, li_0k] at rg
    omega
def GdR (M : Int) (u : MS) (r : Nat) : Prop := 1 ≤ (qI u r 2).toInt ∧ (0 ≤ (qI u r 10).toInt ∧ (qI u r 10).toInt ≤ 24) ∧ RgI (qI u r 2).toInt M u r ∧ ∀ c : Nat, (c : Int) < (qI u r 9).toInt → 0 ≤ (qI u (qO u r 7) c).toInt ∧ (qI u (qO u r 7) c).toInt < (qI u r 2).toInt
/-- along with a Row that stays -/
theorem GdR.mv (h : GdR M S r) (s : rSm S u r) (e9 : qI u r 9 = qI S r 9) (e10 : qI u r 10 = qI S r 10) (e7 : qI u (qO u r 7) = qI S (qO S r 7)) : GdR M u r := by
  obtain ⟨a, b, c, d⟩ := h
  have e2 : qI u r 2 = qI S r 2 := s.1.1
  refine ⟨by rw [e2]; exact a, by rw [e10]; exact b, fun i hi => ?_, fun j hj => ?_⟩
  · rw [e2] at hi ⊢
    have ea : aTk u r i = aTk S r i := by have p := s.xAr i; unfold rAr at p; unfold aTk; rw [p]
    have et : qI u (qO u r 3) = qI S (qO S r 3) := by rw [s.2.1.2.2, s.2.2.2.2]
    have em : mT u r i = mT S r i := by unfold mT; rw [ea, et]
    have k := c i hi
    unfold OkE at k ⊢
    rw [s.xOp, s.xAr, ea, em, et]
    exact k
  · rw [e9] at hj
    rw [e7, e2]
    exact d j hj
theorem NmB.mv (h : NmB N S) (s : smP S u) : NmB N u := fun y hy => by
  rw [s.ins] at hy
  rw [s.num (ins_num hy).1]
  exact h y hy
/-- a catch more -/
theorem cu_addCatch {a b c d : Int32} (h : wX8_addCatch S r a b c d Q) : wX8_addCatch S r a b c d (fun u => Q u ∧ ∀ j : Nat, (j : Int) < (qI u r 9).toInt → (j : Int) < (qI S r 9).toInt ∧ qI u (qO u r 7) j = qI S (qO S r 7) j ∨ qI u (qO u r 7) j = c) := by
  unfold wX8_addCatch at h ⊢
  obtain ⟨e, h1, h2⟩ := h
  refine ⟨e, fun z => ⟨h1 z, fun j hj => Or.inl ⟨hj, rfl⟩⟩, fun z => ?_⟩
  obtain ⟨e1, b1, h3⟩ := h2 z
  refine ⟨e1, b1, fun S8 e8 k8 w8 => ?_⟩
  obtain ⟨e2, b2, h4⟩ := h3 S8 e8 k8 w8
  refine ⟨e2, b2, fun S12 e12 k12 w12 => ?_⟩
  obtain ⟨e3, b3, h5⟩ := h4 S12 e12 k12 w12
  refine ⟨e3, b3, fun S16 e16 k16 w16 => ?_⟩
  obtain ⟨e4, b4, h6⟩ := h5 S16 e16 k16 w16
  refine ⟨e4, b4, fun S20 e20 k20 w20 S22 e22 k22 w22 => ⟨h6 S20 e20 k20 w20 S22 e22 k22 w22, fun j hj => ?_⟩⟩
  have T : ∀ a, qT S a = qT S12 a := fun a => by rw [e12, e8]; rfl
  have o7 : qO S12 r 7 = qO S r 7 := by rw [e12, e8]; rfl
  have k7 : qT S (qO S r 7) = 226 := by rw [T, ← o7]; exact k16
  have k20r : qT S20 r = qT S12 r := by rw [e20, e16]; rfl
  have kr : qT S r = 47 := by rw [T, ← k20r]; exact k22
  have n5 : qO S r 7 ≠ qO S r 5 := fun t => by rw [t, k8] at k7; cases k7
  have k12' : qT S (qO S8 r 6) = 225 := by rw [show qT S (qO S8 r 6) = qT S8 (qO S8 r 6) by rw [e8]; rfl]; exact k12
  have n6 : qO S r 7 ≠ qO S8 r 6 := fun t => by rw [t, k12'] at k7; cases k7
  have k20' : qT S (qO S16 r 8) = 227 := by rw [show qT S (qO S16 r 8) = qT S16 (qO S16 r 8) by rw [e16, e12, e8]; rfl]; exact k20
  have n8 : qO S r 7 ≠ qO S16 r 8 := fun t => by rw [t, k20'] at k7; cases k7
  have nr : qO S r 7 ≠ r := fun t => by rw [t, kr] at k7; cases k7
  have r5 : r ≠ qO S r 5 := fun t => by rw [← t, kr] at k8; cases k8
  have r6 : r ≠ qO S8 r 6 := fun t => by rw [← t, kr] at k12'; cases k12'
  have r8 : r ≠ qO S16 r 8 := fun t => by rw [← t, kr] at k20'; cases k20'
  have o22 : qO S22 r 7 = qO S r 7 := by rw [e22, e20, e16, e12, e8]; rfl
  have c8 : qI S8 r 9 = qI S r 9 := by rw [e8, qI_wI, if_neg (fun t => r5 t.1)]
  have c12 : qI S12 r 9 = qI S r 9 := by rw [e12, qI_wI, if_neg (fun t => r6 t.1), c8]
  have c16 : qI S16 r 9 = qI S r 9 := by rw [e16, qI_wI, if_neg (fun t => nr.symm (by rw [← o7]; exact t.1)), c12]
  have c20 : qI S20 r 9 = qI S r 9 := by rw [e20, qI_wI, if_neg (fun t => r8 t.1), c16]
  have c22 : qI S22 r 9 = qI S r 9 + (1 : Int32) := by rw [e22, qI_wI, if_pos ⟨rfl, rfl⟩, c20]
  have v : ∀ j, qI S22 (qO S22 r 7) j = if j = (qI S r 9).toInt.toNat then c else qI S (qO S r 7) j := fun j => by
    rw [o22, e22, qI_wI, if_neg (fun t => nr t.1), e20, qI_wI, if_neg (fun t => n8 t.1), e16, qI_wI, o7, c12]
    by_cases t : j = (qI S r 9).toInt.toNat
    · rw [if_pos ⟨rfl, t⟩, if_pos t]
    · rw [if_neg (fun s => t s.2), if_neg t, e12, qI_wI, if_neg (fun s => n6 s.1), e8, qI_wI, if_neg (fun s => n5 s.1)]
  rw [c22] at hj
  rw [v]
  have rg := rgI (qI S r 9)
  by_cases t : j = (qI S r 9).toInt.toNat
  · right; rw [if_pos t]
  · rw [if_neg t]
    left
    refine ⟨?_, rfl⟩
    by_cases y : (qI S r 9).toInt = 2147483647
    · have e : qI S r 9 = 2147483647 := Int32.toInt_inj.mp (by rw [y]; rfl)
      have e2 : ((2147483647 : Int32) + 1).toInt = -2147483648 := by decide
      rw [e, e2] at hj
      omega
    · rw [t_addk (by rw [li_1k]; omega), li_1k] at hj
      omega
/-- the catches are read -/
theorem cu_L79 {V0 : MS} (nb : NmB N V0) (pc : PwC V0) : ∀ (n : Nat) {U : MS} {c : Int32}, smP V0 U → qT U (qO U r 7) = 226 → 0 ≤ c.toInt → (∀ j : Nat, (j : Int) < (qI U r 9).toInt → 0 ≤ (qI U (qO U r 7) j).toInt ∧ (qI U (qO U r 7) j).toInt < N) → w_X2_rowOf_L79 Q1 n U r c → w_X2_rowOf_L79 (fun r' u => Q1 r' u ∧ (∀ j : Nat, (j : Int) < (qI u r 9).toInt → 0 ≤ (qI u (qO u r 7) j).toInt ∧ (qI u (qO u r 7) j).toInt < N) ∧ qI u r 10 = qI U r 10) n U r c := by
  intro n
  induction n with
  | zero => intro U c _ _ _ _ h; exact h
  | succ n ih =>
    intro U c y k226 c0 hc h
    unfold w_X2_rowOf_L79 at h ⊢
    intro w kr
    obtain ⟨h1, h2⟩ := h w kr
    refine ⟨fun z => ⟨h1 z, hc, rfl⟩, fun z a26 e26 => ?_⟩
    obtain ⟨d1, h3⟩ := h2 z a26 e26
    refine ⟨d1, fun a30 e30 => ?_⟩
    obtain ⟨d2, h3⟩ := h3 a30 e30
    refine ⟨d2, fun a34 e34 => ?_⟩
    obtain ⟨d3, h3⟩ := h3 a34 e34
    refine ⟨d3, fun a39 e39 => ?_⟩
    obtain ⟨d4, h3⟩ := h3 a39 e39
    refine ⟨d4, fun a43 e43 => ?_⟩
    obtain ⟨d5, h3⟩ := h3 a43 e43
    refine ⟨d5, fun a48 e48 => ?_⟩
    obtain ⟨d6, h3⟩ := h3 a48 e48
    refine ⟨d6, fun a52 e52 => ?_⟩
    obtain ⟨d7, h3⟩ := h3 a52 e52
    refine ⟨d7, fun a57 e57 => ?_⟩
    obtain ⟨Q58, p58, h58⟩ := h3 a57 e57
    refine ⟨_, frX2_errorOf w p58, ?_⟩
    rintro r59 S60 ⟨g60, f60⟩ w60 s60 k60
    obtain ⟨Q62, p62, h62⟩ := h58 r59 S60 g60 w60 s60 k60
    refine ⟨_, frX8_addCatch w60 (cu_addCatch p62), ?_⟩
    rintro S63 ⟨⟨g63, hj63⟩, f63⟩ w63 s63 a65 e65
    have r6 := rgI (qI U 8 6)
    have e1 : a65.toInt = c.toInt + 1 := by rw [e65, t_addk (by rw [lo_1k]; omega), lo_1k]
    have hi := pc c c0 (by rw [← y.2.1.2.2.2.2.2]; omega)
    have e52' : a52 = fX2_numberOf V0 ((fX7_u2 V0 (((qI V0 8 5) + ((8 : Int32) * c)) + (4 : Int32))).toInt64) := by
      have e48' : a48 = fX7_u2 V0 (((qI V0 8 5) + ((8 : Int32) * c)) + (4 : Int32)) := by rw [e48, y.1.1.1.u2, e26, y.2.1.2.2.2.2.1]
      rw [e52, e48', y.num (ins_num hi).1]
    have rg := nb _ hi
    rw [← e52'] at rg
    have y60 : smP V0 S60 := y.tr (smP.fr w f60 rfl rfl rfl rfl rfl rfl rfl rfl rfl)
    have y63 : smP V0 S63 := y60.tr (smP.fr w60 f63 rfl rfl rfl rfl rfl rfl rfl rfl rfl)
    have k7 : ∀ j, qI S60 r j = qI U r j := fun j => f60.kI kr rfl rfl
    have o7 : qO S60 r 7 = qO U r 7 := qO_eq (f60.kO kr rfl rfl)
    have o63 : qO S63 r 7 = qO U r 7 := by rw [qO_eq (f63.kO (j := 7) k60 (by decide) (by decide)), o7]
    have z := ih y63 (by rw [o63]; exact f63.1.T (f60.1.T k226 (by decide)) (by decide)) (c := a65) (by omega) (fun j hj => ?_) (h62 S63 g63 w63 s63 a65 e65)
    · have e10 : qI S63 r 10 = qI U r 10 := by rw [f63.kI k60 (by decide) (by decide), k7]
      rw [e10] at z
      exact z
    · rcases hj63 j hj with q | q
      · rw [q.2]
        rw [k7] at q
        have p7 : qI S60 (qO S60 r 7) j = qI U (qO U r 7) j := by
          rw [o7]
          exact f60.kI k226 rfl rfl
        rw [p7]
        exact hc j q.1
      · rw [q]
        exact rg
end GDX
/-! rowOf -/
section RF
variable {B : Nat × Nat} {S u v U : MS} {r : Nat} {o : Int32}
theorem hd_sz {a : Int32} (h : HdO S a) : (1 ≤ (szV S a).toInt ∧ (szV S a).toInt ≤ 1200) ∧ 0 ≤ (fX7_u2 S ((a + (8 : Int32)) + szV S a)).toInt ∧ (fX7_u2 S ((a + (8 : Int32)) + szV S a)).toInt ≤ 16 := by
  obtain ⟨_, _, h3, h4, h5⟩ := h
  have d2 := c_lek.mp h4
  have k1200 : (1200 : Int64).toInt = 1200 := by decide
  have k1 : (1 : Int64).toInt = 1 := by decide
  have d1 : 1 ≤ (fX7_u4 S (a + (4 : Int32))).toInt := by
    rcases c_cmpk (x := fX7_u4 S (a + (4 : Int32))) (y := 1) with q | q | q <;> omega
  have s := l32_small (d := fX7_u4 S (a + (4 : Int32))) ⟨by omega, by omega⟩
  rw [u4_32] at s
  have e : szV S a = fX7_s4 S (a + (4 : Int32)) := by
    unfold szV
    rw [if_neg (fun q => ?_)]
    have := n_lt.mp q
    have k : (1200 : Int32).toInt = 1200 := by decide
    omega
  rw [e]
  exact ⟨by omega, rg_u2.1, h5⟩
theorem ShC.le (g : ShC B S) : qu S ≤ B.1 ∧ 64 * qn S ≤ B.2 := by
  have rm := g.rm
  have cp := g.cap
  unfold RmK PSc PNc at rm
  unfold CpK at cp
  have z : hp2 S ≤ 20000 := by unfold hp2; split <;> omega
  omega
/-- the Row that is being filled, at an offset -/
def RoIk (B : Nat × Nat) (S : MS) (r k : Nat) (U : MS) (o : Int32) : Prop := (ShC B U ∧ qT U r = 47 ∧ RvK U r ∧ smY S U) ∧ ChV S k o ∧ (0 ≤ o.toInt ∧ (o.toInt = 0 ∨ o.toInt ≤ (qI S 8 2).toInt) ∧ 1201 - o.toInt ≤ k) ∧ rWs U r (qI U r 2).toInt.toNat + 8 * (qI U r 4).toInt ≤ 3 * o.toInt ∧ (qI U r 4).toInt + cS S k o ≤ (qN U (qO U r 3) : Int) ∧ (o.toInt = 0 ∨ 1 ≤ (qI U r 2).toInt) ∧ 1 ≤ (qN U (qO U r 0) : Int) ∧ (qN U (qO U r 0) : Int) ≤ 1200
/-- .. and what its instructions are -/
def RoX (S U0 : MS) (N : Int) (U : MS) (r k : Nat) (o : Int32) : Prop := smP U0 U ∧ ChP U0 k o ∧ (qI U r 2).toInt + cN S k o = N ∧ (qN U (qO U r 0) : Int) = N ∧ RgI N (qI U0 9 8).toInt U r ∧ qI U r 9 = qI U0 r 9 ∧ qI U r 10 = qI U0 r 10
/-- what stays while a Row is filled -/
def RoS (r : Nat) (S u : MS) : Prop := rfr r S u ∧ shx S u ∧ qI u r 11 = qI S r 11 ∧ qI u 8 6 = qI S 8 6 ∧ smX S u
theorem RoS.tr (h : RoS r S u) (k : RoS r u v) : RoS r S v := ⟨h.1.tr h.2.1 k.1, h.2.1.tr k.2.1, k.2.2.1.trans h.2.2.1, k.2.2.2.1.trans h.2.2.2.1, h.2.2.2.2.tr k.2.2.2.2⟩
theorem RoS.rf : RoS r S S := ⟨rfr.rf, shx.rf, rfl, rfl, smX.rf⟩
end RF
/-! a catch is put: all other Rows stay -/
section AC
variable {B : Nat × Nat} {S u v U V : MS} {p q : Nat} {x : Int32}
/-- only catches have changed -/
def CaI (B : Nat × Nat) (S U : MS) (p : Nat) : Prop := (ShC B U ∧ qT U p = 47 ∧ shx S U ∧ rfr p S U) ∧ rSm S U p ∧ qI U p 9 = qI S p 9
theorem CaI.w {h i t : Nat} {y : Int32} (c : CaI B S U p) (w : wfC U) (e : v = wI U h i y) (k : qT U h = t) (ht : t = 224 ∨ t = 225 ∨ t = 226 ∨ t = 227) (hh : p ≤ h ∧ h < p + 8) : CaI B S v p := by
  obtain ⟨⟨c1, c2, c3, c4⟩, c5, c6⟩ := c
  have f : cfr [t] [] U v := by rw [e]; exact cfr.aI k (by simp)
  have hK : okK [t] = true := by rcases ht with rfl | rfl | rfl | rfl <;> rfl
  have hM : okM [t] = true := by rcases ht with rfl | rfl | rfl | rfl <;> rfl
  have ne : h ≠ p := fun z => by rw [z, c2] at k; omega
  exact ⟨⟨ShC.ws w c1 f (by rw [e]; rfl) (by rw [e]; rfl) (by rw [e]; rfl) hK rfl, by rw [e]; exact c2, c3.tr f.1, c4.tr c3 (by rw [e]; exact rfr.inI hh.1 hh.2)⟩, c5.tr (rSm.fr w c2 (c1.row c2) f hM rfl rfl), by rw [e, qI_wI, if_neg (fun z => ne z.1.symm)]; exact c6⟩
/-- a catch is put behind the others -/
theorem sp_addCatch {x1 x2 x3 x4 : Int32} (w : wfC S) (g : ShC B S) (k : qT S p = 47) : wX8_addCatch S p x1 x2 x3 x4 (fun u => (ShC B u ∧ shx S u ∧ rfr p S u) ∧ rSm S u p) := by
  have R := g.row k
  have R2 := R.2
  have c0 : CaI B S S p := ⟨⟨g, k, shx.rf, rfr.rf⟩, rSm.rf, rfl⟩
  obtain ⟨_, _, _, e5, _⟩ := R.at w k
  have kd := R.kd w k
  unfold wX8_addCatch
  refine ⟨R.1.2.2.2.1, fun _ => ⟨⟨g, shx.rf, rfr.rf⟩, rSm.rf⟩, fun c => ⟨R.1.2.2.2.1, by omega, fun S8 e8 k8 w8 => ?_⟩⟩
  rw [e5] at e8
  have c8 := c0.w w e8 kd.2.2.2.1 (by omega) (by omega)
  have l8 : ∀ a, qN S8 a = qN S a := fun a => by rw [e8]; rfl
  have o8 : ∀ a j, qO S8 a j = qO S a j := fun a j => by rw [e8]; rfl
  have R8 := c8.1.1.row c8.1.2.1
  obtain ⟨_, _, _, _, p6, _⟩ := R8.at w8 c8.1.2.1
  have kd8 := R8.kd w8 c8.1.2.1
  refine ⟨R8.1.2.2.2.2.1, by rw [c8.2.2, l8, o8]; omega, fun S12 e12 k12 w12 => ?_⟩
  rw [p6] at e12
  have c12 := c8.w w8 e12 kd8.2.2.2.2.1 (by omega) (by omega)
  have l12 : ∀ a, qN S12 a = qN S a := fun a => by rw [e12]; exact l8 a
  have o12 : ∀ a j, qO S12 a j = qO S a j := fun a j => by rw [e12]; exact o8 a j
  have R12 := c12.1.1.row c12.1.2.1
  obtain ⟨_, _, _, _, _, p7, _⟩ := R12.at w12 c12.1.2.1
  have kd12 := R12.kd w12 c12.1.2.1
  refine ⟨R12.1.2.2.2.2.2.1, by rw [c12.2.2, l12, o12]; omega, fun S16 e16 k16 w16 => ?_⟩
  rw [p7] at e16
  have c16 := c12.w w12 e16 kd12.2.2.2.2.2.1 (by omega) (by omega)
  have l16 : ∀ a, qN S16 a = qN S a := fun a => by rw [e16]; exact l12 a
  have o16 : ∀ a j, qO S16 a j = qO S a j := fun a j => by rw [e16]; exact o12 a j
  have R16 := c16.1.1.row c16.1.2.1
  obtain ⟨_, _, _, _, _, _, p8⟩ := R16.at w16 c16.1.2.1
  have kd16 := R16.kd w16 c16.1.2.1
  refine ⟨R16.1.2.2.2.2.2.2, by rw [c16.2.2, l16, o16]; omega, fun S20 e20 k20 w20 S22 e22 k22 w22 => ?_⟩
  rw [p8] at e20
  have c20 := c16.w w16 e20 kd16.2.2.2.2.2.2 (by omega) (by omega)
  have l20 : ∀ a, qN S20 a = qN S a := fun a => by rw [e20]; exact l16 a
  have o20 : ∀ a j, qO S20 a j = qO S a j := fun a j => by rw [e20]; exact o16 a j
  have n1 : ((qI S20 p 9) + (1 : Int32)).toInt = (qI S p 9).toInt + 1 := by rw [c20.2.2, t_addk (by rw [li_1k]; omega), li_1k]
  have f : cfr [] [(47, 9)] S20 S22 := by rw [e22]; exact cfr.oI k22 rfl
  refine ⟨⟨?_, c20.1.2.2.1.tr f.1, c20.1.2.2.2.tr c20.1.2.2.1 (by rw [e22]; exact rfr.inI (Nat.le_refl _) (by omega))⟩, c20.2.1.tr (rSm.fr w20 c20.1.2.1 (c20.1.1.row c20.1.2.1) f rfl rfl rfl)⟩
  rw [e22]
  exact ShC.cnt w20 c20.1.1 c20.1.2.1 (Or.inr (Or.inr ⟨rfl, by omega, by rw [n1, l20, o20]; omega⟩))
end AC
/-! rowOf: its loops -/
section RG
variable {B : Nat × Nat} {S u v U U0 : MS} {r : Nat} {o : Int32}
/-- the Rows as they were, but for catches -/
def CtI (B : Nat × Nat) (r : Nat) (U0 U : MS) : Prop := (ShC B U ∧ qT U r = 47) ∧ (∀ q, qT U0 q = 47 → rSm U0 U q) ∧ qI U r 11 = qI U0 r 11 ∧ smX U0 U ∧ shx U0 U ∧ rfr r U0 U
theorem CtI.nx {K : List Nat} {F : List (Nat × Nat)} (h : CtI B r U0 U) (w : wfC U) (f : cfr K F U u) (hS : ShC B u) (hM : okM K = true) (hF : okL LMr F = true) (hA : okO F = true) (h1 : K.contains 101 = false) (h2 : K.contains 46 = false) (h4 : F.contains (46, 0) = false) (h5 : F.contains (46, 1) = false) (h6 : F.contains (47, 11) = false) (h7 : rfr r U u) : CtI B r U0 u := by
  obtain ⟨⟨g, k⟩, a, b, c, d, r0⟩ := h
  refine ⟨⟨hS, f.1.T k (by decide)⟩, fun q kq => ?_, (f.kI k (okM_n hM (by decide)) h6).trans b, c.tr (f.sm w h1 h2 h4 h5 (fun _ => okO_n hA (by decide))), d.tr f.1, r0.tr d h7⟩
  have kU : qT U q = 47 := d.T kq (by decide)
  exact (a q kq).tr (rSm.fr w kU (g.row kU) f hM hF hA)
theorem ro_L79 (h9 : 0 ≤ (qI U0 9 1).toInt) : ∀ (n : Nat) {U : MS} {v3 : Int32}, CtI B r U0 U → 2147483648 - v3.toInt < n → w_X2_rowOf_L79 (fun r' V => r' = r ∧ CtI B r U0 V) n U r v3 := by
  intro n
  induction n with
  | zero => intro U v3 _ hm; have := rgI v3; omega
  | succ n ih =>
    intro U v3 h hm
    unfold w_X2_rowOf_L79
    intro w kr
    have h9U := h.2.2.2.1.h9 h9
    refine ⟨fun _ => ⟨rfl, h⟩, fun c a26 _ => ⟨dd_X7_u2 h9U, fun a30 _ => ⟨dd_X2_numberOf, fun a34 _ => ⟨dd_X7_u2 h9U, fun a39 _ => ⟨dd_X2_numberOf, fun a43 _ => ⟨dd_X7_u2 h9U, fun a48 _ => ⟨dd_X2_numberOf, fun a52 _ => ⟨dd_X7_u2 h9U, fun a57 _ => ⟨_, frX2_errorOf w (sfX2_errorOf w h9U w.k9), fun r59 S60 q60 w60 s60 k60 => ?_⟩⟩⟩⟩⟩⟩⟩⟩⟩
    have h60 := h.nx w q60.2 (ShC.ca w h.1.1 q60.2 s60 w60 rfl rfl) rfl rfl rfl rfl rfl rfl rfl rfl (rfr.of q60.2 rfl rfl)
    refine ⟨_, frX8_addCatch w60 (sp_addCatch w60 h60.1.1 k60), fun S63 q63 w63 s63 a65 ea => ?_⟩
    have h63 := h60.nx w60 q63.2 q63.1.1.1 rfl rfl rfl rfl rfl rfl rfl rfl q63.1.1.2.2
    have e := rgI (qI U 8 6)
    have ei := t_inc ea (by omega)
    exact ih h63 (by omega)
theorem wt_nd {x : Int32} {y : Int64} (ho : 0 ≤ o.toInt ∧ o.toInt ≤ 1200) (hl : 0 < (laF S o).toInt) (d : DcC S o x y) : aW x.toInt y + 8 * ndV S o ≤ 3 * (laF S o).toInt := by
  have nd := nd_rg (S := S) ho hl
  by_cases sw : swO x
  · obtain ⟨e1, _⟩ := d.2.1 sw
    rcases sw with s | s
    · obtain ⟨dd, d1, d2, d3, d4⟩ := nd.2.1 (by rw [← e1]; exact s)
      rw [s, aW_170]; omega
    · rw [s, aW_171]; have := nd.1; omega
  · have := nd_no (S := S) (o := o) (fun q => sw (d.2.2 q))
    have := d.1
    omega
theorem ro_L44 {Q : Nat → MS → Prop} {N : Int} (h7 : (qI U0 9 7).toInt ≤ 24) (h8 : (qI U0 9 8).toInt ≤ 24) (hl4 : (qI U0 8 4).toInt ≤ 24) (nb : NmB N U0) (yS : smY S U0) (h9 : 0 ≤ (qI S 9 1).toInt) (hs : 1 ≤ (qI S 8 2).toInt ∧ (qI S 8 2).toInt ≤ 1200) (hQ : ∀ V : MS, wfC V → ShC B V → qT V r = 47 → ((qI V r 2).toInt = N ∧ (qN V (qO V r 0) : Int) = N) ∧ (RgI N (qI U0 9 8).toInt V r ∧ smP U0 V) ∧ qI V r 9 = qI U0 r 9 ∧ qI V r 10 = qI U0 r 10 → RdK V r → rWs V r (qI V r 2).toInt.toNat + 8 * (qI V r 4).toInt ≤ 3600 → RoS r U0 V → ∃ n, w_X2_rowOf_L79 Q n V r 0) : ∀ (n k : Nat) {U : MS} {o : Int32}, RoIk B S r k U o → RoX S U0 N U r k o → RoS r U0 U → 2147483648 - o.toInt < n → w_X2_rowOf_L44 Q n U r o := by
  intro n
  induction n with
  | zero => intro k U o _ _ _ hm; have := rgI o; omega
  | succ n ih =>
    intro k U o h hX hR hm
    obtain ⟨⟨g, kr, rv, y⟩, hc, ⟨h0, hv, hk⟩, hw, hrm, h1, hl0, hl1⟩ := h
    obtain ⟨k, rfl⟩ : ∃ k', k = k' + 1 := ⟨k - 1, by omega⟩
    rw [ChV_s] at hc
    rw [cS_s] at hrm
    obtain ⟨x1, x2, x3, x4, x5, x6, x7⟩ := hX
    rw [ChP_s] at x2
    rw [cN_s] at x3
    have R := g.row kr
    have R2 := R.2
    unfold w_X2_rowOf_L44
    intro w _
    rw [y.2.2]
    refine ⟨fun c => hQ U w g kr ⟨⟨by rw [if_pos c] at x3; omega, x4⟩, ⟨x5, x1⟩, x6, x7⟩ ⟨rv, by omega, by omega⟩ (by omega) hR, fun c => ?_⟩
    rw [if_neg c] at hrm
    rw [if_neg c] at x3
    have x2 := x2.resolve_left (by rw [yS.2.2]; exact c)
    obtain ⟨hl, hc⟩ := hc.resolve_left c
    have ho : 0 ≤ o.toInt ∧ o.toInt ≤ 1200 := ⟨h0, by omega⟩
    have nd := (nd_rg (S := S) ho hl).1
    refine ⟨_, ct_decode w (sp_decode w ho (y.h9 h9) (by rw [y.xla]; exact hl)), fun S67 q67 w67 s67 k67 => ?_⟩
    obtain ⟨q67, ⟨x9, x10⟩, x11⟩ := q67
    have f67 := q67.2
    have p67 : smP U0 S67 := x1.tr (smP.fr w f67 rfl rfl rfl rfl rfl rfl rfl rfl rfl)
    have pw67 : PwW S67 := x2.1 S67 p67 (by rw [x9, x1.toY.dc]) (by rw [x10, x1.toY.dc]) x11
    have ok67 : okOp (roX (qI S67 8 9)).toInt := by rw [x9]; exact dc_ok ho (by rw [y.xla]; exact hl)
    have rp67 := RwK.rp w67 k67 (RwK.mv w R s67.1 (fun j hj => f67.kI kr rfl rfl) (fun j hj => f67.kO kr rfl rfl))
    have o67 := rp67.o
    have y67 : smY S S67 := y.tr (smY.fr w f67 rfl rfl rfl rfl rfl rfl rfl rfl)
    have d67 : DcC S o (qI S67 8 9) (qJ S67 8 10) := by
      have := q67.1
      unfold DcC at this ⊢
      rw [y.xla, y.u1] at this
      exact this
    have g67 : ShC B S67 := ShC.ca w g f67 s67 w67 rfl rfl
    have m67 := rSm.fr w kr R f67 rfl rfl rfl
    have L3 : (qN S67 (qO S67 r 3) : Int) = (qN U (qO U r 3) : Int) := f67.kL (j := 3) w kr R.1.2.2.1 rfl rfl
    have L0 : (qN S67 (qO S67 r 0) : Int) = (qN U (qO U r 0) : Int) := f67.kL (j := 0) w kr R.1.1 rfl rfl
    have cs := (cN_le hs.2 k _ hc (by rw [stp_of hl, t_addk (by omega)]; omega)).1
    have hsw : swO (qI S67 8 9) → SwC S67 (ndV S o) ∧ (qI S67 r 4).toInt + ndV S o ≤ (qN S67 (qO S67 r 3) : Int) := fun sw => by
      have sc := sw_cnt y67 ho hl d67 sw
      refine ⟨⟨?_, ?_, ?_⟩, by rw [L3, m67.1.2]; omega⟩
      · rcases sc with q | q
        · exact Or.inl ⟨q.1, q.2.2.1, q.2.2.2.1⟩
        · exact Or.inr ⟨q.1, q.2.2.1, q.2.2.2.1⟩
      · rcases sc with q | q <;> omega
      · rcases sc with q | q <;> omega
    have e2' : (qI S67 r 2).toInt = (qI U r 2).toInt := by rw [m67.1.1]
    have e4' : (qI S67 r 4).toInt = (qI U r 4).toInt := by rw [m67.1.2]
    refine ⟨_, cu_addTo (N := N) (M := (qI U0 9 8).toInt) (nd := ndV S o) w67 rp67 (by rw [p67.1.1.2.2.2.2.2.1]; exact h7) (by rw [p67.1.1.2.2.2.2.2.2]; exact h8) (by rw [p67.1.1.2.2.2.2.2.2]) (by rw [p67.2.1.2.2.2.1]; exact hl4) pw67 (nb.mv p67) ok67 (fun sw => by rw [← o67.2.2]; exact hsw sw) (by rw [← o67.1, L0, x4]; omega) (by omega) (sp_addTo (nd := ndV S o) w67 g67 k67 (rv.mv m67) (y67.h9 h9) hsw (fun ns => nd_no (fun q => ns (d67.2.2 q)))), fun S70 q70 w70 s70 => ?_⟩
    · obtain ⟨q70, ac⟩ := q70
      have A := q70.1
      have f70 := q70.2
      have y70 : smY S S70 := y67.tr (smY.fr w67 f70 rfl rfl rfl rfl rfl rfl rfl rfl)
      have R67 := g67.row k67
      have L3' : (qN S70 (qO S70 r 3) : Int) = (qN S67 (qO S67 r 3) : Int) := f70.kL (j := 3) w67 k67 R67.1.2.2.1 rfl rfl
      have L0' : (qN S70 (qO S70 r 0) : Int) = (qN S67 (qO S67 r 0) : Int) := f70.kL (j := 0) w67 k67 R67.1.1 rfl rfl
      have wn := wt_nd ho hl d67
      obtain ⟨A1, A2, A3, ⟨A4, A5⟩, A6⟩ := A
      rw [m67.1.1, m67.xW] at A5
      rw [m67.1.2] at A3
      rw [m67.1.1] at A4
      refine ⟨_, fn_lengthAt (y70.h9 h9) (Q := fun r u => r = laF S70 o ∧ u = S70) ⟨rfl, rfl⟩, ?_⟩
      rintro r73 S74 ⟨rfl, rfl⟩ w74 s74 a78 ea
      rw [y70.xla] at ea
      obtain ⟨e1, e2⟩ := nx_of ho hl rfl ea
      have sx70 : shx S67 S74 := s70.1
      have p74 : smP U0 S74 := p67.tr (smP.fr w67 f70 rfl rfl rfl rfl rfl rfl rfl rfl rfl)
      obtain ⟨⟨c1, c2, c3⟩, c4, c5, c6⟩ := ac
      have hX' : RoX S U0 N S74 r k a78 := by
        refine ⟨p74, by rw [e1, ← yS.xla]; exact x2.2, by rw [e1]; omega, by rw [L0', L0]; exact x4, fun i hi => ?_, by rw [f70.kI k67 (by decide) (by decide), f67.kI kr rfl rfl]; exact x6, by rw [f70.kI k67 (by decide) (by decide), f67.kI kr rfl rfl]; exact x7⟩
        by_cases t : i = (qI S67 r 2).toInt.toNat
        · rw [t]; exact c6
        · have hi' : (i : Int) < (qI U r 2).toInt := by omega
          refine OkE.mono (x5 i hi') ⟨(c4 i t).1.trans (m67.xOp i), (c4 i t).2.trans (m67.xAr i)⟩ (fun j hj => ?_) (fun sw => rv.1 i hi' sw)
          have o3 : qO S74 r 3 = qO S67 r 3 := c3
          rw [o3, c5 j (by omega), m67.2.1.2.2, m67.2.2.2.2]
      refine ih k ⟨⟨A1, sx70.T k67 (by decide), A2, y70⟩, by rw [e1]; exact hc, ⟨by omega, by omega, by omega⟩, ?_, ?_, ?_, by omega, by omega⟩ hX' (hR.tr ⟨(rfr.of f67 rfl rfl).tr s67.1 A6, s67.1.tr sx70, ?_, ?_, ?_⟩) (by omega)
      · omega
      · rw [e1]; omega
      · right
        by_cases z : (qI U r 2).toInt < (qN S67 (qO S67 r 0) : Int)
        · have := A4.2.2 z; omega
        · omega
      · rw [f70.kI k67 (by decide) (by decide), f67.kI kr rfl rfl]
      · rw [f70.kI w67.k8 (by decide) (by decide), f67.kI w.k8 rfl rfl]
      · exact (f67.sm w rfl rfl rfl rfl (fun _ => okO_n (F := [(42, 9), (42, 10), (42, 11)]) rfl (by decide))).tr (f70.sm w67 rfl rfl rfl rfl (fun _ => okO_n (F := [(47, 2), (47, 4)]) rfl (by decide)))
end RG
/-! rowOf whole -/
section RH
variable {B : Nat × Nat} {S u v U : MS} {r : Nat} {x1 : Int32}
def RoQ (B : Nat × Nat) (S : MS) (x1 : Int32) (r : Nat) (u : MS) : Prop := ShC (B.1 + 2479, B.2 + 512) u ∧ (r = qn S ∧ qT u r = 47) ∧ RdK u r ∧ rWs u r (qI u r 2).toInt.toNat + 8 * (qI u r 4).toInt ≤ 3600 ∧ qI u r 11 = x1 ∧ smX S u ∧ rfr r S u ∧ (∀ q, qT S q = 47 → rSm S u q) ∧ GdR (qI S 9 8).toInt u r
theorem wfC.out {n : Nat} (w : wfC S) (hn : qn S + n ≤ KCC) : ∀ x, qT S x ≠ 0 → x < qn S ∨ qn S + n ≤ x := fun x hx => by
  by_cases e12 : qT S x = 12
  · obtain ⟨i, -, h1⟩ := w.t12 _ e12
    right
    have e7 : TXB = 10000000 := rfl
    have e8 : KCC = 300000 := rfl
    omega
  · by_cases e22 : qT S x = 22
    · have := w.t22 _ e22
      have e7 : TXB = 10000000 := rfl
      have e8 : KCC = 300000 := rfl
      omega
    · exact Or.inl (w.lt4 _ hx e12 e22)
/-- from before the Row is made to when its rows are there -/
theorem ro_new {S10 S14 S17 : MS} {F : List (Nat × Nat)} {a b c : Nat} (w : wfC S) (g : ShC B S) (hn : qn S + 8 ≤ KCC) (e10 : S10 = wN S 47 0 15) (w10 : wfC S10) (f14 : cfr [] F S10 S14) (s14 : shy S10 S14) (w14 : wfC S14) (h47 : ∀ j, F.contains (47, j) = false) (N : NwRk S14 S17 (qn S) a b c) : cfr [] F S S17 ∧ (∀ x, qT S x = 0 → qT S17 x ≠ 49 ∧ qT S17 x ≠ 44 ∧ (qT S17 x = 47 → x = qn S)) ∧ dnC S17 ∧ ((∀ j, qI S17 (qn S) j = 0) ∧ qn S17 = qn S + 8 ∧ qu S17 = qu S + 15 + (2 * a + b + 4 * c)) := by
  obtain ⟨N1, N2, N3, N4, N5, ⟨n1, n2, n3, n4, n5, n6, n7⟩, N7, N8⟩ := N
  have hX := w.out hn
  have hne : ∀ x, qT S x ≠ 0 → x ≠ qn S := fun x hx q => by have := hX x hx; omega
  have t10 : ∀ x, x ≠ qn S → qT S10 x = qT S x := fun x hx => by rw [e10]; exact wN_Tk hx
  have q10 : qn S10 = qn S + 1 := by rw [e10]; rfl
  have u10 : qu S10 = qu S + 15 := by rw [e10]; rfl
  have q14 : qn S14 = qn S + 1 := by rw [s14.2.1, q10]
  have f10 : cfr [] F S S10 := by rw [e10]; exact cfr.new w (e10 ▸ w10)
  have k10 : qT S10 (qn S) = 47 := by rw [e10]; exact wN_t
  have k14 : ∀ x, qT S x ≠ 0 → qT S10 x ≠ 0 := fun x hx => by rw [t10 x (hne x hx)]; exact hx
  have old : ∀ x, qT S x ≠ 0 → qT S17 x = qT S x ∧ qN S17 x = qN S x := fun x hx => by
    obtain ⟨_, _, _, p4, p5⟩ := N1 x (hX x hx)
    have a1 := f10.1.1 x hx
    have a2 := f14.1.1 x (k14 x hx)
    exact ⟨by rw [p4, a2.1, a1.1], by rw [p5, a2.2, a1.2]⟩
  have F17 : cfr [] F S S17 := by
    refine ⟨⟨old, by omega⟩, by rw [N8]; have := f14.2.1; omega, fun x j hx h0 hj => ?_⟩
    obtain ⟨p1, p2, p3, _, _⟩ := N1 x (hX x hx)
    have a1 := f10.2.2 x j hx h0 hj
    have e := (f10.1.1 x hx).1
    have a2 := f14.2.2 x j (k14 x hx) (by rw [e]; exact h0) (by rw [e]; exact hj)
    rw [p1, p2, p3]
    exact ⟨a2.1.trans a1.1, a2.2.1.trans a1.2.1, a2.2.2.trans a1.2.2⟩
  have u14 : qu S14 = qu S10 := s14.2.2
  refine ⟨F17, fun x hx => ?_, fun x hx => ?_, fun j => ?_, by omega, by omega⟩
  · by_cases z : x < qn S
    · exact absurd hx (g.dn x z)
    · by_cases y : qn S + 8 ≤ x
      · rw [(N1 x (Or.inr y)).2.2.2.1]
        have no : ∀ t, t ≠ 0 → t ≠ 12 → t ≠ 22 → qT S14 x ≠ t := fun t h0 h12 h22 q => by
          have := w14.lt q h0 h12 h22
          omega
        exact ⟨no 49 (by decide) (by decide) (by decide), no 44 (by decide) (by decide) (by decide), fun q => absurd q (no 47 (by decide) (by decide) (by decide))⟩
      · have : x = qn S ∨ x = qn S + 1 ∨ x = qn S + 2 ∨ x = qn S + 3 ∨ x = qn S + 4 ∨ x = qn S + 5 ∨ x = qn S + 6 ∨ x = qn S + 7 := by omega
        rcases this with rfl | rfl | rfl | rfl | rfl | rfl | rfl | rfl
        · rw [N2]; exact ⟨by decide, by decide, fun _ => rfl⟩
        · rw [n1]; exact ⟨by decide, by decide, fun q => absurd q (by decide)⟩
        · rw [n2]; exact ⟨by decide, by decide, fun q => absurd q (by decide)⟩
        · rw [n3]; exact ⟨by decide, by decide, fun q => absurd q (by decide)⟩
        · rw [n4]; exact ⟨by decide, by decide, fun q => absurd q (by decide)⟩
        · rw [n5]; exact ⟨by decide, by decide, fun q => absurd q (by decide)⟩
        · rw [n6]; exact ⟨by decide, by decide, fun q => absurd q (by decide)⟩
        · rw [n7]; exact ⟨by decide, by decide, fun q => absurd q (by decide)⟩
  · by_cases z : x < qn S
    · rw [(old x (g.dn x z)).1]; exact g.dn x z
    · have : x = qn S ∨ x = qn S + 1 ∨ x = qn S + 2 ∨ x = qn S + 3 ∨ x = qn S + 4 ∨ x = qn S + 5 ∨ x = qn S + 6 ∨ x = qn S + 7 := by omega
      rcases this with rfl | rfl | rfl | rfl | rfl | rfl | rfl | rfl
      · rw [N2]; decide
      · rw [n1]; decide
      · rw [n2]; decide
      · rw [n3]; decide
      · rw [n4]; decide
      · rw [n5]; decide
      · rw [n6]; decide
      · rw [n7]; decide
  · rw [N3, (f14.2.2 (qn S) j (by rw [k10]; decide) rfl (by rw [k10]; exact h47 j)).1, e10]
    show (if qn S = qn S then fun _ => (0 : Int32) else qI S (qn S)) j = 0
    rw [if_pos rfl]
theorem ro_mono79 {Q Q' : Nat → MS → Prop} {n : Nat} {v3 : Int32} (h : w_X2_rowOf_L79 Q n U r v3) (hQ : ∀ r' W, Q r' W → Q' r' W) : w_X2_rowOf_L79 Q' n U r v3 := by
  induction n generalizing U v3 with
  | zero => unfold w_X2_rowOf_L79 at h; exact h.elim
  | succ n ih =>
    unfold w_X2_rowOf_L79 at h ⊢
    intro w kr
    obtain ⟨h1, h2⟩ := h w kr
    refine ⟨fun c => hQ _ _ (h1 c), fun c a26 e26 => ?_⟩
    obtain ⟨a1, a2⟩ := h2 c a26 e26
    refine ⟨a1, fun a30 e30 => ?_⟩
    obtain ⟨b1, b2⟩ := a2 a30 e30
    refine ⟨b1, fun a34 e34 => ?_⟩
    obtain ⟨c1, c2⟩ := b2 a34 e34
    refine ⟨c1, fun a39 e39 => ?_⟩
    obtain ⟨d1, d2⟩ := c2 a39 e39
    refine ⟨d1, fun a43 e43 => ?_⟩
    obtain ⟨f1, f2⟩ := d2 a43 e43
    refine ⟨f1, fun a48 e48 => ?_⟩
    obtain ⟨g1, g2⟩ := f2 a48 e48
    refine ⟨g1, fun a52 e52 => ?_⟩
    obtain ⟨i1, i2⟩ := g2 a52 e52
    refine ⟨i1, fun a57 e57 => ?_⟩
    obtain ⟨Q58, j1, j2⟩ := i2 a57 e57
    refine ⟨Q58, j1, fun r59 S60 q60 w60 s60 k60 => ?_⟩
    obtain ⟨Q62, l1, l2⟩ := j2 r59 S60 q60 w60 s60 k60
    exact ⟨Q62, l1, fun S63 q63 w63 s63 a65 e65 => ih (l2 S63 q63 w63 s63 a65 e65)⟩
theorem sp_rowOf (w : wfC S) (g : ShC B S) (pm : PwM S x1) (h7 : (qI S 9 7).toInt ≤ 24) (h8 : (qI S 9 8).toInt ≤ 24) (h9 : 0 ≤ (qI S 9 1).toInt) (hH : HdO S (stV S x1)) (hC : ChM S x1) (hB : B.1 + 2479 ≤ KSC ∧ B.2 + 512 ≤ 64 * KCC) : wX2_rowOf S x1 (fun r u => RoQ B S x1 r u) := by
  have sz := hd_sz hH
  have gl := g.le
  unfold wX2_rowOf
  refine ⟨_, frX2_lookAt w (cu_lookAt (sp_lookAt (Q := fun u => LoQ S (stV S x1) u) h9 (fun u q => q))), fun S2 q2 w2 s2 => ?_⟩
  have f2 := q2.2
  have L2 := q2.1.1
  have LR2 := q2.1.2
  have hs : 1 ≤ (qI S2 8 2).toInt ∧ (qI S2 8 2).toInt ≤ 1200 := by rw [L2.2.2.1]; exact sz.1
  have c2 : ChV S2 1300 0 := hC S2 L2
  have g2 : ShC B S2 := ShC.ca w g f2 s2 w2 rfl rfl
  have h92 := L2.1.h9 h9
  refine ⟨_, frX2_numberInstructions w2 (cu_numberInstructions w2 h92 hs.2 (ct_numberInstructions (Q := fun u => NiX S2 u) w2 h92 hs.2 c2 (fun u q => q))), fun S5 q5 w5 s5 => ?_⟩
  obtain ⟨⟨q5, nu5⟩, f5⟩ := q5
  have y5 : smY S2 S5 := ⟨q5.1.1, q5.1.2.2 1 (by decide), q5.1.2.2 2 (by decide)⟩
  have g5 : ShC B S5 := ShC.ca w2 g2 f5 s5 w5 rfl rfl
  have qn5 : qn S5 = qn S := by rw [s5.2.1, s2.2.1]
  have qu5 : qu S5 = qu S := by rw [s5.2.2, s2.2.2]
  have hn8 : qn S5 + 8 ≤ KCC := by omega
  refine ⟨⟨by omega, by omega⟩, fun S10 e10 w10 => ?_⟩
  have f10 : cfr [] [] S5 S10 := by rw [e10]; exact cfr.new w5 (e10 ▸ w10)
  have y10 : smY S2 S10 := y5.tr (smY.fr w5 f10 rfl rfl rfl rfl rfl rfl rfl rfl)
  have hs10 : (qI S10 8 2).toInt ≤ 1200 := by rw [y10.2.2]; exact hs.2
  refine ⟨_, sp_tableRoom w10 (y10.h9 h92) hs10 ((y10.ch 1300 0).mpr c2), fun r13 S14 q14 w14 s14 k14 => ?_⟩
  have f14 := q14.2
  have T := q14.1
  rw [y10.cs] at T
  have cn := cN_le hs.2 1300 0 c2 (by decide)
  rw [li_0k] at cn
  have cn2 := cn.2.1 (by omega)
  have i10 : (qI S10 8 8).toInt = cN S2 1300 0 := by rw [f10.kI w5.k8 rfl rfl]; exact q5.2
  have ge1 : 1 ≤ cN S2 1300 0 := by
    have e : cN S2 1300 0 = if (qI S2 8 2).toInt ≤ (0 : Int32).toInt then 0 else 1 + cN S2 1299 (0 + stp (laF S2 0)) := rfl
    have hc := c2
    rw [show (1300 : Nat) = 1299 + 1 from rfl, ChV_s] at hc
    rw [li_0k] at e hc
    obtain ⟨hl, hc'⟩ := hc.resolve_left (by omega)
    have := (cN_le hs.2 1299 _ hc' (by rw [stp_of hl, t_addk (by have := (rg_la (S := S2) (o := 0) (by decide)).1; rw [li_0k]; omega), li_0k]; omega)).1
    rw [if_neg (by omega)] at e
    omega
  have c6 : qI S14 8 6 = qI S2 8 6 := by rw [f14.kI w10.k8 rfl rfl, f10.kI w5.k8 rfl rfl, f5.kI w2.k8 (by decide) (by decide)]
  have c6r : 0 ≤ (qI S14 8 6).toInt ∧ (qI S14 8 6).toInt ≤ 16 := by rw [c6, L2.2.2.2.1]; exact sz.2
  have q14n : qn S14 = qn S5 + 1 := by rw [s14.2.1, e10]; rfl
  have q14u : qu S14 = qu S5 + 15 := by rw [s14.2.2, e10]; rfl
  obtain ⟨a, ea⟩ : ∃ a : Nat, a = (qI S10 8 8).toInt.toNat := ⟨_, rfl⟩
  obtain ⟨b, eb⟩ : ∃ b : Nat, b = r13.toInt.toNat := ⟨_, rfl⟩
  obtain ⟨c, ec⟩ : ∃ c : Nat, c = (qI S14 8 6).toInt.toNat := ⟨_, rfl⟩
  have cost : 1 ≤ a ∧ a ≤ 1200 ∧ b ≤ 450 ∧ (b : Int) = cS S2 1300 0 ∧ c ≤ 16 ∧ 2 * a + b ≤ 2400 := by omega
  refine ⟨_, sp_initR (Q := fun u => NwRk S14 u (qn S5) a b c) k14 q14n (by omega) (by omega) (by omega) (by rw [← ea, ← eb, ← ec]; omega) (fun u _ h => by rw [← ea, ← eb, ← ec] at h; exact h), fun S17 N17 w17 s17 S20 e20 k20 w20 S21 e21 k21 w21 => ?_⟩
  obtain ⟨F17, n17, d17, z17, qn17, qu17⟩ := ro_new w5 g5 hn8 e10 w10 f14 s14 w14 (fun _ => rfl) N17
  have kp : qT S17 (qn S5) = 47 := N17.2.1
  obtain ⟨_, _, _, ⟨p0, p1, p3, p5, p6, p7, p8⟩, ⟨l1, l2, l3, l4, l5, l6, l7⟩, _, _, _⟩ := N17
  have o0 := qO_of p0
  have o1 := qO_of p1
  have o3 := qO_of p3
  have o5 := qO_of p5
  have o6 := qO_of p6
  have o7 := qO_of p7
  have o8 := qO_of p8
  have z0 := li_0k
  have G17 : ShC (B.1 + 2479, B.2 + 512) S17 := by
    refine ShC.nr (r := qn S5) w5 g5 F17 rfl n17 d17 (fun _ => ⟨⟨by rw [o0]; exact p0, by rw [o1]; exact p1, by rw [o3]; exact p3, by rw [o5]; exact p5, by rw [o6]; exact p6, by rw [o7]; exact p7, by rw [o8]; exact p8⟩, ?_⟩) (by show qu S17 + B.1 ≤ qu S5 + (B.1 + 2479); omega) (by show 64 * qn S17 + B.2 ≤ 64 * qn S5 + (B.2 + 512); omega) hB
    rw [z17, z17, z17, o0, o1, o3, o5, o6, o7, o8, l1, l2, l3, l4, l5, l6, l7]
    omega
  have f20 : cfr [] [(47, 10), (47, 11)] S17 S20 := by rw [e20]; exact cfr.oI k20 rfl
  have f21 : cfr [] [(47, 10), (47, 11)] S20 S21 := by rw [e21]; exact cfr.oI k21 rfl
  have f1721 := f20.tr f21
  have G20 : ShC (B.1 + 2479, B.2 + 512) S20 := ShC.ws w17 G17 f20 (by rw [e20]; rfl) (by rw [e20]; rfl) (by rw [e20]; rfl) rfl rfl
  have G21 : ShC (B.1 + 2479, B.2 + 512) S21 := ShC.ws w20 G20 f21 (by rw [e21]; rfl) (by rw [e21]; rfl) (by rw [e21]; rfl) rfl rfl
  have kp21 : qT S21 (qn S5) = 47 := f1721.1.T kp (by decide)
  have m21 := rSm.fr w17 kp (G17.row kp) f1721 rfl rfl rfl
  have c0 : qI S21 (qn S5) 2 = 0 := by rw [m21.1.1, z17]
  have t0 : qI S21 (qn S5) 4 = 0 := by rw [m21.1.2, z17]
  have y21 : smY S2 S21 := (y5.tr (smY.fr w5 F17 rfl rfl rfl rfl rfl rfl rfl rfl)).tr (smY.fr w17 f1721 rfl rfl rfl rfl rfl rfl rfl rfl)
  have n11 : qI S21 (qn S5) 11 = x1 := by rw [e21, qI_wI, if_neg (fun q => absurd q.2 (by decide)), e20, qI_wI, if_pos ⟨rfl, rfl⟩]
  have L0 : (qN S21 (qO S21 (qn S5) 0) : Int) = a := by
    rw [f1721.kL (j := 0) w17 kp (by rw [o0]; exact p0) rfl rfl, o0, l1]
  have L3 : (qN S21 (qO S21 (qn S5) 3) : Int) = b := by
    rw [f1721.kL (j := 3) w17 kp (by rw [o3]; exact p3) rfl rfl, o3, l3]
  have sx5 : shx S S5 := f2.1.tr f5.1
  have sx17 : shx S S17 := sx5.tr F17.1
  have sx21 : shx S S21 := sx17.tr f1721.1
  have r1721 : rfr (qn S5) S17 S21 := (show rfr (qn S5) S17 S20 by rw [e20]; exact rfr.inI (Nat.le_refl _) (by omega)).tr f20.1 (by rw [e21]; exact rfr.inI (Nat.le_refl _) (by omega))
  have r21 : rfr (qn S5) S S21 := ((((rfr.of f2 rfl rfl).tr f2.1 (rfr.of f5 rfl rfl)).tr sx5 (rfr.of F17 rfl rfl)).tr sx17 r1721)
  have rows : ∀ q, qT S q = 47 → rSm S S21 q ∧ qT S21 q = 47 ∧ q ≠ qn S5 := fun q kq => by
    have k2' : qT S2 q = 47 := f2.1.T kq (by decide)
    have k5' : qT S5 q = 47 := f5.1.T k2' (by decide)
    have k17' : qT S17 q = 47 := F17.1.T k5' (by decide)
    refine ⟨(((rSm.fr w kq (g.row kq) f2 rfl rfl rfl).tr (rSm.fr w2 k2' (g2.row k2') f5 rfl rfl rfl)).tr (rSm.fr w5 k5' (g5.row k5') F17 rfl rfl rfl)).tr (rSm.fr w17 k17' (G17.row k17') f1721 rfl rfl rfl), f1721.1.T k17' (by decide), fun z => ?_⟩
    have := w5.lt k5' (by decide) (by decide) (by decide)
    omega
  have e8 : ∀ j : Nat, j < 8 → qI S21 8 j = qI S2 8 j := fun j hj => by
    have d1 : ([(47, 10), (47, 11)] : List (Nat × Nat)).contains (42, j) = false := by
      cases e : ([(47, 10), (47, 11)] : List (Nat × Nat)).contains (42, j) with
      | false => rfl
      | true => have := List.contains_iff_mem.mp e; simp at this
    have d2 : ([(42, 9), (42, 10), (42, 11)] : List (Nat × Nat)).contains (42, j) = false := by
      cases e : ([(42, 9), (42, 10), (42, 11)] : List (Nat × Nat)).contains (42, j) with
      | false => rfl
      | true => have := List.contains_iff_mem.mp e; simp at this; omega
    rw [f1721.kI w17.k8 rfl d1, F17.kI w5.k8 rfl d2, q5.1.2.2 j (by omega)]
  have F21 : smF S S21 := (((smF.fr w f2 rfl rfl rfl rfl rfl rfl rfl).tr (smF.fr w2 f5 rfl rfl rfl rfl rfl rfl rfl)).tr (smF.fr w5 F17 rfl rfl rfl rfl rfl rfl rfl)).tr (smF.fr w17 f1721 rfl rfl rfl rfl rfl rfl rfl)
  have LR21 : LoR S (stV S x1) S21 := by
    obtain ⟨⟨a1, a2, a3, a4, a5⟩, a6, a7⟩ := LR2
    exact ⟨⟨F21.1.1, by rw [e8 1 (by decide)]; exact a2, by rw [e8 2 (by decide)]; exact a3, by rw [e8 6 (by decide)]; exact a4, by rw [e8 3 (by decide)]; exact a5⟩, by rw [e8 4 (by decide)]; exact a6, by rw [e8 5 (by decide)]; exact a7⟩
  have y521 : smY S5 S21 := (smY.fr w5 F17 rfl rfl rfl rfl rfl rfl rfl rfl).tr (smY.fr w17 f1721 rfl rfl rfl rfl rfl rfl rfl rfl)
  have nu21 : NuV S21 := fun j hj => by
    rw [f1721.kI w17.k15 rfl rfl, F17.kI w5.k15 rfl rfl, y521.nu]
    exact nu5 j (by rw [← y521.2.2]; exact hj)
  have pv21 := pm.at LR21 F21 nu21
  have ecn : cN S21 1300 0 = (a : Int) := by rw [y21.cn]; omega
  have nb21 : NmB (a : Int) S21 := by
    rw [← ecn]
    exact nu21.nb (by rw [y21.2.2]; exact hs.2) (by omega)
  have c9 : qI S21 (qn S5) 9 = 0 := by rw [f1721.kI kp rfl rfl, z17]
  have c10 : (qI S21 (qn S5) 10).toInt ≤ 24 ∧ 0 ≤ (qI S21 (qn S5) 10).toInt := by
    have e3 : qI S20 8 3 = qI S21 8 3 := by rw [e21, qI_wI, if_neg (fun q => by cases q.2)]
    have : qI S21 (qn S5) 10 = fX7_u2 S (stV S x1) := by
      rw [e21, qI_wI, if_pos ⟨rfl, rfl⟩, e3]
      exact LR21.1.2.2.2.2
    rw [this]
    exact ⟨hH.1, rg_u2.1⟩
  have m98 : (qI S21 9 8).toInt = (qI S 9 8).toInt := by rw [F21.1.2.2.2.2.2.2]
  refine ⟨2147483649, ro_L44 (S := S2) (U0 := S21) (N := (a : Int)) (B := (B.1 + 2479, B.2 + 512)) (by rw [F21.1.2.2.2.2.2.1]; exact h7) (by rw [m98]; exact h8) (by rw [LR21.2.1]; exact hH.2.1) nb21 y21 h92 hs (fun V wV gV kV xV rdV wtV sV => ⟨2147483649, ?_⟩) _ 1300 ⟨⟨G21, kp21, ⟨fun i hi => ?_, fun i i' _ hi => ?_⟩, y21⟩, c2, ⟨by decide, Or.inl rfl, by rw [li_0k]; decide⟩, ?_, ?_, Or.inl rfl, by omega, by omega⟩ ⟨smP.rf, pv21.1, by rw [c0, li_0k]; omega, L0, fun i hi => by rw [c0, li_0k] at hi; omega, rfl, rfl⟩ RoS.rf (by rw [li_0k]; decide)⟩
  · have e9V : 0 ≤ (qI V 9 1).toInt := (y21.1.tr sV.2.2.2.2).h9 h92
    have L := ro_L79 (B := (B.1 + 2479, B.2 + 512)) (r := qn S5) (U0 := V) e9V 2147483649 (U := V) (v3 := 0) ⟨⟨gV, kV⟩, fun q _ => rSm.rf, rfl, smX.rf, shx.rf, rfr.rf⟩ (by rw [li_0k]; decide)
    have Qe : (fun (r' : Nat) (W : MS) => r' = qn S5 ∧ CtI (B.1 + 2479, B.2 + 512) (qn S5) V W) = fun r' W => r' = qn S5 ∧ CtI (B.1 + 2479, B.2 + 512) (qn S5) V W := rfl
    have k226 : qT V (qO V (qn S5) 7) = 226 := wV.ref (gV.row kV).1.2.2.2.2.2.1 kV
    refine ro_mono79 (cu_L79 nb21 pv21.2 _ xV.2.1.2 k226 (by decide) (fun j hj => by rw [xV.2.2.1, c9, li_0k] at hj; omega) L) (fun r' W h => ?_)
    obtain ⟨⟨rfl, ⟨gW, kW⟩, hW1, hW2, hW3, hW4, hW5⟩, hC, h10⟩ := h
    have mp := hW1 _ kV
    refine ⟨gW, ⟨qn5, kW⟩, ⟨rdV.1.mv mp, by rw [mp.1.1]; exact rdV.2⟩, by rw [mp.1.1, mp.1.2, mp.xW]; exact wtV, ?_, ?_, ?_, fun q kq => ?_, ?_⟩
    · rw [hW2, sV.2.2.1, n11]
    · exact ((L2.1.tr y21.1).tr sV.2.2.2.2).tr hW3
    · exact (r21.tr sx21 sV.1).tr (sx21.tr sV.2.1) hW5
    · obtain ⟨m1, k1, ne⟩ := rows q kq
      have kVq : qT V q = 47 := sV.2.1.T k1 (by decide)
      exact (m1.tr (sV.1.row w21 kp21 (G21.row kp21) k1 (G21.row k1) ne)).tr (hW1 q kVq)
    · have e2 : (qI W (qn S5) 2).toInt = (a : Int) := by rw [mp.1.1]; exact xV.1.1
      refine ⟨by omega, by rw [h10, xV.2.2.2]; exact ⟨c10.2, c10.1⟩, ?_, fun j hj => by rw [e2]; exact hC j hj⟩
      rw [e2, ← m98]
      exact xV.2.1.1.mv mp
  · rw [c0, li_0k] at hi; omega
  · rw [c0, li_0k] at hi; omega
  · rw [c0, t0, li_0k]; show (0 : Int) + 8 * 0 ≤ 3 * (0 : Int32).toInt; rw [li_0k]; decide
  · rw [t0, li_0k, L3]; omega
end RH
/-! the Reader: names are short -/
section NM
variable {S u v U : MS} {x : Int32}
def NmP (S : MS) (a : Int32) : Prop := 0 ≤ a.toInt ∧ a.toInt + 3 ≤ (qI S 9 1).toInt ∧ (fX7_u2 S (a + (1 : Int32))).toInt ≤ 100
theorem NmP.sm {a : Int32} (h : smX S u) : NmP u a ↔ NmP S a := by unfold NmP; rw [h.1, h.u2]
def NEk (S : MS) : Prop := ∀ k : Nat, k < 500 → (qI S 11 k).toInt = 0 ∨ (fX7_u1 S (qI S 11 k)).toInt ≠ 1 ∨ NmP S (qI S 11 k)
theorem NEk.mv (h : NEk S) (s : smX S u) (e : ∀ k, qI u 11 k = qI S 11 k) : NEk u := fun k hk => by
  rw [e, s.u1, NmP.sm s]; exact h k hk
theorem ct_isThere (w : wfC S) : wX7_isThere S x (fun r u => r = 0 ∨ (x.toInt ≤ ((qI S 9 1) - (qI S 9 15)).toInt ∧ u = S)) := by
  have J : ∀ U : MS, (x.toInt ≤ ((qI S 9 1) - (qI S 9 15)).toInt ∧ U = S) → w_X7_isThere_J25 (fun r u => r = 0 ∨ (x.toInt ≤ ((qI S 9 1) - (qI S 9 15)).toInt ∧ u = S)) U := fun U h => by
    unfold w_X7_isThere_J25
    exact fun _ => Or.inr h
  unfold wX7_isThere
  refine ⟨fun c => J S ⟨c, rfl⟩, fun c => ⟨_, sp_breaks w, fun r4 S5 q _ _ => ⟨fun _ => Or.inl rfl, fun z => absurd (by rw [q]; rfl) z⟩⟩⟩
theorem ct_nameFits (w : wfC S) (h9 : 0 ≤ (qI S 9 1).toInt) (hp : 0 ≤ (qI S 9 15).toInt ∧ (qI S 9 15).toInt ≤ (qI S 9 1).toInt) : wX7_nameFits S (fun r u => r = 0 ∨ ((qI S 9 15).toInt + 3 + (fX7_u2 S ((qI S 9 15) + (1 : Int32))).toInt ≤ (qI S 9 1).toInt ∧ (fX7_u2 S ((qI S 9 15) + (1 : Int32))).toInt ≤ 100)) := by
  have re := rgI (qI S 9 1)
  have es : ((qI S 9 1) - (qI S 9 15)).toInt = (qI S 9 1).toInt - (qI S 9 15).toInt := t_subk (by omega)
  unfold wX7_nameFits
  refine ⟨_, ct_isThere w, fun r2 S3 q3 w3 _ => ⟨fun c => Or.inl rfl, fun c => ?_⟩⟩
  rcases q3 with q3 | ⟨q3, e3⟩
  · exact absurd (by rw [q3]; rfl) c
  subst e3
  have J32 : w_X7_nameFits_J32 (fun r u => r = 0 ∨ ((qI S3 9 15).toInt + 3 + (fX7_u2 S3 ((qI S3 9 15) + (1 : Int32))).toInt ≤ (qI S3 9 1).toInt ∧ (fX7_u2 S3 ((qI S3 9 15) + (1 : Int32))).toInt ≤ 100)) S3 := by
    unfold w_X7_nameFits_J32
    exact fun w => ⟨_, sp_breaks w, fun _ _ q _ _ => Or.inl q⟩
  refine ⟨dd_X7_u2 h9, fun a10 e10 => ⟨fun _ => J32, fun c1 => ⟨fun c2 a18 e18 => ⟨2147483649, ?_⟩, fun _ => J32⟩⟩⟩
  have J105 : w_X7_nameFits_J105 (fun r u => r = 0 ∨ ((qI S3 9 15).toInt + 3 + (fX7_u2 S3 ((qI S3 9 15) + (1 : Int32))).toInt ≤ (qI S3 9 1).toInt ∧ (fX7_u2 S3 ((qI S3 9 15) + (1 : Int32))).toInt ≤ 100)) S3 a10 := by
    unfold w_X7_nameFits_J105
    refine fun w => ⟨_, ct_isThere w, fun r23 S24 q _ _ => ?_⟩
    rcases q with q | ⟨q, _⟩
    · exact Or.inl q
    · right
      have e3 : ((3 : Int32) + a10).toInt = 3 + a10.toInt := by rw [t_addk (by rw [li_3k]; omega), li_3k]
      rw [← e10]
      omega
  have J89 : w_X7_nameFits_J89 (fun r u => r = 0 ∨ ((qI S3 9 15).toInt + 3 + (fX7_u2 S3 ((qI S3 9 15) + (1 : Int32))).toInt ≤ (qI S3 9 1).toInt ∧ (fX7_u2 S3 ((qI S3 9 15) + (1 : Int32))).toInt ≤ 100)) S3 := by
    unfold w_X7_nameFits_J89
    exact fun w => ⟨_, sp_breaks w, fun _ _ q _ _ => Or.inl q⟩
  have L : ∀ (n : Nat) {v2 : Int32}, 2147483648 - v2.toInt < n → w_X7_nameFits_L49 (fun r u => r = 0 ∨ ((qI S3 9 15).toInt + 3 + (fX7_u2 S3 ((qI S3 9 15) + (1 : Int32))).toInt ≤ (qI S3 9 1).toInt ∧ (fX7_u2 S3 ((qI S3 9 15) + (1 : Int32))).toInt ≤ 100)) n S3 a10 v2 := by
    intro n
    induction n with
    | zero => intro v2 hm; have := rgI v2; omega
    | succ n ih =>
      intro v2 hm
      unfold w_X7_nameFits_L49
      intro _
      refine ⟨fun _ => J105, fun _ => ⟨fun _ => J105, fun c4 => ⟨dd_X7_u1, fun _ => J89, fun _ => ⟨dd_X7_u1, fun _ a40 ea => ?_, fun _ => J89⟩⟩⟩⟩
      have e := t_inc ea (by omega)
      exact ih (by omega)
  have ea : a18.toInt = (qI S3 9 15).toInt + 3 := by rw [e18, t_addk (by rw [li_3k]; rw [li_3k] at q3; omega), li_3k]
  exact L _ (by omega)
theorem ct_entryFits (w : wfC S) (h9 : 0 ≤ (qI S 9 1).toInt) (hp : 0 ≤ (qI S 9 15).toInt ∧ (qI S 9 15).toInt ≤ (qI S 9 1).toInt) : wX7_entryFits S (fun r u => r = 0 ∨ (((fX7_u1 S (qI S 9 15)).toInt = 1 → NmP S (qI S 9 15)) ∧ 0 ≤ (fX7_entryLength S (fX7_u1 S (qI S 9 15))).toInt ∧ (qI S 9 15).toInt + (fX7_entryLength S (fX7_u1 S (qI S 9 15))).toInt ≤ (qI S 9 1).toInt)) := by
  have re := rgI (qI S 9 1)
  have es : ((qI S 9 1) - (qI S 9 15)).toInt = (qI S 9 1).toInt - (qI S 9 15).toInt := t_subk (by omega)
  have ru := rg_u2 (S := S) (x := (qI S 9 15) + (1 : Int32))
  unfold wX7_entryFits
  refine ⟨_, ct_isThere w, fun r2 S3 q3 w3 _ => ⟨fun c => Or.inl rfl, fun c => ?_⟩⟩
  rcases q3 with q3 | ⟨q3, e3⟩
  · exact absurd (by rw [q3]; rfl) c
  subst e3
  refine ⟨dd_X7_u1, fun a9 e9 => ⟨fun c1 => ⟨_, ct_nameFits w3 h9 hp, fun r29 S30 q _ _ => ?_⟩, fun c1 => ⟨dd_X7_entryLength h9, fun a14 e14 => ⟨fun c2 => ⟨_, sp_breaks w3, fun r25 S26 q _ _ => Or.inl q⟩, fun c2 => ⟨dd_X7_entryLength h9, fun a19 e19 => ⟨_, ct_isThere w3, fun r21 S22 q _ _ => ?_⟩⟩⟩⟩⟩⟩
  · rcases q with q | q
    · exact Or.inl q
    · right
      rw [← e9]
      have el : (fX7_entryLength S3 a9).toInt = 3 + (fX7_u2 S3 ((qI S3 9 15) + (1 : Int32))).toInt := by
        unfold fX7_entryLength
        rw [if_pos c1, t_addk (by rw [li_3k]; omega), li_3k]
      exact ⟨fun _ => ⟨hp.1, by omega, q.2⟩, by omega, by omega⟩
  · rcases q with q | ⟨q, _⟩
    · exact Or.inl q
    · right
      rw [← e9, ← e19]
      have ge : 0 ≤ a19.toInt := by
        rw [e19]
        unfold fX7_entryLength
        rw [if_neg c1]
        repeat' split
        all_goals decide
      exact ⟨fun z => absurd z c1, ge, by omega⟩
theorem pf_J124 {Q : Int32 → MS → Prop} {k70 : MS → Int32 → Prop} {t0 v1 : Int32} (h9 : 0 ≤ (qI U 9 1).toInt) (hv : 0 ≤ v1.toInt ∧ v1.toInt < 500) (hk : ∀ (V : MS) (a : Int32), wfC U → V = wI U 9 15 ((qI U 9 15) + (fX7_entryLength U (fX7_u1 U (qI U 9 15)))) → v1.toInt + 1 ≤ a.toInt → a.toInt ≤ v1.toInt + 2 → wfC V → k70 V a) : w_X7_poolFits_J124 Q k70 U t0 v1 := by
  unfold w_X7_poolFits_J124
  intro w ht a36 e36
  refine ⟨dd_X7_u1, fun a40 e40 => ⟨dd_X7_entryLength h9, fun a44 e44 S46 e46 k46 w46 a47 e47 => ?_⟩⟩
  have t01 : 0 ≤ t0.toInt ∧ t0.toInt ≤ 1 := by rcases ht with rfl | rfl <;> decide
  have e1 : a36.toInt = v1.toInt + t0.toInt := by rw [e36, t_addk (by omega)]
  have e2 := t_inc e47 (by omega)
  exact hk S46 a47 w (by rw [e46, e44, e40]) (by omega) (by omega) w46
theorem pf_L70 : ∀ (n : Nat) {U : MS} {v1 : Int32}, 0 ≤ (qI U 9 1).toInt → (0 ≤ (qI U 9 15).toInt ∧ (qI U 9 15).toInt ≤ (qI U 9 1).toInt) → NEk U → 0 ≤ v1.toInt → 600 - v1.toInt < n → v1.toInt ≤ 501 → w_X7_poolFits_L70 (fun r u => r = 0 ∨ NEk u) n U v1 := by
  intro n
  induction n with
  | zero => intro U v1 _ _ _ h0 hm h5; omega
  | succ n ih =>
    intro U v1 h9 hp ne h0 hm h5
    unfold w_X7_poolFits_L70
    intro w
    refine ⟨fun _ => Or.inr ne, fun _ => ⟨fun _ => Or.inr ne, fun c => ⟨_, frX7_entryFits w (ct_entryFits w h9 hp), fun r25 S26 q26 w26 _ => ⟨fun _ => Or.inl rfl, fun c2 => ⟨by omega, fun S30 e30 k30 w30 => ⟨dd_X7_u1, fun a34 _ => ?_⟩⟩⟩⟩⟩⟩
    obtain ⟨q26, f26⟩ := q26
    have q26 := q26.resolve_left (fun z => c2 (by rw [z]; rfl))
    have s26 : smX U S26 := f26.sm w rfl rfl rfl rfl (fun _ => by simp)
    have p26 : qI S26 9 15 = qI U 9 15 := f26.kI w.k9 rfl rfl
    have a26 : ∀ k, qI S26 11 k = qI U 11 k := fun k => f26.kI w.k11 rfl (by simp)
    have f30 : cfr [218] [] S26 S30 := by rw [e30]; exact cfr.aI k30 rfl
    have s30 : smX U S30 := s26.tr (f30.sm w26 rfl rfl rfl rfl (fun _ => rfl))
    have p30 : qI S30 9 15 = qI U 9 15 := (f30.kI w26.k9 rfl rfl).trans p26
    have ne30 : NEk S30 := fun k hk => by
      have e : qI S30 11 k = if k = v1.toInt.toNat then qI U 9 15 else qI U 11 k := by
        rw [e30, qI_wI, p26, a26]
        by_cases z : k = v1.toInt.toNat
        · rw [if_pos ⟨rfl, z⟩, if_pos z]
        · rw [if_neg (fun y => z y.2), if_neg z]
      rw [e, s30.u1, NmP.sm s30]
      split
      · right
        by_cases z : (fX7_u1 U (qI U 9 15)).toInt = 1
        · exact Or.inr (q26.1 z)
        · exact Or.inl z
      · exact ne k hk
    have h930 := s30.h9 h9
    have el : fX7_entryLength S30 (fX7_u1 S30 (qI S30 9 15)) = fX7_entryLength U (fX7_u1 U (qI U 9 15)) := by
      rw [p30, s30.u1]
      unfold fX7_entryLength
      rw [p30, s30.u2]
    have nx : ∀ (V : MS) (a : Int32), wfC S30 → V = wI S30 9 15 ((qI S30 9 15) + (fX7_entryLength S30 (fX7_u1 S30 (qI S30 9 15)))) → v1.toInt + 1 ≤ a.toInt → a.toInt ≤ v1.toInt + 2 → wfC V → w_X7_poolFits_L70 (fun r u => r = 0 ∨ NEk u) n V a := fun V a w30' eV l1 l2 wV => by
      have fV : cfr [] [(46, 15)] S30 V := by rw [eV]; exact cfr.oI w30'.k9 rfl
      have sV : smX S30 V := fV.sm w30' rfl rfl rfl rfl (fun _ => by simp)
      have re := rgI (qI U 9 1)
      have pV : (qI V 9 15).toInt = (qI U 9 15).toInt + (fX7_entryLength U (fX7_u1 U (qI U 9 15))).toInt := by
        rw [eV, qI_wI, if_pos ⟨rfl, rfl⟩, el, p30, t_addk (by omega)]
      have eE : (qI V 9 1).toInt = (qI U 9 1).toInt := by rw [(s30.tr sV).1]
      exact ih (by omega) (by omega) (ne30.mv sV (fun k => fV.kI w30'.k11 rfl (by simp))) (by omega) (by omega) (by omega)
    exact ⟨fun _ => pf_J124 h930 (by omega) nx, fun _ => pf_J124 h930 (by omega) nx⟩
theorem ct_poolFits (w : wfC S) (h9 : 0 ≤ (qI S 9 1).toInt) (hp : 0 ≤ (qI S 9 15).toInt ∧ (qI S 9 15).toInt ≤ (qI S 9 1).toInt) : wX7_poolFits S (fun r u => r = 0 ∨ NEk u) := by
  have re := rgI (qI S 9 1)
  have es : ((qI S 9 1) - (qI S 9 15)).toInt = (qI S 9 1).toInt - (qI S 9 15).toInt := t_subk (by omega)
  have J40 : ∀ U : MS, w_X7_poolFits_J40 (fun r u => r = 0 ∨ NEk u) U := fun U => by
    unfold w_X7_poolFits_J40
    exact fun w => ⟨_, sp_breaks w, fun _ _ q _ _ => Or.inl q⟩
  unfold wX7_poolFits
  refine ⟨_, ct_isThere w, fun r2 S3 q3 w3 _ => ⟨fun c => Or.inl rfl, fun c => ?_⟩⟩
  rcases q3 with q3 | ⟨q3, e3⟩
  · exact absurd (by rw [q3]; rfl) c
  subst e3
  refine ⟨dd_X7_u2 h9, fun a9 _ S10 e10 k10 w10 => ⟨fun _ => J40 S10, fun _ => ⟨fun _ S18 e18 k18 w18 k11 => ⟨_, sp_fill w18 k11 (by decide), fun S20 q20 w20 _ => ⟨601, ?_⟩⟩, fun _ => J40 S10⟩⟩⟩
  have f10 : cfr [] [(46, 5), (46, 15)] S3 S10 := by rw [e10]; exact cfr.oI k10 rfl
  have f18 : cfr [] [(46, 5), (46, 15)] S10 S18 := by rw [e18]; exact cfr.oI k18 rfl
  have f := f10.tr f18
  have s18 : smX S3 S18 := f.sm w3 rfl rfl rfl rfl (fun _ => by simp)
  have s20 : smX S3 S20 := s18.tr (q20.2.sm w18 rfl rfl rfl rfl (fun _ => rfl))
  have p10 : qI S10 9 15 = qI S3 9 15 := by rw [e10, qI_wI, if_neg (fun z => absurd z.2 (by decide))]
  have p20 : (qI S20 9 15).toInt = (qI S3 9 15).toInt + 2 := by
    rw [q20.2.kI w18.k9 rfl rfl, e18, qI_wI, if_pos ⟨rfl, rfl⟩, p10, t_addk (by rw [li_2k]; rw [li_2k] at q3; omega), li_2k]
  have n11 : qN S18 11 = 500 := (w18.2.1 (9, 4, 11, 218, 500) (by decide)).2.2
  rw [li_2k] at q3
  have eE : (qI S20 9 1).toInt = (qI S3 9 1).toInt := by rw [s20.1]
  refine pf_L70 _ (by omega) (by omega) (fun k hk => ?_) (by decide) (by rw [li_1k]; decide) (by decide)
  left
  rw [q20.1 k (by omega)]
  rfl
end NM
/-! the Reader: what a sound file has -/
section SD
variable {S u v U : MS} {x : Int32}
theorem smE.ne (h : smE S u) (n : NEk S) : NEk u := n.mv h.1 h.2.1
/-- a NAME's place -/
theorem NEk.tag (n : NEk S) (h : (fX7_tagOf S x).toInt = 1) : NmP S (fX7_entryAt S x) := by
  unfold fX7_tagOf at h
  by_cases c : (fX7_entryAt S x).toInt = 0
  · rw [if_pos c] at h; exact absurd h (by decide)
  · rw [if_neg c] at h
    unfold fX7_entryAt at c h ⊢
    by_cases c1 : x.toInt < 1
    · rw [if_pos c1] at c; exact absurd rfl c
    · rw [if_neg c1] at c h ⊢
      by_cases c2 : (qI S 9 5).toInt ≤ x.toInt
      · rw [if_pos c2] at c; exact absurd rfl c
      · rw [if_neg c2] at c h ⊢
        by_cases c3 : x.toInt < 500
        · rw [if_pos c3] at c h ⊢
          rcases n x.toInt.toNat (by omega) with q | q | q
          · exact absurd q c
          · exact absurd h q
          · exact q
        · rw [if_neg c3] at c; exact absurd rfl c
theorem ct_membersFit (w : wfC S) (h9 : 0 ≤ (qI S 9 1).toInt) (h0 : 0 ≤ x.toInt) : wX7_membersFit S x (fun r _ => r.toInt ≤ 24) := by
  have m1 : (-1 : Int32).toInt ≤ 24 := by decide
  unfold wX7_membersFit
  refine ⟨_, ct_isThere w, fun r2 S3 q3 w3 _ => ⟨fun _ => m1, fun c => ?_⟩⟩
  rcases q3 with q3 | ⟨q3, e3⟩
  · exact absurd (by rw [q3]; rfl) c
  subst e3
  refine ⟨dd_X7_u2 h9, fun a9 _ => ⟨fun c9 S12 e12 k12 w12 => ⟨100, ?_⟩, fun _ => ⟨_, sp_breaks w3, fun _ _ _ _ _ => m1⟩⟩⟩
  have f12 : cfr [219] [(46, 2), (46, 3), (46, 15)] S3 S12 := by rw [e12]; exact cfr.oI k12 rfl
  have L : ∀ (n : Nat) {U : MS} {v3 : Int32}, 0 ≤ (qI U 9 1).toInt → 0 ≤ v3.toInt → v3.toInt ≤ 48 → 50 - v3.toInt < n → w_X7_membersFit_L49 (fun r _ => r.toInt ≤ 24) n U x a9 v3 := by
    intro n
    induction n with
    | zero =>
      intro U v3 hU h0 h48 hm
      omega
    | succ n ih =>
      intro U v3 hU h0 h48 hm
      unfold w_X7_membersFit_L49
      intro wU
      refine ⟨fun _ => c9, fun _ => ⟨fun _ => c9, fun c => ⟨by omega, fun S17 e17 k17 w17 => ⟨_, ct_isThere w17, fun r19 S20 q20 w20 _ => ⟨fun _ => m1, fun c2 => ?_⟩⟩⟩⟩⟩
      rcases q20 with q20 | ⟨q20, e20⟩
      · exact absurd (by rw [q20]; rfl) c2
      subst e20
      refine fun S24 e24 k24 w24 => ?_
      have f17 : cfr [219] [(46, 2), (46, 3), (46, 15)] U S20 := by rw [e17]; exact cfr.aI k17 rfl
      have f24 : cfr [219] [(46, 2), (46, 3), (46, 15)] S20 S24 := by rw [e24]; exact cfr.oI k24 rfl
      have h24 : 0 ≤ (qI S24 9 1).toInt := by rw [(f17.tr f24).kI wU.k9 rfl rfl]; exact hU
      refine ⟨_, frX7_attributesFit w24 (sfX7_attributesFit w24 h24 w24.k9), fun r26 S27 q27 w27 _ => ⟨fun _ => m1, fun _ a30 ea => ?_⟩⟩
      have e := t_inc ea (by omega)
      exact ih (by rw [q27.2.kI w24.k9 rfl rfl]; exact h24) (by omega) (by omega) (by omega)
  by_cases hx : x.toInt < 49
  · exact L _ (by rw [f12.kI w3.k9 rfl rfl]; exact h9) h0 (by omega) (by omega)
  · unfold w_X7_membersFit_L49
    intro _
    exact ⟨fun _ => c9, fun _ => ⟨fun _ => c9, fun c => by omega⟩⟩
theorem ct_fieldsFit (w : wfC S) (h9 : 0 ≤ (qI S 9 1).toInt) : wX7_fieldsFit S (fun r u => r = 0 ∨ (0 ≤ (qI u 9 7).toInt ∧ (qI u 9 7).toInt ≤ 24)) := by
  unfold wX7_fieldsFit
  intro S1 e1 k1 w1 S2 e2 k2 w2
  have f1 : cfr [] [(46, 7), (46, 8)] S S1 := by rw [e1]; exact cfr.oI k1 rfl
  have f2 : cfr [] [(46, 7), (46, 8)] S1 S2 := by rw [e2]; exact cfr.oI k2 rfl
  have h92 : 0 ≤ (qI S2 9 1).toInt := by rw [(f1.tr f2).kI w.k9 rfl rfl]; exact h9
  refine ⟨_, ct_membersFit w2 h92 (by decide), fun r4 S5 q5 w5 _ S7 e7 k7 w7 => ?_⟩
  have e : qI S7 9 7 = r4 := by rw [e7, qI_wI, if_pos ⟨rfl, rfl⟩]
  exact ⟨fun _ => Or.inl rfl, fun c => Or.inr ⟨by omega, by rw [e]; exact q5⟩⟩
theorem ct_methodsFit (w : wfC S) (h9 : 0 ≤ (qI S 9 1).toInt) (h7 : 0 ≤ (qI S 9 7).toInt) : wX7_methodsFit S (fun r u => r = 0 ∨ (0 ≤ (qI u 9 8).toInt ∧ (qI u 9 8).toInt ≤ 24)) := by
  unfold wX7_methodsFit
  refine ⟨_, ct_membersFit w h9 h7, fun r2 S3 q3 w3 _ S5 e5 k5 w5 => ?_⟩
  have e : qI S5 9 8 = r2 := by rw [e5, qI_wI, if_pos ⟨rfl, rfl⟩]
  exact ⟨fun _ => Or.inl rfl, fun c => Or.inr ⟨by omega, by rw [e]; exact q3⟩⟩
def EPt (S : MS) : Prop := ∀ k : Int32, (fX7_tagOf S k).toInt = 7 → (fX7_tagOf S (fX7_firstOf S k)).toInt = 1
theorem ct_entryPoints (h9 : 0 ≤ (qI S 9 1).toInt) : wX7_entryPoints S x (fun r u => (r.toInt = 0 ∨ ((fX7_tagOf S x).toInt = 7 → (fX7_tagOf S (fX7_firstOf S x)).toInt = 1)) ∧ u = S) := by
  unfold wX7_entryPoints
  refine ⟨dd_X7_tagOf, fun a4 e4 => ?_⟩
  have J93 : ¬ (fX7_tagOf S x).toInt = 7 → w_X7_entryPoints_J93 (fun r u => (r.toInt = 0 ∨ ((fX7_tagOf S x).toInt = 7 → (fX7_tagOf S (fX7_firstOf S x)).toInt = 1)) ∧ u = S) S := fun c => by
    unfold w_X7_entryPoints_J93
    exact fun _ => ⟨Or.inr (fun z => absurd z c), rfl⟩
  rw [← e4] at J93 ⊢
  refine ⟨fun c => ⟨dd_X7_firstOf h9, fun a26 e26 => ⟨dd_X7_tagOf, fun a30 e30 => ⟨fun d => ⟨Or.inr (fun _ => by rw [← e26, ← e30]; exact d), rfl⟩, fun _ => ⟨Or.inl rfl, rfl⟩⟩⟩⟩, fun c => ?_⟩
  have N : ∀ r : Int32, (r.toInt = 0 ∨ (a4.toInt = 7 → (fX7_tagOf S (fX7_firstOf S x)).toInt = 1)) ∧ S = S := fun _ => ⟨Or.inr (fun z => absurd z c), rfl⟩
  have J95 : w_X7_entryPoints_J95 (fun r u => (r.toInt = 0 ∨ (a4.toInt = 7 → (fX7_tagOf S (fX7_firstOf S x)).toInt = 1)) ∧ u = S) S x := by
    have J127 : w_X7_entryPoints_J127 (fun r u => (r.toInt = 0 ∨ (a4.toInt = 7 → (fX7_tagOf S (fX7_firstOf S x)).toInt = 1)) ∧ u = S) S := by
      unfold w_X7_entryPoints_J127
      exact fun _ => N _
    unfold w_X7_entryPoints_J95
    exact fun _ => ⟨dd_X7_firstOf h9, fun a8 _ => ⟨dd_X7_tagOf, fun a12 _ => ⟨fun _ => ⟨dd_X7_secondOf h9, fun a17 _ => ⟨dd_X7_tagOf, fun a21 _ => ⟨fun _ => N _, fun _ => J127⟩⟩⟩, fun _ => J127⟩⟩⟩
  exact ⟨fun _ => N _, fun _ => ⟨fun _ => J95, fun _ => ⟨fun _ => J95, fun _ => ⟨fun _ => N _, fun _ => ⟨fun _ => ⟨dd_X7_firstOf h9, fun a35 _ => ⟨dd_X7_tagOf, fun a39 _ => ⟨fun _ => ⟨dd_X7_secondOf h9, fun a44 _ => ⟨dd_X7_tagOf, fun a48 _ => ⟨fun _ => N _, fun _ => J93 c⟩⟩⟩, fun _ => J93 c⟩⟩⟩, fun _ => N _⟩⟩⟩⟩⟩
theorem tag_out (h : ¬ (1 ≤ x.toInt ∧ x.toInt < (qI S 9 5).toInt)) : (fX7_tagOf S x).toInt = 0 := by
  have e : (fX7_entryAt S x).toInt = 0 := by
    unfold fX7_entryAt
    by_cases c1 : x.toInt < 1
    · rw [if_pos c1]; rfl
    · rw [if_neg c1, if_pos (by omega)]; rfl
  unfold fX7_tagOf
  rw [if_pos e]; rfl
theorem ct_entriesPoint (h9 : 0 ≤ (qI S 9 1).toInt) : wX7_entriesPoint S (fun r _ => r = 0 ∨ EPt S) := by
  unfold wX7_entriesPoint
  refine ⟨2147483649, ?_⟩
  have L : ∀ (n : Nat) {v1 : Int32}, (∀ k : Int32, k.toInt < v1.toInt → (fX7_tagOf S k).toInt = 7 → (fX7_tagOf S (fX7_firstOf S k)).toInt = 1) → 2147483648 - v1.toInt < n → w_X7_entriesPoint_L2 (fun r _ => r = 0 ∨ EPt S) n S v1 := by
    intro n
    induction n with
    | zero => intro v1 _ hm; have := rgI v1; omega
    | succ n ih =>
      intro v1 hk hm
      unfold w_X7_entriesPoint_L2
      intro w
      refine ⟨fun c => Or.inr (fun k h7 => ?_), fun c => ⟨_, ct_entryPoints h9, fun r3 S4 q4 w4 _ => ?_⟩⟩
      · by_cases z : k.toInt < v1.toInt
        · exact hk k z h7
        · rw [tag_out (fun q => by omega)] at h7; omega
      · obtain ⟨q, e⟩ := q4
        subst e
        refine ⟨fun _ => ⟨dd_X7_entryAt, _, sp_breaks w4, fun _ _ q _ _ => Or.inl q⟩, fun c2 a7 ea => ?_⟩
        have re := rgI (qI S4 9 5)
        have e := t_inc ea (by omega)
        refine ih (fun k hl h7 => ?_) (by omega)
        by_cases z : k.toInt < v1.toInt
        · exact hk k z h7
        · have : k = v1 := Int32.toInt_inj.mp (by omega)
          subst this
          exact (q.resolve_left c2) h7
  refine L _ (fun k hl h7 => ?_) (by rw [li_1k]; decide)
  rw [li_1k] at hl
  rw [tag_out (fun q => by omega)] at h7
  omega
def HdT (S : MS) : Prop := (fX7_tagOf S (fX7_u2 S ((qI S 9 6) + (2 : Int32)))).toInt = 7 ∧ (fX7_tagOf S (fX7_u2 S ((qI S 9 6) + (4 : Int32)))).toInt = 7
theorem ct_headHolds (w : wfC S) (h9 : 0 ≤ (qI S 9 1).toInt) : wX7_headHolds S (fun r _ => r = 0 ∨ HdT S) := by
  unfold wX7_headHolds
  refine ⟨dd_X7_u2 h9, fun a5 e5 => ⟨dd_X7_tagOf, fun a9 e9 => ⟨fun c => ⟨dd_X7_u2 h9, fun a15 e15 => ⟨dd_X7_tagOf, fun a19 e19 => ⟨fun d => ?_, fun _ => ⟨_, sp_breaks w, fun _ _ q _ _ => Or.inl q⟩⟩⟩⟩, fun _ => ⟨_, sp_breaks w, fun _ _ q _ _ => Or.inl q⟩⟩⟩⟩
  have H : HdT S := ⟨by rw [← e5, ← e9]; exact c, by rw [← e15, ← e19]; exact d⟩
  have J : ∀ V : MS, w_X7_headHolds_J94 (fun r _ => r = 0 ∨ HdT S) V := fun V => by
    unfold w_X7_headHolds_J94
    exact fun _ => Or.inr H
  exact ⟨dd_X7_u2 h9, fun a25 _ => ⟨fun _ => J S, fun _ => ⟨_, sp_breaks w, fun r29 S30 q _ _ => ⟨fun _ => Or.inl rfl, fun _ => J S30⟩⟩⟩⟩
theorem ct_isNameAt (w : wfC S) (h9 : 0 ≤ (qI S 9 1).toInt) : wX7_isNameAt S x (fun r u => r = 0 ∨ ((fX7_tagOf S (fX7_u2 S x)).toInt = 1 ∧ u = S)) := by
  unfold wX7_isNameAt
  refine ⟨dd_X7_u2 h9, fun a4 e4 => ⟨dd_X7_tagOf, fun a8 e8 => ⟨fun c => ?_, fun c => ⟨_, sp_breaks w, fun r11 S12 q _ _ => ⟨fun _ => Or.inl rfl, fun z => absurd (by rw [q]; rfl) z⟩⟩⟩⟩⟩
  unfold w_X7_isNameAt_J23
  exact fun _ => Or.inr ⟨by rw [← e4, ← e8]; exact c, rfl⟩
def NmT (S : MS) (n : Int) : Prop := ∀ k : Int32, 0 ≤ k.toInt → k.toInt < n → (fX7_tagOf S (fX7_nameOf S k)).toInt = 1 ∧ (fX7_tagOf S (fX7_typeOf S k)).toInt = 1
theorem ct_namesHold (h9 : 0 ≤ (qI S 9 1).toInt) (h7 : 0 ≤ (qI S 9 7).toInt ∧ (qI S 9 7).toInt ≤ 24) (h8 : 0 ≤ (qI S 9 8).toInt ∧ (qI S 9 8).toInt ≤ 24) : wX7_namesHold S (fun r _ => r = 0 ∨ NmT S ((qI S 9 7).toInt + (qI S 9 8).toInt)) := by
  have es : ((qI S 9 7) + (qI S 9 8)).toInt = (qI S 9 7).toInt + (qI S 9 8).toInt := t_addk (by omega)
  unfold wX7_namesHold
  refine ⟨101, ?_⟩
  have L : ∀ (n : Nat) {U : MS} {v1 : Int32}, smE S U → NmT S v1.toInt → 0 ≤ v1.toInt → v1.toInt ≤ 48 → 60 - v1.toInt < n → w_X7_namesHold_L2 (fun r _ => r = 0 ∨ NmT S ((qI S 9 7).toInt + (qI S 9 8).toInt)) n U v1 := by
    intro n
    induction n with
    | zero => intro U v1 _ _ h0 h1 hm; omega
    | succ n ih =>
      intro U v1 y hk h0 h1 hm
      have h9U := y.1.h9 h9
      unfold w_X7_namesHold_L2
      intro w
      rw [y.2.2.2.2.2.1, y.2.2.2.2.2.2, es]
      refine ⟨fun c => ⟨_, sfX7_attributeNamesHold w h9U w.k9, fun _ _ _ _ _ => Or.inr (fun k a b => hk k a (by omega))⟩, fun c => ⟨dd_X7_memberPlace, fun a10 e10 => ⟨_, ct_isNameAt w h9U, fun r13 S14 q14 w14 _ => ⟨fun _ => Or.inl rfl, fun c2 => ?_⟩⟩⟩⟩
      rcases q14 with q14 | ⟨t1, e14⟩
      · exact absurd (by rw [q14]; rfl) c2
      subst e14
      refine ⟨_, ct_isNameAt w14 h9U, fun r19 S20 q20 w20 _ => ⟨fun _ => Or.inl rfl, fun c3 => ?_⟩⟩
      rcases q20 with q20 | ⟨t2, e20⟩
      · exact absurd (by rw [q20]; rfl) c3
      subst e20
      refine ⟨_, frX7_attributeNamesHold w20 (sfX7_attributeNamesHold w20 h9U w20.k9), fun r25 S26 q26 w26 _ => ⟨fun _ => Or.inl rfl, fun _ a29 ea => ?_⟩⟩
      have e := t_inc ea (by omega)
      refine ih (y.tr (smE.fr w20 q26.2 rfl rfl rfl rfl rfl rfl)) (fun k a b => ?_) (by omega) (by omega) (by omega)
      by_cases z : k.toInt < v1.toInt
      · exact hk k a z
      · have : k = v1 := Int32.toInt_inj.mp (by omega)
        subst this
        have n1 : fX7_nameOf S20 k = fX7_u2 S20 (a10 + (2 : Int32)) := by unfold fX7_nameOf; rw [← e10]
        have n2 : fX7_typeOf S20 k = fX7_u2 S20 (a10 + (4 : Int32)) := by unfold fX7_typeOf; rw [← e10]
        rw [← n1, y.nam, y.tag] at t1
        rw [← n2, y.typ, y.tag] at t2
        exact ⟨t1, t2⟩
  exact L _ smE.rf (fun k a b => by rw [li_0k] at b; omega) (by decide) (by decide) (by rw [li_0k]; decide)
/-- what is known of a file that is sound -/
def SndP (S : MS) : Prop := NEk S ∧ ((0 ≤ (qI S 9 7).toInt ∧ (qI S 9 7).toInt ≤ 24) ∧ 0 ≤ (qI S 9 8).toInt ∧ (qI S 9 8).toInt ≤ 24) ∧ EPt S ∧ HdT S ∧ NmT S ((qI S 9 7).toInt + (qI S 9 8).toInt)
end SD
/-! isSound, with what it finds -/
section SI
variable {S u v U : MS} {p1 : Nat}
theorem EPt.mv (h : EPt S) (y : smE S u) : EPt u := fun k => by rw [y.tag, y.fst, y.tag]; exact h k
theorem HdT.mv (h : HdT S) (y : smE S u) : HdT u := by
  unfold HdT
  rw [y.2.2.2.2.1, y.1.u2, y.1.u2, y.tag, y.tag]; exact h
theorem NmT.mv {n : Int} (h : NmT S n) (y : smE S u) : NmT u n := fun k a b => by rw [y.nam, y.typ, y.tag, y.tag]; exact h k a b
theorem SndP.mv (h : SndP S) (y : smE S u) : SndP u := by
  obtain ⟨a, b, c, d, e⟩ := h
  exact ⟨y.ne a, by rw [y.2.2.2.2.2.1, y.2.2.2.2.2.2]; exact b, c.mv y, d.mv y, by rw [y.2.2.2.2.2.1, y.2.2.2.2.2.2]; exact e.mv y⟩
theorem ct_magicHolds (w : wfC S) : wX7_magicHolds S (fun r u => r = 0 ∨ (0 ≤ (qI u 9 15).toInt ∧ (qI u 9 15).toInt ≤ (qI u 9 1).toInt)) := by
  unfold wX7_magicHolds
  refine ⟨10, ?_⟩
  have L : ∀ (n : Nat) {v1 : Int32}, 0 ≤ v1.toInt → v1.toInt ≤ 8 → (1 ≤ v1.toInt → v1.toInt ≤ (qI S 9 1).toInt) → 8 - v1.toInt < n → w_X7_magicHolds_L2 (fun r u => r = 0 ∨ (0 ≤ (qI u 9 15).toInt ∧ (qI u 9 15).toInt ≤ (qI u 9 1).toInt)) n S v1 := by
    intro n
    induction n with
    | zero => intro v1 h0 h1 _ hm; omega
    | succ n ih =>
      intro v1 h0 h1 h2 hm
      unfold w_X7_magicHolds_L2
      intro w
      refine ⟨fun c S4 e4 k4 w4 => Or.inr ?_, fun c => ⟨fun d => ⟨dd_X7_u1, by omega, fun _ a12 ea => ?_, fun _ => ⟨_, sp_breaks w, fun _ _ q _ _ => Or.inl q⟩⟩, fun _ => ⟨_, sp_breaks w, fun _ _ q _ _ => Or.inl q⟩⟩⟩
      · have e15 : (qI S4 9 15).toInt = 8 := by rw [e4, qI_wI, if_pos ⟨rfl, rfl⟩]; decide
        have e1 : qI S4 9 1 = qI S 9 1 := by rw [e4, qI_wI, if_neg (fun z => absurd z.2 (by decide))]
        rw [e15, e1]
        omega
      · have e := t_inc ea (by omega)
        exact ih (by omega) (by omega) (fun _ => by omega) (by omega)
  exact L _ (by decide) (by decide) (fun z => by rw [li_0k] at z; omega) (by rw [li_0k]; decide)
/-- the bytes that are read -/
def SrcB (S : MS) (p1 : Nat) (u : MS) : Prop := qO u 9 0 = qO S p1 0 ∧ qI u 9 1 = qI S p1 1 ∧ qI u (qO S p1 0) = qI S (qO S p1 0) ∧ qN u (qO S p1 0) = qN S (qO S p1 0)
theorem SrcB.mv (h : SrcB S p1 u) (s : smX u v) : SrcB S p1 v := by
  obtain ⟨h1, h2, h3, h4⟩ := h
  obtain ⟨s1, s2, s3, s4⟩ := s
  rw [h1] at s2 s3 s4
  exact ⟨s2, s1.trans h2, s4.trans h3, s3.trans h4⟩
theorem ct_isSound (w : wfC S) (kp : qT S p1 = 40) (hp : qR S p1 0 = some (qO S p1 0)) (h0 : 0 ≤ (qI S p1 1).toInt) : wX7_isSound S p1 (fun r u => (r.toInt = 0 ∨ SndP u) ∧ SrcB S p1 u) := by
  have k101 : qT S (qO S p1 0) = 101 := w.ref hp kp
  have ne9 : p1 ≠ 9 := fun z => by rw [z, w.k9] at kp; exact absurd kp (by decide)
  have J150 : ∀ V : MS, SrcB S p1 V → w_X7_isSound_J150 (fun r u => (r.toInt = 0 ∨ SndP u) ∧ SrcB S p1 u) V := fun V b => by
    unfold w_X7_isSound_J150
    exact fun _ => ⟨Or.inl rfl, b⟩
  have J146 : ∀ V : MS, SndP V → SrcB S p1 V → w_X7_isSound_J146 (fun r u => (r.toInt = 0 ∨ SndP u) ∧ SrcB S p1 u) V := fun V s b => by
    unfold w_X7_isSound_J146
    exact fun _ => ⟨Or.inr s, b⟩
  unfold wX7_isSound
  refine ⟨hp, fun S3 e3 k3 w3 S4 e4 k4 w4 S5 e5 k5 w5 S6 e6 k6 w6 S7 e7 k7 w7 => ?_⟩
  have i3 : ∀ a j, qI S3 a j = qI S a j := fun a j => by rw [e3]; rfl
  have i4 : ∀ a j, qI S4 a j = if a = 9 ∧ j = 1 then qI S3 p1 1 else qI S3 a j := fun a j => by rw [e4, qI_wI]
  have f47 : cfr [] [(46, 2), (46, 3), (46, 15)] S4 S7 := by
    have f5 : cfr [] [(46, 2), (46, 3), (46, 15)] S4 S5 := by rw [e5]; exact cfr.oI k5 rfl
    have f6 : cfr [] [(46, 2), (46, 3), (46, 15)] S5 S6 := by rw [e6]; exact cfr.oI k6 rfl
    have f7 : cfr [] [(46, 2), (46, 3), (46, 15)] S6 S7 := by rw [e7]; exact cfr.oI k7 rfl
    exact (f5.tr f6).tr f7
  have ned : qO S p1 0 ≠ 9 := fun z => by rw [z, w.k9] at k101; exact absurd k101 (by decide)
  have b4 : SrcB S p1 S4 := by
    refine ⟨?_, ?_, ?_, by rw [e4, e3]; rfl⟩
    · have : qO S4 9 0 = qO S3 9 0 := by rw [e4]; rfl
      rw [this]
      exact qO_of (by rw [e3, qR_wR, if_pos ⟨rfl, rfl⟩])
    · rw [i4, if_pos ⟨rfl, rfl⟩, i3]
    · funext j
      rw [i4, if_neg (fun z => ned z.1), i3]
  have b7 := b4.mv (f47.sm w4 rfl rfl rfl rfl (fun _ => by simp))
  have h97 : 0 ≤ (qI S7 9 1).toInt := by rw [b7.2.1]; exact h0
  refine ⟨_, frX7_magicHolds w7 (ct_magicHolds w7), fun r9 S10 q10 w10 _ => ?_⟩
  have b10 := b7.mv (q10.2.sm w7 rfl rfl rfl rfl (fun _ => by simp))
  have h910 : 0 ≤ (qI S10 9 1).toInt := by rw [b10.2.1]; exact h0
  refine ⟨fun _ => J150 S10 b10, fun c10 => ?_⟩
  have p10 := q10.1.resolve_left (fun z => c10 (by rw [z]; rfl))
  refine ⟨_, frX7_poolFits w10 (ct_poolFits w10 h910 p10), fun r14 S15 q15 w15 _ => ?_⟩
  have b15 := b10.mv (q15.2.sm w10 rfl rfl rfl rfl (fun _ => by simp))
  have h915 : 0 ≤ (qI S15 9 1).toInt := by rw [b15.2.1]; exact h0
  refine ⟨fun _ => J150 S15 b15, fun c15 => ?_⟩
  have n15 := q15.1.resolve_left (fun z => c15 (by rw [z]; rfl))
  refine ⟨_, frX7_headFits w15 (sfX7_headFits w15), fun r19 S20 q20 w20 _ => ?_⟩
  have x20 := q20.2.sm w15 rfl rfl rfl rfl (fun _ => by simp)
  have b20 := b15.mv x20
  have n20 : NEk S20 := n15.mv x20 (fun k => q20.2.kI w15.k11 rfl (by simp))
  have h920 : 0 ≤ (qI S20 9 1).toInt := by rw [b20.2.1]; exact h0
  refine ⟨fun _ => J150 S20 b20, fun c20 => ?_⟩
  refine ⟨_, frX7_fieldsFit w20 (ct_fieldsFit w20 h920), fun r24 S25 q25 w25 _ => ?_⟩
  have x25 := q25.2.sm w20 rfl rfl rfl rfl (fun _ => by simp)
  have b25 := b20.mv x25
  have n25 : NEk S25 := n20.mv x25 (fun k => q25.2.kI w20.k11 rfl (by simp))
  have h925 : 0 ≤ (qI S25 9 1).toInt := by rw [b25.2.1]; exact h0
  refine ⟨fun _ => J150 S25 b25, fun c25 => ?_⟩
  have m25 := q25.1.resolve_left (fun z => c25 (by rw [z]; rfl))
  refine ⟨_, frX7_methodsFit w25 (ct_methodsFit w25 h925 m25.1), fun r29 S30 q30 w30 _ => ?_⟩
  have x30 := q30.2.sm w25 rfl rfl rfl rfl (fun _ => by simp)
  have b30 := b25.mv x30
  have n30 : NEk S30 := n25.mv x30 (fun k => q30.2.kI w25.k11 rfl (by simp))
  have h930 : 0 ≤ (qI S30 9 1).toInt := by rw [b30.2.1]; exact h0
  have m30a : qI S30 9 7 = qI S25 9 7 := q30.2.kI w25.k9 (by decide) (by decide)
  refine ⟨fun _ => J150 S30 b30, fun c30 => ?_⟩
  have m30 := q30.1.resolve_left (fun z => c30 (by rw [z]; rfl))
  refine ⟨_, frX7_fileAttributesFit w30 (sfX7_fileAttributesFit w30 h930 w30.k9), fun r34 S35 q35 w35 _ => ?_⟩
  have y35 : smE S30 S35 := smE.fr w30 q35.2 rfl rfl rfl rfl rfl rfl
  have b35 := b30.mv y35.1
  have h935 : 0 ≤ (qI S35 9 1).toInt := by rw [b35.2.1]; exact h0
  refine ⟨fun _ => J150 S35 b35, fun c35 => ?_⟩
  refine ⟨_, frX7_entriesPoint w35 (ct_entriesPoint h935), fun r39 S40 q40 w40 _ => ?_⟩
  have y40 : smE S35 S40 := smE.fr w35 q40.2 rfl rfl rfl rfl rfl rfl
  have b40 := b35.mv y40.1
  have h940 : 0 ≤ (qI S40 9 1).toInt := by rw [b40.2.1]; exact h0
  refine ⟨fun _ => J150 S40 b40, fun c40 => ?_⟩
  have ep40 := (q40.1.resolve_left (fun z => c40 (by rw [z]; rfl))).mv y40
  refine ⟨_, frX7_flagsHold w40 (sfX7_flagsHold w40 h940 w40.k9), fun r44 S45 q45 w45 _ => ?_⟩
  have y45 : smE S40 S45 := smE.fr w40 q45.2 rfl rfl rfl rfl rfl rfl
  have b45 := b40.mv y45.1
  have h945 : 0 ≤ (qI S45 9 1).toInt := by rw [b45.2.1]; exact h0
  refine ⟨fun _ => J150 S45 b45, fun c45 => ?_⟩
  refine ⟨_, frX7_headHolds w45 (ct_headHolds w45 h945), fun r49 S50 q50 w50 _ => ?_⟩
  have y50 : smE S45 S50 := smE.fr w45 q50.2 rfl rfl rfl rfl rfl rfl
  have b50 := b45.mv y50.1
  have h950 : 0 ≤ (qI S50 9 1).toInt := by rw [b50.2.1]; exact h0
  refine ⟨fun _ => J150 S50 b50, fun c50 => ?_⟩
  have hd50 := (q50.1.resolve_left (fun z => c50 (by rw [z]; rfl))).mv y50
  have Y50 : smE S30 S50 := ((y35.tr y40).tr y45).tr y50
  have m50 : (0 ≤ (qI S50 9 7).toInt ∧ (qI S50 9 7).toInt ≤ 24) ∧ 0 ≤ (qI S50 9 8).toInt ∧ (qI S50 9 8).toInt ≤ 24 := by
    rw [Y50.2.2.2.2.2.1, Y50.2.2.2.2.2.2, m30a]; exact ⟨m25, m30⟩
  refine ⟨_, frX7_namesHold w50 (ct_namesHold h950 m50.1 m50.2), fun r54 S55 q55 w55 _ => ?_⟩
  have y55 : smE S50 S55 := smE.fr w50 q55.2 rfl rfl rfl rfl rfl rfl
  have b55 := b50.mv y55.1
  have h955 : 0 ≤ (qI S55 9 1).toInt := by rw [b55.2.1]; exact h0
  refine ⟨fun _ => J150 S55 b55, fun c55 => ?_⟩
  have nm50 := q55.1.resolve_left (fun z => c55 (by rw [z]; rfl))
  have snd50 : SndP S50 := ⟨Y50.ne n30, m50, (ep40.mv y45).mv y50, hd50, nm50⟩
  have snd55 := snd50.mv y55
  refine ⟨_, frX7_typesHold w55 (sfX7_typesHold w55 h955 w55.k9), fun r59 S60 q60 w60 _ => ?_⟩
  have y60 : smE S55 S60 := smE.fr w55 q60.2 rfl rfl rfl rfl rfl rfl
  have b60 := b55.mv y60.1
  have h960 : 0 ≤ (qI S60 9 1).toInt := by rw [b60.2.1]; exact h0
  refine ⟨fun _ => J150 S60 b60, fun _ => ?_⟩
  refine ⟨_, frX7_noTwins w60 (sfX7_noTwins w60 h960 w60.k9), fun r64 S65 q65 w65 _ => ?_⟩
  have y65 : smE S60 S65 := smE.fr w60 q65.2 rfl rfl rfl rfl rfl rfl
  have b65 := b60.mv y65.1
  have h965 : 0 ≤ (qI S65 9 1).toInt := by rw [b65.2.1]; exact h0
  refine ⟨fun _ => J150 S65 b65, fun _ => ?_⟩
  refine ⟨_, frX7_codesHold w65 (sfX7_codesHold w65 h965 w65.k9), fun r69 S70 q70 w70 _ => ?_⟩
  have y70 : smE S65 S70 := smE.fr w65 q70.2 rfl rfl rfl rfl rfl rfl
  have b70 := b65.mv y70.1
  have snd70 := ((snd55.mv y60).mv y65).mv y70
  refine ⟨fun _ => J150 S70 b70, fun _ => ⟨fun _ => J146 S70 snd70 b70, fun _ => ⟨_, frX7_breaks w70 (sp_breaks w70), fun r75 S76 q76 w76 _ => ?_⟩⟩⟩
  have y76 : smE S70 S76 := smE.fr w70 q76.2 rfl rfl rfl rfl rfl rfl
  exact ⟨fun _ => J150 S76 (b70.mv y76.1), fun _ => J146 S76 (snd70.mv y76) (b70.mv y76.1)⟩
end SI
/-! a new Unit -/
section UNN
variable {B B' : Nat × Nat} {S U u v : MS} {p : Nat}
/-- all but one object -/
def fxP (p : Nat) (S U : MS) : Prop := shx S U ∧ qu S ≤ qu U ∧ ∀ a j : Nat, qT S a ≠ 0 → a ≠ p → qI U a j = qI S a j ∧ qJ U a j = qJ S a j ∧ qR U a j = qR S a j
theorem fxP.rf : fxP p S S := ⟨shx.rf, Nat.le_refl _, fun _ _ _ _ => ⟨rfl, rfl, rfl⟩⟩
theorem fxP.tr (h : fxP p S U) (k : fxP p U u) : fxP p S u := ⟨h.1.tr k.1, Nat.le_trans h.2.1 k.2.1, fun a j a0 ap => by
  obtain ⟨h1, h2, h3⟩ := h.2.2 a j a0 ap
  obtain ⟨k1, k2, k3⟩ := k.2.2 a j (by rw [(h.1.1 a a0).1]; exact a0) ap
  exact ⟨k1.trans h1, k2.trans h2, k3.trans h3⟩⟩
theorem fxP.new {t n k : Nat} (w : wfC S) (hT : qn S < TXB) (e : U = wN S t n k) : fxP p S U := by
  have z := w.nx hT
  refine ⟨⟨fun a ha => ?_, by rw [e]; exact Nat.le_succ _⟩, by rw [e]; exact Nat.le_add_right _ _, fun a j ha _ => ?_⟩
  · have hne : a ≠ qn S := fun q => ha (by rw [q]; exact z)
    rw [e]; exact ⟨wN_Tk hne, wN_N hne⟩
  · have hne : a ≠ qn S := fun q => ha (by rw [q]; exact z)
    rw [e]; exact ⟨wN_I hne, by show (if a = qn S then fun _ => 0 else qJ S a) j = _; rw [if_neg hne], wN_R hne⟩
theorem fxP.oI {j : Nat} {x : Int32} : fxP p S (wI S p j x) := ⟨shx.rf, Nat.le_refl _, fun a i _ ap => ⟨by rw [qI_wI, if_neg (fun z => ap z.1)], rfl, rfl⟩⟩
theorem fxP.oR {j : Nat} {x : Option Nat} : fxP p S (wR S p j x) := ⟨shx.rf, Nat.le_refl _, fun a i _ ap => ⟨rfl, rfl, by rw [qR_wR, if_neg (fun z => ap z.1)]⟩⟩
/-- the rows of an object are made, one behind another -/
def AlQ (S : MS) (p k c : Nat) (L : List (Nat × Nat)) (G : List (Nat × Int32)) (U : MS) : Prop := fxP p S U ∧ nkC S U ∧ dnC U ∧ (qn U = qn S + k ∧ qu U = qu S + c ∧ p < qn S) ∧ (∀ x ∈ L, qN U (qO U p x.1) = x.2 ∧ qR U p x.1 = some (qO U p x.1)) ∧ ∀ x ∈ G, qI U p x.1 = x.2
variable {L : List (Nat × Nat)} {G : List (Nat × Int32)} {k c : Nat}
theorem AlQ.st {t n j : Nat} (w : wfC U) (h : AlQ S p k c L G U) (hT : qn U < TXB) (hu : u = wN U t n n) (hv : v = wR u p j (some (qn U))) (ht : t ≠ 0 ∧ t ≠ 47 ∧ t ≠ 49 ∧ t ≠ 44) (hj : ∀ x ∈ L, x.1 ≠ j) : AlQ S p (k + 1) (c + n) ((j, n) :: L) G v := by
  obtain ⟨h1, h2, h3, ⟨h4, h5, h6⟩, h7, h8⟩ := h
  have ne : p ≠ qn U := by omega
  have f1 : fxP p U u := fxP.new w hT hu
  have f2 : fxP p u v := by rw [hv]; exact fxP.oR
  have n1 : nkC U u := by rw [hu]; exact nkC.new h3 ht
  have eT : ∀ a, qT v a = qT u a := fun a => by rw [hv]; rfl
  have en : qn v = qn u := by rw [hv]; rfl
  have n2 : nkC U v := ⟨fun a e => by rw [eT]; exact n1.1 a e, fun a l e => by rw [eT]; exact n1.2 a (by rw [← en]; exact l) e⟩
  have f := f1.tr f2
  have rr : ∀ i, i ≠ j → qR v p i = qR U p i := fun i hi => by rw [hv, qR_wR, if_neg (fun z => hi z.2), hu, wN_R ne]
  refine ⟨h1.tr f, h2.tr n2 f.1, fr_dn h3 f.1 n2, ⟨by rw [en, hu]; show qn U + 1 = _; omega, by rw [hv, hu]; show qu U + n = _; omega, h6⟩, fun x hx => ?_, fun x hx => ?_⟩
  · rcases List.mem_cons.mp hx with e | e
    · subst e
      have r : qR v p j = some (qn U) := by rw [hv, qR_wR, if_pos ⟨rfl, rfl⟩]
      have o := qO_of r
      exact ⟨by rw [o, hv, hu]; exact wN_n, by rw [o]; exact r⟩
    · have a := h7 x e
      have b := rr x.1 (hj x e)
      have kb := w.rf3 p x.1 _ a.2
      have o : qO v p x.1 = qO U p x.1 := qO_eq b
      exact ⟨by rw [o, (f.1.1 _ (by rw [kb.1]; exact kb.2.1)).2]; exact a.1, by rw [o, b]; exact a.2⟩
  · rw [hv]
    show qI u p x.1 = x.2
    rw [hu, wN_I ne]; exact h8 x hx
theorem AlQ.wi {j : Nat} {x : Int32} (h : AlQ S p k c L G U) (hv : v = wI U p j x) (hj : ∀ y ∈ G, y.1 ≠ j) : AlQ S p k c L ((j, x) :: G) v := by
  obtain ⟨h1, h2, h3, h4, h7, h8⟩ := h
  refine ⟨h1.tr (by rw [hv]; exact fxP.oI), by rw [hv]; exact h2, by rw [hv]; exact h3, by rw [hv]; exact h4, by rw [hv]; exact h7, fun y hy => ?_⟩
  rw [hv, qI_wI]
  rcases List.mem_cons.mp hy with e | e
  · subst e; rw [if_pos ⟨rfl, rfl⟩]
  · rw [if_neg (fun z => hj y e z.2)]; exact h8 y e
theorem AlQ.w0 {j b : Nat} (h : AlQ S p k c L G U) (hv : v = wR U p j (some b)) (hj : ∀ y ∈ L, y.1 ≠ j) : AlQ S p k c ((j, qN U b) :: L) G v := by
  obtain ⟨h1, h2, h3, h4, h7, h8⟩ := h
  refine ⟨h1.tr (by rw [hv]; exact fxP.oR), by rw [hv]; exact h2, by rw [hv]; exact h3, by rw [hv]; exact h4, fun y hy => ?_, by rw [hv]; exact h8⟩
  rcases List.mem_cons.mp hy with e | e
  · subst e
    have r : qR v p j = some b := by rw [hv, qR_wR, if_pos ⟨rfl, rfl⟩]
    have o := qO_of r
    exact ⟨by rw [o, hv]; rfl, by rw [o]; exact r⟩
  · have b' : qR v p y.1 = qR U p y.1 := by rw [hv, qR_wR, if_neg (fun z => hj y e z.2)]
    have o : qO v p y.1 = qO U p y.1 := qO_eq b'
    have a := h7 y e
    exact ⟨by rw [o, hv]; exact a.1, by rw [o, b']; exact a.2⟩
theorem AlQ.rm {m kk cc : Nat} (h : AlQ S p k c L G U) (hr : qn S + kk ≤ KCC ∧ qu S + cc ≤ KSC) (hk : k + 1 ≤ kk) (hc : c + m ≤ cc) : qn U + 1 ≤ KCC ∧ qu U + m ≤ KSC := by
  have := h.2.2.2.1
  omega
theorem AlQ.rf (d : dnC S) (hp : p < qn S) : AlQ S p 0 0 [] [] S := ⟨fxP.rf, nkC.eq d rfl rfl, d, ⟨rfl, rfl, hp⟩, fun _ h => absurd h (by simp), fun _ h => absurd h (by simp)⟩
/-- a Unit's rows are made -/
theorem sp_initU {p1 a b : Nat} {x2 x3 : Int32} {Q : MS → Prop} (w : wfC S) (d : dnC S) (hp1 : p1 = p + 1) (hq : qn S = p + 2) (h2 : 0 ≤ x2.toInt) (h3 : 0 ≤ x3.toInt) (ea : a = x2.toInt.toNat) (eb : b = x3.toInt.toNat) (hr : qn S + 8 ≤ KCC ∧ qu S + (3 * a + 5 * b) ≤ KSC) (hQ : ∀ u : MS, wfC u → AlQ S p 8 (3 * a + 5 * b) [(13, b), (12, b), (11, b), (10, b), (9, b), (7, a), (6, a), (5, a), (0, qN S p1)] [(8, x3), (4, x2), (17, -1), (16, -1)] u → Q u) : wX10_init S p p1 x2 x3 Q := by
  have A0 := AlQ.rf (p := p) d (by omega)
  unfold wX10_init
  rw [← ea, ← eb]
  intro S1 e1 k1 w1 S2 e2 k2 w2
  have A1 := A0.wi e1 (by simp)
  have A2 := A1.wi e2 (by simp)
  refine ⟨hp1, fun S4 e4 k4 w4 S5 e5 k5 w5 => ?_⟩
  have A4 := A2.w0 e4 (by simp)
  have A5 := A4.wi e5 (by simp)
  have n0 : qN S2 p1 = qN S p1 := by rw [e2, e1]; rfl
  rw [n0] at A5
  clear A0 A1 A2 A4 e1 e2 e4 e5 k1 k2 k4 k5 n0
  refine ⟨⟨h2, A5.rm hr (by decide) (by omega)⟩, fun S9 e9 w9 => ⟨by have := A5.2.2.2.1; omega, fun S12 e12 k12 w12 => ?_⟩⟩
  have B1 := A5.st w5 (KC_TX (A5.rm (m := 0) hr (by decide) (by omega)).1) e9 e12 (by decide) (by simp)
  refine ⟨⟨h2, B1.rm hr (by decide) (by omega)⟩, fun S16 e16 w16 => ⟨by have := B1.2.2.2.1; omega, fun S19 e19 k19 w19 => ?_⟩⟩
  have B2 := B1.st w12 (KC_TX (B1.rm (m := 0) hr (by decide) (by omega)).1) e16 e19 (by decide) (by simp)
  refine ⟨⟨h2, B2.rm hr (by decide) (by omega)⟩, fun S23 e23 w23 => ⟨by have := B2.2.2.2.1; omega, fun S26 e26 k26 w26 S27 e27 k27 w27 => ?_⟩⟩
  have B3 := B2.st w19 (KC_TX (B2.rm (m := 0) hr (by decide) (by omega)).1) e23 e26 (by decide) (by simp)
  have B4 := B3.wi e27 (by simp)
  refine ⟨⟨h3, B4.rm hr (by decide) (by omega)⟩, fun S31 e31 w31 => ⟨by have := B4.2.2.2.1; omega, fun S34 e34 k34 w34 => ?_⟩⟩
  have B5 := B4.st w27 (KC_TX (B4.rm (m := 0) hr (by decide) (by omega)).1) e31 e34 (by decide) (by simp)
  refine ⟨⟨h3, B5.rm hr (by decide) (by omega)⟩, fun S38 e38 w38 => ⟨by have := B5.2.2.2.1; omega, fun S41 e41 k41 w41 => ?_⟩⟩
  have B6 := B5.st w34 (KC_TX (B5.rm (m := 0) hr (by decide) (by omega)).1) e38 e41 (by decide) (by simp)
  refine ⟨⟨h3, B6.rm hr (by decide) (by omega)⟩, fun S45 e45 w45 => ⟨by have := B6.2.2.2.1; omega, fun S48 e48 k48 w48 => ?_⟩⟩
  have B7 := B6.st w41 (KC_TX (B6.rm (m := 0) hr (by decide) (by omega)).1) e45 e48 (by decide) (by simp)
  refine ⟨⟨h3, B7.rm hr (by decide) (by omega)⟩, fun S52 e52 w52 => ⟨by have := B7.2.2.2.1; omega, fun S55 e55 k55 w55 => ?_⟩⟩
  have B8 := B7.st w48 (KC_TX (B7.rm (m := 0) hr (by decide) (by omega)).1) e52 e55 (by decide) (by simp)
  refine ⟨⟨h3, B8.rm hr (by decide) (by omega)⟩, fun S59 e59 w59 => ⟨by have := B8.2.2.2.1; omega, fun S62 e62 k62 w62 => ?_⟩⟩
  have B9 := B8.st w55 (KC_TX (B8.rm (m := 0) hr (by decide) (by omega)).1) e59 e62 (by decide) (by simp)
  refine hQ S62 w62 ?_
  rw [show 3 * a + 5 * b = 0 + a + a + a + b + b + b + b + b by omega]
  exact B9
end UNN
