/-! keep, verify (behind sp_firstFault) -/
theorem sp_keep {S : MS} {x1 x2 : Int32} (h1 : 0 ≤ x1.toInt ∧ x1.toInt + 3 < 115200) (h2 : 0 ≤ x2.toInt ∧ x2.toInt < 1200) : w_keep S x1 x2 (fun _ => True) := by
  have l48 : (48 : Int32).toInt = 48 := by decide
  have e48 : ((48 : Int32) * x2).toInt = 48 * x2.toInt := by rw [t_mul (by rw [l48]; omega), l48]
  have e1 : (x1 + (1 : Int32)).toInt = x1.toInt + 1 := by rw [t_add (by rw [li_1]; omega), li_1]
  have L26 : ∀ (m : Nat) (U : MS) (k : Int32), (0 ≤ k.toInt ∧ k.toInt ≤ 3) → (3 - k.toInt).toNat < m → w_keep_L26 (fun _ => True) m U x1 x2 k := by
    intro m
    induction m with
    | zero => intro U k _ h9; exact absurd h9 (Nat.not_lt_zero _)
    | succ m ih =>
      intro U k hk hm
      have ek : (k + Int32.ofInt 1).toInt = k.toInt + 1 := by rw [t_add (by rw [lo_1]; omega), lo_1]
      unfold w_keep_L26
      refine ⟨fun _ => trivial, fun c => ?_⟩
      have L37 : ∀ (n : Nat) (V : MS) (w j : Int32), (0 ≤ j.toInt ∧ j.toInt ≤ 8) → (8 - j.toInt).toNat < n → w_keep_L37 (fun _ => True) (w_keep_L26 (fun _ => True) m) n V x1 x2 k w j := by
        intro n
        induction n with
        | zero => intro V w j _ h9; exact absurd h9 (Nat.not_lt_zero _)
        | succ n ih2 =>
          intro V w j hj hn
          have ej : (j + Int32.ofInt 1).toInt = j.toInt + 1 := by rw [t_add (by rw [lo_1]; omega), lo_1]
          have e8 : ((8 : Int32) * k).toInt = 8 * k.toInt := by rw [t_mul (by rw [li_8]; omega), li_8]
          have e9 : ((48 : Int32) * x2 + (8 : Int32) * k).toInt = 48 * x2.toInt + 8 * k.toInt := by rw [t_add (by omega), e48, e8]
          have e10 : ((48 : Int32) * x2 + (8 : Int32) * k + j).toInt = 48 * x2.toInt + 8 * k.toInt + j.toInt := by rw [t_add (by omega), e9]
          have e11 : (x1 + (1 : Int32) + k).toInt = x1.toInt + 1 + k.toInt := by rw [t_add (by omega), e1]
          unfold w_keep_L37
          rw [e10, e11]
          refine ⟨fun _ => ⟨⟨by omega, by omega⟩, fun A _ a ea => ?_⟩, fun c2 => ⟨⟨by omega, by omega⟩, fun a _ b eb => ?_⟩⟩
          · subst ea
            exact ih A _ ⟨by omega, by omega⟩ (by omega)
          · subst eb
            exact ih2 V a _ ⟨by omega, by omega⟩ (by omega)
      exact ⟨_, L37 _ U 0 0 (by decide) (Nat.lt_succ_self _)⟩
  have s23 : ∀ (U : MS) (t : Int32), w_keep_J23 (fun _ => True) U t x1 x1 x2 := fun U t => by
    unfold w_keep_J23
    exact ⟨⟨h1.1, by omega⟩, fun A _ => ⟨_, L26 _ A 0 (by decide) (Nat.lt_succ_self _)⟩⟩
  unfold w_keep
  refine ⟨h2, fun _ => s23 S _, fun _ => ⟨_, fn_ht ⟨h2.1, by omega⟩, ?_⟩⟩
  rintro r u ⟨rfl, -⟩
  exact s23 u r
/-- what a method's check found, for good -/
def VmA (S : MS) (f m : Nat) : Prop := ∃ (U : MS) (s p : Nat), qR S (f + 6) m = some s ∧ qR S (f + 7) m = some p ∧ LoP S f m U ∧ LkI U ∧ VmI U s p ∧ TxI U ∧ (0 ≤ (qI U 0 56).toInt ∧ (qI U 0 56).toInt ≤ 24) ∧ (∀ a : Nat, okH U a → sm5 U S a) ∧ ∀ a : Nat, 92 < a → qT U a = 11 → sm7 U S a
/-- a File that was checked -/
def VfI (S : MS) (f : Nat) : Prop := (FlR S f ∧ f + 14 ≤ qn S) ∧ (∃ St R nc : Nat, (f + 14 ≤ St ∧ St < qn S) ∧ qR S f 22 = some St ∧ qT S St = 2 ∧ qN S St = 4 * nc ∧ (qR S f 18 = some R ∧ (f + 14 ≤ R ∧ R < qn S) ∧ qT S R = 2 ∧ qN S R = 3 * nc)) ∧ ∀ m : Nat, (m : Int) < (qI S f 4).toInt → VmA S f m
theorem VmA.mv {S u : MS} {f m : Nat} (h : VmA S f m) (h1 : FlR S f) (h2 : f + 14 ≤ qn S) (hk : knI S) (k : ∀ a : Nat, 92 < a → a < qn S → sm6 S u a) (kx : ∀ a : Nat, TXB ≤ a → sm5 S u a) : VmA u f m := by
  have f92 := h1.1.1
  have kf := (k f f92 (by omega)).2 h1.2.1.1
  have kg : ∀ i : Nat, 1 ≤ i → i ≤ 13 → sm5 S u (f + i) := fun i h0 hi => by
    have := (k (f + 1 + (i - 1)) (by omega) (by omega)).1 (by rw [(h1.2.2 (i - 1) (by omega)).2.2]; split <;> decide)
    rw [show f + 1 + (i - 1) = f + i by omega] at this
    exact this
  obtain ⟨U, s, p, b1, b2, b3, b4, b5, b5', b5'', b6, b7⟩ := h
  refine ⟨U, s, p, by rw [(kg 6 (by decide) (by decide)).2.2.1]; exact b1, by rw [(kg 7 (by decide) (by decide)).2.2.1]; exact b2, ?_, b4, b5, b5', b5'', fun a ha => ?_, fun a ha hb => ?_⟩
  · unfold LoP
    rw [kf.2.1 18 (by decide), kf.2.1 19 (by decide), kf.2.1 20 (by decide), (kg 10 (by decide) (by decide)).1, (kg 11 (by decide) (by decide)).1, (kg 12 (by decide) (by decide)).1, (kg 13 (by decide) (by decide)).1]
    exact b3
  · have z := b6 a ha
    have t : qT S a ≠ 0 ∧ qT S a ≠ 11 := by rw [z.2.2.2.1]; exact ha.2
    rcases hk.2.2 a t.1 with q | q
    · exact z.tr ((k a ha.1 q).1 t.2)
    · exact z.tr (kx a q)
  · have z := b7 a ha hb
    have t : qT S a = 11 := by rw [z.2.2.1]; exact hb
    rcases hk.2.2 a (by omega) with q | q
    · exact z.tr ((k a ha q).2 t)
    · exact z.tr (kx a q).s7
theorem FlR.mv {S u : MS} {f : Nat} (h1 : FlR S f) (h2 : f + 14 ≤ qn S) (k : ∀ a : Nat, 92 < a → a < qn S → sm6 S u a) : FlR u f := by
  have f92 := h1.1.1
  have kf := (k f f92 (by omega)).2 h1.2.1.1
  refine ⟨h1.1, by rw [kf.2.2.1, kf.2.2.2]; exact h1.2.1, fun i hi => ?_⟩
  have z := (k (f + 1 + i) (by omega) (by omega)).1 (by rw [(h1.2.2 i hi).2.2]; split <;> decide)
  rw [kf.2.1 (5 + i) (by omega), z.2.2.2.1, z.2.2.2.2]
  exact h1.2.2 i hi
theorem VfI.st : stab VfI := by
  intro S u f h hk k kx e21 e22 hq
  obtain ⟨⟨h1, h2⟩, ⟨St, R, nc, a1, a2, a3, a4, a5, a6, a7, a8⟩, hv⟩ := h
  have f92 := h1.1.1
  have kf := (k f f92 (by omega)).2 h1.2.1.1
  have kS := (k St (by omega) a1.2).1 (by rw [a3]; decide)
  have kR := (k R (by omega) a6.2).1 (by rw [a7]; decide)
  refine ⟨⟨h1.mv h2 k, by omega⟩, ⟨St, R, nc, by omega, by rw [e22]; exact a2, by rw [kS.2.2.2.1]; exact a3, by rw [kS.2.2.2.2]; exact a4, by rw [kf.2.1 18 (by decide)]; exact a5, by omega, by rw [kR.2.2.2.1]; exact a7, by rw [kR.2.2.2.2]; exact a8⟩, fun m hm => ?_⟩
  rw [kf.1 4 (by decide)] at hm
  exact (hv m hm).mv h1 h2 hk k kx
/-- all that verify may change, a File's check beside -/
def vfF (S u : MS) : Prop := frm [22, 23, 24, 25, 26, 27] [47, 48, 49, 50, 51, 52, 53, 54, 56, 57, 62, 63, 64, 65] S u
def JV : List Nat := [47, 48, 49, 50, 51, 52, 53, 54, 56, 57, 62, 63, 64, 65]
/-- what verify leaves -/
def VeP (S : MS) (u : MS) : Prop := FsI VfI u ∧ knI u ∧ (∀ a : Nat, a ≤ 27 → qT u a = qT S a ∧ qN u a = qN S a) ∧ (∀ j : Nat, j ∉ JV → qI u 0 j = qI S 0 j ∧ qJ u 0 j = qJ S 0 j ∧ qR u 0 j = qR S 0 j) ∧ (((∀ a : Nat, a ≠ 0 → (a < 22 ∨ 27 < a) → sm5 S u a) ∧ qn u = qn S ∧ qu u = qu S) ∨ ∃ i f : Nat, (i : Int) < (qI S 0 1).toInt ∧ qR S 1 i = some f ∧ ¬ (qI S f 21).toInt = 1 ∧ (qI u f 21).toInt = 1 ∧ sm7 S u f ∧ (∀ a : Nat, a ≠ 0 → (a < 22 ∨ 27 < a) → (a < qn S ∨ qn u ≤ a) → a ≠ f → sm5 S u a) ∧ qn u = qn S + 1 ∧ qu u ≤ qu S + 115200)
theorem vf_cell {S u : MS} (f : vfF S u) {a : Nat} (h0 : a ≠ 0) (h : a < 22 ∨ 27 < a) : sm5 S u a := by
  have z := f.2.2.2.2.1 a h0 (by simp; omega)
  exact ⟨z.1, z.2.1, z.2.2, by rw [f.1], by rw [f.2.1]⟩
theorem sp_vf_L34 {S : MS} {f : Nat} {Q : Int32 → MS → Prop} (h : FlI S f) (ht : TxI S) (hk : knI S) (h27 : qN S 27 = 115200) (hr : qn S + 1 ≤ KC ∧ qu S + 115200 ≤ KS) (hQ1 : ∀ (r : Int32) (u : MS), vfF S u → Q r u) (hQ0 : ∀ T W : MS, ∀ b : Nat, vfF S T → exS T W 1 115200 → b = qn T → qn W = qn T + 1 → qT W b = 2 → (∃ R nc : Nat, qR S f 18 = some R ∧ qN S R = 3 * nc ∧ qN W b = 4 * nc) → (∀ m : Nat, (m : Int) < (qI S f 4).toInt → VmA S f m) → Q 0 (wI (wR W f 22 (some b)) f 21 1)) :
    ∀ (k : Nat) (T : MS) (i : Int32), vfF S T → (0 ≤ i.toInt ∧ i.toInt ≤ (qI S f 4).toInt) → (∀ m : Nat, (m : Int) < i.toInt → VmA S f m) → (24 - i.toInt).toNat < k → w_verify_L34 Q k T f i := by
  have h4 := h.2.2.2.1
  have f92 := h.1.1.1
  have hfq := h.2.1
  intro k
  induction k with
  | zero => intro T i _ _ _ h9; exact absurd h9 (Nat.not_lt_zero _)
  | succ k ih =>
    intro T i fT hi hall hm
    have cT : ∀ a : Nat, 27 < a → sm5 S T a := fun a ha => vf_cell fT (by omega) (Or.inr ha)
    have tn := fT.2.2.1
    have tu := fT.2.2.2.1
    have FT : FlI T f := h.mv (fun a a0 _ => (cT a (by omega)).s6) (by omega)
    have TT : TxI T := fun j hj => by
      obtain ⟨a, b, c⟩ := ht j hj
      have z := cT (TXB + 2 * j + 1) (by rw [show TXB = 10000000 from rfl]; omega)
      exact ⟨z.2.2.2.1.trans a, z.2.2.2.2.trans b, fun l => by rw [z.1]; exact c l⟩
    have tf := cT f (by omega)
    have t4 : qI T f 4 = qI S f 4 := by rw [tf.1]
    obtain ⟨R, T', C, nc, ts, cn, r1, r2, r3, r4, r5, r6⟩ := h.2.2.2.2.2
    unfold w_verify_L34
    rw [t4]
    refine ⟨fun c => ?_, fun c => ?_⟩
    · have oR : qO T f 18 = R := by show (qR T f 18).getD 0 = _; rw [tf.2.2.1, r2.1]; rfl
      have nR : qN T R = 3 * nc := by rw [(cT R (by omega)).2.2.2.2]; exact r4.1
      rw [oR, nR]
      have e3 : (Int32.ofNat (3 * nc) / (3 : Int32)).toInt = nc := by
        rw [Int32.toInt_div, oN (by omega), li_3, Int.tdiv_eq_ediv_of_nonneg (by omega), show ((3 * nc : Nat) : Int) / 3 = nc by omega]
        apply Int.bmod_eq_of_le <;> omega
      have e4 : ((4 : Int32) * (Int32.ofNat (3 * nc) / (3 : Int32))).toInt = 4 * nc := by rw [t_mul (by rw [li_4, e3]; omega), li_4, e3]
      refine ⟨by rw [tf.2.2.1]; exact r2.1, _, sp_firstInts (by rw [e4, fT.2.1, h27]; omega) (by have := hk.1; omega) (by rw [fT.2.1, h27]; decide) (by rw [e4]; omega), ?_⟩
      rintro b W ⟨eb, x1, x2, x3, x4, -⟩ A eA B eB
      have := hQ0 T W b fT ⟨x1.1, x1.2.1, by have := x1.2.2; rw [e4] at this; omega⟩ eb x2 x3 ⟨R, nc, r2.1, r4.1, by rw [x4, e4]; omega⟩ (fun m hm => hall m (by omega))
      rw [eB, eA]
      exact this
    · refine ⟨_, sp_firstFault FT TT ⟨hi.1, by rw [t4]; omega⟩, ?_⟩
      rintro r u ⟨fu, u52, Lu, Hu, u56, hneg⟩
      have fSu : vfF S u := fT.tr (fu.mo (by decide) (by decide))
      have cu : ∀ a : Nat, 27 < a → sm5 S u a := fun a ha => vf_cell fSu (by omega) (Or.inr ha)
      have kc := Lu.cnt
      refine ⟨fun q => ?_, fun q A eA B eB => hQ1 1 B (fSu.tr ((show vfF u A by rw [eA]; exact frm.pI0 (by decide)).tr (by rw [eB]; exact frm.pI0 (by decide))))⟩
      obtain ⟨U, s, p, g1, g2, g3, g4, g5, g6, g7⟩ := hneg q
      have ei : (i + Int32.ofInt 1).toInt = i.toInt + 1 := by rw [t_add (by rw [lo_1]; omega), lo_1]
      have cTU : ∀ a : Nat, 26 < a → sm5 T U a := fun a ha => by
        have z := g5.2.2.2.2.1 a (by omega) (by simp; omega)
        exact ⟨z.1, z.2.1, z.2.2, by rw [g5.1], by rw [g5.2.1]⟩
      have cUS : ∀ a : Nat, 27 < a → sm5 U S a := fun a ha => by
        have z := (cT a ha).tr (cTU a (by omega))
        exact ⟨z.1.symm, z.2.1.symm, z.2.2.1.symm, z.2.2.2.1.symm, z.2.2.2.2.symm⟩
      have nw : VmA S f i.toInt.toNat := by
        refine ⟨U, s, p, by rw [(cT (f + 6) (by omega)).2.2.1] at g2; exact g2, by rw [(cT (f + 7) (by omega)).2.2.1] at g3; exact g3, ?_, g6, g7, ?_, ?_, fun a ha => cUS a (by have := ha.1; omega), fun a ha _ => (cUS a (by omega)).s7⟩
        · unfold LoP at g4 ⊢
          rw [tf.2.2.1, (cT (f + 10) (by omega)).1, (cT (f + 11) (by omega)).1, (cT (f + 12) (by omega)).1, (cT (f + 13) (by omega)).1] at g4
          exact g4
        · exact fun j hj => by
            obtain ⟨a, b, c⟩ := ht j hj
            have z := cUS (TXB + 2 * j + 1) (by rw [show TXB = 10000000 from rfl]; omega)
            exact ⟨z.2.2.2.1.symm.trans a, z.2.2.2.2.symm.trans b, fun l => by rw [← z.1]; exact c l⟩
        · have e56 : qI u 0 56 = qI U 0 56 := (g1.2.2.2.2.2 56 (by decide)).1
          rw [← e56]; exact u56
      have mt := (r6 i.toInt.toNat (by omega)).2.2.2
      have q14 := h.row (i := 9) (by decide)
      simp only [Nat.reduceAdd, Nat.add_assoc] at q14
      have e52 : qI u 0 52 = qI S (f + 11) i.toInt.toNat := by rw [u52, (cT (f + 11) (by omega)).1]
      have L71 : ∀ (m : Nat) (V : MS) (j : Int32), vfF S V → qI V 0 52 = qI S (f + 11) i.toInt.toNat → (0 ≤ j.toInt ∧ j.toInt ≤ (qI S (f + 11) i.toInt.toNat).toInt) → (1200 - j.toInt).toNat < m → w_verify_L71 Q (w_verify_L34 Q k) m V f i j := by
        intro m
        induction m with
        | zero => intro V j _ _ _ h9; exact absurd h9 (Nat.not_lt_zero _)
        | succ m ih2 =>
          intro V j fV v52 hj hm2
          have cV : ∀ a : Nat, 27 < a → sm5 S V a := fun a ha => vf_cell fV (by omega) (Or.inr ha)
          have ej : (j + Int32.ofInt 1).toInt = j.toInt + 1 := by rw [t_add (by rw [lo_1]; have := mt.2.1; omega), lo_1]
          unfold w_verify_L71
          rw [v52]
          refine ⟨fun _ a ea => ?_, fun c2 => ?_⟩
          · subst ea
            refine ih V _ fV ⟨by omega, by omega⟩ (fun m' hm' => ?_) (by omega)
            by_cases w : (m' : Int) < i.toInt
            · exact hall m' w
            · have : m' = i.toInt.toNat := by omega
              rw [this]; exact nw
          · have o14 : qO V f 14 = f + 10 := by show (qR V f 14).getD 0 = _; rw [(cV f (by omega)).2.2.1, q14.1]; rfl
            rw [o14, (cV (f + 10) (by omega)).1]
            have b0 := mt.1
            have b1 := mt.2.1
            have b2 := mt.2.2.1
            have s1 : (qI S (f + 10) i.toInt.toNat + j).toInt = (qI S (f + 10) i.toInt.toNat).toInt + j.toInt := t_add (by omega)
            have s4 : ((4 : Int32) * (qI S (f + 10) i.toInt.toNat + j)).toInt = 4 * ((qI S (f + 10) i.toInt.toNat).toInt + j.toInt) := by rw [t_mul (by rw [li_4, s1]; omega), li_4, s1]
            refine ⟨by rw [(cV f (by omega)).2.2.1]; exact q14.1, ⟨hi.1, by rw [(cV (f + 10) (by omega)).2.2.2.2, q14.2.2]; omega⟩, _, fr_keep (sp_keep ⟨by omega, by omega⟩ ⟨hj.1, by omega⟩), ?_⟩
            rintro X ⟨-, fX⟩ a ea
            subst ea
            exact ih2 X _ (fV.tr (fX.mo (by decide) (by decide))) (by rw [(fX.2.2.2.2.2 52 (by decide)).1, v52]) ⟨by omega, by omega⟩ (by omega)
      exact ⟨_, L71 _ u 0 fSu e52 ⟨by decide, by rw [li_0]; have := mt.2.1; omega⟩ (Nat.lt_succ_self _)⟩
theorem FsI.vf {S u : MS} (h : FsI VfI S) (hk : knI S) (f : vfF S u) : FsI VfI u ∧ knI u := by
  have c : ∀ a : Nat, 27 < a → sm5 S u a := fun a ha => vf_cell f (by omega) (Or.inr ha)
  have hq := f.2.2.1
  refine ⟨h.mv VfI.st hk (fun a a0 _ => c a (by omega)) (fun a a0 => c a (by rw [show TXB = 10000000 from rfl] at a0; omega)) (by omega) (f.2.2.2.2.2 1 (by decide)).1 (vf_cell f (by decide) (by decide)).2.2.1, ⟨by rw [hq]; exact hk.1, by rw [hq]; exact hk.2.1, fun a ha => by rw [f.1] at ha; rw [hq]; exact hk.2.2 a ha⟩⟩
theorem sp_verify {S : MS} {x : Int32} (h : FsI VfI S) (ht : TxI S) (hx : FxI S) (hk : knI S) (hr : qn S + 1 ≤ KC ∧ qu S + 115200 ≤ KS) : w_verify S x (fun _ u => VeP S u) := by
  have h27 : qN S 27 = 115200 := (hx.2 (66, 27, 2, 115200) (by decide)).2
  -- the simple ends
  have simple : ∀ u : MS, vfF S u → VeP S u := fun u f => by
    obtain ⟨a, b⟩ := h.vf hk f
    exact ⟨a, b, fun c _ => ⟨by rw [f.1], by rw [f.2.1]⟩, fun j hj => f.2.2.2.2.2 j hj, Or.inl ⟨fun c c0 c1 => vf_cell f c0 c1, f.2.2.1, f.2.2.2.1⟩⟩
  unfold w_verify
  intro A eA B eB
  have fB : vfF S B := (show vfF S A by rw [eA]; exact frm.pI0 (by decide)).tr (by rw [eB]; exact frm.pI0 (by decide))
  obtain ⟨FB, KB⟩ := h.vf hk fB
  have b1 : qI B 0 1 = qI S 0 1 := (fB.2.2.2.2.2 1 (by decide)).1
  have TB : TxI B := fun j hj => by
    obtain ⟨a, b, c⟩ := ht j hj
    have z := vf_cell fB (a := TXB + 2 * j + 1) (by omega) (Or.inr (by rw [show TXB = 10000000 from rfl]; omega))
    exact ⟨z.2.2.2.1.trans a, z.2.2.2.2.trans b, fun l => by rw [z.1]; exact c l⟩
  refine ⟨_, sp_fileAt FB, ?_⟩
  rintro r u ⟨rfl, hr2⟩
  refine ⟨fun _ => simple u fB, fun c => ⟨fun _ => simple u fB, fun c2 => ?_⟩⟩
  rcases hr2 with q | ⟨f, q1, q2, q3, q4, q5⟩
  · exact absurd q c
  subst q1
  have c2' : ¬ (qI u f 21).toInt = 1 := c2
  have bn := fB.2.2.1
  have bu := fB.2.2.2.1
  refine ⟨_, sp_vf_L34 (f := f) q4 TB KB (by rw [fB.2.1]; exact h27) (by rw [bn, bu]; exact hr) (fun r v fv => simple v (fB.tr fv)) (fun T W b fT xW eb wn wt hnc hall => ?_) _ u 0 frm.rf ⟨by decide, by rw [li_0]; exact q4.2.2.2.1.2.1⟩ (fun m hm => by rw [li_0] at hm; omega) (Nat.lt_succ_self _)⟩
  -- the end: it is checked
  have f92 := q4.1.1.1
  have hfq := q4.2.1
  have tn := fT.2.2.1
  have tu := fT.2.2.2.1
  have cT : ∀ a : Nat, a ≠ 0 → (a < 22 ∨ 27 < a) → sm5 u T a := fun a a0 a1 => vf_cell fT a0 a1
  have cW : ∀ a : Nat, a ≠ 0 → (a < 22 ∨ 27 < a) → (a < qn u ∨ qn u + 1 ≤ a) → sm5 u W a := fun a a0 a1 a2 => (cT a a0 a1).tr (xW.1 a (by omega))
  generalize hZ : wI (wR W f 22 (some b)) f 21 1 = Z
  have zc : ∀ a : Nat, a ≠ f → sm5 W Z a := fun a ha => by rw [← hZ]; exact (sm5.wR ha).tr (sm5.wI ha)
  have zf7 : sm7 W Z f := by
    rw [← hZ]
    refine ⟨fun j hj => by rw [qI_wI, if_neg (fun q => hj q.2)]; rfl, fun j hj => ?_, rfl, rfl⟩
    show qR (wR W f 22 (some b)) f j = _
    rw [qR_wR, if_neg (fun q => hj q.2)]
  have z21 : (qI Z f 21).toInt = 1 := by rw [← hZ, qI_wI, if_pos ⟨rfl, rfl⟩]; rfl
  have z22 : qR Z f 22 = some b := by
    rw [← hZ]
    show qR (wR W f 22 (some b)) f 22 = _
    rw [qR_wR, if_pos ⟨rfl, rfl⟩]
  have zn : qn Z = qn u + 1 := by rw [← hZ]; show qn W = _; omega
  have zu : qu Z ≤ qu u + 115200 := by rw [← hZ]; show qu W ≤ _; have := xW.2.2; omega
  have c5 : ∀ a : Nat, a ≠ 0 → (a < 22 ∨ 27 < a) → (a < qn u ∨ qn u + 1 ≤ a) → a ≠ f → sm5 u Z a := fun a a0 a1 a2 a3 => (cW a a0 a1 a2).tr (zc a a3)
  have c7 : sm7 u Z f := (cW f (by omega) (by omega) (Or.inl (by omega))).s7.tr zf7
  have c6 : ∀ a : Nat, 92 < a → a < qn u → sm6 u Z a := fun a a0 a1 => by
    by_cases z : a = f
    · subst z
      exact ⟨fun w => absurd q4.1.2.1.1 w, fun _ => c7⟩
    · exact (c5 a (by omega) (by omega) (Or.inl a1) z).s6
  have hKC : KC = 300000 := rfl
  have cx : ∀ a : Nat, TXB ≤ a → sm5 u Z a := fun a a0 => by
    rw [show TXB = 10000000 from rfl] at a0
    exact c5 a (by omega) (by omega) (Or.inr (by omega)) (by omega)
  have KZ : knI Z := ⟨by have := KB.1; omega, by omega, fun a ha => by
    by_cases q : a < qn Z
    · exact Or.inl q
    · have h93 := KB.1
      rw [(c5 a (by omega) (by omega) (Or.inr (by omega)) (by omega)).2.2.2.1] at ha
      have := KB.2.2 a ha
      omega⟩
  have FZ : FlI Z f := q4.mv (fun a a0 a1 => c6 a (by omega) a1) (by omega)
  have VZ : VfI Z f := by
    obtain ⟨R, nc, n1, n2, n3⟩ := hnc
    obtain ⟨R', T', C, nc', ts, cn, r1, r2, r3, r4, r5, r6⟩ := q4.2.2.2.2.2
    have eR : R = R' := by rw [r2.1] at n1; exact (Option.some.inj n1).symm
    subst eR
    have sR := c5 R (by omega) (by omega) (Or.inl (by omega)) (by omega)
    have sb := zc b (by omega)
    refine ⟨⟨FZ.1, FZ.2.1⟩, ⟨b, R, nc, by omega, z22, by rw [sb.2.2.2.1]; exact wt, by rw [sb.2.2.2.2]; exact n3, by rw [c7.2.1 18 (by decide)]; exact n1, by omega, by rw [sR.2.2.2.1]; exact r3.1, by rw [sR.2.2.2.2]; exact n2⟩, fun m hm => ?_⟩
    rw [c7.1 4 (by decide)] at hm
    exact (hall m hm).mv q4.1 hfq KB c6 cx
  have e1 : qI Z 0 1 = qI u 0 1 := by rw [← hZ, rdH (by omega)]; show qI W 0 1 = _; rw [(xW.1 0 (Or.inl (by have := KB.1; omega))).1]; exact (fT.2.2.2.2.2 1 (by decide)).1
  refine ⟨⟨by rw [e1]; exact FB.1, fun i hi => ?_⟩, KZ, fun a ha => ?_, fun j hj => ?_, Or.inr ⟨x.toInt.toNat, f, ?_, ?_, ?_, z21, ?_, fun a a0 a1 a2 a3 => ?_, by omega, by omega⟩⟩
  · rw [e1] at hi
    obtain ⟨f', g1, g2, g3⟩ := FB.2 i hi
    have rz : qR Z 1 i = some f' := by rw [(c5 1 (by decide) (by decide) (Or.inl (by have := KB.1; omega)) (by omega)).2.2.1]; exact g1
    by_cases z : f' = f
    · subst z
      exact ⟨f', rz, FZ, fun _ => VZ⟩
    · have hf' := g2.1.1.1
      have s5 := c5 f' (by omega) (by omega) (Or.inl (by have := g2.2.1; omega)) z
      exact ⟨f', rz, g2.mv (fun a a0 a1 => c6 a (by omega) a1) (by omega), fun w => VfI.st u Z f' (g3 (by rw [s5.1] at w; exact w)) KB c6 cx (by rw [s5.1]) (by rw [s5.2.2.1]) (by omega)⟩
  · have z1 : qT Z a = qT W a ∧ qN Z a = qN W a := by rw [← hZ]; exact ⟨rfl, rfl⟩
    have z2 := xW.1 a (Or.inl (by have := KB.1; omega))
    rw [z1.1, z1.2, z2.2.2.2.1, z2.2.2.2.2, fT.1, fT.2.1, fB.1, fB.2.1]
    exact ⟨rfl, rfl⟩
  · have z2 := xW.1 0 (Or.inl (by have := KB.1; omega))
    have w1 := fT.2.2.2.2.2 j hj
    have w2 := fB.2.2.2.2.2 j hj
    have z0 := zc 0 (by omega)
    exact ⟨by rw [z0.1, z2.1, w1.1, w2.1], by rw [z0.2.1, z2.2.1, w1.2.1, w2.2.1], by rw [z0.2.2.1, z2.2.2.1, w1.2.2, w2.2.2]⟩
  · rw [← b1]; omega
  · rw [← (vf_cell fB (a := 1) (by decide) (by decide)).2.2.1]; exact q3
  · rw [← (vf_cell fB (a := f) (by omega) (by omega)).1]; exact c2'
  · exact (vf_cell fB (a := f) (by omega) (by omega)).s7.tr c7
  · exact (vf_cell fB a0 a1).tr (c5 a a0 a1 (by omega) a3)
/-! the small methods (behind sp_verify) -/
theorem sp_isRight {S : MS} {x : Int32} (h : FsI VfI S) : w_isRight S x (fun r u => u = S ∧ (r.toInt ≠ 0 → ∃ f : Nat, (0 ≤ x.toInt ∧ x.toInt < (qI S 0 1).toInt) ∧ qR S 1 x.toInt.toNat = some f ∧ FlI S f ∧ VfI S f)) := by
  have h1 := h.1
  unfold w_isRight w_isRight_J25
  refine ⟨_, sp_fileAt h, ?_⟩
  rintro r u ⟨rfl, hr⟩
  refine ⟨fun _ => ⟨rfl, fun q => absurd rfl q⟩, fun c => ?_⟩
  rcases hr with q | ⟨f, a, b, d, e, g⟩
  · exact absurd q c
  · have qo : qO u 1 x.toInt.toNat = f := by unfold qO; rw [d]; rfl
    rw [qo]
    exact ⟨⟨by omega, by omega⟩, d, fun z => ⟨rfl, fun _ => ⟨f, b, d, e, g z⟩⟩, fun _ => ⟨rfl, fun q => absurd rfl q⟩⟩
theorem sp_stateAt {S : MS} {x y z : Int32} (h : FsI VfI S) : w_stateAt S x y z (fun r u => u = S ∧ (r.toInt = -1 ∨ ∃ f St : Nat, (0 ≤ x.toInt ∧ x.toInt < 12) ∧ qR S 1 x.toInt.toNat = some f ∧ qR S f 22 = some St ∧ 0 ≤ r.toInt ∧ r.toInt + 3 < (qN S St : Int) ∧ r.toInt ≤ 115200)) := by
  have h1 := h.1
  have l1 : (-1 : Int32).toInt = -1 := by decide
  unfold w_stateAt w_stateAt_J54
  refine ⟨_, sp_isRight h, ?_⟩
  rintro r u ⟨rfl, hr⟩
  refine ⟨fun _ => ⟨rfl, Or.inl l1⟩, fun c => ⟨_, sp_isMethod h, ?_⟩⟩
  rintro r2 u2 ⟨rfl, hr2⟩
  refine ⟨fun _ => ⟨rfl, Or.inl l1⟩, fun c2 => ⟨fun _ => ⟨rfl, Or.inl l1⟩, fun c3 => ?_⟩⟩
  obtain ⟨f, a1, a2, a3, a4⟩ := hr c
  obtain ⟨f', b1, b2, b3, b4, b5⟩ := hr2 c2
  have ef : f' = f := by rw [a2] at b2; exact (Option.some.inj b2).symm
  subst ef
  have qo : qO u2 1 x.toInt.toNat = f' := by unfold qO; rw [a2]; rfl
  have q15 := a3.row (i := 10) (by decide)
  have q14 := a3.row (i := 9) (by decide)
  simp only [Nat.reduceAdd, Nat.add_assoc] at q15 q14
  have hm := a3.2.2.2.1
  obtain ⟨St, R, nc, s1, s2, s3, s4, s5, s6, s7, s8⟩ := a4.2.1
  obtain ⟨R', T', C, nc', ts, cn, r1, r2', r3, r4, r5, r6⟩ := a3.2.2.2.2.2
  have eR : R = R' := by rw [r2'.1] at s5; exact (Option.some.inj s5).symm
  have en : nc = nc' := by rw [eR, r4.1] at s8; omega
  have mt := (r6 y.toInt.toNat (by omega)).2.2.2
  have m1 := mt.1
  have m2 := mt.2.1
  have m3 := mt.2.2.1
  rw [qo, q15.2.1, q14.2.1]
  refine ⟨⟨by omega, by omega⟩, a2, q15.1, ⟨by omega, by rw [q15.2.2]; omega⟩, fun _ => ⟨rfl, Or.inl l1⟩, fun c4 => ⟨⟨by omega, by omega⟩, a2, q14.1, ⟨by omega, by rw [q14.2.2]; omega⟩, rfl, Or.inr ⟨f', St, ⟨by omega, by omega⟩, a2, s2, ?_⟩⟩⟩
  have e1 : (qI u2 (f' + 10) y.toInt.toNat + z).toInt = (qI u2 (f' + 10) y.toInt.toNat).toInt + z.toInt := t_add (by omega)
  have e4 : ((4 : Int32) * (qI u2 (f' + 10) y.toInt.toNat + z)).toInt = 4 * ((qI u2 (f' + 10) y.toInt.toNat).toInt + z.toInt) := by rw [t_mul (by rw [li_4, e1]; omega), li_4, e1]
  rw [e4, s4]
  omega
theorem sp_height {S : MS} {x y z : Int32} (h : FsI VfI S) : w_height S x y z (fun _ u => u = S) := by
  unfold w_height
  refine ⟨_, sp_stateAt h, ?_⟩
  rintro r u ⟨rfl, hr⟩
  refine ⟨fun c => ?_, fun _ => rfl⟩
  rcases hr with q | ⟨f, St, a, b, d, e, g, -⟩
  · omega
  · have qo : qO u 1 x.toInt.toNat = f := by unfold qO; rw [b]; rfl
    have qs : qO u f 22 = St := by unfold qO; rw [d]; rfl
    rw [qo, qs]
    exact ⟨a, b, d, ⟨by omega, by omega⟩, rfl⟩
theorem sp_local {S : MS} {x y z w : Int32} (h : FsI VfI S) : w_local S x y z w (fun _ u => u = S) := by
  unfold w_local
  refine ⟨_, sp_stateAt h, ?_⟩
  rintro r u ⟨rfl, hr⟩
  refine ⟨fun _ => rfl, fun c => ?_⟩
  rcases hr with q | ⟨f, St, a, b, d, e, g, gg⟩
  · omega
  · have qo : qO u 1 x.toInt.toNat = f := by unfold qO; rw [b]; rfl
    have qs : qO u f 22 = St := by unfold qO; rw [d]; rfl
    rw [qo, qs]
    refine ⟨a, b, d, ⟨by omega, by omega⟩, fun _ => rfl, fun _ => ⟨fun _ => rfl, fun c2 => ⟨fun c3 => ⟨a, b, d, ?_, rfl⟩, fun _ => rfl⟩⟩⟩
    have e8 : (w / (8 : Int32)).toInt = w.toInt / 8 := by
      rw [Int32.toInt_div, li_8, Int.tdiv_eq_ediv_of_nonneg (by omega)]
      apply Int.bmod_eq_of_le <;> omega
    have e1 : (r + (1 : Int32)).toInt = r.toInt + 1 := by rw [t_add (by rw [li_1]; omega), li_1]
    have e2 : (r + (1 : Int32) + w / (8 : Int32)).toInt = r.toInt + 1 + w.toInt / 8 := by rw [t_add (by rw [e1, e8]; omega), e1, e8]
    rw [e2]
    omega
theorem sp_end {S : MS} {x : Int32} : w_end S x (fun _ u => u = S ∨ (u = wI S 0 4 x ∧ 0 ≤ x.toInt ∧ x.toInt ≤ (qI S 0 4).toInt)) := by
  unfold w_end
  exact ⟨fun _ => Or.inl rfl, fun c => ⟨fun c2 A eA => Or.inr ⟨eA, by omega, c2⟩, fun _ => Or.inl rfl⟩⟩
/-- the machine's arrays -/
def ArI (S : MS) : Prop := (0 ≤ (qI S 0 85).toInt ∧ (qI S 0 85).toInt ≤ 400) ∧ (0 ≤ (qI S 0 86).toInt ∧ (qI S 0 86).toInt ≤ 20000) ∧ ∀ a : Nat, 1 ≤ a → (a : Int) ≤ (qI S 0 85).toInt → 0 ≤ (qI S 39 a).toInt ∧ 0 ≤ (qI S 40 a).toInt ∧ (qI S 39 a).toInt + (qI S 40 a).toInt ≤ (qI S 0 86).toInt
/-- the File on the stage -/
def SgI (S : MS) : Prop := qR S 0 80 = none ∨ ∃ f : Nat, qR S 0 80 = some f ∧ FlI S f ∧ VfI S f
theorem LdF {S : MS} {x : Int32} (h : SgI S) : d_field S x := by
  unfold d_field d_field_J31
  by_cases c1 : (qR S 0 80) = none
  · rw [if_pos c1]; trivial
  · rw [if_neg c1]
    by_cases c2 : x.toInt < 0
    · rw [if_pos c2]; trivial
    · rw [if_neg c2]
      rcases h with q | ⟨f, a, b, -⟩
      · exact absurd q c1
      · have qo : qO S 0 80 = f := by unfold qO; rw [a]; rfl
        have hm := b.2.2.2.1
        rw [qo]
        refine ⟨a, ?_⟩
        by_cases c3 : (qI S f 3).toInt ≤ x.toInt
        · rw [if_pos c3]; trivial
        · rw [if_neg c3]; exact ⟨⟨by omega, by omega⟩, trivial⟩
theorem ArI.el {S : MS} {x y : Int32} (h : ArI S) : d_element S x y ∧ d_arrayLength S x := by
  obtain ⟨h1, h2, h3⟩ := h
  unfold d_element d_element_J43 d_arrayLength d_arrayLength_J22
  by_cases c1 : x.toInt < 1
  · rw [if_pos c1, if_pos c1]; exact ⟨trivial, trivial⟩
  · rw [if_neg c1, if_neg c1]
    by_cases c2 : (qI S 0 85).toInt < x.toInt
    · rw [if_pos c2, if_pos c2]; exact ⟨trivial, trivial⟩
    · rw [if_neg c2, if_neg c2]
      refine ⟨?_, ⟨by omega, by omega⟩, trivial⟩
      by_cases c3 : y.toInt < 0
      · rw [if_pos c3]; trivial
      · rw [if_neg c3]
        refine ⟨⟨by omega, by omega⟩, ?_⟩
        by_cases c4 : (qI S 40 x.toInt.toNat).toInt ≤ y.toInt
        · rw [if_pos c4]; trivial
        · rw [if_neg c4]
          obtain ⟨a, b, d⟩ := h3 x.toInt.toNat (by omega) (by omega)
          have e : (qI S 39 x.toInt.toNat + y).toInt = (qI S 39 x.toInt.toNat).toInt + y.toInt := t_add (by omega)
          exact ⟨⟨by omega, by omega⟩, ⟨by omega, by omega⟩, trivial⟩
/-- what was told -/
def ToI (S : MS) : Prop := ∃ b : Nat, qR S 0 76 = some b ∧ qT S b = 1 ∧ qN S b = 131072 ∧ 0 ≤ (qI S 0 78).toInt ∧ (qI S 0 78).toInt ≤ 131072
theorem ToI.by {S : MS} {x : Int32} (h : ToI S) : d_byteAt S x := by
  obtain ⟨b, h1, h2, h3, h4, h5⟩ := h
  have qo : qO S 0 76 = b := by unfold qO; rw [h1]; rfl
  unfold d_byteAt d_byteAt_J25
  by_cases c1 : x.toInt < 0
  · rw [if_pos c1]; trivial
  · rw [if_neg c1]
    by_cases c2 : (qI S 0 78).toInt ≤ x.toInt
    · rw [if_pos c2]; trivial
    · rw [if_neg c2, qo]
      exact ⟨h1, ⟨by omega, by rw [h3]; omega⟩, trivial⟩
theorem d_ap {S : MS} {x : Int32} : d_applied S x := by
  unfold d_applied d_applied_J20
  by_cases c1 : x.toInt < 1
  · rw [if_pos c1]; trivial
  · rw [if_neg c1]
    by_cases c2 : 11 < x.toInt
    · rw [if_pos c2]; trivial
    · rw [if_neg c2]; exact ⟨⟨by omega, by omega⟩, trivial⟩
/-! the same types, the same work (behind fn_work, MtA) -/
def aE (a b : AS) : Prop := (∀ k : Nat, k < 24 → aL a k = aL b k) ∧ aT a = aT b ∧ aF a = aF b ∧ ∀ k : Nat, (k : Int) < (aT a).toInt → aP a k = aP b k
theorem aE.push {a b : AS} {t : Int32} (h : aE a b) (ht : 0 ≤ (aT a).toInt ∧ (aT a).toInt < 28) : aE (aPush t a) (aPush t b) := by
  obtain ⟨h1, h2, h3, h4⟩ := h
  refine ⟨h1, ?_, h3, ?_⟩
  · show aT a + 1 = aT b + 1
    rw [h2]
  · intro k hk
    rw [t_push ht] at hk
    show upd (aP a) (aT a).toInt.toNat _ k = upd (aP b) (aT b).toInt.toNat _ k
    rw [← h2]
    unfold upd
    by_cases c : k = (aT a).toInt.toNat
    · rw [if_pos c, if_pos c]
    · rw [if_neg c, if_neg c]
      exact h4 k (by omega)
theorem t_pull {a : AS} (ht : 1 ≤ (aT a).toInt ∧ (aT a).toInt ≤ 28) : (aT (aPull a)).toInt = (aT a).toInt - 1 := by
  show (aT a - (1 : Int32)).toInt = _
  rw [t_sub (by rw [li_1]; omega), li_1]
theorem aE.pull {a b : AS} (h : aE a b) (ht : 1 ≤ (aT a).toInt ∧ (aT a).toInt ≤ 28) : aTop a = aTop b ∧ aE (aPull a) (aPull b) := by
  have e := t_pull ht
  obtain ⟨h1, h2, h3, h4⟩ := h
  refine ⟨?_, h1, ?_, h3, ?_⟩
  · unfold aTop
    rw [← h2]
    have e' : (aT a - (1 : Int32)).toInt = (aT a).toInt - 1 := e
    exact h4 _ (by omega)
  · show aT a - 1 = aT b - 1
    rw [h2]
  · intro k hk
    rw [e] at hk
    exact h4 k (by omega)
theorem aE.need {a b : AS} {g : Int32} (h : aE a b) : aE (aNeed g a) (aNeed g b) := by
  obtain ⟨h1, h2, h3, h4⟩ := h
  refine ⟨h1, h2, ?_, h4⟩
  show (if (aF a).toInt = 0 then (0 : Int32) else _) = if (aF b).toInt = 0 then 0 else _
  rw [h3]
theorem aE.set {a b : AS} {k : Nat} {t : Int32} (h : aE a b) : aE (aSet k t a) (aSet k t b) := by
  obtain ⟨h1, h2, h3, h4⟩ := h
  refine ⟨?_, h2, h3, h4⟩
  intro i hi
  show upd (aL a) k _ i = upd (aL b) k _ i
  unfold upd
  by_cases c : i = k
  · rw [if_pos c, if_pos c]
  · rw [if_neg c, if_neg c]
    exact h1 i hi
theorem aE.ite {a b a' b' : AS} {c : Prop} [Decidable c] (h : c → aE a b) (h' : ¬ c → aE a' b') : aE (if c then a else a') (if c then b else b') := by
  by_cases z : c
  · rw [if_pos z, if_pos z]; exact h z
  · rw [if_neg z, if_neg z]; exact h' z
theorem aE.take {a b : AS} {c : Int32} (h : aE a b) (ht : 1 ≤ (aT a).toInt ∧ (aT a).toInt ≤ 28) (h2 : c.toInt = 73 ∨ c.toInt = 65 ∨ c.toInt = 69 ∨ c.toInt = 82 ∨ 2 ≤ (aT a).toInt) : aE (aTake c a) (aTake c b) := by
  obtain ⟨e, hp⟩ := h.pull ht
  have tp := t_pull ht
  unfold aTake
  rw [← e]
  refine aE.ite (fun _ => hp.need) (fun c1 => aE.ite (fun _ => hp.need) (fun c2 => aE.ite (fun _ => hp.need) (fun c3 => aE.ite (fun _ => hp.need) (fun c4 => ?_))))
  obtain ⟨e2, hp2⟩ := hp.pull ⟨by omega, by omega⟩
  rw [← e2]
  exact hp2.need
theorem aE.takes {g : Nat → Int32} : ∀ (n : Nat) (a b : AS), aE a b → (∀ i : Nat, i < n → (g i).toInt = 73 ∨ (g i).toInt = 74 ∨ (g i).toInt = 65 ∨ (g i).toInt = 69 ∨ (g i).toInt = 82) → plc g n ≤ (aT a).toInt → (aT a).toInt ≤ 28 → aE (aTakes g n a) (aTakes g n b) := by
  intro n
  induction n with
  | zero => intro a b h _ _ _; exact h
  | succ n ih =>
    intro a b h hl hp ht
    have p0 := plc_ge (g := g) n
    have pk : plc g (n + 1) = plc g n + if (g n).toInt = 74 then 2 else 1 := rfl
    rw [pk] at hp
    have z01 : 1 ≤ (if (g n).toInt = 74 then (2 : Int) else 1) := by split <;> omega
    have h1 : 1 ≤ (aT a).toInt := by omega
    have e := t_take (c := g n) ⟨h1, ht⟩ (hl n (by omega))
    unfold aTakes
    refine ih _ _ (h.take ⟨h1, ht⟩ ?_) (fun i hi => hl i (by omega)) (by omega) (by omega)
    by_cases w : (g n).toInt = 74
    · rw [if_pos w] at hp; omega
    · have := hl n (by omega); omega
theorem aE.gives {g : Nat → Int32} {th : Int32} : ∀ (n k : Nat) (a b : AS), aE a b → 0 ≤ (aT a).toInt → (aT a).toInt + (plc g (k + n) - plc g k) ≤ 28 → aE (aGives g th k n a) (aGives g th k n b) := by
  intro n
  induction n with
  | zero => intro k a b h _ _; exact h
  | succ n ih =>
    intro k a b h h0 hp
    have up : ∀ (d m : Nat), plc g m ≤ plc g (m + d) := by
      intro d
      induction d with
      | zero => intro m; exact Int.le_refl _
      | succ d ih2 =>
        intro m
        have := ih2 m
        have e9 : plc g (m + (d + 1)) = plc g (m + d) + if (g (m + d)).toInt = 74 then 2 else 1 := rfl
        rw [e9]
        split <;> omega
    have u1 := up n (k + 1)
    have pk : plc g (k + 1) = plc g k + if (g k).toInt = 74 then 2 else 1 := rfl
    rw [show k + (n + 1) = k + 1 + n by omega] at hp
    unfold aGives
    by_cases w : (g k).toInt = 74
    · rw [if_pos w] at pk
      have t1 := t_push (t := 2) (a := a) ⟨by omega, by omega⟩
      have t2 := t_push (t := 3) (a := aPush 2 a) ⟨by omega, by omega⟩
      unfold aGive
      rw [if_pos w, if_pos w]
      exact ih (k + 1) _ _ ((h.push ⟨by omega, by omega⟩).push ⟨by omega, by omega⟩) (by omega) (by omega)
    · rw [if_neg w] at pk
      unfold aGive
      rw [if_neg w, if_neg w]
      generalize (if (g k).toInt = 73 then (1 : Int32) else if (g k).toInt = 65 then 4 else if (g k).toInt = 78 then 6 else th) = t
      have t1 := t_push (t := t) (a := a) ⟨by omega, by omega⟩
      exact ih (k + 1) _ _ (h.push ⟨by omega, by omega⟩) (by omega) (by omega)
theorem aE.store {a b : AS} {op k th : Int32} (h : aE a b) (hk : 0 ≤ k.toInt ∧ k.toInt < 24) : aE (aStore op k th a) (aStore op k th b) := by
  have e1 : (k - (1 : Int32)).toInt = k.toInt - 1 := by rw [t_sub (by rw [li_1]; omega), li_1]
  unfold aStore
  simp only
  generalize (if op.toInt = 55 then (2 : Int32) else 1) = n
  have s1 : aE (if k.toInt ≤ 0 then a else if (aL a (k - 1).toInt.toNat).toInt = 2 then aSet (k - 1).toInt.toNat 0 a else a) (if k.toInt ≤ 0 then b else if (aL b (k - 1).toInt.toNat).toInt = 2 then aSet (k - 1).toInt.toNat 0 b else b) := by
    refine aE.ite (fun _ => h) (fun c => ?_)
    rw [h.1 _ (by omega)]
    exact aE.ite (fun _ => h.set) (fun _ => h)
  revert s1
  generalize (if k.toInt ≤ 0 then a else if (aL a (k - 1).toInt.toNat).toInt = 2 then aSet (k - 1).toInt.toNat 0 a else a) = a1
  generalize (if k.toInt ≤ 0 then b else if (aL b (k - 1).toInt.toNat).toInt = 2 then aSet (k - 1).toInt.toNat 0 b else b) = b1
  intro s1
  have s2 : aE (if 24 ≤ (k + n).toInt then a1 else if (aL a1 (k + n).toInt.toNat).toInt = 3 then aSet (k + n).toInt.toNat 0 a1 else a1) (if 24 ≤ (k + n).toInt then b1 else if (aL b1 (k + n).toInt.toNat).toInt = 3 then aSet (k + n).toInt.toNat 0 b1 else b1) := by
    refine aE.ite (fun _ => s1) (fun c => ?_)
    rw [s1.1 _ (by omega)]
    exact aE.ite (fun _ => s1.set) (fun _ => s1)
  exact aE.ite (fun _ => s2.set.set) (fun _ => s2.set)
theorem aE.mv1 {a b : AS} {op y x : Int32} (h : aE a b) (ho : op.toInt = 89 ∨ op.toInt = 90 ∨ op.toInt = 92 ∨ op.toInt = 95) (ht : 0 ≤ (aT a).toInt ∧ (aT a).toInt ≤ 24) : aE (aMv1 op y x a) (aMv1 op y x b) := by
  have p1 := fun (t : Int32) (b : AS) (hb : 0 ≤ (aT b).toInt ∧ (aT b).toInt < 28) => t_push (t := t) (a := b) hb
  have P : ∀ (c : Prop) [Decidable c] (t : Int32) (d : Int) (u v : AS), (aE u v ∧ 0 ≤ (aT u).toInt ∧ (aT u).toInt ≤ d) → d < 28 → (aE (if c then aPush t u else u) (if c then aPush t v else v) ∧ 0 ≤ (aT (if c then aPush t u else u)).toInt ∧ (aT (if c then aPush t u else u)).toInt ≤ d + 1) := fun c _ t d u v hu hd => by
    have q := p1 t u ⟨hu.2.1, by omega⟩
    by_cases z : c
    · simp only [if_pos z]
      exact ⟨hu.1.push ⟨hu.2.1, by omega⟩, by omega, by omega⟩
    · simp only [if_neg z]
      exact ⟨hu.1, by omega, by omega⟩
  rcases ho with o | o | o | o
  · have n1 : ¬ op.toInt = 90 := by omega
    have n2 : ¬ op.toInt = 92 := by omega
    have n3 : ¬ op.toInt = 95 := by omega
    have q1 := p1 y a ⟨ht.1, by omega⟩
    unfold aMv1
    simp only [if_pos o, if_neg n1, if_neg n2, if_neg n3]
    exact (h.push ⟨by omega, by omega⟩).push ⟨by omega, by omega⟩
  · have n1 : ¬ op.toInt = 89 := by omega
    have n2 : ¬ op.toInt = 92 := by omega
    have n3 : ¬ op.toInt = 95 := by omega
    have q1 := p1 y a ⟨ht.1, by omega⟩
    have q2 := p1 x (aPush y a) ⟨by omega, by omega⟩
    unfold aMv1
    simp only [if_pos o, if_neg n1, if_neg n2, if_neg n3]
    exact ((h.push ⟨by omega, by omega⟩).push ⟨by omega, by omega⟩).push ⟨by omega, by omega⟩
  · have n1 : ¬ op.toInt = 89 := by omega
    have n2 : ¬ op.toInt = 90 := by omega
    have n3 : ¬ op.toInt = 95 := by omega
    have q1 := p1 x a ⟨ht.1, by omega⟩
    have q2 := p1 y (aPush x a) ⟨by omega, by omega⟩
    have q3 := p1 x (aPush y (aPush x a)) ⟨by omega, by omega⟩
    unfold aMv1
    simp only [if_pos o, if_neg n2, if_neg n3]
    exact (((h.push ⟨by omega, by omega⟩).push ⟨by omega, by omega⟩).push ⟨by omega, by omega⟩).push ⟨by omega, by omega⟩
  · have n1 : ¬ op.toInt = 89 := by omega
    have n2 : ¬ op.toInt = 90 := by omega
    have n3 : ¬ op.toInt = 92 := by omega
    have q1 := p1 y a ⟨ht.1, by omega⟩
    unfold aMv1
    simp only [if_pos o, if_neg n1, if_neg n2, if_neg n3]
    exact (h.push ⟨by omega, by omega⟩).push ⟨by omega, by omega⟩
theorem aE.move {a b : AS} {op : Int32} (h : aE a b) (ho : op.toInt = 87 ∨ op.toInt = 88 ∨ op.toInt = 89 ∨ op.toInt = 90 ∨ op.toInt = 92 ∨ op.toInt = 95) (ht : 1 ≤ (aT a).toInt ∧ (aT a).toInt ≤ 24) (h2 : op.toInt = 87 ∨ op.toInt = 89 ∨ 2 ≤ (aT a).toInt) : aE (aMove op a) (aMove op b) := by
  obtain ⟨e, hp⟩ := h.pull ⟨ht.1, by omega⟩
  have tp := t_pull (a := a) ⟨ht.1, by omega⟩
  unfold aMove
  simp only
  rw [← e]
  by_cases o : op.toInt = 87 ∨ op.toInt = 89
  · have ea : ∀ u : AS, (if op.toInt = 87 then aPull u else if op.toInt = 89 then aPull u else aPull (aPull u)) = aPull u := fun u => by
      rcases o with o | o
      · rw [if_pos o]
      · rw [if_neg (by omega), if_pos o]
    have ex : ∀ u : AS, (if op.toInt = 87 then (1 : Int32) else if op.toInt = 89 then 1 else aTop (aPull u)) = 1 := fun u => by
      rcases o with o | o
      · rw [if_pos o]
      · rw [if_neg (by omega), if_pos o]
    simp only [ea, ex]
    exact aE.ite (fun _ => hp.need) (fun c => aE.ite (fun _ => hp.need) (fun c2 => hp.need.mv1 (by omega) ⟨by show 0 ≤ (aT (aPull a)).toInt; omega, by show (aT (aPull a)).toInt ≤ 24; omega⟩))
  · have o1 : ¬ op.toInt = 87 := fun q => o (Or.inl q)
    have o2 : ¬ op.toInt = 89 := fun q => o (Or.inr q)
    obtain ⟨e2, hp2⟩ := hp.pull ⟨by omega, by omega⟩
    have tp2 := t_pull (a := aPull a) ⟨by omega, by omega⟩
    simp only [if_neg o1, if_neg o2, ← e2]
    exact aE.ite (fun _ => hp2.need) (fun c2 => hp2.need.mv1 (by omega) ⟨by show 0 ≤ (aT (aPull (aPull a))).toInt; omega, by show (aT (aPull (aPull a))).toInt ≤ 24; omega⟩)
theorem aE.w2 {a b : AS} {op fst rm : Int32} (h : aE a b) (h1 : op.toInt = 21 ∨ op.toInt = 132 → 0 ≤ fst.toInt ∧ fst.toInt < 24) (h2 : op.toInt = 22 → 0 ≤ fst.toInt ∧ fst.toInt + 1 < 24) : aE (aW2 op fst rm a) (aW2 op fst rm b) := by
  unfold aW2
  simp only
  have s3 : aE (if op.toInt = 21 ∨ op.toInt = 132 then aNeed (if (aL a fst.toInt.toNat).toInt = 1 then 1 else 0) a else a) (if op.toInt = 21 ∨ op.toInt = 132 then aNeed (if (aL b fst.toInt.toNat).toInt = 1 then 1 else 0) b else b) := by
    refine aE.ite (fun c => ?_) (fun _ => h)
    have := h1 c
    rw [h.1 fst.toInt.toNat (by omega)]
    exact h.need
  revert s3
  generalize (if op.toInt = 21 ∨ op.toInt = 132 then aNeed (if (aL a fst.toInt.toNat).toInt = 1 then 1 else 0) a else a) = a3
  generalize (if op.toInt = 21 ∨ op.toInt = 132 then aNeed (if (aL b fst.toInt.toNat).toInt = 1 then 1 else 0) b else b) = b3
  intro s3
  have s4 : aE (if op.toInt = 22 then aNeed (if (aL a3 fst.toInt.toNat).toInt = 2 then (if (aL a3 (fst + 1).toInt.toNat).toInt = 3 then 1 else 0) else 0) a3 else a3) (if op.toInt = 22 then aNeed (if (aL b3 fst.toInt.toNat).toInt = 2 then (if (aL b3 (fst + 1).toInt.toNat).toInt = 3 then 1 else 0) else 0) b3 else b3) := by
    refine aE.ite (fun c => ?_) (fun _ => s3)
    have q := h2 c
    have ef : (fst + (1 : Int32)).toInt = fst.toInt + 1 := by rw [t_add (by rw [li_1]; omega), li_1]
    rw [s3.1 fst.toInt.toNat (by omega), s3.1 (fst + 1).toInt.toNat (by omega)]
    exact s3.need
  exact aE.ite (fun _ => s4.need) (fun _ => s4)
/-- the same but for fits -/
def aQ (a b : AS) : Prop := (∀ k : Nat, k < 24 → aL a k = aL b k) ∧ aT a = aT b ∧ ∀ k : Nat, (k : Int) < (aT a).toInt → aP a k = aP b k
theorem MtA.q {S : MS} {x : Nat} {a b : AS} (ha : MtA S x a) (hb : MtA S x b) : aQ a b := by
  obtain ⟨a1, a2, a3⟩ := ha
  obtain ⟨b1, b2, b3⟩ := hb
  refine ⟨fun k hk => by rw [a1 k hk, b1 k hk], Int32.toInt_inj.mp (by rw [a3, b3]), fun k hk => ?_⟩
  rw [a3] at hk
  rw [a2 k hk, b2 k hk]
theorem aT_ite {c : Prop} [Decidable c] {u v : AS} {t : Int32} (h1 : aT u = t) (h2 : aT v = t) : aT (if c then u else v) = t := by
  by_cases z : c
  · rw [if_pos z]; exact h1
  · rw [if_neg z]; exact h2
theorem cg_wk {S : MS} {a b : AS} {x : Int32} {p : Nat} (h : LkI S) (ht : TxI S) (hx : 0 ≤ x.toInt ∧ x.toInt < (qI S 0 52).toInt) (hT : tkV S x ≤ (aT a).toInt ∧ (aT a).toInt ≤ 24 ∧ (aT a).toInt - tkV S x + gvV S x ≤ 28) (e : aQ a b) : aE (wkV S x p a) (wkV S x p b) := by
  have tk := h.tk hx ht
  have gv := h.gv hx ht
  obtain ⟨L, F, M, ts, la, lb, rv, -, -⟩ := h.rv hx
  obtain ⟨v1, v2, v3, v4, v5, v6, v7⟩ := rv
  obtain ⟨q1, q2, q3⟩ := e
  have E : aE (aL a, aP a, aT a, 1) (aL b, aP b, aT b, 1) := ⟨q1, q2, rfl, q3⟩
  have mvI : 0 < (f_moved S (f_op S x)).toInt ↔ ((f_op S x).toInt = 87 ∨ (f_op S x).toInt = 88 ∨ (f_op S x).toInt = 89 ∨ (f_op S x).toInt = 90 ∨ (f_op S x).toInt = 92 ∨ (f_op S x).toInt = 95) := by
    unfold f_moved f_moved_J12 f_moved_J40
    by_cases z1 : (f_op S x).toInt = 87
    · rw [if_pos z1]; simp [z1]
    · rw [if_neg z1]
      by_cases z2 : (f_op S x).toInt = 89
      · rw [if_pos z2]; simp [z2]
      · rw [if_neg z2]
        by_cases z3 : (f_op S x).toInt = 88
        · rw [if_pos z3]; simp [z3]
        · rw [if_neg z3]
          by_cases z4 : (f_op S x).toInt = 90
          · rw [if_pos z4]; simp [z4]
          · rw [if_neg z4]
            by_cases z5 : (f_op S x).toInt = 92
            · rw [if_pos z5]; simp [z5]
            · rw [if_neg z5]
              by_cases z6 : (f_op S x).toInt = 95
              · rw [if_pos z6]; simp [z6]
              · rw [if_neg z6]; simp [z1, z2, z3, z4, z5, z6]
  unfold wkV aWork
  simp only
  by_cases mv : 0 < (f_moved S (f_op S x)).toInt
  · have o := mvI.mp mv
    rw [if_pos o, if_pos o]
    have eT : tkV S x = (f_moved S (f_op S x)).toInt := by unfold tkV; rw [if_pos mv]
    refine E.move o ⟨by show 1 ≤ (aT a).toInt; omega, hT.2.1⟩ ?_
    show _ ∨ _ ∨ 2 ≤ (aT a).toInt
    by_cases z1 : (f_op S x).toInt = 87
    · exact Or.inl z1
    · by_cases z2 : (f_op S x).toInt = 89
      · exact Or.inr (Or.inl z2)
      · refine Or.inr (Or.inr ?_)
        have m2 : (f_moved S (f_op S x)).toInt = 2 := by
          unfold f_moved f_moved_J12 f_moved_J40
          rw [if_neg z1, if_neg z2]
          by_cases z3 : (f_op S x).toInt = 88
          · rw [if_pos z3]; rfl
          · rw [if_neg z3]
            by_cases z4 : (f_op S x).toInt = 90
            · rw [if_pos z4]; rfl
            · rw [if_neg z4]
              by_cases z5 : (f_op S x).toInt = 92
              · rw [if_pos z5]; rfl
              · rw [if_neg z5, if_pos (by omega)]; rfl
        omega
  · have o : ¬ ((f_op S x).toInt = 87 ∨ (f_op S x).toInt = 88 ∨ (f_op S x).toInt = 89 ∨ (f_op S x).toInt = 90 ∨ (f_op S x).toInt = 92 ∨ (f_op S x).toInt = 95) := fun q => mv (mvI.mpr q)
    rw [if_neg o, if_neg o]
    have eT : tkV S x = plS S (f_takesOf S x) := by unfold tkV; rw [if_neg mv]
    have eG : gvV S x = plS S (f_givesOf S x) := by unfold gvV; rw [if_neg mv]
    obtain ⟨k1, k2, k3, k4, k5⟩ := tk
    have e25 : (f_op S x).toInt = 25 → aL (aL a, aP a, aT a, 1) (f_first S x).toInt.toNat = aL (aL b, aP b, aT b, 1) (f_first S x).toInt.toNat := fun q => E.1 _ (by have := v4 (by omega); omega)
    have e58 : (f_op S x).toInt = 58 → aTop (aL a, aP a, aT a, 1) = aTop (aL b, aP b, aT b, 1) := fun q => by
      have ft : f_takesOf S x = 10000024 := by
        unfold f_takesOf f_takesOf_J18 f_takesOf_J47 f_takesOf_J75 f_takesOf_J93 f_takesOf_J111
        rw [if_pos (by omega), if_pos (by omega), if_pos (by omega), if_pos (by omega), if_pos (by omega), if_neg (by omega), if_neg (by omega), if_neg (by omega), if_pos q]
      have n1 : qN S (10000024 + 1) = 1 := (ht 12 (by decide)).2.1
      have g1 := plc_ge (g := qI S (10000024 + 1)) 1
      have e5 := eT
      rw [ft] at e5
      unfold plS at e5
      rw [n1] at e5
      exact (E.pull ⟨by show 1 ≤ (aT a).toInt; omega, by show (aT a).toInt ≤ 28; omega⟩).1
    have eth : (if (f_op S x).toInt = 25 then aL (aL a, aP a, aT a, 1) (f_first S x).toInt.toNat else if (f_op S x).toInt = 58 then aTop (aL a, aP a, aT a, 1) else 0) = (if (f_op S x).toInt = 25 then aL (aL b, aP b, aT b, 1) (f_first S x).toInt.toNat else if (f_op S x).toInt = 58 then aTop (aL b, aP b, aT b, 1) else 0) := by
      by_cases z : (f_op S x).toInt = 25
      · rw [if_pos z, if_pos z, e25 z]
      · rw [if_neg z, if_neg z]
        by_cases z2 : (f_op S x).toInt = 58
        · rw [if_pos z2, if_pos z2, e58 z2]
        · rw [if_neg z2, if_neg z2]
    rw [← eth]
    generalize (if (f_op S x).toInt = 25 then aL (aL a, aP a, aT a, 1) (f_first S x).toInt.toNat else if (f_op S x).toInt = 58 then aTop (aL a, aP a, aT a, 1) else 0) = th1
    have s2 : aE (if (f_op S x).toInt = 25 then aNeed (isTh th1) (aL a, aP a, aT a, 1) else (aL a, aP a, aT a, 1)) (if (f_op S x).toInt = 25 then aNeed (isTh th1) (aL b, aP b, aT b, 1) else (aL b, aP b, aT b, 1)) := aE.ite (fun _ => E.need) (fun _ => E)
    have t2 : aT (if (f_op S x).toInt = 25 then aNeed (isTh th1) (aL a, aP a, aT a, 1) else (aL a, aP a, aT a, 1)) = aT a := aT_ite rfl rfl
    revert s2 t2
    generalize (if (f_op S x).toInt = 25 then aNeed (isTh th1) (aL a, aP a, aT a, 1) else (aL a, aP a, aT a, 1)) = a2
    generalize (if (f_op S x).toInt = 25 then aNeed (isTh th1) (aL b, aP b, aT b, 1) else (aL b, aP b, aT b, 1)) = b2
    intro s2 t2
    generalize (if (isTh th1).toInt = 0 then (0 : Int32) else th1) = th
    have s3 := s2.w2 (op := f_op S x) (fst := f_first S x) (rm := rmV S (f_op S x) p) (fun q => by have := v4 (by omega); omega) (fun q => by have := v5 (Or.inl q); omega)
    have t3 : aT (aW2 (f_op S x) (f_first S x) (rmV S (f_op S x) p) a2) = aT a := by rw [aT_W2.1, t2]
    revert s3 t3
    generalize aW2 (f_op S x) (f_first S x) (rmV S (f_op S x) p) a2 = a3
    generalize aW2 (f_op S x) (f_first S x) (rmV S (f_op S x) p) b2 = b3
    intro s3 t3
    have pT : plc (qI S (f_takesOf S x + 1)) (qN S (f_takesOf S x + 1)) ≤ (aT a3).toInt := by unfold plS at eT; rw [t3, ← eT]; exact hT.1
    have s4 := aE.takes (g := qI S (f_takesOf S x + 1)) (qN S (f_takesOf S x + 1)) a3 b3 s3 k3 pT (by rw [t3]; omega)
    have t4 := t_takes (g := qI S (f_takesOf S x + 1)) (qN S (f_takesOf S x + 1)) a3 k3 pT (by rw [t3]; omega)
    rw [t3] at t4
    revert s4 t4
    unfold aW1
    generalize aTakes (qI S (f_takesOf S x + 1)) (qN S (f_takesOf S x + 1)) a3 = a4
    generalize aTakes (qI S (f_takesOf S x + 1)) (qN S (f_takesOf S x + 1)) b3 = b4
    intro s4 t4
    have tst : aT (if (f_op S x).toInt = 54 ∨ (f_op S x).toInt = 55 ∨ (f_op S x).toInt = 58 then aStore (f_op S x) (f_first S x) th a4 else a4) = aT a4 := by
      unfold aStore
      simp only
      repeat' split
      all_goals rfl
    have s5 : aE (if (f_op S x).toInt = 54 ∨ (f_op S x).toInt = 55 ∨ (f_op S x).toInt = 58 then aStore (f_op S x) (f_first S x) th a4 else a4) (if (f_op S x).toInt = 54 ∨ (f_op S x).toInt = 55 ∨ (f_op S x).toInt = 58 then aStore (f_op S x) (f_first S x) th b4 else b4) := by
      refine aE.ite (fun q => s4.store ?_) (fun _ => s4)
      by_cases z : (f_op S x).toInt = 55
      · have := v5 (Or.inr z); omega
      · have := v4 (by omega); omega
    have eT' : plc (qI S (f_takesOf S x + 1)) (qN S (f_takesOf S x + 1)) = tkV S x := eT.symm
    have eG' : plc (qI S (f_givesOf S x + 1)) (qN S (f_givesOf S x + 1)) = gvV S x := eG.symm
    have z0 : plc (qI S (f_givesOf S x + 1)) 0 = 0 := rfl
    refine aE.gives _ 0 _ _ s5 (by rw [tst]; omega) ?_
    rw [tst, Nat.zero_add, eG', z0]
    omega
/-! one bit only (behind htV_ok, cg_wk) -/
theorem n_low {n j k : Nat} (hj : n.testBit j = true) (h : j < k) : (n - 1).testBit k = n.testBit k ∧ 1 ≤ n := by
  have r0 : n % 2 ^ k ≠ 0 := fun q => by
    have e := Nat.testBit_mod_two_pow n k j
    rw [q, hj, Nat.zero_testBit, decide_eq_true h] at e
    exact absurd e (by decide)
  have p : 0 < 2 ^ k := Nat.two_pow_pos k
  have d := Nat.div_add_mod n (2 ^ k)
  have l := Nat.mod_lt n p
  have e1 : n - 1 = 2 ^ k * (n / 2 ^ k) + (n % 2 ^ k - 1) := by omega
  have e2 : (n - 1) / 2 ^ k = n / 2 ^ k := by
    have lt : n % 2 ^ k - 1 < 2 ^ k := by omega
    rw [e1, Nat.mul_add_div p, Nat.div_eq_of_lt lt, Nat.add_zero]
  refine ⟨?_, by omega⟩
  rw [Nat.testBit_eq_decide_div_mod_eq, Nat.testBit_eq_decide_div_mod_eq, e2]
theorem bt_one {v : Int32} (h : (v &&& (v - 1)).toInt = 0) {j k : Nat} (hj : bt v j = true) (hk : bt v k = true) : j = k := by
  have z : v &&& (v - 1) = 0 := Int32.toInt_inj.mp (by rw [h]; rfl)
  have key : ∀ j k : Nat, j < k → bt v j = true → bt v k = true → False := fun j k hl hj hk => by
    unfold bt at hj hk
    have b : (v &&& (v - 1)).toBitVec.getLsbD k = false := by
      rw [z]
      show (0 : Int32).toBitVec.getLsbD k = false
      have e0 : (0 : Int32).toBitVec = 0#32 := rfl
      rw [e0, BitVec.getLsbD_zero]
    rw [Int32.toBitVec_and, BitVec.getLsbD_and, hk, Bool.true_and, Int32.toBitVec_sub] at b
    rw [← BitVec.testBit_toNat] at hj hk b
    obtain ⟨q1, q2⟩ := n_low hj hl
    have e1 : (1 : Int32).toBitVec = 1#32 := rfl
    rw [e1, BitVec.toNat_sub_of_le (by rw [BitVec.le_def]; exact q2)] at b
    have e3 : v.toBitVec.toNat - (1#32).toNat = v.toBitVec.toNat - 1 := rfl
    rw [e3, q1, hk] at b
    exact absurd b (by decide)
  rcases Nat.lt_trichotomy j k with q | q | q
  · exact (key j k q hj hk).elim
  · exact q
  · exact (key k j q hk hj).elim
theorem htV_one {v : Int32} (h : 0 ≤ htV v) {k : Nat} (hk : bt v k = true) : htV v = k := by
  have o := htV_ok h
  have z : (v &&& (v - 1)).toInt = 0 := by
    unfold htV at h
    by_cases c1 : v.toInt = 0
    · rw [if_pos c1] at h; omega
    · rw [if_neg c1] at h
      by_cases c2 : (v &&& (v - 1)).toInt = 0
      · exact c2
      · rw [if_neg c2] at h; omega
  have := bt_one z o.1 hk
  omega
/-- a come row without fault has one height, in range -/
theorem FtI.ht {S : MS} {p : Nat} (h : FtI S p) {x : Int32} (hx : 0 ≤ x.toInt ∧ x.toInt < (qI S 0 52).toInt) (hc : CmI S) (hj : cmJ S x.toInt.toNat) : 0 ≤ htV (qI S 22 x.toInt.toNat) ∧ rgV S x (htV (qI S 22 x.toInt.toNat)) ∧ bt (qI S 22 x.toInt.toNat) (htV (qI S 22 x.toInt.toNat)).toNat = true := by
  have n := (h x hx.1 hx.2).1
  have nz := hc x.toInt.toNat (by omega) hj
  unfold hfV at n
  have h0 : 0 ≤ htV (qI S 22 x.toInt.toNat) := Decidable.byContradiction fun q => n ⟨nz, Or.inl (by omega)⟩
  exact ⟨h0, Classical.byContradiction fun q => n ⟨nz, Or.inr q⟩, (htV_ok h0).1⟩
/-! what a checked method promises at every place that is reached (behind cg_wk, FtI.ht, LkI.ways) -/
def nxT (S : MS) (j : Nat) (y : Int) (t : Nat → Int32) : Prop := cmJ S j ∧ htV (qI S 22 j) = y ∧ ∀ k : Nat, (k : Int) < 24 + y → sbT (t k) (qI S 23 (48 * j + k))
noncomputable def wkT (S : MS) (x : Int32) (p : Nat) (a : AS) : Nat → Int32 := fun k => if k < 24 then aL (wkV S x p a) k else aP (wkV S x p a) (k - 24)
/-- the types at x are a, the work fits, and what it gives fits all that follow -/
def StT (S : MS) (x : Int32) (p : Nat) (a : AS) : Prop := MtA S x.toInt.toNat a ∧ ¬ (aF (wkV S x p a)).toInt = 0 ∧ (tkV S x ≤ (aT a).toInt ∧ (aT a).toInt ≤ (qI S 0 56).toInt ∧ (aT a).toInt - tkV S x + gvV S x ≤ (qI S 0 56).toInt) ∧ ((f_goesOn S (f_op S x)).toInt ≠ 0 → x.toInt + 1 < (qI S 0 52).toInt ∧ nxT S (x.toInt.toNat + 1) ((aT a).toInt - tkV S x + gvV S x) (wkT S x p a)) ∧ (∀ k : Int32, 0 ≤ k.toInt → k.toInt < (f_ways S x).toInt → nxT S (f_way S x k).toInt.toNat ((aT a).toInt - tkV S x + gvV S x) (wkT S x p a)) ∧ ∀ c : Int32, 0 ≤ c.toInt → c.toInt < (qI S 0 54).toInt → (f_isCaught S x c).toInt ≠ 0 → nxT S (f_catchWord S c 2).toInt.toNat 1 (fun k => if k < 24 then aL a k else 5)
theorem VmI.st {S : MS} {s p : Nat} (h : VmI S s p) (K : LkI S) (T : TxI S) (h56 : 0 ≤ (qI S 0 56).toInt ∧ (qI S 0 56).toInt ≤ 24) {x : Int32} (hx : 0 ≤ x.toInt ∧ x.toInt < (qI S 0 52).toInt) (hc : cmJ S x.toInt.toNat) : ∃ a : AS, StT S x p a := by
  obtain ⟨hH, hT, hF, -⟩ := h
  obtain ⟨a, ma, c1, c2, c3⟩ := hT.2.2 x hx.1 hx.2 hc (hF x hx.1 hx.2).1
  obtain ⟨b, mb, fb⟩ := (hF x hx.1 hx.2).2 hc
  obtain ⟨y0, yr, yb⟩ := hF.ht hx hT.1 hc
  have y56 := hH.1 x.toInt.toNat (htV (qI S 22 x.toInt.toNat)).toNat (by omega) yb
  have cl := hH.2.2 x (htV (qI S 22 x.toInt.toNat)).toNat hx.1 hx.2 yb (by rw [Int.toNat_of_nonneg y0]; exact yr)
  rw [Int.toNat_of_nonneg y0] at y56
  obtain ⟨l1, l2, l3⟩ := cl
  rw [Int.toNat_of_nonneg y0] at l1 l2
  obtain ⟨r1, r2, r3, r4⟩ := yr
  have tl : tkV S x ≤ htV (qI S 22 x.toInt.toNat) := by
    unfold hbV at r1
    by_cases q : tkV S x ≤ htV (qI S 22 x.toInt.toNat)
    · exact q
    · rw [if_neg q] at r1; omega
  have hb : hbV S x (htV (qI S 22 x.toInt.toNat)) = htV (qI S 22 x.toInt.toNat) - tkV S x + gvV S x := by unfold hbV; rw [if_pos tl]
  rw [hb] at r1 r2 l1 l2
  have ta := ma.2.2
  have cg := cg_wk (p := p) K T hx ⟨by omega, by omega, by omega⟩ (ma.q mb)
  have nx : ∀ (j : Int32) (y : Int) (t : Nat → Int32), (0 ≤ j.toInt ∧ j.toInt < (qI S 0 52).toInt) → 0 ≤ y → bt (qI S 22 j.toInt.toNat) y.toNat = true → cmJ S j.toInt.toNat ∧ sbR S j.toInt.toNat t → nxT S j.toInt.toNat y t := fun j y t hj hy hb2 hs => by
    obtain ⟨z0, zr, zb⟩ := hF.ht hj hT.1 hs.1
    have e := htV_one z0 hb2
    rw [Int.toNat_of_nonneg hy] at e
    refine ⟨hs.1, e, fun k hk => hs.2 z0 k (by omega)⟩
  refine ⟨a, ma, by rw [cg.2.2.1]; exact fb, ⟨by omega, by omega, by omega⟩, fun g => ?_, fun k k0 k1 => ?_, fun c k0 k1 g => ?_⟩
  · have xl : x.toInt + 1 < (qI S 0 52).toInt := by
      rcases r4 with q | q
      · exact absurd q g
      · omega
    have cn := K.cnt
    have ex : (x + (1 : Int32)).toInt = x.toInt + 1 := by rw [t_add (by rw [li_1]; omega), li_1]
    have en : x.toInt.toNat + 1 = (x + (1 : Int32)).toInt.toNat := by omega
    rw [ta]
    have b1 := l1 g
    have s1 := c1 g
    rw [en] at b1 s1 ⊢
    exact ⟨xl, nx _ _ _ ⟨by omega, by omega⟩ (by omega) b1 s1⟩
  · rw [ta]
    exact nx _ _ _ ((K.ways hx).2.2 k k0 k1).2 (by omega) (l2 k k0 k1) (c2 k k0 k1)
  · exact nx _ _ _ (K.cw ⟨k0, k1⟩).2.2.1 (by omega) (l3 c k0 k1 g) (c3 c k0 k1 g)
/-! values of types; what the checker's work leaves alone and gives (behind VmI.st) -/
def nb (t : Int32) : Int32 := vp_nar .byte t
theorem nb_nb (t : Int32) : nb (nb t) = nb t := by
  unfold nb
  rw [vp_nar_byte, vp_nar_byte]
  apply Int32.toInt_inj.mp
  rw [Int8.toInt_toInt32, Int8.toInt_toInt32, Int8.toInt8_toInt32]
theorem nb_8 (t : Int32) : vp_nar .byte (t.toInt8.toInt32) = nb t := by
  unfold nb
  rw [vp_nar_byte, vp_nar_byte, Int8.toInt8_toInt32]
/-- a value of a type, where n arrays are made -/
def okV (n : Int) (t : Int32) (v : Int64) : Prop := (t.toInt = 4 → 0 ≤ v.toInt ∧ v.toInt ≤ n) ∧ (t.toInt = 6 → v.toInt = 0) ∧ (t.toInt = 1 → -2147483648 ≤ v.toInt ∧ v.toInt ≤ 2147483647)
theorem okV.sb {n : Int} {t o : Int32} {v : Int64} (h : okV n t v) (hs : sbT t o) (hn : 0 ≤ n) : okV n o v := by
  rcases hs with q | q | ⟨q, r⟩
  · exact ⟨fun c => h.1 (by omega), fun c => h.2.1 (by omega), fun c => h.2.2 (by omega)⟩
  · exact ⟨fun c => by omega, fun c => by omega, fun c => by omega⟩
  · have := h.2.1 q
    exact ⟨fun _ => ⟨by omega, by omega⟩, fun c => by omega, fun c => by omega⟩
theorem okV.mono {n m : Int} {t : Int32} {v : Int64} (h : okV n t v) (hm : n ≤ m) : okV m t v := ⟨fun c => ⟨(h.1 c).1, by have := (h.1 c).2; omega⟩, h.2⟩
theorem okV.no {n : Int} {t : Int32} {v : Int64} (h4 : ¬ t.toInt = 4) (h6 : ¬ t.toInt = 6) (h1 : ¬ t.toInt = 1) : okV n t v := ⟨fun c => absurd c h4, fun c => absurd c h6, fun c => absurd c h1⟩
theorem sb_nb {t o : Int32} (h : sbT t o) : sbT (nb t) (nb o) := by
  rcases h with q | q | ⟨q, r⟩
  · rw [Int32.toInt_inj.mp q]
    exact Or.inl rfl
  · have e : o = 0 := Int32.toInt_inj.mp (by rw [q]; rfl)
    subst e
    exact Or.inr (Or.inl (by decide))
  · have e : t = 6 := Int32.toInt_inj.mp (by rw [q]; rfl)
    subst e
    rcases r with r | r
    · have e : o = 4 := Int32.toInt_inj.mp (by rw [r]; rfl)
      subst e
      exact Or.inr (Or.inr (by decide))
    · have e : o = 5 := Int32.toInt_inj.mp (by rw [r]; rfl)
      subst e
      exact Or.inr (Or.inr (by decide))
/-- locals sl and pile pl hold values of the types a -/
def okA (n : Int) (a : AS) (sl pl : Nat → Int64) : Prop := (∀ k : Nat, k < 24 → okV n (aL a k) (sl k)) ∧ ∀ k : Nat, (k : Int) < (aT a).toInt → okV n (aP a k) (pl k)
theorem okA.nx {S : MS} {j : Nat} {y n : Int} {t : Nat → Int32} {b : AS} {sl pl : Nat → Int64} (hn : 0 ≤ n) (h : nxT S j y t) (hb : MtA S j b) (h1 : ∀ k : Nat, k < 24 → okV n (nb (t k)) (sl k)) (h2 : ∀ k : Nat, (k : Int) < y → okV n (nb (t (24 + k))) (pl k)) (hy : 0 ≤ y) : okA n b sl pl := by
  obtain ⟨-, e, s⟩ := h
  obtain ⟨b1, b2, b3⟩ := hb
  refine ⟨fun k hk => ?_, fun k hk => ?_⟩
  · rw [b1 k hk]
    exact (h1 k hk).sb (sb_nb (s k (by omega))) hn
  · rw [b2 k (by omega)]
    rw [Nat.add_assoc]
    exact (h2 k (by omega)).sb (sb_nb (s (24 + k) (by omega))) hn
/-- the types of a place are bytes -/
theorem MtA.nb {S : MS} {x : Nat} {a : AS} (h : MtA S x a) : (∀ k : Nat, k < 24 → nb (aL a k) = aL a k) ∧ ∀ k : Nat, (k : Int) < (aT a).toInt → nb (aP a k) = aP a k := by
  obtain ⟨b1, b2, b3⟩ := h
  refine ⟨fun k hk => ?_, fun k hk => ?_⟩
  · rw [b1 k hk]; exact nb_nb _
  · rw [b2 k (by omega)]; exact nb_nb _
theorem LP_take {c : Int32} {a : AS} : aL (aTake c a) = aL a ∧ aP (aTake c a) = aP a := by
  unfold aTake
  by_cases c1 : c.toInt = 73
  · rw [if_pos c1]; exact ⟨rfl, rfl⟩
  · rw [if_neg c1]
    by_cases c2 : c.toInt = 65
    · rw [if_pos c2]; exact ⟨rfl, rfl⟩
    · rw [if_neg c2]
      by_cases c3 : c.toInt = 69
      · rw [if_pos c3]; exact ⟨rfl, rfl⟩
      · rw [if_neg c3]
        by_cases c4 : c.toInt = 82
        · rw [if_pos c4]; exact ⟨rfl, rfl⟩
        · rw [if_neg c4]; exact ⟨rfl, rfl⟩
theorem LP_takes {g : Nat → Int32} : ∀ (n : Nat) (a : AS), aL (aTakes g n a) = aL a ∧ aP (aTakes g n a) = aP a := by
  intro n
  induction n with
  | zero => intro a; exact ⟨rfl, rfl⟩
  | succ n ih =>
    intro a
    have e := LP_take (c := g n) (a := a)
    unfold aTakes
    rw [(ih _).1, (ih _).2, e.1, e.2]
    exact ⟨rfl, rfl⟩
theorem L_gives {g : Nat → Int32} {th : Int32} : ∀ (n k : Nat) (a : AS), aL (aGives g th k n a) = aL a ∧ aF (aGives g th k n a) = aF a := by
  intro n
  induction n with
  | zero => intro k a; exact ⟨rfl, rfl⟩
  | succ n ih =>
    intro k a
    unfold aGives
    rw [(ih _ _).1, (ih _ _).2]
    unfold aGive
    by_cases c : (g k).toInt = 74
    · rw [if_pos c]; exact ⟨rfl, rfl⟩
    · rw [if_neg c]; exact ⟨rfl, rfl⟩
theorem P_push {t : Int32} {a : AS} (ht : 0 ≤ (aT a).toInt) : (∀ k : Nat, (k : Int) < (aT a).toInt → aP (aPush t a) k = aP a k) ∧ aP (aPush t a) (aT a).toInt.toNat = nb t := by
  refine ⟨fun k hk => ?_, ?_⟩
  · show upd (aP a) (aT a).toInt.toNat _ k = _
    unfold upd
    rw [if_neg (by omega)]
  · show upd (aP a) (aT a).toInt.toNat _ (aT a).toInt.toNat = _
    unfold upd
    rw [if_pos rfl, nb_8]
/-- nothing that is needed fails later: fits falls only -/
theorem F_need {g : Int32} {a : AS} (h : ¬ (aF (aNeed g a)).toInt = 0) : ¬ (aF a).toInt = 0 ∧ ¬ g.toInt = 0 := by
  unfold aNeed aF at h
  refine ⟨fun q => h ?_, fun q => h ?_⟩
  · show (if (aF a).toInt = 0 then (0 : Int32) else if g.toInt = 0 then 0 else 1).toInt = 0
    rw [if_pos q]; rfl
  · show (if (aF a).toInt = 0 then (0 : Int32) else if g.toInt = 0 then 0 else 1).toInt = 0
    rw [if_pos q, ite_self]; rfl
theorem F_take {c : Int32} {a : AS} (h : ¬ (aF (aTake c a)).toInt = 0) : ¬ (aF a).toInt = 0 ∧ (c.toInt = 65 → (aTop a).toInt = 4 ∨ (aTop a).toInt = 6) ∧ (c.toInt = 73 → (aTop a).toInt = 1) := by
  unfold aTake at h
  by_cases c1 : c.toInt = 73
  · rw [if_pos c1] at h
    refine ⟨(F_need h).1, fun q => by omega, fun _ => ?_⟩
    have g := (F_need h).2
    by_cases q : (aTop a).toInt = 1
    · exact q
    · rw [if_neg q] at g; exact absurd rfl g
  · rw [if_neg c1] at h
    by_cases c2 : c.toInt = 65
    · rw [if_pos c2] at h
      refine ⟨(F_need h).1, fun _ => ?_, fun q => absurd q c1⟩
      have g := (F_need h).2
      by_cases q : (aTop a).toInt = 4
      · exact Or.inl q
      · rw [if_neg q] at g
        by_cases q2 : (aTop a).toInt = 6
        · exact Or.inr q2
        · rw [if_neg q2] at g; exact absurd rfl g
    · rw [if_neg c2] at h
      by_cases c3 : c.toInt = 69
      · rw [if_pos c3] at h
        exact ⟨(F_need h).1, fun q => by omega, fun q => absurd q c1⟩
      · rw [if_neg c3] at h
        by_cases c4 : c.toInt = 82
        · rw [if_pos c4] at h
          exact ⟨(F_need h).1, fun q => by omega, fun q => absurd q c1⟩
        · rw [if_neg c4] at h
          exact ⟨(F_need h).1, fun q => by omega, fun q => absurd q c1⟩
/-- the letters that are taken: an array is an array or null -/
theorem F_takes {g : Nat → Int32} : ∀ (n : Nat) (a : AS), (∀ i : Nat, i < n → (g i).toInt = 73 ∨ (g i).toInt = 74 ∨ (g i).toInt = 65 ∨ (g i).toInt = 69 ∨ (g i).toInt = 82) → plc g n ≤ (aT a).toInt → (aT a).toInt ≤ 28 → ¬ (aF (aTakes g n a)).toInt = 0 → ¬ (aF a).toInt = 0 ∧ ∀ i : Nat, i < n → ((g i).toInt = 65 → (aP a ((aT a).toInt - plc g n + plc g i).toNat).toInt = 4 ∨ (aP a ((aT a).toInt - plc g n + plc g i).toNat).toInt = 6) ∧ ((g i).toInt = 73 → (aP a ((aT a).toInt - plc g n + plc g i).toNat).toInt = 1) := by
  intro n
  induction n with
  | zero => intro a _ _ _ h; exact ⟨h, fun i hi => by omega⟩
  | succ n ih =>
    intro a hl hp ht h
    have p0 := plc_ge (g := g) n
    have pk : plc g (n + 1) = plc g n + if (g n).toInt = 74 then 2 else 1 := rfl
    rw [pk] at hp ⊢
    have z01 : 1 ≤ (if (g n).toInt = 74 then (2 : Int) else 1) := by split <;> omega
    have h1 : 1 ≤ (aT a).toInt := by omega
    have e := t_take (c := g n) ⟨h1, ht⟩ (hl n (by omega))
    unfold aTakes at h
    obtain ⟨f1, f2⟩ := ih (aTake (g n) a) (fun i hi => hl i (by omega)) (by omega) (by omega) h
    obtain ⟨k1, k2⟩ := F_take f1
    refine ⟨k1, fun i hi => ?_⟩
    by_cases w : i = n
    · subst w
      have e' : (aT a - (1 : Int32)).toInt = (aT a).toInt - 1 := by rw [t_sub (by rw [li_1]; omega), li_1]
      have k2' := k2.1
      have k3' := k2.2
      unfold aTop at k2' k3'
      rw [e'] at k2' k3'
      refine ⟨fun q => ?_, fun q => ?_⟩
      · rw [if_neg (show ¬ (g i).toInt = 74 by omega), show (aT a).toInt - (plc g i + 1) + plc g i = (aT a).toInt - 1 by omega]
        exact k2' q
      · rw [if_neg (show ¬ (g i).toInt = 74 by omega), show (aT a).toInt - (plc g i + 1) + plc g i = (aT a).toInt - 1 by omega]
        exact k3' q
    · have t := f2 i (by omega)
      rw [(LP_take (c := g n) (a := a)).2, e] at t
      rw [show (aT a).toInt - (plc g n + (if (g n).toInt = 74 then 2 else 1)) + plc g i = (aT a).toInt - (if (g n).toInt = 74 then 2 else 1) - plc g n + plc g i by omega]
      exact t
/-! the work of an instruction that is no move, taken apart (behind F_takes, cg_wk) -/
def ltT (c th : Int32) : Int32 := if c.toInt = 74 then 2 else if c.toInt = 73 then 1 else if c.toInt = 65 then 4 else if c.toInt = 78 then 6 else th
theorem P_gives {g : Nat → Int32} {th : Int32} : ∀ (n k : Nat) (a : AS), 0 ≤ (aT a).toInt → (aT a).toInt + (plc g (k + n) - plc g k) ≤ 28 → (aT (aGives g th k n a)).toInt = (aT a).toInt + (plc g (k + n) - plc g k) ∧ (∀ i : Nat, (i : Int) < (aT a).toInt → aP (aGives g th k n a) i = aP a i) ∧ ∀ i : Nat, i < n → aP (aGives g th k n a) ((aT a).toInt + (plc g (k + i) - plc g k)).toNat = nb (ltT (g (k + i)) th) ∧ ((g (k + i)).toInt = 74 → aP (aGives g th k n a) ((aT a).toInt + (plc g (k + i) - plc g k) + 1).toNat = nb 3) := by
  intro n
  induction n with
  | zero =>
    intro k a _ _
    refine ⟨?_, fun _ _ => rfl, fun i hi => by omega⟩
    rw [Nat.add_zero]
    show (aT a).toInt = _
    omega
  | succ n ih =>
    intro k a h0 hp
    have up : ∀ (d m : Nat), plc g m ≤ plc g (m + d) := by
      intro d
      induction d with
      | zero => intro m; exact Int.le_refl _
      | succ d ih2 =>
        intro m
        have := ih2 m
        have e9 : plc g (m + (d + 1)) = plc g (m + d) + if (g (m + d)).toInt = 74 then 2 else 1 := rfl
        rw [e9]
        split <;> omega
    have u1 := up n (k + 1)
    have pk : plc g (k + 1) = plc g k + if (g k).toInt = 74 then 2 else 1 := rfl
    have ex : k + (n + 1) = k + 1 + n := by omega
    rw [ex] at hp ⊢
    have eg : aGives g th k (n + 1) a = aGives g th (k + 1) n (aGive (g k) th a) := rfl
    rw [eg]
    -- one letter
    have one : (aT (aGive (g k) th a)).toInt = (aT a).toInt + (plc g (k + 1) - plc g k) ∧ (∀ i : Nat, (i : Int) < (aT a).toInt → aP (aGive (g k) th a) i = aP a i) ∧ aP (aGive (g k) th a) (aT a).toInt.toNat = nb (ltT (g k) th) ∧ ((g k).toInt = 74 → aP (aGive (g k) th a) ((aT a).toInt + 1).toNat = nb 3) := by
      by_cases w : (g k).toInt = 74
      · rw [if_pos w] at pk
        have t1 := t_push (t := 2) (a := a) ⟨by omega, by omega⟩
        have t2 := t_push (t := 3) (a := aPush 2 a) ⟨by omega, by omega⟩
        obtain ⟨a1, a2⟩ := P_push (t := 2) (a := a) h0
        obtain ⟨b1, b2⟩ := P_push (t := 3) (a := aPush 2 a) (by omega)
        unfold aGive ltT
        rw [if_pos w, if_pos w]
        refine ⟨by omega, fun i hi => by rw [b1 i (by omega), a1 i hi], by rw [b1 _ (by omega), a2], fun _ => by rw [← t1]; exact b2⟩
      · rw [if_neg w] at pk
        have el : (if (g k).toInt = 73 then (1 : Int32) else if (g k).toInt = 65 then 4 else if (g k).toInt = 78 then 6 else th) = ltT (g k) th := by unfold ltT; rw [if_neg w]
        unfold aGive
        rw [if_neg w, el]
        have t1 := t_push (t := ltT (g k) th) (a := a) ⟨by omega, by omega⟩
        obtain ⟨a1, a2⟩ := P_push (t := ltT (g k) th) (a := a) h0
        exact ⟨by omega, a1, a2, fun q => absurd q w⟩
    obtain ⟨o1, o2, o3, o4⟩ := one
    have uk : plc g k + 1 ≤ plc g (k + 1) := by rw [pk]; split <;> omega
    obtain ⟨i1, i2, i3⟩ := ih (k + 1) (aGive (g k) th a) (by omega) (by omega)
    refine ⟨by omega, fun i hi => by rw [i2 i (by omega), o2 i hi], fun i hi => ?_⟩
    by_cases z : i = 0
    · subst z
      simp only [Nat.add_zero, Int.sub_self, Int.add_zero]
      refine ⟨by rw [i2 _ (by omega), o3], fun q => ?_⟩
      rw [if_pos q] at pk
      rw [i2 _ (by omega), o4 q]
    · obtain ⟨j, rfl⟩ : ∃ j : Nat, i = j + 1 := ⟨i - 1, by omega⟩
      have := i3 j (by omega)
      rw [o1] at this
      rw [show k + (j + 1) = k + 1 + j by omega, show (aT a).toInt + (plc g (k + 1 + j) - plc g k) = (aT a).toInt + (plc g (k + 1) - plc g k) + (plc g (k + 1 + j) - plc g (k + 1)) by omega]
      exact this
theorem L_ite {c : Prop} [Decidable c] {u v u' v' : AS} (h1 : aL u = aL u') (h2 : aL v = aL v') : aL (if c then u else v) = aL (if c then u' else v') := by
  by_cases z : c
  · rw [if_pos z, if_pos z]; exact h1
  · rw [if_neg z, if_neg z]; exact h2
theorem L_set {k : Nat} {t : Int32} {a b : AS} (h : aL a = aL b) : aL (aSet k t a) = aL (aSet k t b) := by
  show upd (aL a) k _ = upd (aL b) k _
  rw [h]
theorem L_store {a b : AS} {op k th : Int32} (h : aL a = aL b) : aL (aStore op k th a) = aL (aStore op k th b) := by
  unfold aStore
  simp only
  have s1 : aL (if k.toInt ≤ 0 then a else if (aL a (k - 1).toInt.toNat).toInt = 2 then aSet (k - 1).toInt.toNat 0 a else a) = aL (if k.toInt ≤ 0 then b else if (aL b (k - 1).toInt.toNat).toInt = 2 then aSet (k - 1).toInt.toNat 0 b else b) := by
    rw [h]
    exact L_ite h (L_ite (L_set h) h)
  revert s1
  generalize (if k.toInt ≤ 0 then a else if (aL a (k - 1).toInt.toNat).toInt = 2 then aSet (k - 1).toInt.toNat 0 a else a) = a1
  generalize (if k.toInt ≤ 0 then b else if (aL b (k - 1).toInt.toNat).toInt = 2 then aSet (k - 1).toInt.toNat 0 b else b) = b1
  intro s1
  rw [s1]
  exact L_ite (L_set (L_set (L_ite s1 (L_ite (L_set s1) s1)))) (L_set (L_ite s1 (L_ite (L_set s1) s1)))
theorem PTF_store {a : AS} {op k th : Int32} : aP (aStore op k th a) = aP a ∧ aT (aStore op k th a) = aT a ∧ aF (aStore op k th a) = aF a := by
  unfold aStore
  simp only
  repeat' split
  all_goals exact ⟨rfl, rfl, rfl⟩
theorem set_k {a : AS} {k j : Nat} {t : Int32} : aL (aSet k t a) j = if j = k then nb t else aL a j := by
  show upd (aL a) k _ j = _
  unfold upd
  rw [nb_8]
/-- behind a store: its place has the new type, any other its own or none or the high half -/
theorem k_store {a : AS} {op k th : Int32} (hk : 0 ≤ k.toInt ∧ k.toInt < 24) : aL (aStore op k th a) k.toInt.toNat = nb (if op.toInt = 54 then 1 else if op.toInt = 55 then 2 else th) ∧ ∀ j : Nat, j ≠ k.toInt.toNat → aL (aStore op k th a) j = aL a j ∨ aL (aStore op k th a) j = 0 ∨ aL (aStore op k th a) j = 3 := by
  have e2 : (k + (1 : Int32)).toInt = k.toInt + 1 := by rw [t_add (by rw [li_1]; omega), li_1]
  have n0 : nb 0 = 0 := by decide
  have n3 : nb 3 = 3 := by decide
  unfold aStore
  simp only
  generalize (if op.toInt = 55 then (2 : Int32) else 1) = n
  generalize (if op.toInt = 54 then (1 : Int32) else if op.toInt = 55 then 2 else th) = t
  have s1 : ∀ j : Nat, aL (if k.toInt ≤ 0 then a else if (aL a (k - 1).toInt.toNat).toInt = 2 then aSet (k - 1).toInt.toNat 0 a else a) j = aL a j ∨ aL (if k.toInt ≤ 0 then a else if (aL a (k - 1).toInt.toNat).toInt = 2 then aSet (k - 1).toInt.toNat 0 a else a) j = 0 := fun j => by
    by_cases z : k.toInt ≤ 0
    · rw [if_pos z]; exact Or.inl rfl
    · rw [if_neg z]
      by_cases z2 : (aL a (k - 1).toInt.toNat).toInt = 2
      · rw [if_pos z2, set_k]
        by_cases z3 : j = (k - 1).toInt.toNat
        · rw [if_pos z3]; exact Or.inr n0
        · rw [if_neg z3]; exact Or.inl rfl
      · rw [if_neg z2]; exact Or.inl rfl
  revert s1
  generalize (if k.toInt ≤ 0 then a else if (aL a (k - 1).toInt.toNat).toInt = 2 then aSet (k - 1).toInt.toNat 0 a else a) = a1
  intro s1
  have s2 : ∀ j : Nat, aL (if 24 ≤ (k + n).toInt then a1 else if (aL a1 (k + n).toInt.toNat).toInt = 3 then aSet (k + n).toInt.toNat 0 a1 else a1) j = aL a j ∨ aL (if 24 ≤ (k + n).toInt then a1 else if (aL a1 (k + n).toInt.toNat).toInt = 3 then aSet (k + n).toInt.toNat 0 a1 else a1) j = 0 := fun j => by
    by_cases z : 24 ≤ (k + n).toInt
    · rw [if_pos z]; exact s1 j
    · rw [if_neg z]
      by_cases z2 : (aL a1 (k + n).toInt.toNat).toInt = 3
      · rw [if_pos z2, set_k]
        by_cases z3 : j = (k + n).toInt.toNat
        · rw [if_pos z3]; exact Or.inr n0
        · rw [if_neg z3]; exact s1 j
      · rw [if_neg z2]; exact s1 j
  revert s2
  generalize (if 24 ≤ (k + n).toInt then a1 else if (aL a1 (k + n).toInt.toNat).toInt = 3 then aSet (k + n).toInt.toNat 0 a1 else a1) = a2
  intro s2
  have s3 : aL (aSet k.toInt.toNat t a2) k.toInt.toNat = nb t ∧ ∀ j : Nat, j ≠ k.toInt.toNat → aL (aSet k.toInt.toNat t a2) j = aL a j ∨ aL (aSet k.toInt.toNat t a2) j = 0 := by
    refine ⟨by rw [set_k, if_pos rfl], fun j hj => ?_⟩
    rw [set_k, if_neg hj]
    exact s2 j
  by_cases z : n.toInt = 2
  · rw [if_pos z]
    refine ⟨by rw [set_k, if_neg (by omega)]; exact s3.1, fun j hj => ?_⟩
    rw [set_k]
    by_cases z3 : j = (k + 1).toInt.toNat
    · rw [if_pos z3]; exact Or.inr (Or.inr n3)
    · rw [if_neg z3]
      rcases s3.2 j hj with q | q
      · exact Or.inl q
      · exact Or.inr (Or.inl q)
  · rw [if_neg z]
    refine ⟨s3.1, fun j hj => ?_⟩
    rcases s3.2 j hj with q | q
    · exact Or.inl q
    · exact Or.inr (Or.inl q)
/-! values behind the work of an instruction that is no move (behind k_store, P_gives, F_takes) -/
noncomputable def thV (S : MS) (x : Int32) (a : AS) : Int32 := if (isTh (if (f_op S x).toInt = 25 then aL a (f_first S x).toInt.toNat else if (f_op S x).toInt = 58 then aTop a else 0)).toInt = 0 then 0 else (if (f_op S x).toInt = 25 then aL a (f_first S x).toInt.toNat else if (f_op S x).toInt = 58 then aTop a else 0)
def isSt (op : Int32) : Prop := op.toInt = 54 ∨ op.toInt = 55 ∨ op.toInt = 58
theorem mv_iff {S : MS} {o : Int32} : 0 < (f_moved S o).toInt ↔ (o.toInt = 87 ∨ o.toInt = 88 ∨ o.toInt = 89 ∨ o.toInt = 90 ∨ o.toInt = 92 ∨ o.toInt = 95) := by
  unfold f_moved f_moved_J12 f_moved_J40
  by_cases z1 : o.toInt = 87
  · rw [if_pos z1]; simp [z1]
  · rw [if_neg z1]
    by_cases z2 : o.toInt = 89
    · rw [if_pos z2]; simp [z2]
    · rw [if_neg z2]
      by_cases z3 : o.toInt = 88
      · rw [if_pos z3]; simp [z3]
      · rw [if_neg z3]
        by_cases z4 : o.toInt = 90
        · rw [if_pos z4]; simp [z4]
        · rw [if_neg z4]
          by_cases z5 : o.toInt = 92
          · rw [if_pos z5]; simp [z5]
          · rw [if_neg z5]
            by_cases z6 : o.toInt = 95
            · rw [if_pos z6]; simp [z6]
            · rw [if_neg z6]; simp [z1, z2, z3, z4, z5, z6]
theorem F_w2 {op fst rm : Int32} {a : AS} (h : ¬ (aF (aW2 op fst rm a)).toInt = 0) : ¬ (aF a).toInt = 0 ∧ ((op.toInt = 172 ∨ op.toInt = 173 ∨ op.toInt = 176 ∨ op.toInt = 177) → ¬ rm.toInt = 0) ∧ (op.toInt = 21 ∨ op.toInt = 132 → (aL a fst.toInt.toNat).toInt = 1) := by
  unfold aW2 at h
  simp only at h
  have st : ∀ (c : Prop) [Decidable c] (g : Int32) (u : AS), ¬ (aF (if c then aNeed g u else u)).toInt = 0 → ¬ (aF u).toInt = 0 ∧ (c → ¬ g.toInt = 0) := fun c _ g u hu => by
    by_cases z : c
    · rw [if_pos z] at hu
      exact ⟨(F_need hu).1, fun _ => (F_need hu).2⟩
    · rw [if_neg z] at hu
      exact ⟨hu, fun q => absurd q z⟩
  obtain ⟨h1, h2⟩ := st _ _ _ h
  have h3 := st _ _ _ (st _ _ _ h1).1
  refine ⟨h3.1, h2, fun q => ?_⟩
  have g := h3.2 q
  by_cases z : (aL a fst.toInt.toNat).toInt = 1
  · exact z
  · rw [if_neg z] at g; exact absurd rfl g
theorem R_ite {c : Prop} [Decidable c] {u v : AS} {R : AS → Prop} (h1 : R u) (h2 : R v) : R (if c then u else v) := by
  by_cases z : c
  · rw [if_pos z]; exact h1
  · rw [if_neg z]; exact h2
theorem wk_dec {S : MS} {a : AS} {x : Int32} {p : Nat} (h : LkI S) (ht : TxI S) (hx : 0 ≤ x.toInt ∧ x.toInt < (qI S 0 52).toInt) (hT : tkV S x ≤ (aT a).toInt ∧ (aT a).toInt ≤ 24 ∧ (aT a).toInt - tkV S x + gvV S x ≤ 28) (hm : ¬ 0 < (f_moved S (f_op S x)).toInt) : ∃ b : AS, wkV S x p a = aGives (qI S (f_givesOf S x + 1)) (thV S x a) 0 (qN S (f_givesOf S x + 1)) b ∧ aP b = aP a ∧ (aT b).toInt = (aT a).toInt - tkV S x ∧ (¬ isSt (f_op S x) → aL b = aL a) ∧ (isSt (f_op S x) → aL b = aL (aStore (f_op S x) (f_first S x) (thV S x a) a)) ∧ (¬ (aF (wkV S x p a)).toInt = 0 → (((f_op S x).toInt = 172 ∨ (f_op S x).toInt = 173 ∨ (f_op S x).toInt = 176 ∨ (f_op S x).toInt = 177) → ¬ (rmV S (f_op S x) p).toInt = 0) ∧ ((f_op S x).toInt = 21 ∨ (f_op S x).toInt = 132 → (aL a (f_first S x).toInt.toNat).toInt = 1) ∧ ∀ i : Nat, i < qN S (f_takesOf S x + 1) → ((qI S (f_takesOf S x + 1) i).toInt = 65 → (aP a ((aT a).toInt - tkV S x + plc (qI S (f_takesOf S x + 1)) i).toNat).toInt = 4 ∨ (aP a ((aT a).toInt - tkV S x + plc (qI S (f_takesOf S x + 1)) i).toNat).toInt = 6) ∧ ((qI S (f_takesOf S x + 1) i).toInt = 73 → (aP a ((aT a).toInt - tkV S x + plc (qI S (f_takesOf S x + 1)) i).toNat).toInt = 1)) := by
  have tk := h.tk hx ht
  obtain ⟨k1, k2, k3, k4, k5⟩ := tk
  have o : ¬ ((f_op S x).toInt = 87 ∨ (f_op S x).toInt = 88 ∨ (f_op S x).toInt = 89 ∨ (f_op S x).toInt = 90 ∨ (f_op S x).toInt = 92 ∨ (f_op S x).toInt = 95) := fun q => hm (mv_iff.mpr q)
  have eT : tkV S x = plc (qI S (f_takesOf S x + 1)) (qN S (f_takesOf S x + 1)) := by unfold tkV; rw [if_neg hm]; rfl
  unfold wkV aWork
  simp only
  rw [if_neg o]
  have eth : (if (isTh (if (f_op S x).toInt = 25 then aL (aL a, aP a, aT a, 1) (f_first S x).toInt.toNat else if (f_op S x).toInt = 58 then aTop (aL a, aP a, aT a, 1) else 0)).toInt = 0 then 0 else (if (f_op S x).toInt = 25 then aL (aL a, aP a, aT a, 1) (f_first S x).toInt.toNat else if (f_op S x).toInt = 58 then aTop (aL a, aP a, aT a, 1) else 0)) = thV S x a := rfl
  rw [eth]
  generalize (if (f_op S x).toInt = 25 then aL (aL a, aP a, aT a, 1) (f_first S x).toInt.toNat else if (f_op S x).toInt = 58 then aTop (aL a, aP a, aT a, 1) else 0) = th1
  generalize thV S x a = th
  obtain ⟨l2, p2, t2⟩ : aL (if (f_op S x).toInt = 25 then aNeed (isTh th1) (aL a, aP a, aT a, 1) else (aL a, aP a, aT a, 1)) = aL a ∧ aP (if (f_op S x).toInt = 25 then aNeed (isTh th1) (aL a, aP a, aT a, 1) else (aL a, aP a, aT a, 1)) = aP a ∧ aT (if (f_op S x).toInt = 25 then aNeed (isTh th1) (aL a, aP a, aT a, 1) else (aL a, aP a, aT a, 1)) = aT a := R_ite (R := fun u => aL u = aL a ∧ aP u = aP a ∧ aT u = aT a) ⟨rfl, rfl, rfl⟩ ⟨rfl, rfl, rfl⟩
  revert l2 p2 t2
  generalize (if (f_op S x).toInt = 25 then aNeed (isTh th1) (aL a, aP a, aT a, 1) else (aL a, aP a, aT a, 1)) = a2
  intro l2 p2 t2
  have w2 := aT_W2 (op := f_op S x) (fst := f_first S x) (rm := rmV S (f_op S x) p) (a := a2)
  have f2 := fun q => F_w2 (op := f_op S x) (fst := f_first S x) (rm := rmV S (f_op S x) p) (a := a2) q
  revert w2 f2
  generalize aW2 (f_op S x) (f_first S x) (rmV S (f_op S x) p) a2 = a3
  intro w2 f2
  obtain ⟨t3, l3, p3⟩ := w2
  rw [t2] at t3
  rw [l2] at l3
  rw [p2] at p3
  have pT : plc (qI S (f_takesOf S x + 1)) (qN S (f_takesOf S x + 1)) ≤ (aT a3).toInt := by rw [t3, ← eT]; exact hT.1
  have LP := LP_takes (g := qI S (f_takesOf S x + 1)) (qN S (f_takesOf S x + 1)) a3
  have t4 := t_takes (g := qI S (f_takesOf S x + 1)) (qN S (f_takesOf S x + 1)) a3 k3 pT (by rw [t3]; omega)
  have f4 := F_takes (g := qI S (f_takesOf S x + 1)) (qN S (f_takesOf S x + 1)) a3 k3 pT (by rw [t3]; omega)
  rw [p3, t3, ← eT] at f4
  rw [t3, ← eT] at t4
  rw [l3, p3] at LP
  unfold aW1
  revert LP t4 f4
  generalize aTakes (qI S (f_takesOf S x + 1)) (qN S (f_takesOf S x + 1)) a3 = a4
  intro LP t4 f4
  have ps := PTF_store (a := a4) (op := f_op S x) (k := f_first S x) (th := th)
  by_cases z : (f_op S x).toInt = 54 ∨ (f_op S x).toInt = 55 ∨ (f_op S x).toInt = 58
  · rw [if_pos z]
    refine ⟨_, rfl, by rw [ps.1, LP.2], by rw [ps.2.1]; exact t4, fun q => absurd z q, fun _ => L_store LP.1, fun q => ?_⟩
    rw [(L_gives _ _ _).2, ps.2.2] at q
    have z2 := (f2 (f4 q).1).2
    rw [l2] at z2
    exact ⟨z2.1, z2.2, (f4 q).2⟩
  · rw [if_neg z]
    refine ⟨_, rfl, LP.2, t4, fun _ => LP.1, fun q => absurd q z, fun q => ?_⟩
    rw [(L_gives _ _ _).2] at q
    have z2 := (f2 (f4 q).1).2
    rw [l2] at z2
    exact ⟨z2.1, z2.2, (f4 q).2⟩
/-! values behind the work, no move (behind wk_dec, okA.nx) -/
theorem plc_at {g : Nat → Int32} : ∀ (n k : Nat), (k : Int) < plc g n → ∃ i : Nat, i < n ∧ ((k : Int) = plc g i ∨ ((g i).toInt = 74 ∧ (k : Int) = plc g i + 1)) := by
  intro n
  induction n with
  | zero => intro k hk; have e : plc g 0 = 0 := rfl; omega
  | succ n ih =>
    intro k hk
    have pk : plc g (n + 1) = plc g n + if (g n).toInt = 74 then 2 else 1 := rfl
    by_cases c : (k : Int) < plc g n
    · obtain ⟨i, hi, q⟩ := ih k c
      exact ⟨i, by omega, q⟩
    · refine ⟨n, by omega, ?_⟩
      by_cases w : (g n).toInt = 74
      · rw [if_pos w] at pk
        by_cases z : (k : Int) = plc g n
        · exact Or.inl z
        · exact Or.inr ⟨w, by omega⟩
      · rw [if_neg w] at pk
        exact Or.inl (by omega)
theorem tk_58 {S : MS} {x : Int32} (ht : TxI S) (q : (f_op S x).toInt = 58) : 1 ≤ tkV S x := by
  have mv : ¬ 0 < (f_moved S (f_op S x)).toInt := fun z => by have := mv_iff.mp z; omega
  have e5 : tkV S x = plS S (f_takesOf S x) := by unfold tkV; rw [if_neg mv]
  have ft : f_takesOf S x = 10000024 := by
    unfold f_takesOf f_takesOf_J18 f_takesOf_J47 f_takesOf_J75 f_takesOf_J93 f_takesOf_J111
    rw [if_pos (by omega), if_pos (by omega), if_pos (by omega), if_pos (by omega), if_pos (by omega), if_neg (by omega), if_neg (by omega), if_neg (by omega), if_pos q]
  have n1 : qN S (10000024 + 1) = 1 := (ht 12 (by decide)).2.1
  have g1 := plc_ge (g := qI S (10000024 + 1)) 1
  rw [ft] at e5
  unfold plS at e5
  rw [n1] at e5
  omega
theorem okV.z {n : Int} {v : Int64} : okV n (nb 0) v ∧ okV n (nb 2) v ∧ okV n (nb 3) v := ⟨okV.no (by decide) (by decide) (by decide), okV.no (by decide) (by decide) (by decide), okV.no (by decide) (by decide) (by decide)⟩
theorem okV.i {n : Int} {v : Int64} (h : -2147483648 ≤ v.toInt ∧ v.toInt ≤ 2147483647) : okV n (nb 1) v := ⟨fun z => absurd z (by decide), fun z => absurd z (by decide), fun _ => h⟩
theorem wk_val {S : MS} {a : AS} {x : Int32} {p : Nat} {n n' : Int} {sl pl sl' pl' : Nat → Int64} (h : LkI S) (ht : TxI S) (hx : 0 ≤ x.toInt ∧ x.toInt < (qI S 0 52).toInt) (hT : tkV S x ≤ (aT a).toInt ∧ (aT a).toInt ≤ 24 ∧ (aT a).toInt - tkV S x + gvV S x ≤ 28) (hm : ¬ 0 < (f_moved S (f_op S x)).toInt) (hn : n ≤ n') (hA : okA n a sl pl) (hb : (∀ k : Nat, k < 24 → nb (aL a k) = aL a k) ∧ ∀ k : Nat, (k : Int) < (aT a).toInt → nb (aP a k) = aP a k)
    (s1 : ∀ k : Nat, k < 24 → (isSt (f_op S x) ∨ (f_op S x).toInt = 132 → k ≠ (f_first S x).toInt.toNat) → sl' k = sl k) (s5 : (f_op S x).toInt = 54 → -2147483648 ≤ (sl' (f_first S x).toInt.toNat).toInt ∧ (sl' (f_first S x).toInt.toNat).toInt ≤ 2147483647) (s6 : (f_op S x).toInt = 132 → (aL a (f_first S x).toInt.toNat).toInt = 1 ∧ -2147483648 ≤ (sl' (f_first S x).toInt.toNat).toInt ∧ (sl' (f_first S x).toInt.toNat).toInt ≤ 2147483647) (s2 : (f_op S x).toInt = 58 → sl' (f_first S x).toInt.toNat = pl ((aT a).toInt - 1).toNat) (s3 : ∀ k : Nat, (k : Int) < (aT a).toInt - tkV S x → pl' k = pl k)
    (s4 : ∀ i : Nat, i < qN S (f_givesOf S x + 1) → ∀ v : Int64, v = pl' ((aT a).toInt - tkV S x + plc (qI S (f_givesOf S x + 1)) i).toNat → ((qI S (f_givesOf S x + 1) i).toInt = 65 → 0 ≤ v.toInt ∧ v.toInt ≤ n') ∧ ((qI S (f_givesOf S x + 1) i).toInt = 78 → v.toInt = 0) ∧ ((qI S (f_givesOf S x + 1) i).toInt = 82 → okV n' (nb (thV S x a)) v) ∧ ((qI S (f_givesOf S x + 1) i).toInt = 73 → -2147483648 ≤ v.toInt ∧ v.toInt ≤ 2147483647)) :
    (∀ k : Nat, k < 24 → okV n' (nb (wkT S x p a k)) (sl' k)) ∧ ∀ k : Nat, (k : Int) < (aT a).toInt - tkV S x + gvV S x → okV n' (nb (wkT S x p a (24 + k))) (pl' k) := by
  obtain ⟨b, e, bP, bT, bL1, bL2, -⟩ := wk_dec (p := p) h ht hx hT hm
  have tk0 : 0 ≤ tkV S x := by
    have q := (h.tk hx ht).2.2.2.1
    unfold tkV
    rw [if_neg hm]
    exact q
  have gv := h.gv hx ht
  obtain ⟨g1, g2, g3, g4, g5⟩ := gv
  have eG : gvV S x = plc (qI S (f_givesOf S x + 1)) (qN S (f_givesOf S x + 1)) := by unfold gvV; rw [if_neg hm]; rfl
  have z0 : plc (qI S (f_givesOf S x + 1)) 0 = 0 := rfl
  obtain ⟨u1, u2, u3⟩ := P_gives (g := qI S (f_givesOf S x + 1)) (th := thV S x a) (qN S (f_givesOf S x + 1)) 0 b (by omega) (by rw [Nat.zero_add, ← eG, z0]; omega)
  have uL := (L_gives (g := qI S (f_givesOf S x + 1)) (th := thV S x a) (qN S (f_givesOf S x + 1)) 0 b).1
  rw [← e] at u1 u2 u3 uL
  obtain ⟨L, F, M, ts, la, lb, rv, -, -⟩ := h.rv hx
  obtain ⟨v1, v2, v3, v4, v5, v6, v7⟩ := rv
  refine ⟨fun k hk => ?_, fun k hk => ?_⟩
  · have ew : wkT S x p a k = aL b k := by unfold wkT; rw [if_pos hk, uL]
    rw [ew]
    have same : (isSt (f_op S x) ∨ (f_op S x).toInt = 132 → k ≠ (f_first S x).toInt.toNat) → okV n' (nb (aL a k)) (sl' k) := fun q => by
      rw [s1 k hk q, hb.1 k hk]
      exact (hA.1 k hk).mono hn
    by_cases st : isSt (f_op S x)
    · rw [bL2 st]
      have hf : 0 ≤ (f_first S x).toInt ∧ (f_first S x).toInt < 24 := by
        unfold isSt at st
        by_cases z : (f_op S x).toInt = 55
        · have := v5 (Or.inr z); omega
        · have := v4 (by omega); omega
      obtain ⟨k1, k2⟩ := k_store (a := a) (op := f_op S x) (k := f_first S x) (th := thV S x a) hf
      by_cases ek : k = (f_first S x).toInt.toNat
      · subst ek
        rw [k1, nb_nb]
        by_cases c4 : (f_op S x).toInt = 54
        · rw [if_pos c4]; exact okV.i (s5 c4)
        · rw [if_neg c4]
          by_cases c5 : (f_op S x).toInt = 55
          · rw [if_pos c5]; exact okV.z.2.1
          · rw [if_neg c5]
            have c8 : (f_op S x).toInt = 58 := by unfold isSt at st; omega
            have t1 := tk_58 ht c8
            rw [s2 c8]
            unfold thV
            simp only [if_neg (show ¬ (f_op S x).toInt = 25 by omega), if_pos c8]
            by_cases i : (isTh (aTop a)).toInt = 0
            · rw [if_pos i]; exact okV.z.1
            · rw [if_neg i]
              have et : aTop a = aP a ((aT a).toInt - 1).toNat := by
                unfold aTop
                rw [show (aT a - (1 : Int32)).toInt = (aT a).toInt - 1 by rw [t_sub (by rw [li_1]; omega), li_1]]
              rw [et, hb.2 _ (by omega)]
              exact (hA.2 _ (by omega)).mono hn
      · rcases k2 k ek with q | q | q
        · rw [q]; exact same (fun _ => ek)
        · rw [q]; exact okV.z.1
        · rw [q]; exact okV.z.2.2
    · rw [bL1 st]
      by_cases g : (f_op S x).toInt = 132 ∧ k = (f_first S x).toInt.toNat
      · obtain ⟨g1, g2⟩ := g
        subst g2
        have z := s6 g1
        rw [hb.1 _ hk]
        exact ⟨fun q => by omega, fun q => by omega, fun _ => z.2⟩
      · exact same (fun q e => q.elim st (fun q => g ⟨q, e⟩))
  · have ew : wkT S x p a (24 + k) = aP (wkV S x p a) k := by
      unfold wkT
      rw [if_neg (by omega), show 24 + k - 24 = k by omega]
    rw [ew]
    by_cases low : (k : Int) < (aT a).toInt - tkV S x
    · rw [u2 k (by omega), bP, s3 k low, hb.2 k (by omega)]
      exact (hA.2 k (by omega)).mono hn
    · obtain ⟨j, ej⟩ : ∃ j : Nat, (k : Int) = (aT a).toInt - tkV S x + j := ⟨(k - ((aT a).toInt - tkV S x)).toNat, by omega⟩
      obtain ⟨i, hi, q⟩ := plc_at (g := qI S (f_givesOf S x + 1)) (qN S (f_givesOf S x + 1)) j (by omega)
      have w := u3 i hi
      rw [Nat.zero_add, z0, bT, Int.sub_zero] at w
      rcases q with q | ⟨q7, q⟩
      · have ek : ((aT a).toInt - tkV S x + plc (qI S (f_givesOf S x + 1)) i).toNat = k := by omega
        have c := s4 i hi (pl' k) (by rw [ek])
        rw [ek] at w
        rw [w.1, nb_nb]
        unfold ltT
        by_cases c1 : (qI S (f_givesOf S x + 1) i).toInt = 74
        · rw [if_pos c1]; exact okV.z.2.1
        · rw [if_neg c1]
          by_cases c2 : (qI S (f_givesOf S x + 1) i).toInt = 73
          · rw [if_pos c2]; exact okV.i (c.2.2.2 c2)
          · rw [if_neg c2]
            by_cases c3 : (qI S (f_givesOf S x + 1) i).toInt = 65
            · rw [if_pos c3]
              exact ⟨fun _ => c.1 c3, fun z => absurd z (by decide), fun z => absurd z (by decide)⟩
            · rw [if_neg c3]
              by_cases c4 : (qI S (f_givesOf S x + 1) i).toInt = 78
              · rw [if_pos c4]
                exact ⟨fun z => absurd z (by decide), fun _ => c.2.1 c4, fun z => absurd z (by decide)⟩
              · rw [if_neg c4]
                exact c.2.2.1 (by have := g3 i hi; omega)
      · have ek : ((aT a).toInt - tkV S x + plc (qI S (f_givesOf S x + 1)) i + 1).toNat = k := by omega
        have w2 := w.2 q7
        rw [ek] at w2
        rw [w2, nb_nb]
        exact okV.z.2.2
/-! values behind a move (behind wk_val) -/
def okP (n : Int) (b : AS) (pl : Nat → Int64) : Prop := ∀ k : Nat, (k : Int) < (aT b).toInt → okV n (nb (aP b k)) (pl k)
theorem okP.push {n : Int} {b : AS} {t : Int32} {pl : Nat → Int64} (h : okP n b pl) (ht : 0 ≤ (aT b).toInt ∧ (aT b).toInt < 28) (hv : okV n (nb t) (pl (aT b).toInt.toNat)) : okP n (aPush t b) pl := by
  intro k hk
  rw [t_push ht] at hk
  obtain ⟨p1, p2⟩ := P_push (t := t) (a := b) ht.1
  by_cases c : k = (aT b).toInt.toNat
  · subst c
    rw [p2, nb_nb]
    exact hv
  · rw [p1 k (by omega)]
    exact h k (by omega)
/-- what a move does to the pile -/
def mvP (op : Int32) (T : Int) (pl pl' : Nat → Int64) : Prop := (op.toInt = 87 → ∀ k : Nat, (k : Int) < T - 1 → pl' k = pl k) ∧ (op.toInt = 88 → ∀ k : Nat, (k : Int) < T - 2 → pl' k = pl k) ∧ (op.toInt = 89 → (∀ k : Nat, (k : Int) < T → pl' k = pl k) ∧ pl' T.toNat = pl (T - 1).toNat) ∧ (op.toInt = 90 → (∀ k : Nat, (k : Int) < T - 2 → pl' k = pl k) ∧ pl' (T - 2).toNat = pl (T - 1).toNat ∧ pl' (T - 1).toNat = pl (T - 2).toNat ∧ pl' T.toNat = pl (T - 1).toNat) ∧ (op.toInt = 92 → (∀ k : Nat, (k : Int) < T → pl' k = pl k) ∧ pl' T.toNat = pl (T - 2).toNat ∧ pl' (T + 1).toNat = pl (T - 1).toNat) ∧ (op.toInt = 95 → (∀ k : Nat, (k : Int) < T - 2 → pl' k = pl k) ∧ pl' (T - 2).toNat = pl (T - 1).toNat ∧ pl' (T - 1).toNat = pl (T - 2).toNat)
theorem mvn {S : MS} {op : Int32} : ((op.toInt = 87 ∨ op.toInt = 89) → (f_moved S op).toInt = 1) ∧ ((op.toInt = 88 ∨ op.toInt = 90 ∨ op.toInt = 92 ∨ op.toInt = 95) → (f_moved S op).toInt = 2) := by
  unfold f_moved f_moved_J12 f_moved_J40
  refine ⟨fun q => ?_, fun q => ?_⟩
  · by_cases z1 : op.toInt = 87
    · rw [if_pos z1]; rfl
    · rw [if_neg z1, if_pos (by omega)]; rfl
  · rw [if_neg (by omega), if_neg (by omega)]
    by_cases z3 : op.toInt = 88
    · rw [if_pos z3]; rfl
    · rw [if_neg z3]
      by_cases z4 : op.toInt = 90
      · rw [if_pos z4]; rfl
      · rw [if_neg z4]
        by_cases z5 : op.toInt = 92
        · rw [if_pos z5]; rfl
        · rw [if_neg z5, if_pos (by omega)]; rfl
theorem mv_val {n : Int} {a : AS} {op : Int32} {pl pl' : Nat → Int64} (hA : okP n a pl) (ho : op.toInt = 87 ∨ op.toInt = 88 ∨ op.toInt = 89 ∨ op.toInt = 90 ∨ op.toInt = 92 ∨ op.toInt = 95) (ht : 1 ≤ (aT a).toInt ∧ (aT a).toInt ≤ 24) (h2 : op.toInt = 87 ∨ op.toInt = 89 ∨ 2 ≤ (aT a).toInt) (hp : mvP op (aT a).toInt pl pl') : aL (aMove op a) = aL a ∧ okP n (aMove op a) pl' := by
  have tp := t_pull (a := a) ⟨ht.1, by omega⟩
  have ey : aTop a = aP a ((aT a).toInt - 1).toNat := by
    unfold aTop
    rw [show (aT a - (1 : Int32)).toInt = (aT a).toInt - 1 by rw [t_sub (by rw [li_1]; omega), li_1]]
  have vy := hA ((aT a).toInt - 1).toNat (by omega)
  rw [← ey] at vy
  obtain ⟨m87, m88, m89, m90, m92, m95⟩ := hp
  have pick : ∀ (c : Prop) [Decidable c] (d : Prop) [Decidable d] (t : Int32) (v : Int64), okV n (nb t) v → okV n (nb (if c then (if d then 0 else t) else t)) v := fun c _ d _ t v hv => by
    by_cases z : c
    · rw [if_pos z]
      by_cases z2 : d
      · rw [if_pos z2]; exact okV.z.1
      · rw [if_neg z2]; exact hv
    · rw [if_neg z]; exact hv
  unfold aMove
  simp only
  by_cases o : op.toInt = 87 ∨ op.toInt = 89
  · have ea : (if op.toInt = 87 then aPull a else if op.toInt = 89 then aPull a else aPull (aPull a)) = aPull a := by
      rcases o with o | o
      · rw [if_pos o]
      · rw [if_neg (by omega), if_pos o]
    rw [ea]
    generalize (if op.toInt = 87 then (1 : Int32) else if op.toInt = 89 then 1 else aTop (aPull a)) = X
    generalize (if (op.toInt = 88 ∨ op.toInt = 92) ∧ X.toInt = 2 ∧ (aTop a).toInt = 3 then (1 : Int32) else 0) = W
    have py := fun v => pick (W.toInt = 0) ((isOn (aTop a)).toInt = 0) (aTop a) v
    revert py
    generalize (if W.toInt = 0 then (if (isOn (aTop a)).toInt = 0 then 0 else aTop a) else aTop a) = y2
    generalize (if W.toInt = 0 then (if (isOn X).toInt = 0 then 0 else X) else X) = x2
    generalize (if W.toInt = 0 then (if (isOn X).toInt = 0 then (0 : Int32) else if (isOn (aTop a)).toInt = 0 then 0 else 1) else 1) = gg
    intro py
    have tn : (aT (aNeed gg (aPull a))).toInt = (aT a).toInt - 1 := tp
    have base : (∀ k : Nat, (k : Int) < (aT a).toInt - 1 → pl' k = pl k) → okP n (aNeed gg (aPull a)) pl' := fun e k hk => by
      rw [tn] at hk
      rw [e k hk]
      exact hA k (by omega)
    by_cases z : op.toInt = 87
    · rw [if_pos z]
      exact ⟨rfl, base (m87 z)⟩
    · have z9 : op.toInt = 89 := by omega
      have n1 : ¬ op.toInt = 88 := by omega
      have n2 : ¬ op.toInt = 90 := by omega
      have n3 : ¬ op.toInt = 92 := by omega
      have n4 : ¬ op.toInt = 95 := by omega
      obtain ⟨q1, q2⟩ := m89 z9
      rw [if_neg z, if_neg n1]
      unfold aMv1
      simp only [if_neg n2, if_neg n3, if_neg n4, if_pos z9]
      refine ⟨rfl, ?_⟩
      have t1 := t_push (t := y2) (a := aNeed gg (aPull a)) ⟨by omega, by omega⟩
      have e1 := (base (fun k hk => q1 k (by omega))).push (t := y2) ⟨by omega, by omega⟩ (by rw [tn, q1 _ (by omega)]; exact py _ vy)
      refine e1.push ⟨by omega, by omega⟩ ?_
      rw [t1, tn, show (aT a).toInt - 1 + 1 = (aT a).toInt by omega, q2]
      exact py _ vy
  · have o1 : ¬ op.toInt = 87 := fun q => o (Or.inl q)
    have o2 : ¬ op.toInt = 89 := fun q => o (Or.inr q)
    have tp2 := t_pull (a := aPull a) ⟨by omega, by omega⟩
    have ex : aTop (aPull a) = aP a ((aT a).toInt - 2).toNat := by
      unfold aTop
      rw [show (aT (aPull a) - (1 : Int32)).toInt = (aT a).toInt - 2 by rw [t_sub (by rw [li_1]; omega), li_1]; omega]
      rfl
    have vx := hA ((aT a).toInt - 2).toNat (by omega)
    rw [← ex] at vx
    simp only [if_neg o1, if_neg o2]
    generalize (if (op.toInt = 88 ∨ op.toInt = 92) ∧ (aTop (aPull a)).toInt = 2 ∧ (aTop a).toInt = 3 then (1 : Int32) else 0) = W
    have py := fun v => pick (W.toInt = 0) ((isOn (aTop a)).toInt = 0) (aTop a) v
    have px := fun v => pick (W.toInt = 0) ((isOn (aTop (aPull a))).toInt = 0) (aTop (aPull a)) v
    revert py px
    generalize (if W.toInt = 0 then (if (isOn (aTop a)).toInt = 0 then 0 else aTop a) else aTop a) = y2
    generalize (if W.toInt = 0 then (if (isOn (aTop (aPull a))).toInt = 0 then 0 else aTop (aPull a)) else aTop (aPull a)) = x2
    generalize (if W.toInt = 0 then (if (isOn (aTop (aPull a))).toInt = 0 then (0 : Int32) else if (isOn (aTop a)).toInt = 0 then 0 else 1) else 1) = gg
    intro py px
    have tn : (aT (aNeed gg (aPull (aPull a)))).toInt = (aT a).toInt - 2 := by
      show (aT (aPull (aPull a))).toInt = _
      omega
    have base : (∀ k : Nat, (k : Int) < (aT a).toInt - 2 → pl' k = pl k) → okP n (aNeed gg (aPull (aPull a))) pl' := fun e k hk => by
      rw [tn] at hk
      rw [e k hk]
      exact hA k (by omega)
    revert tn base
    have lN : aL (aNeed gg (aPull (aPull a))) = aL a := rfl
    revert lN
    generalize aNeed gg (aPull (aPull a)) = b
    intro lN tn base
    by_cases z : op.toInt = 88
    · rw [if_pos z]
      exact ⟨lN, base (m88 z)⟩
    · rw [if_neg z]
      unfold aMv1
      by_cases z0 : op.toInt = 90
      · have n3 : ¬ op.toInt = 92 := by omega
        have n4 : ¬ op.toInt = 95 := by omega
        obtain ⟨q1, q2, q3, q4⟩ := m90 z0
        simp only [if_pos z0, if_neg n3, if_neg n4, if_neg o2]
        refine ⟨lN, ?_⟩
        have t1 := t_push (t := y2) (a := b) ⟨by omega, by omega⟩
        have t2 := t_push (t := x2) (a := aPush y2 b) ⟨by omega, by omega⟩
        have e1 := (base q1).push (t := y2) ⟨by omega, by omega⟩ (by rw [tn, q2]; exact py _ vy)
        have e2 := e1.push (t := x2) ⟨by omega, by omega⟩ (by rw [t1, tn, show (aT a).toInt - 2 + 1 = (aT a).toInt - 1 by omega, q3]; exact px _ vx)
        refine e2.push ⟨by omega, by omega⟩ ?_
        rw [t2, t1, tn, show (aT a).toInt - 2 + 1 + 1 = (aT a).toInt by omega, q4]
        exact py _ vy
      · by_cases z2 : op.toInt = 92
        · have n4 : ¬ op.toInt = 95 := by omega
          obtain ⟨q1, q2, q3⟩ := m92 z2
          simp only [if_neg z0, if_pos z2, if_neg n4]
          refine ⟨lN, ?_⟩
          have t1 := t_push (t := x2) (a := b) ⟨by omega, by omega⟩
          have t2 := t_push (t := y2) (a := aPush x2 b) ⟨by omega, by omega⟩
          have t3 := t_push (t := x2) (a := aPush y2 (aPush x2 b)) ⟨by omega, by omega⟩
          have e1 := (base (fun k hk => q1 k (by omega))).push (t := x2) ⟨by omega, by omega⟩ (by rw [tn, q1 _ (by omega)]; exact px _ vx)
          have e2 := e1.push (t := y2) ⟨by omega, by omega⟩ (by rw [t1, tn, show (aT a).toInt - 2 + 1 = (aT a).toInt - 1 by omega, q1 _ (by omega)]; exact py _ vy)
          have e3 := e2.push (t := x2) ⟨by omega, by omega⟩ (by rw [t2, t1, tn, show (aT a).toInt - 2 + 1 + 1 = (aT a).toInt by omega, q2]; exact px _ vx)
          refine e3.push ⟨by omega, by omega⟩ ?_
          rw [t3, t2, t1, tn, show (aT a).toInt - 2 + 1 + 1 + 1 = (aT a).toInt + 1 by omega, q3]
          exact py _ vy
        · have n4 : op.toInt = 95 := by omega
          obtain ⟨q1, q2, q3⟩ := m95 n4
          simp only [if_neg z0, if_neg z2, if_pos n4, if_neg o2]
          refine ⟨lN, ?_⟩
          have t1 := t_push (t := y2) (a := b) ⟨by omega, by omega⟩
          have e1 := (base q1).push (t := y2) ⟨by omega, by omega⟩ (by rw [tn, q2]; exact py _ vy)
          refine e1.push ⟨by omega, by omega⟩ ?_
          rw [t1, tn, show (aT a).toInt - 2 + 1 = (aT a).toInt - 1 by omega, q3]
          exact px _ vx
/-! a move's height and values (behind mv_val) -/
theorem lfn {S : MS} {op : Int32} : ((op.toInt = 87 ∨ op.toInt = 88) → (f_left S op).toInt = 0) ∧ ((op.toInt = 89 ∨ op.toInt = 95) → (f_left S op).toInt = 2) ∧ (op.toInt = 90 → (f_left S op).toInt = 3) ∧ (op.toInt = 92 → (f_left S op).toInt = 4) := by
  unfold f_left f_left_J12
  refine ⟨fun q => ?_, fun q => ?_, fun q => ?_, fun q => ?_⟩
  · rw [if_neg (by omega), if_neg (by omega), if_neg (by omega), if_neg (by omega)]; rfl
  · by_cases z : op.toInt = 89
    · rw [if_pos z]; rfl
    · rw [if_neg z, if_pos (by omega)]; rfl
  · rw [if_neg (by omega), if_neg (by omega), if_pos q]; rfl
  · rw [if_neg (by omega), if_neg (by omega), if_neg (by omega), if_pos q]; rfl
theorem t_mv {S : MS} {a : AS} {op : Int32} (ho : op.toInt = 87 ∨ op.toInt = 88 ∨ op.toInt = 89 ∨ op.toInt = 90 ∨ op.toInt = 92 ∨ op.toInt = 95) (ht : 1 ≤ (aT a).toInt ∧ (aT a).toInt ≤ 24) (h2 : op.toInt = 87 ∨ op.toInt = 89 ∨ 2 ≤ (aT a).toInt) : (aT (aMove op a)).toInt = (aT a).toInt - (f_moved S op).toInt + (f_left S op).toInt := by
  have tp := t_pull (a := a) ⟨ht.1, by omega⟩
  have m := mvn (S := S) (op := op)
  have l := lfn (S := S) (op := op)
  have P := fun (t : Int32) (b : AS) (hb : 0 ≤ (aT b).toInt ∧ (aT b).toInt < 28) => t_push (t := t) (a := b) hb
  unfold aMove
  simp only
  by_cases o : op.toInt = 87 ∨ op.toInt = 89
  · have ea : (if op.toInt = 87 then aPull a else if op.toInt = 89 then aPull a else aPull (aPull a)) = aPull a := by
      rcases o with o | o
      · rw [if_pos o]
      · rw [if_neg (by omega), if_pos o]
    rw [ea, m.1 o]
    generalize (if op.toInt = 87 then (1 : Int32) else if op.toInt = 89 then 1 else aTop (aPull a)) = X
    generalize (if (op.toInt = 88 ∨ op.toInt = 92) ∧ X.toInt = 2 ∧ (aTop a).toInt = 3 then (1 : Int32) else 0) = W
    generalize (if W.toInt = 0 then (if (isOn (aTop a)).toInt = 0 then 0 else aTop a) else aTop a) = y2
    generalize (if W.toInt = 0 then (if (isOn X).toInt = 0 then 0 else X) else X) = x2
    generalize (if W.toInt = 0 then (if (isOn X).toInt = 0 then (0 : Int32) else if (isOn (aTop a)).toInt = 0 then 0 else 1) else 1) = gg
    have tn : (aT (aNeed gg (aPull a))).toInt = (aT a).toInt - 1 := tp
    by_cases z : op.toInt = 87
    · rw [if_pos z, tn, l.1 (Or.inl z)]; omega
    · have z9 : op.toInt = 89 := by omega
      have n1 : ¬ op.toInt = 88 := by omega
      have n2 : ¬ op.toInt = 90 := by omega
      have n3 : ¬ op.toInt = 92 := by omega
      have n4 : ¬ op.toInt = 95 := by omega
      rw [if_neg z, if_neg n1]
      unfold aMv1
      simp only [if_neg n2, if_neg n3, if_neg n4, if_pos z9]
      have t1 := P y2 (aNeed gg (aPull a)) ⟨by omega, by omega⟩
      rw [P y2 _ ⟨by omega, by omega⟩, t1, tn, l.2.1 (Or.inl z9)]
      omega
  · have o1 : ¬ op.toInt = 87 := fun q => o (Or.inl q)
    have o2 : ¬ op.toInt = 89 := fun q => o (Or.inr q)
    have tp2 := t_pull (a := aPull a) ⟨by omega, by omega⟩
    rw [m.2 (by omega)]
    simp only [if_neg o1, if_neg o2]
    generalize (if (op.toInt = 88 ∨ op.toInt = 92) ∧ (aTop (aPull a)).toInt = 2 ∧ (aTop a).toInt = 3 then (1 : Int32) else 0) = W
    generalize (if W.toInt = 0 then (if (isOn (aTop a)).toInt = 0 then 0 else aTop a) else aTop a) = y2
    generalize (if W.toInt = 0 then (if (isOn (aTop (aPull a))).toInt = 0 then 0 else aTop (aPull a)) else aTop (aPull a)) = x2
    generalize (if W.toInt = 0 then (if (isOn (aTop (aPull a))).toInt = 0 then (0 : Int32) else if (isOn (aTop a)).toInt = 0 then 0 else 1) else 1) = gg
    have tn : (aT (aNeed gg (aPull (aPull a)))).toInt = (aT a).toInt - 2 := by
      show (aT (aPull (aPull a))).toInt = _
      omega
    revert tn
    generalize aNeed gg (aPull (aPull a)) = b
    intro tn
    by_cases z : op.toInt = 88
    · rw [if_pos z, tn, l.1 (Or.inr z)]; omega
    · rw [if_neg z]
      unfold aMv1
      by_cases z0 : op.toInt = 90
      · have n3 : ¬ op.toInt = 92 := by omega
        have n4 : ¬ op.toInt = 95 := by omega
        simp only [if_pos z0, if_neg n3, if_neg n4, if_neg o2]
        have t1 := P y2 b ⟨by omega, by omega⟩
        have t2 := P x2 (aPush y2 b) ⟨by omega, by omega⟩
        rw [P y2 _ ⟨by omega, by omega⟩, t2, t1, tn, l.2.2.1 z0]
        omega
      · by_cases z2 : op.toInt = 92
        · have n4 : ¬ op.toInt = 95 := by omega
          simp only [if_neg z0, if_pos z2, if_neg n4]
          have t1 := P x2 b ⟨by omega, by omega⟩
          have t2 := P y2 (aPush x2 b) ⟨by omega, by omega⟩
          have t3 := P x2 (aPush y2 (aPush x2 b)) ⟨by omega, by omega⟩
          rw [P y2 _ ⟨by omega, by omega⟩, t3, t2, t1, tn, l.2.2.2 z2]
          omega
        · have n4 : op.toInt = 95 := by omega
          simp only [if_neg z0, if_neg z2, if_pos n4, if_neg o2]
          have t1 := P y2 b ⟨by omega, by omega⟩
          rw [P x2 _ ⟨by omega, by omega⟩, t1, tn, l.2.1 (Or.inr n4)]
          omega
theorem wk_mval {S : MS} {a : AS} {x : Int32} {p : Nat} {n : Int} {sl pl sl' pl' : Nat → Int64} (hT : tkV S x ≤ (aT a).toInt ∧ (aT a).toInt ≤ 24) (hm : 0 < (f_moved S (f_op S x)).toInt) (hA : okA n a sl pl) (hb : (∀ k : Nat, k < 24 → nb (aL a k) = aL a k) ∧ ∀ k : Nat, (k : Int) < (aT a).toInt → nb (aP a k) = aP a k) (s1 : ∀ k : Nat, k < 24 → sl' k = sl k) (s2 : mvP (f_op S x) (aT a).toInt pl pl') :
    (∀ k : Nat, k < 24 → okV n (nb (wkT S x p a k)) (sl' k)) ∧ ∀ k : Nat, (k : Int) < (aT a).toInt - tkV S x + gvV S x → okV n (nb (wkT S x p a (24 + k))) (pl' k) := by
  have o := mv_iff.mp hm
  have eT : tkV S x = (f_moved S (f_op S x)).toInt := by unfold tkV; rw [if_pos hm]
  have eG : gvV S x = (f_left S (f_op S x)).toInt := by unfold gvV; rw [if_pos hm]
  have m := mvn (S := S) (op := f_op S x)
  have h2 : (f_op S x).toInt = 87 ∨ (f_op S x).toInt = 89 ∨ 2 ≤ (aT a).toInt := by
    by_cases z : (f_op S x).toInt = 87 ∨ (f_op S x).toInt = 89
    · omega
    · have := m.2 (by omega); omega
  have ew : wkV S x p a = aMove (f_op S x) (aL a, aP a, aT a, 1) := by
    unfold wkV aWork
    simp only
    rw [if_pos o]
  have hP : okP n (aL a, aP a, aT a, 1) pl := fun k hk => by
    show okV n (nb (aP a k)) (pl k)
    rw [hb.2 k hk]
    exact hA.2 k hk
  obtain ⟨e1, e2⟩ := mv_val (a := (aL a, aP a, aT a, 1)) hP o ⟨by show 1 ≤ (aT a).toInt; omega, hT.2⟩ h2 s2
  have e3 := t_mv (S := S) (a := (aL a, aP a, aT a, 1)) o ⟨by show 1 ≤ (aT a).toInt; omega, hT.2⟩ h2
  rw [← ew] at e1 e2 e3
  refine ⟨fun k hk => ?_, fun k hk => ?_⟩
  · have q : wkT S x p a k = aL a k := by unfold wkT; rw [if_pos hk, e1]; rfl
    rw [q, hb.1 k hk, s1 k hk]
    exact hA.1 k hk
  · have q : wkT S x p a (24 + k) = aP (wkV S x p a) k := by
      unfold wkT
      rw [if_neg (by omega), show 24 + k - 24 = k by omega]
    rw [q]
    refine e2 k ?_
    rw [e3]
    show (k : Int) < (aT a).toInt - _ + _
    omega
