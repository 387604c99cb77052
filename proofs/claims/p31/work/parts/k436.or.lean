/-! a row is written (behind sp_by, sp_outN, jp_op, sw_op) -/
def Wx (NL : List Nat) (kp : Prop) (AL : List (MS → Prop)) (S : MS) (n : Int) (u : MS) : Prop := frm [28, 29, 30, 31, 32, 33, 34, 35] [7, 8, 73, 74, 77] S u ∧ (OuI u ∧ oS u = oS S + n ∧ wH u = wH S) ∧ (∀ j : Nat, (j : Int) < oS S → qI u (wH S) j = qI S (wH S) j) ∧ WrI NL kp AL u ∧ BkY S u
section WXX
variable {NL : List Nat} {kp : Prop} {AL : List (MS → Prop)}
theorem Wx.rf {S : MS} (h : WrI NL kp AL S) (o : OuI S) : Wx NL kp AL S 0 S := ⟨frm.rf, ⟨o, by omega, rfl⟩, fun _ _ => rfl, h, BkX.rf.y⟩
theorem Wx.tr {S u v : MS} {a b : Int} (h : Wx NL kp AL S a u) (k : Wx NL kp AL u b v) (ha : 0 ≤ a) : Wx NL kp AL S (a + b) v := by
  obtain ⟨h1, ⟨h2, h3, h4⟩, h5, h6, h7⟩ := h
  obtain ⟨k1, ⟨k2, k3, k4⟩, k5, k6, k7⟩ := k
  refine ⟨h1.tr k1, ⟨k2, by omega, k4.trans h4⟩, fun j hj => ?_, k6, h7.tr k7⟩
  have := k5 j (by omega)
  rw [h4] at this
  rw [this]
  exact h5 j hj
theorem Wx.o {S u : MS} {n : Int} (w : Wo S n u) (h : WrI NL kp AL S) (cf : CfS NL kp AL) : Wx NL kp AL S n u := ⟨w.1.mo (by decide) (by decide), ⟨w.2.1, w.2.2.1, w.2.2.2.1⟩, w.2.2.2.2, h.f9 cf w.1 (by decide) (by decide), (BkY.f9 w.1 (by decide) (by decide)).1⟩
theorem Wx.b {S u : MS} (x : BkX S u) (h : WrI NL kp AL u) (o : OuI S) : Wx NL kp AL S 0 u := by
  obtain ⟨a, b, c⟩ := o.fm x.1 (by decide) (by decide) (by decide) (by decide) (by decide)
  refine ⟨x.1.mo (by decide) (by decide), ⟨a, by omega, c⟩, fun j _ => ?_, h, x.y⟩
  have w := o.wh
  rw [(x.1.2.2.2.2.1 (wH S) (by omega) (by rcases w with q | q <;> rw [q] <;> decide)).1]
/-- n more bytes, whatever they are -/
theorem sp_ob {S : MS} {v : Int64} {n : Int32} {m : Int} {Q : MS → Prop} (cf : CfS NL kp AL) (h : WrI NL kp AL S) (o : OuI S) (e : n.toInt = m) (hn : 0 ≤ m ∧ m ≤ 8) (hr : oS S + m ≤ 131072) (hQ : ∀ u, Wx NL kp AL S m u → Q u) : ∃ Q1, w_out S v n Q1 ∧ ∀ u, Q1 u → Q u := ⟨_, sp_outN o e hn hr, fun u hu => hQ u (Wx.o hu h cf)⟩
theorem sp_oL {S : MS} {x1 x2 x3 : Int32} {n : Int} (cf : CfS NL kp AL) (h : WrI NL kp AL S) (o : OuI S) (hn : x2.toInt < 4 ∧ n = 1 ∨ 4 ≤ x2.toInt ∧ n = 2) (hr : oS S + n ≤ 131072) : w_outLocal S x1 x2 x3 (Wx NL kp AL S n) := by
  unfold w_outLocal
  refine ⟨fun z => ?_, fun z => ?_⟩
  · have e : n = 2 := by omega
    subst e
    exact sp_ob cf h o (by decide) (by decide) hr (fun u hu => hu)
  · have e : n = 1 := by omega
    subst e
    exact sp_ob cf h o (by decide) (by decide) hr (fun u hu => hu)
theorem Wx.lk {S u : MS} {n : Int} {p : Nat} (w : Wx NL kp AL S n u) (cf : CfI NL kp AL p S) (k : LkF kp AL p S) : CfI NL kp AL p u ∧ LkF kp AL p u ∧ (∀ x : Int32, f_op u x = f_op S x ∧ f_first u x = f_first S x ∧ f_second u x = f_second S x) ∧ qI u 36 = qI S 36 ∧ qI u 0 52 = qI S 0 52 := by
  have p60 : 60 ≤ p := by have := cf.2.1.1; omega
  have s := smD.fm w.1 (by decide) (by decide)
  exact ⟨cf.fm w.1 (by decide), k.fm p60 w.1 (by decide) (by decide), fun x => s.op k.1 x, (w.1.2.2.2.2.1 36 (by decide) (by decide)).1, (s.2 52 (by decide) (by decide)).1⟩
theorem sp_oP {p : Nat} {S : MS} {x : Int32} {n : Int} (cf : CfI NL kp AL p S) (h : WrI NL kp AL S) (k : LkF kp AL p S) (o : OuI S) (hx : 0 ≤ x.toInt ∧ x.toInt < (qI S 0 52).toInt) (e18 : (f_op S x).toInt = 18) (hn : pLn S (f_first S x) n) (hr : oS S + n ≤ 131072) : w_outPush S x (f_first S x) (Wx NL kp AL S n) (eK kp S) := by
  have cS := cf.1
  have j22 : ¬ (-1 ≤ (f_first S x).toInt ∧ (f_first S x).toInt ≤ 5) → w_outPush_J22 (Wx NL kp AL S n) (eK kp S) S x (f_first S x) := fun ns => by
    unfold w_outPush_J22
    refine ⟨by_rg2.2, fun z1 => ⟨sh_rg.2, fun z2 => ?_, fun z2 => ?_⟩, fun z1 => ?_⟩
    · have nsh := sh_rg.1.mp z2
      obtain ⟨r0, nk0, hn0⟩ : ∃ r : Int32, NuK S 3 0 0 (f_first S x).toInt64 10000032 r ∧ (r.toInt ≤ 255 ∧ n = 2 ∨ 255 < r.toInt ∧ n = 3) := by
        rcases hn with z | z | z | z
        · exact absurd z.1 ns
        · exact absurd z.2.1 (by_rg2.1.mp z1)
        · exact absurd z.2.1 nsh
        · exact z.2
      refine eb_nO (sp_nO cf h k hx) o.2.2.1 frm.rf ?_
      rintro r u ⟨u1, u2, u3, u4⟩
      have er : r = r0 := (u4 e18 nsh).uq (nk0.mv u2 h.1 (by decide))
      subst er
      have wu : Wx NL kp AL S 0 u := Wx.b u2 u1 o
      obtain ⟨cfu, ku, so, _, e52⟩ := wu.lk cf k
      have ou := wu.2.1.1
      have eo := wu.2.1.2.1
      refine ⟨fun z => ?_, fun z => ?_⟩
      · have e : n = 3 := by omega
        refine eb_nO (sp_nO cfu u1 ku (by rw [e52]; exact hx)) ou.2.2.1 (wu.1.mo (by decide) (by decide)) ?_
        rintro r2 v ⟨v1, v2, _⟩
        have wv : Wx NL kp AL u 0 v := Wx.b v2 v1 ou
        refine sp_ob cS v1 wv.2.1.1 (m := 3) (by decide) (by decide) (by have := wv.2.1.2.1; omega) (fun y hy => ?_)
        rw [e]
        exact (wu.tr wv (by decide)).tr hy (by decide)
      · have e : n = 2 := by omega
        refine eb_nO (sp_nO cfu u1 ku (by rw [e52]; exact hx)) ou.2.2.1 (wu.1.mo (by decide) (by decide)) ?_
        rintro r2 v ⟨v1, v2, _⟩
        have wv : Wx NL kp AL u 0 v := Wx.b v2 v1 ou
        refine sp_ob cS v1 wv.2.1.1 (m := 2) (by decide) (by decide) (by have := wv.2.1.2.1; omega) (fun y hy => ?_)
        rw [e]
        exact (wu.tr wv (by decide)).tr hy (by decide)
    · have nb := by_rg2.1.mp z1
      have e : n = 3 := by
        rcases hn with z | z | z | z
        · exact absurd z.1 ns
        · exact absurd z.2.1 nb
        · exact z.2.2
        · exact absurd (sh_rg.1.mpr z.1) z2
      subst e
      exact sp_ob cS h o (by decide) (by decide) hr (fun u hu => hu)
    · have e : n = 2 := by
        rcases hn with z | z | z | z
        · exact absurd z.1 ns
        · exact z.2.2
        · exact absurd (by_rg2.1.mpr z.1) z1
        · exact absurd (by_rg2.1.mpr (fun y => z.1 ⟨by omega, by omega⟩)) z1
      subst e
      exact sp_ob cS h o (by decide) (by decide) hr (fun u hu => hu)
  unfold w_outPush
  refine ⟨fun z => j22 (by omega), fun z => ⟨fun z2 => j22 (by omega), fun z2 => ?_⟩⟩
  have e : n = 1 := by
    rcases hn with y | y | y | y
    · exact y.2
    · exact absurd ⟨by omega, by omega⟩ y.1
    · exact absurd ⟨by omega, by omega⟩ y.1
    · exact absurd ⟨by omega, by omega⟩ y.1
  subst e
  exact sp_ob cS h o (by decide) (by decide) hr (fun u hu => hu)
theorem sp_oSw {p : Nat} {S : MS} {x o : Int32} {n : Int} (cf : CfI NL kp AL p S) (h : WrI NL kp AL S) (k : LkF kp AL p S) (ou : OuI S) (hx : 0 ≤ x.toInt ∧ x.toInt < (qI S 0 52).toInt) (ho : 0 ≤ o.toInt ∧ o.toInt ≤ 100000) (sw : (f_op S x).toInt = 170 ∨ (f_op S x).toInt = 171) (hn : LnV S (f_op S x) (f_first S x) (f_second S x) o.toInt n) (hr : oS S + n ≤ 131072) : w_outSwitch S x o (Wx NL kp AL S n) := by
  have cS := cf.1
  obtain ⟨dop, dfi, dse⟩ := k.1.dop hx
  obtain ⟨L, F, M, ts, rb, rt, rv, -, -⟩ := k.1.rv hx
  have b := rv.2.2.1 sw
  have sf := f_swF (S := S) ho.1 ho.2
  have cnt := k.1.cnt
  -- a state later: all that is read is the same
  have sm : ∀ (U : MS) (m : Int), Wx NL kp AL S m U → d_op U x ∧ d_first U x ∧ d_second U x ∧ f_op U x = f_op S x ∧ f_first U x = f_first S x ∧ f_second U x = f_second S x ∧ qR U 0 49 = some (qO U 0 49) ∧ qO U 0 49 = qO S 0 49 ∧ qN U (qO S 0 49) = ts ∧ qI U (qO S 0 49) = qI S (qO S 0 49) := fun U m w => by
    obtain ⟨cU, kU, so, _, e52⟩ := w.lk cf k
    have s := smD.fm w.1 (by decide) (by decide)
    have d := kU.1.dop (x := x) (by rw [e52]; exact hx)
    have z := s.1.1 _ k.1.1.1.2.2.1
    exact ⟨d.1, d.2.1, d.2.2, (so x).1, (so x).2.1, (so x).2.2, kU.1.1.2.2.2.1, s.qo (by decide) (by decide), by rw [z.2.2.2.2]; exact rt.1, z.1⟩
  have way : ∀ j : Nat, (j : Int) ≤ (f_second S x).toInt → 0 ≤ (qI S (qO S 0 49) ((f_first S x).toInt.toNat + 2 * j)).toInt ∧ (qI S (qO S 0 49) ((f_first S x).toInt.toNat + 2 * j)).toInt < 1297 := fun j hj => by
    have := b.2.2.2.2.1 j hj
    omega
  have l4 : (4 : Int32).toInt = 4 := li_4
  -- what is left: pairs
  have rest : ∀ (each : Int), ((f_op S x).toInt = 171 → each = 8) → ((f_op S x).toInt ≠ 171 → each = 4) → ∀ (c : Nat) (U : MS) (j : Int32), (0 ≤ j.toInt ∧ j.toInt ≤ (f_second S x).toInt) → Wx NL kp AL S (n - each * ((f_second S x).toInt - j.toInt)) U → ((f_second S x).toInt - j.toInt).toNat < c → w_outSwitch_L114 (Wx NL kp AL S n) c U x o (f_first S x) (f_second S x) j := by
    intro each h8 h4 c
    induction c with
    | zero => intro U j _ _ h9; exact absurd h9 (Nat.not_lt_zero _)
    | succ c ih =>
      intro U j j0 wU hc
      obtain ⟨d1, d2, d3, so, sa, sb, r49, o49, n49, i49⟩ := sm U _ wU
      unfold w_outSwitch_L114
      refine ⟨fun z => ?_, fun z => ?_⟩
      · rw [show (f_second S x).toInt - j.toInt = 0 by omega, Int.mul_zero, Int.sub_zero] at wU
        exact wU
      · have hU := wU.2.2.2.1
        have oU := wU.2.1.1
        have eU := wU.2.1.2.1
        have e2 : ((2 : Int32) * j).toInt = 2 * j.toInt := by rw [t_mul (by rw [li_2]; omega), li_2]
        have ei : (j + Int32.ofInt 1).toInt = j.toInt + 1 := by rw [t_add (by rw [lo_1]; omega), lo_1]
        have a2 : (f_first S x + (2 : Int32)).toInt = (f_first S x).toInt + 2 := by rw [t_add (by rw [li_2]; omega), li_2]
        have a1 : (f_first S x + (1 : Int32)).toInt = (f_first S x).toInt + 1 := by rw [t_add (by rw [li_1]; omega), li_1]
        have i2 : (f_first S x + (2 : Int32) + (2 : Int32) * j).toInt = (f_first S x).toInt + 2 + 2 * j.toInt := by rw [t_add (by omega), a2, e2]
        have i1 : (f_first S x + (1 : Int32) + (2 : Int32) * j).toInt = (f_first S x).toInt + 1 + 2 * j.toInt := by rw [t_add (by omega), a1, e2]
        have eb : 4 ≤ each ∧ each ≤ 8 := by
          by_cases q : (f_op S x).toInt = 171
          · have := h8 q; omega
          · have := h4 q; omega
        have room : oS U + each ≤ 131072 := by
          have e3 : each * ((f_second S x).toInt - j.toInt) = each * ((f_second S x).toInt - j.toInt - 1) + each := by
            rw [show (f_second S x).toInt - j.toInt = ((f_second S x).toInt - j.toInt - 1) + 1 by omega, Int.mul_add, Int.mul_one, show (f_second S x).toInt - j.toInt - 1 + 1 - 1 = (f_second S x).toInt - j.toInt - 1 by omega]
          have e4 : 0 ≤ each * ((f_second S x).toInt - j.toInt - 1) := Int.mul_nonneg (by omega) (by omega)
          omega
        have nxt : n - each * ((f_second S x).toInt - (j + Int32.ofInt 1).toInt) = n - each * ((f_second S x).toInt - j.toInt) + each := by
          have e3 : each * ((f_second S x).toInt - j.toInt) = each * ((f_second S x).toInt - (j.toInt + 1)) + each := by
            rw [show (f_second S x).toInt - j.toInt = ((f_second S x).toInt - (j.toInt + 1)) + 1 by omega, Int.mul_add, Int.mul_one]
          rw [ei]
          omega
        have nn : 0 ≤ n - each * ((f_second S x).toInt - j.toInt) := by have := h; have := oU.2.2.2.1; have := ou.2.2.2.1; have := wU.2.2.1; exact (by
            have q : oS S ≤ oS U := Classical.byContradiction (fun q => by
              have t1 := hn.wt (fun _ => b.2.1) ho.1
              by_cases q1 : (f_op S x).toInt = 171
              · have := hn.o171 q1
                have := h8 q1
                subst this
                omega
              · have := hn.o170 (by omega)
                have := h4 q1
                subst this
                omega)
            omega)
        have j151 : ∀ (V : MS) (d : Int), Wx NL kp AL U d V → 0 ≤ d → d + 4 = each → w_outSwitch_J151 (Wx NL kp AL S n) (w_outSwitch_L114 (Wx NL kp AL S n) c) V x o (f_first S x) (f_second S x) j := fun V d wV d0 hd => by
          have wSV := wU.tr wV nn
          obtain ⟨_, _, _, _, _, _, q49, p49, m49, t49⟩ := sm V _ wSV
          unfold w_outSwitch_J151
          rw [p49, i2, t49]
          have w := way (j.toInt.toNat + 1) (by omega)
          rw [show (f_first S x).toInt.toNat + 2 * (j.toInt.toNat + 1) = ((f_first S x).toInt + 2 + 2 * j.toInt).toNat by omega] at w
          refine ⟨by rw [← p49]; exact q49, ⟨by omega, by rw [m49]; omega⟩, w, ?_⟩
          refine sp_ob cS wV.2.2.2.1 wV.2.1.1 (m := 4) (by decide) (by decide) (by have := wV.2.1.2.1; omega) (fun Y hY a ea => ?_)
          subst ea
          refine ih Y _ (by omega) ?_ (by omega)
          rw [nxt, ← hd]
          have := wSV.tr hY (by omega)
          rw [show n - each * ((f_second S x).toInt - j.toInt) + d + 4 = n - each * ((f_second S x).toInt - j.toInt) + (d + 4) by omega] at this
          rw [hd] at this ⊢
          exact this
        refine ⟨d1, fun q => ?_, fun q => ?_⟩
        · rw [so] at q
          rw [o49, i1]
          refine ⟨by rw [← o49]; exact r49, ⟨by omega, by rw [n49]; omega⟩, ?_⟩
          have := h8 q
          exact sp_ob cS hU oU (m := 4) (by decide) (by decide) (by omega) (fun V hV => j151 V 4 hV (by decide) (by omega))
        · rw [so] at q
          have := h4 q
          exact j151 U 0 (Wx.rf hU oU) (by decide) (by omega)
  unfold w_outSwitch
  have t1 := hn.wt (fun _ => b.2.1) ho.1
  have pad : (f_switchFrom S o - o - (1 : Int32)).toInt = 3 - o.toInt % 4 := by
    have e : (f_switchFrom S o - o).toInt = 4 - o.toInt % 4 := by rw [t_sub (by omega), sf]; omega
    rw [t_sub (by rw [e, li_1]; omega), e, li_1]
    omega
  have nb : n = 16 - o.toInt % 4 + 4 * (f_second S x).toInt ∧ (f_op S x).toInt = 170 ∨ n = 12 - o.toInt % 4 + 8 * (f_second S x).toInt ∧ (f_op S x).toInt = 171 := by
    rcases sw with q | q
    · exact Or.inl ⟨hn.o170 q, q⟩
    · exact Or.inr ⟨hn.o171 q, q⟩
  refine ⟨dop, sp_ob cS h ou (m := 1) (by decide) (by decide) (by omega) (fun A wA => ⟨trivial, ?_⟩)⟩
  have oA := wA.2.1.2.1
  refine sp_ob cS wA.2.2.2.1 wA.2.1.1 (m := 3 - o.toInt % 4) pad (by omega) (by omega) (fun B wB => ?_)
  have wSB := wA.tr wB (by decide)
  obtain ⟨_, d2, d3, so, sa, sb, r49, o49, n49, i49⟩ := sm B _ wSB
  rw [sa, sb]
  refine ⟨d2, fun a ea => ⟨d3, fun m em => ?_⟩⟩
  subst ea
  subst em
  rw [o49, i49]
  have w0 := way 0 (by omega)
  rw [Nat.mul_zero, Nat.add_zero] at w0
  have oB := wSB.2.1.2.1
  refine ⟨by rw [← o49]; exact r49, ⟨b.1, by rw [n49]; omega⟩, w0, ?_⟩
  refine sp_ob cS wSB.2.2.2.1 wSB.2.1.1 (m := 4) (by decide) (by decide) (by omega) (fun C wC => ?_)
  have wSC := wSB.tr wC (by omega)
  have oC := wSC.2.1.2.1
  obtain ⟨d1, _, _, so', _, _, q49, p49, m49, t49⟩ := sm C _ wSC
  rw [so']
  have a1 : (f_first S x + (1 : Int32)).toInt = (f_first S x).toInt + 1 := by rw [t_add (by rw [li_1]; omega), li_1]
  refine ⟨d1, fun q => ?_, fun q => ?_⟩
  · have b1 := b.2.2.2.2.2 q
    rw [p49, a1]
    refine ⟨by rw [← p49]; exact q49, ⟨by omega, by rw [m49]; omega⟩, ?_⟩
    refine sp_ob cS wSC.2.2.2.1 wSC.2.1.1 (m := 4) (by decide) (by decide) (by omega) (fun D wD => ?_)
    have wSD := wSC.tr wD (by omega)
    have oD := wSD.2.1.2.1
    obtain ⟨_, _, _, _, _, _, q49', p49', m49', t49'⟩ := sm D _ wSD
    rw [p49']
    refine ⟨by rw [← p49']; exact q49', ⟨by omega, by rw [m49']; omega⟩, ?_⟩
    refine sp_ob cS wSD.2.2.2.1 wSD.2.1.1 (m := 4) (by decide) (by decide) (by omega) (fun E wE => ?_)
    have wSE := wSD.tr wE (by omega)
    unfold w_outSwitch_J111
    refine ⟨_, rest 4 (fun z => by omega) (fun _ => rfl) _ E 0 ⟨by decide, by show (0 : Int) ≤ _; omega⟩ ?_ (Nat.lt_succ_self _)⟩
    have e : n - 4 * ((f_second S x).toInt - (0 : Int32).toInt) = 0 + 1 + (3 - o.toInt % 4) + 4 + 4 + 4 := by
      show n - 4 * ((f_second S x).toInt - 0) = _
      omega
    rw [e]
    have : (0 : Int) + 1 + (3 - o.toInt % 4) + 4 + 4 + 4 = 1 + (3 - o.toInt % 4) + 4 + 4 + 4 := by omega
    rw [this]
    exact wSE
  · refine sp_ob cS wSC.2.2.2.1 wSC.2.1.1 (m := 4) (by decide) (by decide) (by omega) (fun E wE => ?_)
    have wSE := wSC.tr wE (by omega)
    unfold w_outSwitch_J111
    refine ⟨_, rest 8 (fun _ => rfl) (fun z => by omega) _ E 0 ⟨by decide, by show (0 : Int) ≤ _; omega⟩ ?_ (Nat.lt_succ_self _)⟩
    have e : n - 8 * ((f_second S x).toInt - (0 : Int32).toInt) = 1 + (3 - o.toInt % 4) + 4 + 4 := by
      show n - 8 * ((f_second S x).toInt - 0) = _
      omega
    rw [e]
    exact wSE
end WXX
/-! outRow, leastStack, leastLocals (behind sp_oP, sp_oSw, sp_oL, fn_ht, fn_hb_d) -/
section ORX
variable {NL : List Nat} {kp : Prop} {AL : List (MS → Prop)}
theorem sp_oR {p : Nat} {S : MS} {x : Int32} {n : Int} (cf : CfI NL kp AL p S) (h : WrI NL kp AL S) (k : LkF kp AL p S) (ou : OuI S) (hx : 0 ≤ x.toInt ∧ x.toInt < (qI S 0 52).toInt) (ho : 0 ≤ (qI S 36 x.toInt.toNat).toInt ∧ (qI S 36 x.toInt.toNat).toInt ≤ 100000) (hn : LnP S x (qI S 36 x.toInt.toNat).toInt n) (hr : oS S + n ≤ 131072) : w_outRow S x (Wx NL kp AL S n) (eK kp S) := by
  have cS := cf.1
  have cnt := k.1.cnt
  obtain ⟨dop, dfi, dse⟩ := k.1.dop hx
  obtain ⟨L, F, M, ts, rb, rt, rv, -, -⟩ := k.1.rv hx
  unfold LnP at hn
  have lo : f_longOf S x = loV (f_first S x) (f_second S x) := rfl
  have dl : d_longOf S x := ⟨dfi, dse, trivial⟩
  have dj : ∀ a : Int32, d_isJump S a ∧ d_isSwitch S a := fun a => by
    unfold d_isJump d_isJump_J14 d_isJump_J28 d_isSwitch d_isSwitch_J14
    simp only [ite_self]
    exact ⟨trivial, trivial⟩
  have js : ∀ a : Int32, (f_isJump S a).toInt = 0 → ¬ ((153 ≤ a.toInt ∧ a.toInt ≤ 167) ∨ a.toInt = 198 ∨ a.toInt = 199) := fun a q z => by
    unfold f_isJump f_isJump_J14 f_isJump_J28 at q
    rcases z with z | z | z
    · rw [if_neg (by omega), if_pos (by omega)] at q; exact absurd q (by decide)
    · rw [if_neg (by omega), if_neg (by omega), if_pos (by omega)] at q; exact absurd q (by decide)
    · rw [if_neg (by omega), if_neg (by omega), if_neg (by omega), if_pos (by omega)] at q; exact absurd q (by decide)
  have ss : ∀ a : Int32, (f_isSwitch S a).toInt = 0 → a.toInt ≠ 170 ∧ a.toInt ≠ 171 := fun a q => by
    unfold f_isSwitch f_isSwitch_J14 at q
    refine ⟨fun z => ?_, fun z => ?_⟩
    · rw [if_pos z] at q; exact absurd q (by decide)
    · by_cases y : a.toInt = 170
      · omega
      · rw [if_neg y, if_pos z] at q; exact absurd q (by decide)
  have nO : ∀ (g : Int32 → Int64), n = 3 → ∃ Q1 E1, w_needOf S x Q1 E1 ∧ (∀ r U, Q1 r U → ∃ Q2, w_out U (g r) (3 : Int32) Q2 ∧ ∀ V, Q2 V → Wx NL kp AL S n V) ∧ ∀ u, E1 u → eK kp S u := fun g e => by
    refine eb_nO (sp_nO cf h k hx) ou.2.2.1 frm.rf ?_
    rintro r u ⟨u1, u2, _⟩
    have wu : Wx NL kp AL S 0 u := Wx.b u2 u1 ou
    refine sp_ob cS u1 wu.2.1.1 (m := 3) (by decide) (by decide) (by have := wu.2.1.2.1; omega) (fun y hy => ?_)
    rw [e]
    exact wu.tr hy (by decide)
  unfold w_outRow
  refine ⟨dop, fun op eo => ⟨dfi, fun a ea => ⟨⟨hx.1, by omega⟩, fun o eo2 => ?_⟩⟩⟩
  subst eo
  subst ea
  rw [← eo2] at ho hn
  clear eo2
  have loc : ∀ t : Int32, ((f_op S x).toInt = 21 ∨ (f_op S x).toInt = 22 ∨ (f_op S x).toInt = 25 ∨ (f_op S x).toInt = 54 ∨ (f_op S x).toInt = 55 ∨ (f_op S x).toInt = 58) → ∃ Q1, w_outLocal S (f_op S x) (f_first S x) t Q1 ∧ ∀ u, Q1 u → Wx NL kp AL S n u := fun t q => ⟨_, sp_oL cS h ou (hn.oL q) hr, fun u hu => hu⟩
  have j243 : ¬ (f_op S x).toInt = 18 → ¬ (f_op S x).toInt = 20 → ¬ ((f_op S x).toInt = 21 ∨ (f_op S x).toInt = 22 ∨ (f_op S x).toInt = 25 ∨ (f_op S x).toInt = 54 ∨ (f_op S x).toInt = 55 ∨ (f_op S x).toInt = 58) → ((f_op S x).toInt = 132 → ¬ (-128 ≤ (f_second S x).toInt ∧ (f_second S x).toInt ≤ 127)) → w_outRow_J243 (Wx NL kp AL S n) (eK kp S) S x (f_op S x) (f_first S x) o := fun n18 n20 nl n132 => by
    unfold w_outRow_J243
    refine ⟨fun e => ?_, fun e9 => ⟨(dj _).2, fun s0 => ⟨(dj _).1, fun z0 => ?_, fun z0 => ?_⟩, fun s0 => ?_⟩⟩
    · have e6 : n = 6 := by
        rcases hn.o132 e with z | z
        · exact absurd z.1 (n132 e)
        · exact z.2
      subst e6
      refine sp_ob cS h ou (m := 2) (by decide) (by decide) (by omega) (fun A wA => ?_)
      refine sp_ob cS wA.2.2.2.1 wA.2.1.1 (m := 2) (by decide) (by decide) (by have := wA.2.1.2.1; omega) (fun B wB => ?_)
      have wSB := wA.tr wB (by decide)
      obtain ⟨_, kB, _, _, e52⟩ := wSB.lk cf k
      refine ⟨(kB.1.dop (x := x) (by rw [e52]; exact hx)).2.2, ?_⟩
      refine sp_ob cS wSB.2.2.2.1 wSB.2.1.1 (m := 2) (by decide) (by decide) (by have := wSB.2.1.2.1; omega) (fun C wC => ?_)
      exact wSB.tr wC (by decide)
    · have nj := js _ z0
      obtain ⟨s1, s2⟩ := ss _ s0
      refine ⟨fun e => ?_, fun e1 => ⟨fun e => ?_, fun e2 => ⟨fun e => ?_, fun e3 => ⟨fun e => ?_, fun e4 => ?_⟩⟩⟩⟩
      · unfold w_outRow_J349
        exact nO (fun r => (((f_op S x) <<< ((16 : Int32) &&& 31)) ||| r).toInt64) (hn.oM (by omega))
      · unfold w_outRow_J349
        exact nO (fun r => (((f_op S x) <<< ((16 : Int32) &&& 31)) ||| r).toInt64) (hn.oM (by omega))
      · unfold w_outRow_J349
        exact nO (fun r => (((f_op S x) <<< ((16 : Int32) &&& 31)) ||| r).toInt64) (hn.oM (by omega))
      · have e2' := hn.o188 e
        subst e2'
        exact sp_ob cS h ou (m := 2) (by decide) (by decide) hr (fun u hu => hu)
      · have e1' := hn.oO (fun q => by
          rcases q with q | q | q | q | q | q | q | q | q
          · exact n18 q
          · exact n20 q
          · exact nl q
          · exact e9 q
          · exact s1 q
          · exact s2 q
          · omega
          · exact e4 q
          · exact nj q)
        subst e1'
        exact sp_ob cS h ou (m := 1) (by decide) (by decide) hr (fun u hu => hu)
    · have j := jp_op z0
      have e3 := hn.oJ j
      subst e3
      have aim := rv.2.1 j
      refine sp_ob cS h ou (m := 1) (by decide) (by decide) (by omega) (fun A wA => ⟨⟨aim.1, by omega⟩, ?_⟩)
      refine sp_ob cS wA.2.2.2.1 wA.2.1.1 (m := 2) (by decide) (by decide) (by have := wA.2.1.2.1; omega) (fun B wB => ?_)
      exact wA.tr wB (by decide)
    · exact ⟨_, sp_oSw cf h k ou hx ho (sw_op s0) hn hr, fun u hu => hu⟩
  refine ⟨fun e => ⟨_, _, sp_oP cf h k ou hx e (hn.o18 e) hr, fun u hu => hu, fun u q => q⟩, fun e1 => ⟨fun e => ?_, fun e2 => ⟨fun e => ?_, fun e3 => ⟨fun e => ?_, fun e4 => ⟨fun e => ?_, fun e5 => ⟨fun e => ?_, fun e6 => ⟨fun e => ?_, fun e7 => ⟨fun e => ?_, fun e8 => ⟨fun e => ⟨dse, by_rg2.2, fun z => j243 e1 e2 (by omega) (fun _ => by_rg2.1.mp z), fun z => ⟨dse, ?_⟩⟩, fun e9 => j243 e1 e2 (by omega) (fun q => absurd q e9)⟩⟩⟩⟩⟩⟩⟩⟩⟩
  · have j61 : ((lg_cmp (loV (f_first S x) (f_second S x)) 0).toInt = 0 ∨ (lg_cmp (loV (f_first S x) (f_second S x)) 1).toInt = 0) → w_outRow_J61 (Wx NL kp AL S n) (eK kp S) S x := fun q => by
      have e1' : n = 1 := by
        rcases hn.o20 e with z | z
        · exact z.2
        · rcases q with q | q
          · exact absurd q z.1.1
          · exact absurd q z.1.2
      subst e1'
      unfold w_outRow_J61
      exact ⟨dl, sp_ob cS h ou (m := 1) (by decide) (by decide) hr (fun u hu => hu)⟩
    rw [lo]
    refine ⟨dl, fun z => j61 (Or.inl z), fun z0 => ⟨dl, fun z => j61 (Or.inr z), fun z1 => ?_⟩⟩
    refine nO (fun r => ((1310720 : Int32) ||| r).toInt64) ?_
    rcases hn.o20 e with z | z
    · rcases z.1 with y | y
      · exact absurd y z0
      · exact absurd y z1
    · exact z.2
  · unfold w_outRow_J114 w_outRow_J141
    exact ⟨fun _ => loc _ (by omega), fun _ => ⟨fun _ => loc _ (by omega), fun _ => loc _ (by omega)⟩⟩
  · unfold w_outRow_J114 w_outRow_J141
    exact ⟨fun _ => loc _ (by omega), fun _ => ⟨fun _ => loc _ (by omega), fun _ => loc _ (by omega)⟩⟩
  · unfold w_outRow_J114 w_outRow_J141
    exact ⟨fun _ => loc _ (by omega), fun _ => ⟨fun _ => loc _ (by omega), fun _ => loc _ (by omega)⟩⟩
  · unfold w_outRow_J165 w_outRow_J192
    exact ⟨fun _ => loc _ (by omega), fun _ => ⟨fun _ => loc _ (by omega), fun _ => loc _ (by omega)⟩⟩
  · unfold w_outRow_J165 w_outRow_J192
    exact ⟨fun _ => loc _ (by omega), fun _ => ⟨fun _ => loc _ (by omega), fun _ => loc _ (by omega)⟩⟩
  · unfold w_outRow_J165 w_outRow_J192
    exact ⟨fun _ => loc _ (by omega), fun _ => ⟨fun _ => loc _ (by omega), fun _ => loc _ (by omega)⟩⟩
  · have e3' : n = 3 := by
      rcases hn.o132 e with y | y
      · exact y.2
      · exact absurd (by_rg2.1.mpr y.1) z
    subst e3'
    exact sp_ob cS h ou (m := 3) (by decide) (by decide) hr (fun u hu => hu)
end ORX
theorem lowF_le {v : Int32} : ∀ m k : Nat, lowF v m k ≤ k + m := by
  intro m
  induction m with
  | zero => intro k; exact Nat.le_refl _
  | succ m ih =>
    intro k
    have := ih (k + 1)
    unfold lowF
    split <;> omega
theorem ht_rg {v : Int32} : htV v ≤ 32 := by
  have := lowF_le (v := v) 32 0
  unfold htV
  split
  · omega
  · split <;> omega
theorem sp_lS {S : MS} (k : LkD S) (t : TxI S) : w_leastStack S (fun _ u => frm [22] [56, 57] S u) := by
  have cn := k.cnt
  unfold w_leastStack
  refine ⟨_, sp_findHeights_d k t (by decide), ?_⟩
  rintro A ⟨fA, _⟩
  have s := smD.fm fA (by decide) (by decide)
  have kA := k.mv s
  have tA : TxI A := s.tx t
  have e52 : qI A 0 52 = qI S 0 52 := (s.2 52 (by decide) (by decide)).1
  have L : ∀ (c : Nat) (m i : Int32), 0 ≤ i.toInt → (1296 - i.toInt).toNat < c → w_leastStack_L10 (fun _ u => frm [22] [56, 57] S u) c A m i := by
    intro c
    induction c with
    | zero => intro m i _ h9; exact absurd h9 (Nat.not_lt_zero _)
    | succ c ih =>
      intro m i i0 hc
      unfold w_leastStack_L10
      refine ⟨fun _ => fA, fun c1 => ?_⟩
      have ir : 0 ≤ i.toInt ∧ i.toInt < (qI A 0 52).toInt := ⟨i0, by omega⟩
      have ei : (i + Int32.ofInt 1).toInt = i.toInt + 1 := by rw [t_add (by rw [lo_1]; rw [e52] at c1; omega), lo_1]
      have nx : ∀ m' : Int32, w_leastStack_J43 (fun _ u => frm [22] [56, 57] S u) (w_leastStack_L10 (fun _ u => frm [22] [56, 57] S u) c) A m' i := fun m' => by
        unfold w_leastStack_J43
        intro a ea
        subst ea
        exact ih m' _ (by omega) (by rw [e52] at c1; omega)
      refine ⟨_, fn_ht ⟨i0, by rw [e52] at c1; omega⟩, ?_⟩
      rintro r u ⟨rfl, er⟩
      refine ⟨fun _ => nx m, fun c2 => ?_⟩
      have hr : r.toInt ≤ 32 := by rw [er]; exact ht_rg
      refine ⟨_, fn_hb_d kA ir tA ⟨by omega, by omega⟩, ?_⟩
      rintro r2 u2 ⟨rfl, _⟩ a ea
      exact nx a
  exact ⟨_, L _ 0 0 (by decide) (Nat.lt_succ_self _)⟩
theorem sp_lL {S : MS} {s : Nat} (k : LkD S) (hs : lOD S s 8) : w_leastLocals S s (fun _ u => u = S) := by
  have cn := k.cnt
  unfold w_leastLocals
  refine ⟨_, fn_places (by have := hs.1.2; omega) (fun i hi => by have := hs.2.1 i hi; omega), ?_⟩
  rintro r u ⟨rfl, _⟩
  have L : ∀ (c : Nat) (m i : Int32), 0 ≤ i.toInt → (1296 - i.toInt).toNat < c → w_leastLocals_L7 (fun _ u' => u' = u) c u m i := by
    intro c
    induction c with
    | zero => intro m i _ h9; exact absurd h9 (Nat.not_lt_zero _)
    | succ c ih =>
      intro m i i0 hc
      unfold w_leastLocals_L7
      refine ⟨fun _ => rfl, fun c1 => ?_⟩
      have d := k.dop (x := i) ⟨i0, by omega⟩
      have ei : (i + Int32.ofInt 1).toInt = i.toInt + 1 := by rw [t_add (by rw [lo_1]; omega), lo_1]
      have j96 : ∀ m' : Int32, w_leastLocals_J96 (fun _ u' => u' = u) (w_leastLocals_L7 (fun _ u' => u' = u) c) u m' i := fun m' => by
        unfold w_leastLocals_J96
        intro a ea
        subst ea
        exact ih m' _ (by omega) (by omega)
      have j84 : ∀ m' : Int32, w_leastLocals_J84 (fun _ u' => u' = u) (w_leastLocals_L7 (fun _ u' => u' = u) c) u m' i := fun m' => by
        unfold w_leastLocals_J84
        exact ⟨d.2.1, fun a _ => j96 a⟩
      have j48 : ∀ m' o : Int32, w_leastLocals_J48 (fun _ u' => u' = u) (w_leastLocals_L7 (fun _ u' => u' = u) c) u m' i o := fun m' o => by
        unfold w_leastLocals_J48
        exact ⟨fun _ => j84 m', fun _ => ⟨fun _ => j84 m', fun _ => ⟨fun _ => j84 m', fun _ => ⟨fun _ => j84 m', fun _ => ⟨fun _ => j84 m', fun _ => j96 m'⟩⟩⟩⟩⟩
      have j36 : ∀ o : Int32, w_leastLocals_J36 (fun _ u' => u' = u) (w_leastLocals_L7 (fun _ u' => u' = u) c) u m i o := fun o => by
        unfold w_leastLocals_J36
        exact ⟨d.2.1, fun a _ => j48 a o⟩
      exact ⟨d.1, fun o _ => ⟨fun _ => j36 o, fun _ => ⟨fun _ => j36 o, fun _ => j48 m o⟩⟩⟩
  exact ⟨_, L _ r 0 (by decide) (Nat.lt_succ_self _)⟩
/-! a method is written (behind sp_oR, sp_lS, sp_lL, sp_lookD) -/
def Wg (NL : List Nat) (kp : Prop) (AL : List (MS → Prop)) (W J : List Nat) (S : MS) (n : Int) (u : MS) : Prop := frm W J S u ∧ (OuI u ∧ oS u = oS S + n ∧ wH u = wH S) ∧ (∀ j : Nat, (j : Int) < oS S → qI u (wH S) j = qI S (wH S) j) ∧ WrI NL kp AL u ∧ BkY S u
section OMX
variable {NL : List Nat} {kp : Prop} {AL : List (MS → Prop)} {W J : List Nat}
theorem Wg.rf {S : MS} (h : WrI NL kp AL S) (o : OuI S) : Wg NL kp AL W J S 0 S := ⟨frm.rf, ⟨o, by omega, rfl⟩, fun _ _ => rfl, h, BkX.rf.y⟩
theorem Wg.tr {S u v : MS} {a b : Int} (h : Wg NL kp AL W J S a u) (k : Wg NL kp AL W J u b v) (ha : 0 ≤ a) : Wg NL kp AL W J S (a + b) v := by
  obtain ⟨h1, ⟨h2, h3, h4⟩, h5, h6, h7⟩ := h
  obtain ⟨k1, ⟨k2, k3, k4⟩, k5, k6, k7⟩ := k
  refine ⟨h1.tr k1, ⟨k2, by omega, k4.trans h4⟩, fun j hj => ?_, k6, h7.tr k7⟩
  have := k5 j (by omega)
  rw [h4] at this
  rw [this]
  exact h5 j hj
theorem Wx.g {S u : MS} {n : Int} (h : Wx NL kp AL S n u) (hW : [28, 29, 30, 31, 32, 33, 34, 35].all (fun x => W.contains x) = true) (hJ : [7, 8, 73, 74, 77].all (fun x => J.contains x) = true) : Wg NL kp AL W J S n u := ⟨h.1.mo hW hJ, h.2⟩
theorem Wg.mo {W' J' : List Nat} {S u : MS} {n : Int} (h : Wg NL kp AL W J S n u) (hW : W.all (fun x => W'.contains x) = true) (hJ : J.all (fun x => J'.contains x) = true) : Wg NL kp AL W' J' S n u := ⟨h.1.mo hW hJ, h.2⟩
/-- a step that writes no byte and leaves the book -/
theorem Wg.k {W0 J0 : List Nat} {S u : MS} (k : frm W0 J0 S u) (h : WrI NL kp AL S) (o : OuI S) (cf : CfS NL kp AL) (hw : ∀ w ∈ W0, w ≤ 92 ∧ (w < 28 ∨ 35 < w)) (hj : ∀ j ∈ J0, j ≠ 73 ∧ j ≠ 74 ∧ j ≠ 75 ∧ j ≠ 76 ∧ j ≠ 77) (hW : W0.all (fun x => W.contains x) = true) (hJ : J0.all (fun x => J.contains x) = true) : Wg NL kp AL W J S 0 u := by
  obtain ⟨a, b, c⟩ := o.fm k (fun q => by have := hw 34 q; omega) (fun q => by have := hw 35 q; omega) (fun q => (hj 75 q).2.2.1 rfl) (fun q => (hj 76 q).2.2.2.1 rfl) (fun q => (hj 77 q).2.2.2.2 rfl)
  refine ⟨k.mo hW hJ, ⟨a, by omega, c⟩, fun j _ => ?_, h.f9 cf k (fun w q => by have := hw w q; omega) (fun j q => ⟨(hj j q).1, (hj j q).2.1⟩), (BkY.f9 k (fun w q => by have := hw w q; omega) (fun j q => (hj j q).1)).1⟩
  have w := o.wh
  rw [(k.2.2.2.2.1 (wH S) (by omega) (fun q => by have := hw _ q; omega)).1]
/-- bytes that stand stay -/
theorem Wg.by {S u : MS} {n : Int} (h : Wg NL kp AL W J S n u) (o : OuI S) : (∀ j : Nat, (j : Int) + 1 < oS S → tw (qI u (wH S)) j = tw (qI S (wH S)) j) ∧ (∀ j : Nat, (j : Int) + 3 < oS S → fo (qI u (wH S)) j = fo (qI S (wH S)) j) ∧ ∀ j : Nat, (j : Int) < oS S → oc (qI u (wH S)) j = oc (qI S (wH S)) j := by
  have z := h.2.2.1
  refine ⟨fun j hj => ?_, fun j hj => ?_, fun j hj => ?_⟩
  · unfold tw oc; rw [z j (by omega), z (j + 1) (by omega)]
  · unfold fo tw oc; rw [z j (by omega), z (j + 1) (by omega), z (j + 2) (by omega), z (j + 2 + 1) (by omega)]
  · unfold oc; rw [z j hj]
/-- n bytes, in a longer run -/
theorem sp_og {A S : MS} {v : Int64} {n : Int32} {m a : Int} {Q : MS → Prop} (cf : CfS NL kp AL) (h : Wg NL kp AL W J A a S) (ha : 0 ≤ a) (hW : [28, 29, 30, 31, 32, 33, 34, 35].all (fun x => W.contains x) = true) (hJ : [7, 8, 73, 74, 77].all (fun x => J.contains x) = true) (e : n.toInt = m) (hn : 0 ≤ m ∧ m ≤ 8) (hr : oS A + a + m ≤ 131072) (hQ : ∀ u, Wg NL kp AL W J A (a + m) u → Q u) : ∃ Q1, w_out S v n Q1 ∧ ∀ u, Q1 u → Q u := by
  have eo := h.2.1.2.1
  exact sp_ob cf h.2.2.2.1 h.2.1.1 e hn (by omega) (fun u hu => hQ u (h.tr (hu.g hW hJ) ha))
end OMX
def JA : List Nat := [7, 8, 56, 57, 73, 74, 77]
section OMY
variable {NL : List Nat} {kp : Prop} {AL : List (MS → Prop)}
theorem Wg.lk {A U : MS} {n : Int} {p : Nat} (w : Wg NL kp AL WA JA A n U) (cf : CfI NL kp AL p A) (k : LkF kp AL p A) : CfI NL kp AL p U ∧ LkF kp AL p U ∧ (∀ x : Int32, f_op U x = f_op A x ∧ f_first U x = f_first A x ∧ f_second U x = f_second A x) ∧ qI U 0 52 = qI A 0 52 ∧ qI U 0 54 = qI A 0 54 ∧ ∀ c x : Int32, f_catchWord U c x = f_catchWord A c x := by
  have p60 : 60 ≤ p := by have := cf.2.1.1; omega
  have s := smD.fm w.1 (by decide) (by decide)
  exact ⟨cf.fm w.1 (by decide), k.fm p60 w.1 (by decide) (by decide), fun x => s.op k.1 x, (s.2 52 (by decide) (by decide)).1, (s.2 54 (by decide) (by decide)).1, fun c x => s.cw k.1 c x⟩
theorem sp_om_L201 {p : Nat} {A S0 : MS} {Q : MS → Prop} {n0 : Int} (f0 : frm WA JM S0 A) (cf : CfI NL kp AL p A) (k : LkF kp AL p A) (h0 : 0 ≤ n0) (hr : oS A + n0 + 8 * (qI A 0 54).toInt + 2 ≤ 131072) (hQ : ∀ u : MS, Wg NL kp AL WA JA A (n0 + 8 * (qI A 0 54).toInt + 2) u → Q u) : ∀ (c : Nat) (U : MS) (i : Int32), (0 ≤ i.toInt ∧ i.toInt ≤ (qI A 0 54).toInt) → Wg NL kp AL WA JA A (n0 + 8 * i.toInt) U → (16 - i.toInt).toNat < c → w_outMethod_L201 Q (eK kp S0) c U i := by
  have cn := k.1.cnt
  have cS := cf.1
  intro c
  induction c with
  | zero => intro U i _ _ h9; exact absurd h9 (Nat.not_lt_zero _)
  | succ c ih =>
    intro U i i0 wU hc
    obtain ⟨cfU, kU, so, e52, e54, ecw⟩ := wU.lk cf k
    unfold w_outMethod_L201
    rw [e54]
    refine ⟨fun c1 => ?_, fun c1 => ?_⟩
    · refine sp_og cS wU (by omega) (by decide) (by decide) (m := 2) (by decide) (by decide) (by omega) (fun u hu => hQ u ?_)
      rw [show n0 + 8 * (qI A 0 54).toInt + 2 = n0 + 8 * i.toInt + 2 by omega]
      exact hu
    · have ir : 0 ≤ i.toInt ∧ i.toInt < (qI A 0 54).toInt := ⟨i0.1, by omega⟩
      have ei : (i + Int32.ofInt 1).toInt = i.toInt + 1 := by rw [t_add (by rw [lo_1]; omega), lo_1]
      have cw := k.1.cw ir
      have L213 : ∀ (d : Nat) (V : MS) (y : Int32), (0 ≤ y.toInt ∧ y.toInt ≤ 3) → Wg NL kp AL WA JA A (n0 + 8 * i.toInt + 2 * y.toInt) V → (3 - y.toInt).toNat < d → w_outMethod_L213 Q (eK kp S0) (w_outMethod_L201 Q (eK kp S0) c) d V i y := by
        intro d
        induction d with
        | zero => intro V y _ _ h9; exact absurd h9 (Nat.not_lt_zero _)
        | succ d ihd =>
          intro V y y0 wV hd
          obtain ⟨cfV, kV, soV, f52, f54, fcw⟩ := wV.lk cf k
          have irV : 0 ≤ i.toInt ∧ i.toInt < (qI V 0 54).toInt := by rw [f54]; exact ir
          unfold w_outMethod_L213
          refine ⟨fun c2 => ⟨kV.1.dcw irV (by decide), fun c3 => ⟨kV.1.dcw irV (by decide), trivial, ?_⟩, fun c3 => ?_⟩, fun c2 => ?_⟩
          · rw [fcw] at c3 ⊢
            rw [er_nm (by omega)]
            obtain ⟨_, _, _, o, ab, _, _, _, _, er, _⟩ := cfV
            obtain ⟨e1, e2⟩ := er (f_catchWord A i 3).toInt.toNat (by omega)
            refine eb_cls (sp_cls cS wV.2.2.2.1 e1.1 e1.2.1 e1.2.2 e2) wV.2.1.1.2.2.1 (f0.tr (wV.1.mo (by decide) (by decide))) ?_
            rintro r X ⟨hX, xX, _⟩
            have wX := wV.tr ((Wx.b xX hX wV.2.1.1).g (by decide) (by decide)) (by omega)
            unfold w_outMethod_J274
            refine sp_og cS wX (by omega) (by decide) (by decide) (m := 2) (by decide) (by decide) (by omega) (fun u hu a ea => ?_)
            subst ea
            refine ih u _ (by omega) ?_ (by omega)
            rw [ei, show n0 + 8 * (i.toInt + 1) = n0 + 8 * i.toInt + 2 * y.toInt + 0 + 2 by omega]
            exact hu
          · unfold w_outMethod_J274
            refine sp_og cS wV (by omega) (by decide) (by decide) (m := 2) (by decide) (by decide) (by omega) (fun u hu a ea => ?_)
            subst ea
            refine ih u _ (by omega) ?_ (by omega)
            rw [ei, show n0 + 8 * (i.toInt + 1) = n0 + 8 * i.toInt + 2 * y.toInt + 2 by omega]
            exact hu
          · have ey : (y + Int32.ofInt 1).toInt = y.toInt + 1 := by rw [t_add (by rw [lo_1]; omega), lo_1]
            have rng : 0 ≤ (f_catchWord A i y).toInt ∧ (f_catchWord A i y).toInt < 1297 := by
              have kk : y.toInt = 0 ∨ y.toInt = 1 ∨ y.toInt = 2 := by omega
              rcases kk with q | q | q
              · have : y = 0 := Int32.toInt_inj.mp (by rw [q]; rfl)
                rw [this]; omega
              · have : y = 1 := Int32.toInt_inj.mp (by rw [q]; rfl)
                rw [this]; omega
              · have : y = 2 := Int32.toInt_inj.mp (by rw [q]; rfl)
                rw [this]; omega
            rw [fcw]
            refine ⟨kV.1.dcw irV y0, rng, ?_⟩
            refine sp_og cS wV (by omega) (by decide) (by decide) (m := 2) (by decide) (by decide) (by omega) (fun u hu a ea => ?_)
            subst ea
            refine ihd u _ (by omega) ?_ (by omega)
            rw [ey, show n0 + 8 * i.toInt + 2 * (y.toInt + 1) = n0 + 8 * i.toInt + 2 * y.toInt + 2 by omega]
            exact hu
      refine ⟨_, L213 _ U 0 (by decide) ?_ (Nat.lt_succ_self _)⟩
      rw [show n0 + 8 * i.toInt + 2 * (0 : Int32).toInt = n0 + 8 * i.toInt by show n0 + 8 * i.toInt + 2 * 0 = _; omega]
      exact wU
/-- where the rows stand -/
def OfI (A U : MS) (of : Nat → Int) (i : Nat) : Prop := of 0 = 0 ∧ ∀ j : Nat, j < i → ((qI U 36 j).toInt = of j ∧ 0 ≤ of j ∧ of j ≤ of (j + 1)) ∧ ∀ x : Int32, x.toInt = j → LnV U (f_op A x) (f_first A x) (f_second A x) (of j) (of (j + 1) - of j)
theorem OfI.mv {A U V : MS} {of : Nat → Int} {i : Nat} (h : OfI A U of i) (e : ∀ j : Nat, j < i → qI V 36 j = qI U 36 j) (y : BkY U V) (hB : BkI U) : OfI A V of i := ⟨h.1, fun j hj => ⟨by rw [e j hj]; exact (h.2 j hj).1, fun x ex => ((h.2 j hj).2 x ex).my y hB⟩⟩
theorem sp_om_L167 {p : Nat} {A S0 : MS} {Q : MS → Prop} {of : Nat → Int} {n0 o : Int} (f0 : frm WA JM S0 A) (cf : CfI NL kp AL p A) (k : LkF kp AL p A) (h0 : 0 ≤ n0) (eo : of (qI A 0 52).toInt.toNat = o) (ob : ∀ j : Nat, (j : Int) ≤ (qI A 0 52).toInt → 0 ≤ of j ∧ of j ≤ o) (hb : o ≤ 3900) (hr : oS A + n0 + o + 2 + 8 * (qI A 0 54).toInt + 2 ≤ 131072) (hQ : ∀ u : MS, Wg NL kp AL WA JA A (n0 + o + 2 + 8 * (qI A 0 54).toInt + 2) u → Q u) : ∀ (c : Nat) (U : MS) (i : Int32), (0 ≤ i.toInt ∧ i.toInt ≤ (qI A 0 52).toInt) → OfI A U of (qI A 0 52).toInt.toNat → Wg NL kp AL WA JA A (n0 + of i.toInt.toNat) U → (1296 - i.toInt).toNat < c → w_outMethod_L167 Q (eK kp S0) c U i := by
  have cn := k.1.cnt
  have cS := cf.1
  intro c
  induction c with
  | zero => intro U i _ _ _ h9; exact absurd h9 (Nat.not_lt_zero _)
  | succ c ih =>
    intro U i i0 hO wU hc
    obtain ⟨cfU, kU, so, e52, e54, ecw⟩ := wU.lk cf k
    have bi := ob i.toInt.toNat (by omega)
    unfold w_outMethod_L167
    rw [e52]
    refine ⟨fun c1 => ?_, fun c1 => ?_⟩
    · have e : of i.toInt.toNat = o := by rw [show i.toInt.toNat = (qI A 0 52).toInt.toNat by omega]; exact eo
      rw [e] at wU
      refine sp_og cS wU (by omega) (by decide) (by decide) (m := 2) (by decide) (by decide) (by omega) (fun u hu => ?_)
      refine ⟨_, sp_om_L201 f0 cf k (n0 := n0 + o + 2) (by omega) (by omega) hQ _ u 0 ⟨by decide, by show (0 : Int) ≤ _; omega⟩ ?_ (Nat.lt_succ_self _)⟩
      rw [show n0 + o + 2 + 8 * (0 : Int32).toInt = n0 + o + 2 by show n0 + o + 2 + 8 * 0 = _; omega]
      exact hu
    · have ei : (i + Int32.ofInt 1).toInt = i.toInt + 1 := by rw [t_add (by rw [lo_1]; omega), lo_1]
      obtain ⟨⟨o1, o2, o3⟩, o4⟩ := hO.2 i.toInt.toNat (by omega)
      have ln := o4 i (by omega)
      have b1 := ob (i.toInt.toNat + 1) (by omega)
      have eU := wU.2.1.2.1
      refine ⟨_, _, sp_oR cfU wU.2.2.2.1 kU wU.2.1.1 (n := of (i.toInt.toNat + 1) - of i.toInt.toNat) ⟨i0.1, by rw [e52]; omega⟩ ⟨by omega, by omega⟩ ?_ (by omega), ?_, fun u q => ⟨q.1, q.2.1, (f0.tr (wU.1.mo (by decide) (by decide))).tr q.2.2⟩⟩
      · unfold LnP
        rw [(so i).1, (so i).2.1, (so i).2.2, o1]
        exact ln
      · intro V wV a ea
        subst ea
        refine ih V _ (by omega) (hO.mv (fun j _ => by rw [(wV.1.2.2.2.2.1 36 (by decide) (by decide)).1]) wV.2.2.2.2 wU.2.2.2.1.1) ?_ (by omega)
        rw [show (i + Int32.ofInt 1).toInt.toNat = i.toInt.toNat + 1 by omega, show n0 + of (i.toInt.toNat + 1) = n0 + of i.toInt.toNat + (of (i.toInt.toNat + 1) - of i.toInt.toNat) by omega]
        exact wU.tr (wV.g (by decide) (by decide)) (by omega)
theorem LkD.wr {S : MS} (h : LkD S) {x : Int32} (hx : 0 ≤ x.toInt ∧ x.toInt < (qI S 0 52).toInt) : wtR (qI S (qO S 0 48)) ((qI S 0 51).toInt.toNat + x.toInt.toNat) = wtV (f_op S x).toInt (f_second S x).toInt ∧ ((f_op S x).toInt = 170 ∨ (f_op S x).toInt = 171 → 0 ≤ (f_second S x).toInt) := by
  have cn := h.cnt
  have ix := lk_ix_d h hx
  obtain ⟨L, F, M, ts, rb, rt, rv, -, -⟩ := h.rv hx
  have e1 : (3 * ((qI S 0 51).toInt + x.toInt)).toNat = 3 * ((qI S 0 51).toInt.toNat + x.toInt.toNat) := by omega
  have e2 : (3 * ((qI S 0 51).toInt + x.toInt) + 2).toNat = 3 * ((qI S 0 51).toInt.toNat + x.toInt.toNat) + 2 := by omega
  refine ⟨?_, fun q => (rv.2.2.1 q).2.1⟩
  unfold f_op f_second wtR
  rw [ix.1, ix.2.2, e1, e2]
theorem wtS_up {R : Nat → Int32} {a : Nat} : ∀ (d i : Nat), (∀ j : Nat, i ≤ j → j < i + d → 0 ≤ wtR R (a + j)) → wtS R a i ≤ wtS R a (i + d) := by
  intro d
  induction d with
  | zero => intro i _; exact Int.le_refl _
  | succ d ih =>
    intro i h
    have q := ih i (fun j j0 j1 => h j j0 (by omega))
    have w := h (i + d) (by omega) (by omega)
    show wtS R a i ≤ wtS R a (i + d) + wtR R (a + (i + d))
    omega
end OMY
