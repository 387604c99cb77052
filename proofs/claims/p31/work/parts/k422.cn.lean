/-! the name of a counter (behind sp_ini, sp_toS, TxI) -/
theorem neg_t {x : Int32} (h : 0 ≤ x.toInt ∧ x.toInt ≤ 1000) : (-x).toInt = -x.toInt := by
  rw [Int32.toInt_neg, Int.bmod_def]
  split <;> omega
theorem sp_sSize {S : MS} {x : Int32} (h : 0 ≤ x.toInt ∧ x.toInt < 24) : w_J6_stringSize_0f7a4 S x (fun r u => u = S ∧ (r.toInt = 1 ∧ x.toInt ≤ 9 ∨ r.toInt = 2 ∧ 10 ≤ x.toInt)) := by
  have en := neg_t (x := x) (by omega)
  have m10 : (-10 : Int32).toInt = -10 := by decide
  have l1 : (1 : Int32).toInt = 1 := by decide
  unfold w_J6_stringSize_0f7a4
  refine ⟨fun q => absurd q (by omega), fun _ a ea => ?_⟩
  subst ea
  unfold w_J6_stringSize_0f7a4_J11
  refine ⟨2, ?_⟩
  unfold w_J6_stringSize_0f7a4_L16
  rw [en, m10, l1]
  refine ⟨fun q => absurd q (by decide), fun _ => ⟨fun c1 a5 e5 a6 e6 => ?_, fun c1 => ⟨rfl, Or.inl ⟨by decide, by omega⟩⟩⟩⟩
  subst e5
  subst e6
  unfold w_J6_stringSize_0f7a4_L16
  have t5 : ((10 : Int32) * (-10 : Int32)).toInt = -100 := by decide
  have t6 : ((1 : Int32) + Int32.ofInt 1).toInt = 2 := by decide
  rw [en, t5, t6]
  exact ⟨fun q => absurd q (by decide), fun _ => ⟨fun c2 => absurd c2 (by omega), fun _ => ⟨rfl, Or.inr ⟨by decide, by omega⟩⟩⟩⟩
/-- no growth: the place is there -/
theorem sp_ens {S : MS} {b v cap : Nat} {x : Int32} {Q : MS → Prop} (h1 : qR S b 0 = some v) (h2 : qI S b 1 = 0) (h3 : qN S v = cap) (hc : cap ≤ 1000) (hx : 0 ≤ x.toInt ∧ x.toInt ≤ cap) (hQ : Q S) : w_J5_ensureCapacityInternal_d00df S b x Q := by
  have qo : qO S b 0 = v := by unfold qO; rw [h1]; rfl
  unfold w_J5_ensureCapacityInternal_d00df
  rw [qo, h3, h2, z_shr]
  refine ⟨h1, fun a4 e4 => ?_⟩
  have e5 : (x - a4).toInt = x.toInt - cap := by rw [t_sub (by rw [e4, oN (by omega)]; omega), e4, oN (by omega)]
  rw [e5]
  exact ⟨fun _ => hQ, fun q => absurd q (by omega)⟩
theorem sp_cname {U : MS} {x : Int32} {K : Nat → MS → Prop} (tx : TxI U) (hk : knI U) (hx : 0 ≤ x.toInt ∧ x.toInt < 24) (hr : qn U + 4 ≤ KC ∧ qu U + 32 ≤ KS) (D : MS) (eD : D = wN U 13 0 4) (sub : MS → Int32) (hs : ∀ V : MS, (∀ a : Nat, a < qn U → sm5 U V a) → sub V = x) (hK : ∀ (r : Nat) (u : MS), r = qn U + 2 → (∃ (n : Nat) (g : Nat → Int32), (2 ≤ n ∧ n ≤ 3) ∧ StI u r n g) → exS U u 4 32 → K r u) : ∃ Q52, w_J4_init_da8c8 D (qn U) Q52 ∧ ∀ S53, Q52 S53 → (∃ Q57, w_J4_append_15ec4 S53 (qn U) 10000036 Q57 ∧ ∀ b62 S59, Q57 b62 S59 → (∃ Q64, w_J4_append_bf812 S59 b62 (sub S59) Q64 ∧ ∀ b69 S66, Q64 b69 S66 → (∃ Q70, w_J4_toString_0e30d S66 b69 Q70 ∧ ∀ b75 S72, Q70 b75 S72 → K b75 S72))) := by
  obtain ⟨n1, n2, n3, n4, n5, n6⟩ := wN_new (S := U) (t := 13) (n := 0) (k := 4)
  rw [← eD] at n1 n2 n3 n4 n5 n6
  have sD : ∀ a : Nat, a ≠ qn U → sm5 U D a := fun a ha => by rw [eD]; exact sm5.wN ha
  have k93 := hk.1
  have kKC : KC = 300000 := rfl
  have t16 : (16 : Int32).toInt = 16 := by decide
  have ini := sp_ini (S := D) (b := qn U) (n := 16) (by omega) ⟨by rw [n1], by rw [n1]⟩ (by omega) ⟨by omega, by omega⟩
  unfold w_J4_init_d00df at ini
  refine ⟨_, by unfold w_J4_init_da8c8; exact ini, ?_⟩
  rintro B ⟨⟨b1, b2, ⟨b3, b4⟩, b5, b6, b7, b8⟩, qB, uB, fB⟩
  rw [n5] at b1 b2 b5 b7 b8 qB fB
  rw [show (16 : Int32).toInt.toNat = 16 by decide] at b5 b6 uB
  have sB : ∀ a : Nat, a ≠ qn U → a ≠ qn U + 1 → sm5 U B a := fun a h1 h2 => (sD a h1).tr (fB a h1 h2)
  have eTX : (10000036 : Nat) = TXB + 2 * 18 := rfl
  have tB : TXB = 10000000 := rfl
  obtain ⟨x1, x2, x3⟩ := tx 18 (by decide)
  have s37 : sm5 U B (10000036 + 1) := sB _ (by omega) (by omega)
  have N37 : qN B (10000036 + 1) = 1 := by rw [s37.2.2.2.2]; exact x2
  have b3n : (qI B (qn U) 3).toInt = 0 := by rw [b4]; decide
  have e01 : (qI B (qn U) 3 + Int32.ofNat 1).toInt = 1 := by rw [b4]; decide
  have qoB : qO B (qn U) 0 = qn U + 1 := by unfold qO; rw [b1]; rfl
  -- the letter c
  refine ⟨fun r C => r = qn U ∧ (qR C (qn U) 0 = some (qn U + 1) ∧ qI C (qn U) 1 = 0 ∧ (qI C (qn U) 3).toInt = 1 ∧ qN C (qn U + 1) = 16 ∧ byt C (qn U + 1)) ∧ (qn C = qn U + 2 ∧ qu C = qu U + 20) ∧ ∀ a : Nat, a ≠ qn U → a ≠ qn U + 1 → sm5 U C a, ?_, ?_⟩
  · unfold w_J4_append_15ec4 w_J5_append_cf1ce
    refine ⟨fun _ C => (qR C (qn U) 0 = some (qn U + 1) ∧ qI C (qn U) 1 = 0 ∧ (qI C (qn U) 3).toInt = 1 ∧ qN C (qn U + 1) = 16 ∧ byt C (qn U + 1)) ∧ (qn C = qn U + 2 ∧ qu C = qu U + 20) ∧ ∀ a : Nat, a ≠ qn U → a ≠ qn U + 1 → sm5 U C a, fun a2 e2 => ?_, fun b6 C hC => ⟨rfl, hC⟩⟩
    rw [N37] at e2
    subst e2
    refine ⟨fun V => V = B, sp_ens b1 b3 b5 (by omega) (by omega) rfl, ?_⟩
    rintro V rfl
    unfold w_J5_putStringAt_47b60 w_J5_inflateIfNeededFor_a7421
    refine ⟨fun V' => qR V' (qn U) = qR V (qn U) ∧ qI V' (qn U) = qI V (qn U) ∧ qN V' = qN V ∧ byt V' (qn U + 1) ∧ (qn V' = qn V ∧ qu V' = qu V) ∧ ∀ a : Nat, a ≠ qn U + 1 → sm5 V V' a, ⟨fun W => W = V, ⟨fun _ => rfl, fun q => absurd (by rw [b3]; rfl) q⟩, ?_⟩, ?_⟩
    · rintro W rfl
      rw [qoB]
      refine ⟨b1, fun V' => qR V' (qn U) = qR W (qn U) ∧ qI V' (qn U) = qI W (qn U) ∧ qN V' = qN W ∧ byt V' (qn U + 1) ∧ (qn V' = qn W ∧ qu V' = qu W) ∧ ∀ a : Nat, a ≠ qn U + 1 → sm5 W V' a, ?_, fun S7 h7 => h7⟩
      unfold w_J0_getBytes_840e7
      rw [b3, z_shl, N37, b5]
      have c1 : (Int32.ofNat 1).toNatClampNeg = 1 := by decide
      have c0 : (qI W (qn U) 3).toNatClampNeg = 0 := by show (qI W (qn U) 3).toInt.toNat = 0; rw [b3n]; rfl
      rw [c1, c0]
      have fx : byt W (10000036 + 1) := fun i => by
        rw [s37.1]
        have := x3 i
        rw [show TXB + 2 * 18 + 1 = 10000036 + 1 from rfl] at this
        rw [this]
        have es : sBr.getD 18 [] = [99] := by decide
        rw [es]
        cases i with
        | zero => decide
        | succ i => exact fit0
      refine ⟨fun _ => ⟨⟨18, by decide, rfl⟩, ⟨18, by decide, rfl⟩, ⟨by decide, fun q => ?_, by decide, by decide, by decide, fx⟩, fun X eX => ?_⟩, fun q => absurd rfl q⟩
      · have := Int32.lt_iff_toInt_lt.mp q
        rw [b3n] at this
        exact absurd this (by decide)
      · have XI : qI X (qn U + 1) = va_cpy (qI W (10000036 + 1)) (qI W (qn U + 1)) (0 : Int32).toNatClampNeg 0 1 := by rw [eX]; exact if_pos rfl
        have sX : ∀ a : Nat, a ≠ qn U + 1 → sm5 W X a := fun a ha => by rw [eX]; exact sm5.wC ha
        refine ⟨(sX _ (by omega)).2.2.1, (sX _ (by omega)).1, by rw [eX]; rfl, fun i => ?_, ⟨by rw [eX]; rfl, by rw [eX]; rfl⟩, sX⟩
        rw [XI]
        show fits .byte (.int (if 0 ≤ i ∧ i < 0 + 1 then qI W (10000036 + 1) (0 + (i - 0)) else qI W (qn U + 1) i)) = true
        by_cases q : 0 ≤ i ∧ i < 0 + 1
        · rw [if_pos q]; exact fx _
        · rw [if_neg q]; exact b8 i
    · rintro W ⟨w1, w2, w3, w4, w5, w6⟩ X eX
      have sX : ∀ a : Nat, a ≠ qn U → sm5 W X a := fun a ha => by rw [eX]; exact sm5.wI ha
      refine ⟨⟨by rw [eX]; show qR W (qn U) 0 = _; rw [w1]; exact b1, by rw [eX, qI_wI, if_neg (fun q => absurd q.2 (by decide)), w2]; exact b3, by rw [eX, qI_wI, if_pos ⟨rfl, rfl⟩, w2]; exact e01, by rw [eX]; show qN W _ = _; rw [w3]; exact b5, fun i => by rw [(sX (qn U + 1) (by omega)).1]; exact w4 i⟩, ⟨by rw [eX]; show qn W = _; rw [w5.1, qB], by rw [eX]; show qu W = _; rw [w5.2, uB, n6]⟩, fun a a1 a2 => ((sB a a1 a2).tr (w6 a a2)).tr (sX a a1)⟩
  rintro _ C ⟨rfl, ⟨c1, c2, c3, c4, c5⟩, ⟨c6, c7⟩, c8⟩
  rw [hs C (fun a ha => c8 a (by omega) (by omega))]
  have qoC : qO C (qn U) 0 = qn U + 1 := by unfold qO; rw [c1]; rfl
  -- the number
  refine ⟨fun r E => r = qn U ∧ (∃ n : Nat, (2 ≤ n ∧ n ≤ 3) ∧ BdI E (qn U) (qn U + 1) n 16 (qI E (qn U + 1))) ∧ (qn E = qn U + 2 ∧ qu E = qu U + 20) ∧ ∀ a : Nat, a ≠ qn U → a ≠ qn U + 1 → sm5 U E a, ?_, ?_⟩
  · unfold w_J4_append_bf812 w_J5_append_c97b9
    refine ⟨fun _ E => (∃ n : Nat, (2 ≤ n ∧ n ≤ 3) ∧ BdI E (qn U) (qn U + 1) n 16 (qI E (qn U + 1))) ∧ (qn E = qn U + 2 ∧ qu E = qu U + 20) ∧ ∀ a : Nat, a ≠ qn U → a ≠ qn U + 1 → sm5 U E a, fun a1 e1 => ⟨_, sp_sSize hx, ?_⟩, fun b6 E hE => ⟨rfl, hE⟩⟩
    rintro r3 V ⟨rfl, hr3⟩ a7 e7
    have a1t : a1.toInt = 1 := by rw [e1]; exact c3
    have a7t : a7.toInt = 1 + r3.toInt := by rw [e7, t_add (by omega), a1t]
    refine ⟨fun W => W = V, sp_ens c1 c2 c4 (by omega) (by omega) rfl, ?_⟩
    rintro W rfl
    have z0 : (qI W (qn U) 1).toInt = 0 := by rw [c2]; rfl
    unfold d_J5_isLatin1_aae02 f_J5_isLatin1_aae02
    rw [if_pos z0, if_pos z0, qoC]
    refine ⟨trivial, fun q => absurd q (by decide), fun _ => ⟨c1, fun _ E => byt E (qn U + 1) ∧ qN E = qN W ∧ (qn E = qn W ∧ qu E = qu W) ∧ ∀ a : Nat, a ≠ qn U + 1 → sm5 W E a, ?_, ?_⟩⟩
    · have en := neg_t (x := x) (by omega)
      have ex : -(-x) = x := by rw [Int32.neg_neg]
      have wr : ∀ (V X : MS) (i : Nat) (v : Int32), (byt V (qn U + 1) ∧ qN V = qN W ∧ (qn V = qn W ∧ qu V = qu W) ∧ ∀ a : Nat, a ≠ qn U + 1 → sm5 W V a) → X = wI V (qn U + 1) i (vp_nar .byte v) → (byt X (qn U + 1) ∧ qN X = qN W ∧ (qn X = qn W ∧ qu X = qu W) ∧ ∀ a : Nat, a ≠ qn U + 1 → sm5 W X a) := fun V X i v hV eX => by
        refine ⟨fun j => ?_, by rw [eX]; exact hV.2.1, by rw [eX]; exact hV.2.2.1, fun a ha => (hV.2.2.2 a ha).tr (by rw [eX]; exact sm5.wI ha)⟩
        rw [eX, qI_wI]
        by_cases q : qn U + 1 = qn U + 1 ∧ j = i
        · rw [if_pos q]; exact fitB _
        · rw [if_neg q]; exact hV.1 j
      have h0 : byt W (qn U + 1) ∧ qN W = qN W ∧ (qn W = qn W ∧ qu W = qu W) ∧ ∀ a : Nat, a ≠ qn U + 1 → sm5 W W a := ⟨c5, rfl, ⟨rfl, rfl⟩, fun _ _ => sm5.rf⟩
      unfold w_J6_getChars_ba4f3 w_J6_getChars_ba4f3_J12
      refine ⟨fun _ => ⟨fun _ a36 e36 => ⟨1, ?_⟩, fun q => absurd rfl q⟩, fun q => absurd hx.1 q⟩
      subst e36
      have lm : (Int32.ofInt (-1)).toInt = -1 := by decide
      unfold w_J6_getChars_ba4f3_L22
      rw [ex, en]
      refine ⟨fun _ a2 e2 => ?_, fun q => absurd q (by omega)⟩
      have a2t : a2.toInt = r3.toInt := by rw [e2, t_add (by rw [lm]; omega), lm, a7t]; omega
      refine ⟨by omega, ⟨by omega, by rw [c4]; omega⟩, fun X eX => ?_⟩
      have hX := wr W X _ _ h0 eX
      unfold w_J6_getChars_ba4f3_J104
      refine ⟨fun _ => ⟨fun _ => hX, fun q => absurd rfl q⟩, fun c9 a13 e13 => ?_⟩
      have a13t : a13.toInt = a2.toInt - 1 := by rw [e13, t_add (by rw [lm]; omega), lm]; omega
      exact ⟨by omega, ⟨by omega, by rw [hX.2.1, c4]; omega⟩, fun Y eY => ⟨fun _ => wr X Y _ _ hX eY, fun q => absurd rfl q⟩⟩
    · rintro r19 E ⟨y1, y2, y3, y4⟩ X eX
      have sX : ∀ a : Nat, a ≠ qn U → sm5 E X a := fun a ha => by rw [eX]; exact sm5.wI ha
      have s0 := y4 (qn U) (by omega)
      refine ⟨⟨a7.toInt.toNat, by omega, by rw [eX]; show qR E (qn U) 0 = _; rw [s0.2.2.1]; exact c1, by omega, ⟨by rw [eX, qI_wI, if_neg (fun q => absurd q.2 (by decide)), s0.1]; exact c2, ?_⟩, by rw [eX]; show qN E _ = _; rw [y2]; exact c4, by omega, fun i _ => rfl, fun i => by rw [(sX (qn U + 1) (by omega)).1]; exact y1 i⟩, ⟨by rw [eX]; show qn E = _; rw [y3.1, c6], by rw [eX]; show qu E = _; rw [y3.2, c7]⟩, fun a a1' a2' => ((c8 a a1' a2').tr (y4 a a2')).tr (sX a a1')⟩
      rw [eX, qI_wI, if_pos ⟨rfl, rfl⟩]
      exact Int32.toInt_inj.mp (by rw [oN (by omega)]; omega)
  rintro _ E ⟨rfl, ⟨n, hn, bd⟩, ⟨e1, e2⟩, e3⟩
  refine ⟨_, sp_toS bd ⟨by omega, by omega⟩ ⟨by omega, by omega⟩, ?_⟩
  rintro r u ⟨rfl, u1, u2, u3, u4⟩
  refine hK _ u (by omega) ⟨n, _, hn, u1⟩ ⟨fun a ha => ?_, by omega, by omega⟩
  exact (e3 a (by omega) (by omega)).tr (u4 a (by omega))
/-! count: one method, and the loop over the methods (behind sp_graph2, sp_takeMethod, sp_putMethod, gb_rc, DmI) -/
/-- a method of the draft, with counters; X fields -/
def DmJ (S : MS) (f : Nat) (X : Int) (U : MS) (m : Nat) : Prop := MtD (qI U 74) (qI U 75) (qI U 76) (qI U 0 122).toInt 40000 (qI U 0 123).toInt (qI S (f + 9) m).toInt X (qI S f 4).toInt (qI U 70 m) (qI U 71 m) (qI U 72 m) (qI U 73 m) ∧ ∀ p : Nat, (p : Int) < (qI U 71 m).toInt → (qI U 74 (3 * ((qI U 70 m).toInt.toNat + p))).toInt = 170 ∨ (qI U 74 (3 * ((qI U 70 m).toInt.toNat + p))).toInt = 171 → ∃ j : Nat, (j : Int) < mL S f m ∧ rwS (mR S f) (mF S f m) j ∧ (qI U 74 (3 * ((qI U 70 m).toInt.toNat + p) + 1)).toInt = (rwA (mR S f) (mF S f m) j).toInt ∧ (qI U 74 (3 * ((qI U 70 m).toInt.toNat + p) + 2)).toInt = (rwB (mR S f) (mF S f m) j).toInt
theorem DmJ.mv {S U u : MS} {f m n : Nat} {B : Nat} {X : Int} (h : DmJ S f X U m) (tb : TbF S f) (mn : m < n) (hn : (n : Int) < (qI S f 4).toInt) (eB : (qI U 0 122).toInt = B) (e1 : (B : Int) ≤ (qI u 0 122).toInt) (e2 : 0 ≤ (qI U 0 123).toInt ∧ (qI U 0 123).toInt ≤ (qI u 0 123).toInt) (k1 : ∀ j : Nat, j < 3 * B → qI u 74 j = qI U 74 j) (k2 : ∀ j : Nat, j < 4 * (qI U 0 123).toInt.toNat → qI u 76 j = qI U 76 j) (k3 : ∀ q : Nat, ouT S f n q → qI u 75 q = qI U 75 q) (s1 : sameBut U u 70 n) (s2 : sameBut U u 71 n) (s3 : sameBut U u 72 n) (s4 : sameBut U u 73 n) : DmJ S f X u m := by
  have ne : m ≠ n := by omega
  obtain ⟨⟨d1, d2, d3, d4, d5, d6, d7, d8, d9⟩, d10⟩ := h
  rw [eB] at d3
  have rr : ∀ p : Nat, (p : Int) < (qI U 71 m).toInt → qI u 74 (3 * ((qI U 70 m).toInt.toNat + p)) = qI U 74 (3 * ((qI U 70 m).toInt.toNat + p)) ∧ qI u 74 (3 * ((qI U 70 m).toInt.toNat + p) + 1) = qI U 74 (3 * ((qI U 70 m).toInt.toNat + p) + 1) ∧ qI u 74 (3 * ((qI U 70 m).toInt.toNat + p) + 2) = qI U 74 (3 * ((qI U 70 m).toInt.toNat + p) + 2) := fun p hp => ⟨k1 _ (by omega), k1 _ (by omega), k1 _ (by omega)⟩
  unfold DmJ
  rw [s1 m ne, s2 m ne, s3 m ne, s4 m ne]
  refine ⟨⟨d1, d2, by omega, fun i hi => ?_, ?_, d6, d7, by omega, fun c hc => ?_⟩, fun p hp hw => ?_⟩
  · have r := d4 i hi
    obtain ⟨q1, q2, q3⟩ := rr i hi
    unfold rOK at r ⊢
    rw [q1, q2, q3]
    refine ⟨r.1, r.2.1, fun w => ?_, r.2.2.2⟩
    obtain ⟨y1, y2, y3, y4, y5, y6⟩ := r.2.2.1 w
    refine ⟨y1, y2, y3, y4, fun k hk => ?_, y6⟩
    obtain ⟨j, j1, j2, j3, j4⟩ := d10 i hi w
    rw [k3 _ (fun i2 hi2 w2 y => ?_)]
    · exact y5 k hk
    · have := tb m n j i2 hn j1 hi2 (Or.inl mn) j2 w2
      omega
  · rw [wtS_eq2 (R := qI U 74) _ (fun i hi => ⟨(rr i (by omega)).1, (rr i (by omega)).2.2⟩)]
    exact d5
  · exact (d9 c hc).mv (fun j hj => k2 j (by omega))
  · obtain ⟨q1, q2, q3⟩ := rr p hp
    rw [q1] at hw
    rw [q2, q3]
    exact d10 p hp hw
theorem DmI.j {S U : MS} {f m : Nat} (h : DmI S f U m) : DmJ S f (qI S f 3).toInt U m := ⟨h.1.d, h.2⟩
theorem FsI.f9 {S u : MS} {W J : List Nat} (h : FsI VfI S) (hk : knI S) (k : frm W J S u) (hW : ∀ w ∈ W, w ≠ 1 ∧ w ≤ 92) (hJ : 1 ∉ J) : FsI VfI u := by
  have kb := big_frm k (fun w q => (hW w q).2)
  exact h.mv VfI.st hk (fun a a0 _ => kb a a0) (fun a ha => kb a (by rw [show TXB = 10000000 from rfl] at ha; omega)) (by rw [k.2.2.1]; exact Nat.le_refl _) (k.2.2.2.2.2 1 hJ).1 (k.2.2.2.2.1 1 (by decide) (fun q => (hW 1 q).1 rfl)).2.2
theorem knI.f9 {S u : MS} {W J : List Nat} (h : knI S) (k : frm W J S u) : knI u := by
  unfold knI
  rw [k.1, k.2.2.1]
  exact h
theorem GrJ.mv {S V : MS} (h : GrJ S) (F : FsI VfI S) (k : ∀ a : Nat, 92 < a → a < qn S → sm6 S V a) (e0 : qI V 0 1 = qI S 0 1 ∧ qI V 0 105 = qI S 0 105 ∧ qI V 0 106 = qI S 0 106 ∧ qI V 0 107 = qI S 0 107 ∧ qI V 0 110 = qI S 0 110) (e1 : qR V 1 = qR S 1) (e2 : qI V 49 = qI S 49 ∧ qI V 50 = qI S 50 ∧ qI V 51 = qI S 51 ∧ qI V 52 = qI S 52 ∧ qI V 53 = qI S 53) : GrJ V := by
  unfold GrJ
  rw [e0.1, e0.2.1, e0.2.2.1, e0.2.2.2.1, e1, e2.2.2.2.2]
  rcases h with q | ⟨f, q1, q2, q3, q4, q5, q6⟩
  · exact Or.inl q
  obtain ⟨f', y1, y2, _⟩ := F.2 (qI S 0 106).toInt.toNat (by omega)
  have ef : f' = f := by rw [y1] at q2; injection q2
  subst ef
  have y2' := y2
  obtain ⟨h1, h2, h3, h4, h5, R, T, C, nc, ts, cn, r1, r2, r3, r4, r5, r6⟩ := y2
  have eR : qO S f' 18 = R := by unfold qO; rw [r2.1]; rfl
  have eT : qO S f' 19 = T := by unfold qO; rw [r2.2.1]; rfl
  have eC : qO S f' 20 = C := by unfold qO; rw [r2.2.2]; rfl
  have kR := (k R (by omega) (by omega)).1 (by rw [r3.1]; decide)
  have kT := (k T (by omega) (by omega)).1 (by rw [r3.2.1]; decide)
  have kC := (k C (by omega) (by omega)).1 (by rw [r3.2.2]; decide)
  have kf := (k f' (by omega) (by omega)).2 h1.2.1.1
  have kr : ∀ i : Nat, i < 13 → sm5 S V (f' + 1 + i) := fun i hi => (k _ (by omega) (by omega)).1 (by rw [(h1.2.2 i hi).2.2]; split <;> decide)
  refine Or.inr ⟨f', q1, q2, q3, ?_, ?_, ?_⟩
  · rw [(kr 10 (by decide)).1]
    unfold GbI at q4 ⊢
    rw [e2.1, e2.2.1, e0.2.1]
    exact q4
  · unfold GeI at q5 ⊢
    rw [e2.2.2.1, e2.2.2.2.1, e0.2.1, e0.2.2.2.2]
    exact q5
  · refine q6.mv ⟨kf.2.1 18 (by decide), kf.2.1 19 (by decide), kf.2.1 20 (by decide)⟩ ?_ ⟨by rw [(kr 9 (by decide)).1], by rw [(kr 10 (by decide)).1], by rw [(kr 11 (by decide)).1], by rw [(kr 12 (by decide)).1]⟩
    rw [eR, eT, eC]
    exact ⟨kR.1, kT.1, kC.1⟩
theorem GrJ.f9 {S u : MS} {W J : List Nat} (h : GrJ S) (F : FsI VfI S) (k : frm W J S u) (hW : ∀ w ∈ W, 60 ≤ w ∧ w ≤ 92) (hJ : ∀ j ∈ J, j ≠ 1 ∧ j ≠ 105 ∧ j ≠ 106 ∧ j ≠ 107 ∧ j ≠ 110) : GrJ u := by
  have kb := big_frm k (fun w q => (hW w q).2)
  have lw := fun (a : Nat) (h0 : a ≠ 0) (h1 : a < 60) => k.2.2.2.2.1 a h0 (fun q => by have := hW a q; omega)
  have lj := fun (j : Nat) (q : j = 1 ∨ j = 105 ∨ j = 106 ∨ j = 107 ∨ j = 110) => (k.2.2.2.2.2 j (fun z => by have := hJ j z; omega)).1
  exact h.mv F (fun a a0 _ => (kb a a0).s6) ⟨lj 1 (by omega), lj 105 (by omega), lj 106 (by omega), lj 107 (by omega), lj 110 (by omega)⟩ (lw 1 (by decide) (by decide)).2.2 ⟨(lw 49 (by decide) (by decide)).1, (lw 50 (by decide) (by decide)).1, (lw 51 (by decide) (by decide)).1, (lw 52 (by decide) (by decide)).1, (lw 53 (by decide) (by decide)).1⟩
theorem GnA.f9 {S u : MS} {W J : List Nat} {f m n : Nat} (h : GnA S f m n) (hf : FlI S f) (k : frm W J S u) (hW : ∀ w ∈ W, w ≤ 92) : GnA u f m n := by
  have kb := big_frm k hW
  have f92 := hf.1.1.1
  obtain ⟨h1, h2, h3, h4, h5, R, T, C, nc, ts, cn, r1, r2, r3, r4, r5, r6⟩ := hf
  have eR : qO S f 18 = R := by unfold qO; rw [r2.1]; rfl
  have eT : qO S f 19 = T := by unfold qO; rw [r2.2.1]; rfl
  have eC : qO S f 20 = C := by unfold qO; rw [r2.2.2]; rfl
  refine h.mv ?_ ?_ ?_
  · rw [(kb f f92).2.2.1]; exact ⟨rfl, rfl, rfl⟩
  · rw [eR, eT, eC]; exact ⟨(kb R (by omega)).1, (kb T (by omega)).1, (kb C (by omega)).1⟩
  · exact ⟨by rw [(kb _ (by omega)).1], by rw [(kb _ (by omega)).1], by rw [(kb _ (by omega)).1], by rw [(kb _ (by omega)).1]⟩
/-- what one method of count leaves -/
def CoP (U : MS) (R : Nat → Int32) (fst : Nat) (len L F M : Int) (B m K : Nat) (u : MS) : Prop := frm [49, 50, 51, 52, 53, 54, 55, 56, 57, 58, 59, 70, 71, 72, 73, 74, 75, 76, 78, 79, 80, 81, 82, 83, 84, 85, 86, 91, 92] [47, 48, 49, 50, 51, 52, 53, 54, 105, 106, 107, 110, 122, 123, 129, 135] U u ∧ GrJ u ∧ ∃ e n : Nat, (1 ≤ e ∧ (e : Int) ≤ len + 4 * K ∧ n ≤ 16) ∧ ((qI u 0 122).toInt = (B : Int) + e ∧ (qI u 0 123).toInt = (qI U 0 123).toInt + n) ∧ ((∀ j : Nat, j < 3 * B → qI u 74 j = qI U 74 j) ∧ (∀ j : Nat, j < 4 * (qI U 0 123).toInt.toNat → qI u 76 j = qI U 76 j) ∧ ∀ q : Nat, (∀ j : Nat, (j : Int) < len → rwS R fst j → ¬ ((rwA R fst j).toInt ≤ q ∧ (q : Int) ≤ (rwA R fst j).toInt + 2 * (rwB R fst j).toInt)) → qI u 75 q = qI U 75 q) ∧ (sameBut U u 70 m ∧ sameBut U u 71 m ∧ sameBut U u 72 m ∧ sameBut U u 73 m) ∧ ((qI u 70 m).toInt = B ∧ (qI u 71 m).toInt = e ∧ (qI u 72 m).toInt = (qI U 0 123).toInt ∧ (qI u 73 m).toInt = n) ∧ (∀ p : Nat, p < e → rOK (qI u 74) (qI u 75) 40000 e L F M (B + p)) ∧ wtS (qI u 74) B e ≤ 3600 + 12 * K ∧ (∀ p : Nat, p < e → (qI u 74 (3 * (B + p))).toInt = 170 ∨ (qI u 74 (3 * (B + p))).toInt = 171 → ∃ j : Nat, (j : Int) < len ∧ rwS R fst j ∧ (qI u 74 (3 * (B + p) + 1)).toInt = (rwA R fst j).toInt ∧ (qI u 74 (3 * (B + p) + 2)).toInt = (rwB R fst j).toInt) ∧ ∀ c : Nat, c < n → cOK (qI u 76) e ((qI U 0 123).toInt.toNat + c)
theorem sp_cntOne {U : MS} {f : Nat} {y x nx : Int32} {L F F' M : Int} {B n : Nat} {Kt : Int32 → MS → Prop} (fs : FsI VfI U) (hk : knI U) (g : GrJ U) (hy : 0 ≤ y.toInt ∧ y.toInt < (qI U 0 1).toInt) (hr : qR U 1 y.toInt.toNat = some f) (h : FlI U f) (hx : 0 ≤ x.toInt ∧ x.toInt < (qI U f 4).toInt) (hb : (0 ≤ L ∧ L ≤ 24) ∧ F ≤ 24 ∧ M ≤ 24) (hT : ∀ i : Nat, (i : Int) < (qI U (f + 11) x.toInt.toNat).toInt → rOK (qI U (qO U f 18)) (qI U 75) 40000 (qI U (f + 11) x.toInt.toNat).toInt L F M ((qI U (f + 10) x.toInt.toNat).toInt.toNat + i)) (hS : TbM (qI U (qO U f 18)) (qI U (f + 10) x.toInt.toNat).toInt.toNat (qI U (f + 11) x.toInt.toNat).toInt) (hg : GnA U f x.toInt.toNat n) (eB : (qI U 0 122).toInt = B) (hB : (B : Int) + (qI U (f + 11) x.toInt.toNat).toInt + 4 * n ≤ 29000) (hC : 0 ≤ (qI U 0 123).toInt ∧ (qI U 0 123).toInt + 16 ≤ 384) (hd : qR U 60 14 = some 70 ∧ qR U 60 15 = some 71 ∧ qR U 60 16 = some 72 ∧ qR U 60 17 = some 73) (hn : qN U 70 = 24 ∧ qN U 71 = 24 ∧ qN U 72 = 24 ∧ qN U 73 = 24) (hm : x.toInt < 24) (hF : F ≤ F' ∧ F' ≤ 24) (hnx : nx.toInt + n ≤ F') (hK : ∀ (r : Int32) (u : MS), r.toInt = n → CoP U (qI U (qO U f 18)) (qI U (f + 10) x.toInt.toNat).toInt.toNat (qI U (f + 11) x.toInt.toNat).toInt L F' M B x.toInt.toNat n u → Kt r u) : ∃ Q29, w_graph U y x Q29 ∧ ∀ S30, Q29 S30 → (∃ Q32, w_takeMethod S30 f x Q32 ∧ ∀ S33, Q32 S33 → (∃ Q35, w_putMethod S33 x nx Q35 ∧ ∀ S36, Q35 S36 → (∃ Q38, w_reachedBlocks S36 Q38 ∧ ∀ r39 S40, Q38 r39 S40 → Kt r39 S40))) := by
  have f92 := h.1.1.1
  have R92 : 92 < qO U f 18 := by
    obtain ⟨h1, h2, h3, h4, h5, R, T, C, nc, ts, cn, r1, r2, r3, r4, r5, r6⟩ := h
    have : qO U f 18 = R := by unfold qO; rw [r2.1]; rfl
    omega
  refine ⟨_, fr_graph (sp_graph2 g fs.1.2 hy hr h hx), ?_⟩
  rintro u0 ⟨⟨g0, gb, ge, gn⟩, f0⟩
  have en := gn.uq hg
  have k0 := big_frm f0 (by decide)
  have fs0 := fs.f9 hk f0 (by decide) (by decide)
  have kn0 := hk.f9 f0
  have h0 : FlI u0 f := h.fm f92 f0 (by decide)
  have e18 : qO u0 f 18 = qO U f 18 := by unfold qO; rw [(k0 f f92).2.2.1]
  have eR : qI u0 (qO u0 f 18) = qI U (qO U f 18) := by rw [e18, (k0 _ R92).1]
  have e10 : qI u0 (f + 10) = qI U (f + 10) := (k0 _ (by omega)).1
  have e11 : qI u0 (f + 11) = qI U (f + 11) := (k0 _ (by omega)).1
  have e75 : qI u0 75 = qI U 75 := (f0.2.2.2.2.1 75 (by decide) (by decide)).1
  have e4 : qI u0 f 4 = qI U f 4 := by rw [(k0 f f92).1]
  refine ⟨_, fr_takeMethod (sp_takeMethod (L := L) (F := F) (M := M) h0 (by rw [e4]; exact hx) hb (by rw [eR, e10, e11, e75]; exact hT)), ?_⟩
  rintro u1 ⟨⟨o1, g1, t1⟩, f1⟩
  rw [eR, e10, e11] at t1
  rw [e11] at g1
  obtain ⟨r1, _, w1, _⟩ := o1
  have al : ∀ i : Nat, (i : Int) < gN u1 → (qI u1 81 i).toInt = 0 := fun i hi => (t1 i (by rw [← g1]; exact hi)).2
  have a1 := r1.al al
  have gb1 : GbI u1 (qI U (f + 11) x.toInt.toNat).toInt := gb.fm f1 (by decide) (by decide) (by decide)
  have F1 : frm [49, 50, 51, 52, 53, 54, 55, 56, 57, 58, 59, 78, 79, 80, 81, 82, 83, 84, 85, 86] [47, 48, 49, 50, 51, 52, 53, 54, 105, 106, 107, 110, 129, 135] U u1 := (f0.mo (by decide) (by decide)).tr (f1.mo (by decide) (by decide))
  have z := fun (a : Nat) (h1 : a ≠ 0) (h2 : a ∉ [49, 50, 51, 52, 53, 54, 55, 56, 57, 58, 59, 78, 79, 80, 81, 82, 83, 84, 85, 86]) => F1.2.2.2.2.1 a h1 h2
  have z60 := (z 60 (by decide) (by decide)).2.2
  have z122 : qI u1 0 122 = qI U 0 122 := (F1.2.2.2.2.2 122 (by decide)).1
  have z123 : qI u1 0 123 = qI U 0 123 := (F1.2.2.2.2.2 123 (by decide)).1
  have y53 : qI u1 53 = qI u0 53 := (f1.2.2.2.2.1 53 (by decide) (by decide)).1
  have y105 : qI u1 0 105 = qI u0 0 105 := (f1.2.2.2.2.2 105 (by decide)).1
  have sw : ∀ j : Nat, (j : Int) < gN u1 → isW u1 j → rwS (qI U (qO U f 18)) (qI U (f + 10) x.toInt.toNat).toInt.toNat j ∧ (qI u1 79 j).toInt = (rwA (qI U (qO U f 18)) (qI U (f + 10) x.toInt.toNat).toInt.toNat j).toInt ∧ (qI u1 80 j).toInt = (rwB (qI U (qO U f 18)) (qI U (f + 10) x.toInt.toNat).toInt.toNat j).toInt := fun j hj wj => by
    obtain ⟨⟨q1, q2, q3⟩, _⟩ := t1 j (by rw [← g1]; exact hj)
    unfold isW at wj
    rw [q1] at wj
    exact ⟨wj, by rw [q2], by rw [q3]⟩
  have a0 : ∀ j : Nat, (j : Int) < gN u1 → isW u1 j → 0 ≤ (qI u1 79 j).toInt ∧ 0 ≤ (qI u1 80 j).toInt := fun j hj wj => by
    have := (r1.2.2.1 j hj).2.2.1 wj
    exact ⟨this.1, this.2.1⟩
  have tb : TbD u1 := fun i j ij hj gi gj wi wj => by
    obtain ⟨i1, i2, i3⟩ := sw i (by omega) wi
    obtain ⟨j1, j2, j3⟩ := sw j hj wj
    have := hS i j ij (by rw [← g1]; exact hj) i1 j1
    have p1 := a0 i (by omega) wi
    have p2 := a0 j hj wj
    unfold tA tB
    omega
  have b1 := r1.1
  have pc : ∀ c : Nat, (c : Int) < (qI u1 0 135).toInt → (qI u1 86 c).toInt = 0 → (qI u1 82 c).toInt ≤ ((gN u1 - 1).toNat : Nat) ∧ (qI u1 84 c).toInt ≤ ((gN u1 - 1).toNat : Nat) := fun c hc _ => by
    have := r1.2.2.2.2 c hc
    omega
  have rc := gb_rc gb1
  have nk : nzN (qI u1 53) (qI u1 0 105).toInt.toNat = n := by rw [y53, y105, en]
  rw [nk] at rc
  refine ⟨_, sp_putMethod (L := L) (F := F) (F' := F') (M := M) (B := B) (K := n) (rc := rbN u1) r1 a1 tb w1 pc (by rw [z122]; exact eB) (by rw [g1]; exact hB) (by rw [z123]; exact hC) (by rw [z60]; exact hd) (by rw [F1.2.1]; exact hn) ⟨hx.1, hm⟩ hF.1 rc.1 (fun i _ => rc.2.1 i) (fun _ => ⟨hnx, hF.2, fun i hi => ⟨(rc.2.2 i (by rw [← g1]; exact hi)).1, fun _ => (rc.2.2 i (by rw [← g1]; exact hi)).2⟩⟩), ?_⟩
  rintro u ⟨fu, e, n', p1, p2, ⟨p3, p4, p5⟩, ⟨p6, p7, p8, p9⟩, p10, p11, p12, p14, p13⟩
  rw [z123] at p2 p4 p10 p13
  have ge2 : GeI u := (ge.fm f1 (by decide) (by decide) (by decide) (by decide)).fm fu (by decide) (by decide) (by decide) (by decide)
  refine ⟨_, sp_reachedBlocks ge2, ?_⟩
  rintro r u' ⟨rfl, er⟩
  have v53 : qI u' 53 = qI u1 53 := (fu.2.2.2.2.1 53 (by decide) (by decide)).1
  have v105 : qI u' 0 105 = qI u1 0 105 := (fu.2.2.2.2.2 105 (by decide)).1
  rw [v53, v105, nk] at er
  have F2 : frm [70, 71, 72, 73, 74, 75, 76, 78, 79, 80, 81, 82, 83, 84, 85, 86, 91, 92] [47, 48, 49, 50, 51, 52, 53, 54, 122, 123, 129, 135] u0 u' := (f1.mo (by decide) (by decide)).tr (fu.mo (by decide) (by decide))
  have zz := fun (a : Nat) (h1 : a ≠ 0) (h2 : a ∉ [49, 50, 51, 52, 53, 54, 55, 56, 57, 58, 59, 78, 79, 80, 81, 82, 83, 84, 85, 86]) => (z a h1 h2).1
  rw [g1] at p1
  refine hK r u' er ⟨(f0.mo (by decide) (by decide)).tr (F2.mo (by decide) (by decide)), g0.f9 fs0 F2 (by decide) (by decide), e, n', p1, p2, ⟨fun j hj => by rw [p3 j hj, zz 74 (by decide) (by decide)], fun j hj => by rw [p4 j hj, zz 76 (by decide) (by decide)], fun q hq => ?_⟩, ⟨fun j hj => by rw [p6 j hj, zz 70 (by decide) (by decide)], fun j hj => by rw [p7 j hj, zz 71 (by decide) (by decide)], fun j hj => by rw [p8 j hj, zz 72 (by decide) (by decide)], fun j hj => by rw [p9 j hj, zz 73 (by decide) (by decide)]⟩, p10, p11, p12, fun p hp hw => (by
    obtain ⟨j, j1, _, j3, j4, j5⟩ := p14 p hp hw
    obtain ⟨y1, y2, y3⟩ := sw j j1 j3
    exact ⟨j, by rw [← g1]; exact j1, y1, by rw [j4, y2], by rw [j5, y3]⟩), p13⟩
  rw [p5 q (fun j hj gj wj y => ?_), zz 75 (by decide) (by decide)]
  obtain ⟨j1, j2, j3⟩ := sw j hj wj
  have q2 := a0 j hj wj
  refine hq j (by rw [← g1]; exact hj) j1 ?_
  unfold tA tB at y
  omega
/-! count: the loop over the methods (behind sp_cntOne, DmJ) -/
theorem sumN_mo {g : Nat → Nat} : ∀ (d m : Nat), sumN g m ≤ sumN g (m + d) := by
  intro d
  induction d with
  | zero => intro m; exact Nat.le_refl _
  | succ d ih => intro m; exact Nat.le_trans (ih m) (Nat.le_add_right _ _)
def CuI (S : MS) (f : Nat) (X : Int) (nf : Nat → Nat) (m : Nat) (U : MS) : Prop := frm [49, 50, 51, 52, 53, 54, 55, 56, 57, 58, 59, 70, 71, 72, 73, 74, 75, 76, 78, 79, 80, 81, 82, 83, 84, 85, 86, 91, 92] [47, 48, 49, 50, 51, 52, 53, 54, 105, 106, 107, 110, 122, 123, 129, 135] S U ∧ GrJ U ∧ ((0 ≤ (qI U 0 122).toInt ∧ (qI U 0 122).toInt ≤ 1200 * m + 4 * sumN nf m) ∧ 0 ≤ (qI U 0 123).toInt ∧ (qI U 0 123).toInt ≤ 16 * m) ∧ (∀ n : Nat, n < m → DmJ S f X U n) ∧ ∀ n i q : Nat, m ≤ n → (n : Int) < (qI S f 4).toInt → (i : Int) < mL S f n → rwS (mR S f) (mF S f n) i → (rwA (mR S f) (mF S f n) i).toInt ≤ q → (q : Int) ≤ (rwA (mR S f) (mF S f n) i).toInt + 2 * (rwB (mR S f) (mF S f n) i).toInt → qI U 75 q = qI S 75 q
theorem sp_count_L196 {S : MS} {f : Nat} {y : Int32} {X : Int} {nf : Nat → Nat} {Q : Int32 → MS → Prop} (fs : FsI VfI S) (hk : knI S) (g : GrJ S) (hy : 0 ≤ y.toInt ∧ y.toInt < (qI S 0 1).toInt) (hr : qR S 1 y.toInt.toNat = some f) (h : FlI S f) (tb : TbF S f) (w75 : ∀ j : Nat, j < qN S (qO S f 19) → qI S 75 j = qI S (qO S f 19) j) (hd : DrO S) (z0 : qI S 0 122 = 0 ∧ qI S 0 123 = 0) (hX : (qI S f 3).toInt + sumN nf (qI S f 4).toInt.toNat ≤ X ∧ X ≤ 24) (hg : ∀ m : Nat, (m : Int) < (qI S f 4).toInt → GnA S f m (nf m)) (done : ∀ U : MS, CuI S f X nf (qI S f 4).toInt.toNat U → ∃ Q20, w_keptDraft U Q20 ∧ ∀ r21 S22, Q20 r21 S22 → Q r21 S22) : ∃ n, w_count_L196 Q n S y f (qI S f 3) 0 := by
  have h' := h
  obtain ⟨h1, h2, h3, h4, h5, R, T, C, nc, ts, cn, r1, r2, r3, r4, r5, r6⟩ := h
  have f92 := h1.1.1
  have eR : qO S f 18 = R := by unfold qO; rw [r2.1]; rfl
  have eT : qO S f 19 = T := by unfold qO; rw [r2.2.1]; rfl
  rw [eT, r4.2.1] at w75
  have L196 : ∀ (c : Nat) (U : MS) (nx x : Int32), 0 ≤ x.toInt → x.toInt ≤ (qI S f 4).toInt → CuI S f X nf x.toInt.toNat U → nx.toInt = (qI S f 3).toInt + sumN nf x.toInt.toNat → (24 - x.toInt).toNat < c → w_count_L196 Q c U y f nx x := by
    intro c
    induction c with
    | zero => intro U nx x _ _ _ _ h9; exact absurd h9 (Nat.not_lt_zero _)
    | succ c ih =>
      intro U nx x x0 xM hU hnx hc
      have hU' := hU
      obtain ⟨fU, gU, ⟨b1, b2⟩, dm, wd⟩ := hU
      have kb := big_frm fU (by decide)
      have big : ∀ a : Nat, 92 < a → qI U a = qI S a ∧ qR U a = qR S a := fun a ha => ⟨(kb a ha).1, (kb a ha).2.2.1⟩
      have uf4 : qI U f 4 = qI S f 4 := by rw [(big f f92).1]
      unfold w_count_L196
      rw [uf4]
      refine ⟨fun c1 => done U (by rw [show (qI S f 4).toInt.toNat = x.toInt.toNat by omega]; exact hU'), fun c1 => ?_⟩
      have ek : (x + Int32.ofInt 1).toInt = x.toInt + 1 := by rw [t_add (by rw [lo_1]; omega), lo_1]
      have ekN : (x + Int32.ofInt 1).toInt.toNat = x.toInt.toNat + 1 := by omega
      have xlt : (x.toInt.toNat : Int) < (qI S f 4).toInt := by omega
      have eO : qI U (qO U f 18) = mR S f := by
        have : qO U f 18 = R := by unfold qO; rw [(big f f92).2, r2.1]; rfl
        rw [this, (big R (by omega)).1]
        unfold mR
        rw [eR]
      have e10 : qI U (f + 10) = qI S (f + 10) := (big _ (by omega)).1
      have e11 : qI U (f + 11) = qI S (f + 11) := (big _ (by omega)).1
      have flU : FlI U f := h'.fm f92 fU (by decide)
      have fsU := fs.f9 hk fU (by decide) (by decide)
      have knU := hk.f9 fU
      have gnU := (hg x.toInt.toNat xlt).f9 h' fU (by decide)
      obtain ⟨_, _, lc, mt⟩ := r6 x.toInt.toNat xlt
      obtain ⟨t1, t2, t3, t4, t5, t6, t7, t8, t9⟩ := mt
      have u60 : qR U 60 = qR S 60 := (fU.2.2.2.2.1 60 (by decide) (by decide)).2.2
      have u1 : qR U 1 = qR S 1 := (fU.2.2.2.2.1 1 (by decide) (by decide)).2.2
      have u01 : qI U 0 1 = qI S 0 1 := (fU.2.2.2.2.2 1 (by decide)).1
      obtain ⟨B, eB⟩ : ∃ B : Nat, (qI U 0 122).toInt = B := ⟨(qI U 0 122).toInt.toNat, by omega⟩
      have eF : (qI S (f + 10) x.toInt.toNat).toInt.toNat = mF S f x.toInt.toNat := rfl
      have eL : (qI S (f + 11) x.toInt.toNat).toInt = mL S f x.toInt.toNat := rfl
      have hT : ∀ i : Nat, (i : Int) < mL S f x.toInt.toNat → rOK (mR S f) (qI U 75) 40000 (mL S f x.toInt.toNat) (qI S (f + 9) x.toInt.toNat).toInt (qI S f 3).toInt (qI S f 4).toInt (mF S f x.toInt.toNat + i) := fun i hi => by
        have r := t4 i hi
        have em : qI S R = mR S f := by unfold mR; rw [eR]
        rw [em, eF] at r
        refine ⟨r.1, r.2.1, fun w => ?_, r.2.2.2⟩
        obtain ⟨y1, y2, y3, y4, y5, y6⟩ := r.2.2.1 w
        refine ⟨y1, y2, y3, by omega, fun k hk => ?_, y6⟩
        have q := wd x.toInt.toNat i ((mR S f (3 * (mF S f x.toInt.toNat + i) + 1)).toInt.toNat + 2 * k) (Nat.le_refl _) xlt hi w (by unfold rwA; omega) (by unfold rwA rwB; omega)
        rw [q, w75 _ (by omega)]
        exact y5 k hk
      have hS : TbM (mR S f) (mF S f x.toInt.toNat) (mL S f x.toInt.toNat) := fun i j ij hj wi wj => tb x.toInt.toNat x.toInt.toNat i j xlt (by omega) hj (Or.inr ⟨rfl, ij⟩) wi wj
      have sm : sumN nf (x.toInt.toNat + 1) = sumN nf x.toInt.toNat + nf x.toInt.toNat := rfl
      have sM := sumN_mo (g := nf) ((qI S f 4).toInt.toNat - (x.toInt.toNat + 1)) (x.toInt.toNat + 1)
      rw [show x.toInt.toNat + 1 + ((qI S f 4).toInt.toNat - (x.toInt.toNat + 1)) = (qI S f 4).toInt.toNat by omega, sm] at sM
      have one := sp_cntOne (U := U) (f := f) (y := y) (x := x) (nx := nx) (L := (qI S (f + 9) x.toInt.toNat).toInt) (F := (qI S f 3).toInt) (F' := X) (M := (qI S f 4).toInt) (B := B) (n := nf x.toInt.toNat) (Kt := fun r39 S40 => ∀ a43 : Int32, a43 = (nx + r39) → ∀ a44 : Int32, a44 = (x + Int32.ofInt 1) → w_count_L196 Q c S40 y f a43 a44) fsU knU gU (by rw [u01]; exact hy) (by rw [u1]; exact hr) flU ⟨x0, by rw [uf4]; omega⟩ ⟨lc, h4.1.2, h4.2.2⟩ (by rw [eO, e10, e11]; exact hT) (by rw [eO, e10, e11]; exact hS) gnU eB (by rw [e11]; omega) ⟨b2.1, by omega⟩ (by rw [u60]; exact ⟨(hd 9 (by decide)).1, (hd 10 (by decide)).1, (hd 11 (by decide)).1, (hd 12 (by decide)).1⟩) (by rw [fU.2.1]; exact ⟨(hd 9 (by decide)).2, (hd 10 (by decide)).2, (hd 11 (by decide)).2, (hd 12 (by decide)).2⟩) (by omega) ⟨by omega, hX.2⟩ (by omega) (fun r u er hu a43 e43 a44 e44 => ?_)
      · exact one
      rw [eO, e10, e11, eF, eL] at hu
      obtain ⟨fu, gu, e, n, ⟨p1, p2, p3⟩, ⟨p4, p5⟩, ⟨p6, p7, p8⟩, ⟨p9, p10, p11, p12⟩, ⟨q1, q2, q3, q4⟩, p13, p14, p15, p16⟩ := hu
      subst e44
      have len1200 : mL S f x.toInt.toNat ≤ 1200 := t2.2
      have n24 : nf x.toInt.toNat ≤ 24 := by omega
      refine ih u _ _ (by omega) (by omega) ⟨fU.tr fu, gu, by rw [ekN, sm]; omega, fun m' hm' => ?_, fun m' i q hm' hM hi wi y1 y2 => ?_⟩ ?_ (by omega)
      · rw [ekN] at hm'
        by_cases w : m' = x.toInt.toNat
        · subst w
          unfold DmJ
          have qb : (qI u 70 x.toInt.toNat).toInt.toNat = B := by omega
          have qc : (qI u 72 x.toInt.toNat).toInt.toNat = (qI U 0 123).toInt.toNat := by rw [q3]
          refine ⟨⟨by omega, by omega, by omega, fun i hi => ?_, ?_, by omega, by omega, by omega, fun c' hc' => ?_⟩, fun p hp hw => ?_⟩
          · rw [qb, q2]; exact p13 i (by omega)
          · rw [qb, q2]
            exact Int.le_trans p14 (by omega)
          · rw [qc, q2]; exact p16 c' (by omega)
          · rw [qb] at hw ⊢
            exact p15 p (by omega) hw
        · exact (dm m' (by omega)).mv tb (by omega) xlt eB (by omega) ⟨b2.1, by omega⟩ p6 p7 p8 p9 p10 p11 p12
      · rw [ekN] at hm'
        rw [p8 q (fun j hj wj y => ?_)]
        · exact wd m' i q (by omega) hM hi wi y1 y2
        · have := tb x.toInt.toNat m' j i hM hj hi (Or.inl (by omega)) wj wi
          omega
      · rw [e43, t_add (by omega), ekN, sm]
        omega
  have zz : (0 : Int32).toInt = 0 := rfl
  refine ⟨_, L196 _ S _ 0 (by decide) (by omega) ⟨frm.rf, g, by rw [z0.1, z0.2]; exact ⟨⟨by decide, by show (0 : Int) ≤ _; omega⟩, by decide, by show (0 : Int) ≤ _; omega⟩, fun n hn => by omega, fun n i q _ _ _ _ _ _ => rfl⟩ (by show _ = _ + ((sumN nf 0 : Nat) : Int); show _ = (qI S f 3).toInt + ((0 : Nat) : Int); omega) (Nat.lt_succ_self _)⟩
/-! the draft's head (behind sp_copyHead, lOD, sp_cname) -/
def plT (s : Nat) (S : MS) : Prop := 92 < s ∧ s + 1 < qn S ∨ TXB ≤ s
def txW (S : MS) (s : Nat) : Prop := (qT S (s + 1) ≠ 0 ∧ qT S (s + 1) ≠ 11) ∧ plT s S ∧ 1 ≤ qN S (s + 1) ∧ qN S (s + 1) ≤ 100
def ltW (S : MS) (s : Nat) (p : Int) : Prop := plT s S ∧ lOD S s p
/-- what is there stays -/
def kpW (S u : MS) : Prop := (∀ a : Nat, 92 < a → a < qn S ∨ TXB ≤ a → sm5 S u a) ∧ qn S ≤ qn u
theorem kpW.rf {S : MS} : kpW S S := ⟨fun _ _ _ => sm5.rf, Nat.le_refl _⟩
theorem kpW.tr {S u v : MS} (h : kpW S u) (k : kpW u v) : kpW S v := ⟨fun a a0 a1 => (h.1 a a0 a1).tr (k.1 a a0 (by have := h.2; omega)), Nat.le_trans h.2 k.2⟩
theorem kpW.f9 {S u : MS} {W J : List Nat} (k : frm W J S u) (hW : ∀ w ∈ W, w ≤ 92) : kpW S u := ⟨fun a a0 _ => big_frm k hW a a0, by rw [k.2.2.1]; exact Nat.le_refl _⟩
theorem plT.mv {S u : MS} {s : Nat} (h : plT s S) (k : kpW S u) : plT s u := by
  have := k.2
  unfold plT at h ⊢
  omega
theorem plT.k1 {S u : MS} {s : Nat} (h : plT s S) (k : kpW S u) : sm5 S u (s + 1) := k.1 _ (by unfold plT at h; rw [show TXB = 10000000 from rfl] at h; omega) (by unfold plT at h; omega)
theorem txW.mv {S u : MS} {s : Nat} (h : txW S s) (k : kpW S u) : txW u s := by
  have z := h.2.1.k1 k
  unfold txW
  rw [z.2.2.2.1, z.2.2.2.2]
  exact ⟨h.1, h.2.1.mv k, h.2.2⟩
theorem ltW.mv {S u : MS} {s : Nat} {p : Int} (h : ltW S s p) (k : kpW S u) : ltW u s p := by
  have z := h.1.k1 k
  refine ⟨h.1.mv k, ?_⟩
  have l := h.2
  unfold lOD plS okD at l ⊢
  rw [z.1, z.2.2.2.1, z.2.2.2.2]
  exact l
theorem StN.tw {S : MS} {s : Nat} (h : StN S s) (h0 : 92 < s) (h1 : s + 1 < qn S) : txW S s := by
  obtain ⟨n, g, a, b, c⟩ := h
  exact ⟨a.1.2, Or.inl ⟨h0, h1⟩, by rw [a.2.2.1]; exact b⟩
theorem StL.tw {S : MS} {s : Nat} {p p' : Int} (h : StL S s p) (h0 : 92 < s) (h1 : s + 1 < qn S) (hp : p ≤ p') : ltW S s p' := by
  obtain ⟨n, g, a, b, c, d⟩ := h
  refine ⟨Or.inl ⟨h0, h1⟩, ⟨⟨⟨Or.inl (by omega), a.1.2⟩, by rw [a.2.2.1]; exact d⟩, fun i hi => ?_, ?_⟩⟩
  · rw [a.2.2.1] at hi
    rw [a.2.2.2 i hi]
    exact c i hi
  · unfold plS
    rw [a.2.2.1, plc_eq n (fun i hi => a.2.2.2 i hi), b]
    exact hp
/-- the draft's head -/
def DhI (U : MS) : Prop := DrO U ∧ (qR U 60 18 = some 74 ∧ qR U 60 19 = some 75 ∧ qR U 60 20 = some 76) ∧ ((0 ≤ (qI U 60 3).toInt ∧ (qI U 60 3).toInt ≤ 24) ∧ 0 ≤ (qI U 60 4).toInt ∧ (qI U 60 4).toInt ≤ 24) ∧ (∃ s1 s2 : Nat, qR U 60 0 = some s1 ∧ qR U 60 1 = some s2 ∧ txW U s1 ∧ txW U s2) ∧ (∀ i : Nat, (i : Int) < (qI U 60 3).toInt → ∃ s1 s2 s3 : Nat, qR U 61 i = some s1 ∧ qR U 62 i = some s2 ∧ qR U 63 i = some s3 ∧ txW U s1 ∧ txW U s2 ∧ ltW U s3 2) ∧ ∀ m : Nat, (m : Int) < (qI U 60 4).toInt → ∃ s1 s2 s3 s4 : Nat, qR U 64 m = some s1 ∧ qR U 65 m = some s2 ∧ qR U 66 m = some s3 ∧ qR U 67 m = some s4 ∧ txW U s1 ∧ txW U s2 ∧ ltW U s3 8 ∧ ltW U s4 2
theorem DhI.mv {S u : MS} (h : DhI S) (k : kpW S u) (e : ∀ a : Nat, 60 ≤ a → a ≤ 67 → qI u a = qI S a ∧ qR u a = qR S a) (n : ∀ a : Nat, 60 ≤ a → a ≤ 76 → qN u a = qN S a) : DhI u := by
  obtain ⟨h1, h2, h3, ⟨s1, s2, o1, o2, o3, o4⟩, h5, h6⟩ := h
  unfold DhI
  rw [(e 60 (by decide) (by decide)).1, (e 60 (by decide) (by decide)).2, (e 61 (by decide) (by decide)).2, (e 62 (by decide) (by decide)).2, (e 63 (by decide) (by decide)).2, (e 64 (by decide) (by decide)).2, (e 65 (by decide) (by decide)).2, (e 66 (by decide) (by decide)).2, (e 67 (by decide) (by decide)).2]
  refine ⟨fun i hi => ⟨by rw [(e 60 (by decide) (by decide)).2]; exact (h1 i hi).1, by rw [n _ (by omega) (by omega)]; exact (h1 i hi).2⟩, h2, h3, ⟨s1, s2, o1, o2, o3.mv k, o4.mv k⟩, fun i hi => ?_, fun m hm => ?_⟩
  · obtain ⟨a1, a2, a3, b1, b2, b3, b4, b5, b6⟩ := h5 i hi
    exact ⟨a1, a2, a3, b1, b2, b3, b4.mv k, b5.mv k, b6.mv k⟩
  · obtain ⟨a1, a2, a3, a4, b1, b2, b3, b4, b5, b6, b7, b8⟩ := h6 m hm
    exact ⟨a1, a2, a3, a4, b1, b2, b3, b4, b5.mv k, b6.mv k, b7.mv k, b8.mv k⟩
theorem CpP.dh {S u : MS} {p : Nat} (c : CpP S p u) (h : FlI S p) (hd : DrO S) : DhI u := by
  obtain ⟨fu, ⟨c1, c2, c3, c4⟩, c5, c6, c7, c8, c9, c10⟩ := c
  obtain ⟨h1, h2, ⟨o1, o2, ob1, ob2, ow1, ow2, on1, on2⟩, h4, h5, R, T, C, nc, ts, cn, r1, r2, r3, r4, r5, r6⟩ := h
  have p92 := h1.1.1
  have k : kpW S u := kpW.f9 fu (by decide)
  refine ⟨fun i hi => ⟨c10 i hi, by rw [fu.2.1]; exact (hd i hi).2⟩, c8, by rw [c3, c4]; exact h4, ⟨o1, o2, by rw [c1]; exact ow1, by rw [c2]; exact ow2, (on1.tw (by omega) (by omega)).mv k, (on2.tw (by omega) (by omega)).mv k⟩, fun i hi => ?_, fun m hm => ?_⟩
  · rw [c3] at hi
    obtain ⟨s1, s2, s3, b1, b2, b3, y1, y2, y3, n1, n2, q, hq, n3⟩ := h5 i hi
    obtain ⟨d1, d2, d3⟩ := c5 i hi
    exact ⟨s1, s2, s3, by rw [d1]; exact y1, by rw [d2]; exact y2, by rw [d3]; exact y3, (n1.tw (by omega) (by omega)).mv k, (n2.tw (by omega) (by omega)).mv k, (n3.l.tw (by omega) (by omega) hq).mv k⟩
  · rw [c4] at hm
    obtain ⟨⟨pl, ⟨s1, s2, s3, s4, b1, b2, b3, b4, y1, y2, y3, y4, n1, n2, ⟨np, n3⟩, q, hq, n4⟩, _⟩, _⟩ := r6 m hm
    obtain ⟨d1, d2, d3, d4⟩ := c6 m hm
    exact ⟨s1, s2, s3, s4, by rw [d1]; exact y1, by rw [d2]; exact y2, by rw [d3]; exact y3, by rw [d4]; exact y4, (n1.tw (by omega) (by omega)).mv k, (n2.tw (by omega) (by omega)).mv k, (n3.tw (by omega) (by omega) np).mv k, (n4.tw (by omega) (by omega) hq).mv k⟩
/-- the draft is ready to be written -/
def DfI (U : MS) : Prop := DhI U ∧ ((0 ≤ (qI U 0 122).toInt ∧ (qI U 0 122).toInt ≤ 29000) ∧ 0 ≤ (qI U 0 123).toInt ∧ (qI U 0 123).toInt ≤ 384) ∧ ∀ m : Nat, (m : Int) < (qI U 60 4).toInt → ∃ L : Int, (0 ≤ L ∧ L ≤ 24) ∧ MtD (qI U 74) (qI U 75) (qI U 76) (qI U 0 122).toInt 40000 (qI U 0 123).toInt L (qI U 60 3).toInt (qI U 60 4).toInt (qI U 70 m) (qI U 71 m) (qI U 72 m) (qI U 73 m)
/-- letters of the interned J -/
theorem tx_J {S : MS} (h : TxI S) : txW S 10000022 ∧ ltW S 10000022 2 := by
  obtain ⟨a, b, c⟩ := h 11 (by decide)
  have e : TXB + 2 * 11 + 1 = 10000022 + 1 := rfl
  rw [e] at a b c
  have b' : qN S (10000022 + 1) = 1 := b
  have c0 : qI S (10000022 + 1) 0 = 74 := c 0
  have pl : plT 10000022 S := Or.inr (by decide)
  refine ⟨⟨by rw [a]; decide, pl, by rw [b']; decide⟩, pl, ⟨⟨⟨Or.inl (by decide), by rw [a]; decide⟩, by rw [b']; decide⟩, fun i hi => ?_, ?_⟩⟩
  · rw [b'] at hi
    have : i = 0 := by omega
    subst this
    rw [c0]
    exact Or.inr (Or.inl (by decide))
  · unfold plS
    rw [b']
    have e1 : plc (qI S (10000022 + 1)) 1 = plc (fun _ => (74 : Int32)) 1 := plc_eq 1 (fun i hi => by
      have : i = 0 := by omega
      subst this
      exact c0)
    rw [e1]
    decide
theorem TxI.kp {S u : MS} (h : TxI S) (k : kpW S u) : TxI u := fun i hi => by
  have z := k.1 (TXB + 2 * i + 1) (by rw [show TXB = 10000000 from rfl]; omega) (Or.inr (by omega))
  rw [z.2.2.2.1, z.2.2.2.2, z.1]
  exact h i hi
