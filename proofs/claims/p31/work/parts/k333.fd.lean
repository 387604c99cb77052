/-! a File's head and fields (behind sp_rf_L330) -/
theorem sp_firstInts {S : MS} {p0 : Nat} {n : Int32} (hn : 0 ≤ n.toInt ∧ n.toInt ≤ (qN S p0 : Int)) (hp : p0 < qn S) (hl : qN S p0 ≤ 2000000) (hr : qn S + 1 ≤ KC ∧ qu S + n.toInt.toNat ≤ KS) : w_firstInts S p0 n (fun r u => r = qn S ∧ exS S u 1 n.toInt.toNat ∧ qn u = qn S + 1 ∧ qT u r = 2 ∧ qN u r = n.toInt.toNat ∧ ∀ i : Nat, (i : Int) < n.toInt → qI u r i = qI S p0 i) := by
  unfold w_firstInts
  refine ⟨⟨hn.1, hr⟩, fun A eA => ?_⟩
  obtain ⟨n1, n2, n3, n4, n5, n6⟩ := wN_new (S := S) (t := 2) (n := n.toInt.toNat) (k := n.toInt.toNat)
  rw [← eA] at n1 n2 n3 n4 n5 n6
  have sA : ∀ a : Nat, a ≠ qn S → sm5 S A a := fun a ha => by rw [eA]; exact sm5.wN ha
  have L : ∀ (m : Nat) (U : MS) (k : Int32), ((0 ≤ k.toInt ∧ k.toInt ≤ n.toInt) ∧ (∀ a : Nat, a ≠ qn S → sm5 S U a) ∧ qn U = qn S + 1 ∧ qu U = qu S + n.toInt.toNat ∧ qT U (qn S) = 2 ∧ qN U (qn S) = n.toInt.toNat ∧ ∀ i : Nat, (i : Int) < k.toInt → qI U (qn S) i = qI S p0 i) → (n.toInt - k.toInt).toNat < m → w_firstInts_L6 (fun r u => r = qn S ∧ exS S u 1 n.toInt.toNat ∧ qn u = qn S + 1 ∧ qT u r = 2 ∧ qN u r = n.toInt.toNat ∧ ∀ i : Nat, (i : Int) < n.toInt → qI u r i = qI S p0 i) m U p0 n (qn S) k := by
    intro m
    induction m with
    | zero => intro U k _ h9; exact absurd h9 (Nat.not_lt_zero _)
    | succ m ih =>
      rintro U k ⟨hk, h1, h2, h3, h4, h5, h6⟩ hm
      unfold w_firstInts_L6
      refine ⟨fun c => ⟨rfl, ⟨fun a ha => h1 a (by omega), by omega, by omega⟩, h2, h4, h5, fun i hi => h6 i (by omega)⟩, fun c => ⟨⟨hk.1, by rw [(h1 p0 (by omega)).2.2.2.2]; omega⟩, ⟨hk.1, by rw [h5]; omega⟩, fun V eV a ea => ?_⟩⟩
      have ek : (k + Int32.ofInt 1).toInt = k.toInt + 1 := by rw [t_add (by rw [lo_1]; omega), lo_1]
      subst ea
      refine ih V _ ⟨by omega, fun a ha => (h1 a ha).tr (by rw [eV]; exact sm5.wI ha), by rw [eV]; exact h2, by rw [eV]; exact h3, by rw [eV]; exact h4, by rw [eV]; exact h5, fun i hi => ?_⟩ (by omega)
      rw [eV, qI_wI]
      by_cases q : i = k.toInt.toNat
      · rw [if_pos ⟨rfl, q⟩, (h1 p0 (by omega)).1, q]
      · rw [if_neg (fun z => q z.2)]
        exact h6 i (by omega)
  exact ⟨_, L _ A 0 ⟨⟨by decide, by rw [li_0]; exact hn.1⟩, sA, n5, n6, n3, n4, fun i hi => by rw [li_0] at hi; omega⟩ (Nat.lt_succ_self _)⟩
def OwO (U : MS) (f : Nat) : Prop := ∃ s1 s2 : Nat, (f + 14 ≤ s1 ∧ s1 + 1 < qn U) ∧ (f + 14 ≤ s2 ∧ s2 + 1 < qn U) ∧ qR U f 0 = some s1 ∧ qR U f 1 = some s2 ∧ StN U s1 ∧ StN U s2
theorem OwO.mv {U V : MS} {f : Nat} (h : OwO U f) (k : Kp f U V) (e : ∀ j : Nat, j < 2 → qR V f j = qR U f j) : OwO V f := by
  obtain ⟨s1, s2, a1, a2, b1, b2, c1, c2⟩ := h
  have hq := k.2
  exact ⟨s1, s2, by omega, by omega, by rw [e _ (by omega)]; exact b1, by rw [e _ (by omega)]; exact b2, c1.kp a1 k, c2.kp a2 k⟩
def Xa (B : MS) (f : Nat) (n : Int32) (V : MS) : Prop := OwO V f ∧ qI V f 3 = qI B 0 22 ∧ qI V f 4 = n ∧ qI V f 2 = qI B 0 14 ∧ qI V f 21 = qI B f 21
def Xb (B : MS) (f : Nat) (n : Int32) (V : MS) : Prop := Xa B f n V ∧ ∀ i : Nat, (i : Int) < (qI B 0 22).toInt → FdO V f i
theorem Xa.mv {B U V : MS} {f : Nat} {n : Int32} {P : Nat → Nat → Prop} (h : Xa B f n U) (k : Kp f U V) (w : Rw f P U V) (hP : ∀ j : Nat, ¬ P f j) : Xa B f n V := by
  obtain ⟨a, b, c, d, e⟩ := h
  have r := fun j => w f j (Nat.le_refl _) (by omega) (hP j)
  exact ⟨a.mv k (fun j _ => (r j).1), by rw [(r 3).2]; exact b, by rw [(r 4).2]; exact c, by rw [(r 2).2]; exact d, by rw [(r 21).2]; exact e⟩
theorem Xb.mv {B U V : MS} {f i : Nat} {n : Int32} (h : Xb B f n U) (k : Kp f U V) (w : Rw f (fun r j => f + 4 ≤ r ∧ r ≤ f + 9 ∧ j = i) U V) : Xb B f n V :=
  ⟨h.1.mv k w (fun j q => by have := q.1; omega), fun i' hi' => (h.2 i' hi').mv k (fun r r0 r1 => (w r i' (by omega) (by omega) (fun q => by have := q.1; omega)).1)⟩
theorem sp_rf_L242 {B : MS} {f : Nat} {Q : Nat → MS → Prop} {E : MS → Prop} {n : Int32} {c0 s0 : Nat} (hB : LsI B f) (hc0 : c0 ≤ 10) (hs0 : s0 ≤ 1000)
    (hQ : ∀ V : MS, Ph B f V (c0 + 312) (s0 + 6048) → Xb B f n V → ∃ n', w_readFile_L330 Q E n' V n f 0) :
    ∀ (k : Nat) (U : MS) (i : Int32), (0 ≤ i.toInt ∧ i.toInt ≤ (qI B 0 22).toInt) → Ph B f U (c0 + 13 * i.toInt.toNat) (s0 + 252 * i.toInt.toNat) → Xa B f n U → (∀ m : Nat, (m : Int) < i.toInt → FdO U f m) → (24 - i.toInt).toNat < k → w_readFile_L242 Q E k U n f i := by
  have hB' := hB
  obtain ⟨b1, b2, b3, b4, b5, b6, b7⟩ := hB
  have hmm := b1.1.2.2.1
  have hty := b1.2.2.1
  have hf92 := b3.1.1
  intro k
  induction k with
  | zero => intro U i _ _ _ _ h9; exact absurd h9 (Nat.not_lt_zero _)
  | succ k ih =>
    intro U i hi hP hx hall hm
    obtain ⟨sT, RU, KU⟩ := hP.up hB' (by omega)
    have q22 : qI U 0 22 = qI B 0 22 := sT.1.f 22
    have q21 : qI U 0 21 = qI B 0 21 := sT.1.f 21
    have q9 : qI U 9 = qI B 9 := sT.1.r 9
    unfold w_readFile_L242
    rw [q22]
    refine ⟨fun c => hQ U (hP.le (by omega) (by omega)) ⟨hx, fun m hm => hall m (by omega)⟩, fun c => ?_⟩
    have iM : ((i.toInt.toNat : Nat) : Int) < (qI U 0 21).toInt := by rw [q21]; omega
    have hnm := RU.2.1.1 _ iM
    have r5 := hP.rw (i := 0) (by decide)
    simp only [Nat.reduceAdd, Nat.add_assoc] at r5
    have hroom : qn U + 13 ≤ KC ∧ qu U + 252 ≤ KS := by have := hP.2.2; omega
    have hfU : f + 14 ≤ qn U := by have := hP.2.2.1; omega
    rw [q9, r5.2.1]
    rw [q9] at hnm
    refine ⟨r5.1, ⟨by omega, by omega⟩, RU.1.d2 iM (d := 2) (by decide) (by rw [q9]), _, sp_text RU.1 hnm.1 KU (by omega), ?_⟩
    rintro s1 V1 ⟨x1, x2, x3, x4⟩
    have P1 := hP.ex (by omega) x1
    have N1 : StN V1 s1 := tx_n RU.1 hnm.1 x4
    have y8 := P1.rw (i := 0) (by decide)
    simp only [Nat.reduceAdd, Nat.add_assoc] at y8
    refine ⟨⟨hi.1, by rw [y8.2.2]; omega⟩, fun V2 e2 => ?_⟩
    have P2 := P1.wR (h := f + 1) (j := i.toInt.toNat) (v := some s1) (by omega) (by omega)
    rw [← e2] at P2
    obtain ⟨sT2, R2, K2⟩ := P2.up hB' (by omega)
    have v21 : qI V2 0 21 = qI B 0 21 := sT2.1.f 21
    have v9 : qI V2 9 = qI B 9 := sT2.1.r 9
    have v7 : qI V2 7 = qI B 7 := sT2.1.r 7
    have v6 : qI V2 6 = qI B 6 := sT2.1.r 6
    have iM2 : ((i.toInt.toNat : Nat) : Int) < (qI V2 0 21).toInt := by rw [v21]; omega
    have hnm2 := R2.2.1.1 _ iM2
    rw [v9] at hnm2
    have q2 : qn V2 = qn U + 4 := by rw [e2]; exact x3
    have u2 : qu V2 ≤ qu U + 208 := by rw [e2]; exact x1.2.2
    have y6 := P2.rw (i := 1) (by decide)
    simp only [Nat.reduceAdd, Nat.add_assoc] at y6
    rw [v9, y6.2.1]
    refine ⟨y6.1, ⟨by omega, by omega⟩, R2.1.d2 iM2 (d := 4) (by decide) (by rw [v9]), _, sp_textN (N := 2) R2.1 hnm2.2 K2 (by rw [v7, sT2.1.two]; exact ty_len ((hty.2 i.toInt.toNat (by omega)).1 (by omega))) (by omega), ?_⟩
    rintro s2 V3 ⟨z1, z2, z3, z4⟩
    have P3 := P2.ex (by omega) z1
    have N2 : StN V3 s2 := tx_n R2.1 hnm2.2 z4
    have y9 := P3.rw (i := 1) (by decide)
    simp only [Nat.reduceAdd, Nat.add_assoc] at y9
    refine ⟨⟨hi.1, by rw [y9.2.2]; omega⟩, fun V4 e4 => ?_⟩
    have P4 := P3.wR (h := f + 2) (j := i.toInt.toNat) (v := some s2) (by omega) (by omega)
    rw [← e4] at P4
    have K3 : Kp f V3 V4 := by rw [e4]; exact Kp.wR (by omega)
    obtain ⟨sT4, R4, K4⟩ := P4.up hB' (by omega)
    have q4 : qn V4 = qn U + 8 := by rw [e4]; show qn V3 = _; omega
    have u4 : qu V4 ≤ qu U + 220 := by rw [e4]; show qu V3 ≤ _; have := z1.2.2; omega
    have y10 := P4.rw (i := 2) (by decide)
    simp only [Nat.reduceAdd, Nat.add_assoc] at y10
    have y11 := P4.rw (i := 1) (by decide)
    simp only [Nat.reduceAdd, Nat.add_assoc] at y11
    have tt := (hty.2 i.toInt.toNat (by omega)).1 (by omega)
    have e2w : f_two V2 (qI B 9 i.toInt.toNat + 4) = f_two B (qI B 9 i.toInt.toNat + 4) := sT2.1.two _
    rw [e2w] at z4 hnm2
    generalize hxx : f_two B (qI B 9 i.toInt.toNat + 4) = xx at tt z4 hnm2
    have hE : isE B xx 1 := by
      have := (b1.2.1.1 i.toInt.toNat (by omega)).2
      rw [hxx] at this
      exact this
    obtain ⟨x5, m0, m1, m2, m3⟩ := b1.1.nm hE
    have hbb := b1.1.1.bnd
    have eg : (fun j => qI V2 (qO V2 0 11) ((qI V2 6 xx.toInt.toNat).toInt.toNat + j)) = nmG B xx := by
      funext j
      unfold nmG
      rw [sT2.1.2.1.bt, v6]
    have z5 : StI V3 s2 (nmN B xx) (nmG B xx) := by
      rw [eg, v7] at z4
      exact z4
    obtain ⟨p, ⟨p2, p3, p4⟩, sq1⟩ := ft_of (S := B) (x := xx) ⟨m0, by omega⟩ ⟨by omega, m2⟩ tt
    have hnn : nmN B xx ≤ 100 := by unfold nmN; omega
    have hasc : ∀ q : Nat, q < nmN B xx → 0 ≤ (nmG B xx q).toInt ∧ (nmG B xx q).toInt ≤ 127 := fun q hq => by
      have := b1.1.ltO hE q (by unfold nmN at hq; omega)
      unfold nmG
      omega
    have s2b : f + 14 ≤ s2 ∧ s2 + 1 < qn V3 := by omega
    have z6 : StI V4 s2 (nmN B xx) (nmG B xx) := z5.mv K3.2 (K3.1 s2 s2b.1 (by omega)) (K3.1 _ (by omega) s2b.2)
    have g2 : qR V4 (f + 2) i.toInt.toNat = some s2 := by rw [e4, qR_wR, if_pos ⟨rfl, rfl⟩]
    have g2o : qO V4 (f + 2) i.toInt.toNat = s2 := by unfold qO; rw [g2]; rfl
    rw [y10.2.1, y11.2.1, g2o]
    refine ⟨y10.1, y11.1, ⟨hi.1, by rw [y11.2.2]; omega⟩, g2, _, sp_letters (x1 := 0) z6 hasc hnn (by decide) sq1 (by omega) K4 (by omega), ?_⟩
    rintro s3 V5 ⟨w1, w2, n3, g3, w3, w4, w5, w6⟩
    have n31 : n3 = 1 := by
      have g1 := plc_ge (g := g3) n3
      have w7 := w6.2
      by_cases z : n3 = 0
      · rw [z] at w4
        have z0 : plc g3 0 = 0 := rfl
        omega
      · omega
    subst n31
    have P5 := P4.ex (by omega) w1
    have y12 := P5.rw (i := 2) (by decide)
    simp only [Nat.reduceAdd, Nat.add_assoc] at y12
    refine ⟨⟨hi.1, by rw [y12.2.2]; omega⟩, fun V6 e6 a ea' => ?_⟩
    have P6 := P5.wR (h := f + 3) (j := i.toInt.toNat) (v := some s3) (by omega) (by omega)
    rw [← e6] at P6
    subst ea'
    have q5 := w1.2
    have ei : (i + Int32.ofInt 1).toInt = i.toInt + 1 := by rw [t_add (by rw [lo_1]; omega), lo_1]
    let P : Nat → Nat → Prop := fun r j => f + 1 ≤ r ∧ r ≤ f + 3 ∧ j = i.toInt.toNat
    have w12 : Rw f P V1 V2 := by rw [e2]; exact Rw.wR ⟨by omega, by omega, rfl⟩
    have w34 : Rw f P V3 V4 := by rw [e4]; exact Rw.wR ⟨by omega, by omega, rfl⟩
    have w56 : Rw f P V5 V6 := by rw [e6]; exact Rw.wR ⟨by omega, by omega, rfl⟩
    have RW : Rw f P U V6 := (((((Rw.ex x1 hfU).tr w12).tr (Rw.ex z1 (by omega))).tr w34).tr (Rw.ex w1 (by omega))).tr w56
    have k12 : Kp f V1 V2 := by rw [e2]; exact Kp.wR (by omega)
    have k5a : Kp f V5 V6 := by rw [e6]; exact Kp.wR (by omega)
    have k3a : Kp f V3 V6 := (K3.tr (Kp.ex w1)).tr k5a
    have k1a : Kp f V1 V6 := k12.tr ((Kp.ex z1).tr k3a)
    have kua : Kp f U V6 := (Kp.ex x1).tr k1a
    have g3' : qR V6 (f + 3) i.toInt.toNat = some s3 := by rw [e6, qR_wR, if_pos ⟨rfl, rfl⟩]
    have b56 : ∀ r : Nat, f + 1 ≤ r → r ≤ f + 2 → qR V6 r i.toInt.toNat = qR V4 r i.toInt.toNat := fun r r0 r1 => by rw [e6, qR_wR, if_neg (by omega), (w1.1 r (Or.inl (by omega))).2.2.1]
    have g1' : qR V6 (f + 1) i.toInt.toNat = some s1 := by rw [b56 _ (by omega) (by omega), e4, qR_wR, if_neg (by omega), (z1.1 _ (Or.inl (by omega))).2.2.1, e2, qR_wR, if_pos ⟨rfl, rfl⟩]
    refine ih V6 _ ⟨by omega, by omega⟩ (P6.le (by omega) (by omega)) (hx.mv kua RW (fun j q => by have := q.1; omega)) (fun m hm' => ?_) (by omega)
    by_cases qm : (m : Int) < i.toInt
    · exact (hall m qm).mv kua (fun r r0 r1 => (RW r m (by omega) (by omega) (fun z => by have := z.2.2; omega)).1)
    · have em : m = i.toInt.toNat := by omega
      subst em
      refine ⟨s1, s2, s3, ?_, ?_, ?_, g1', by rw [b56 _ (by omega) (by omega)]; exact g2, g3', N1.kp (by omega) k1a, N2.kp s2b k3a, p, p2, g3, ?_, w4, w5⟩
      · have := k1a.2; omega
      · have := k3a.2; omega
      · have := k5a.2; omega
      · exact w3.mv k5a.2 (k5a.1 _ (by omega) (by omega)) (k5a.1 _ (by omega) (by omega))
/-! few constants: at most 700 numbers are needed to write a File (behind RT, TyF, CdF) -/
def ccN (tg : Nat → Int32) : Nat → Nat
  | 0 => 0
  | n + 1 => ccN tg n + (if 1 ≤ n ∧ ((tg n).toInt = 3 ∨ (tg n).toInt = 5) then 1 else 0)
theorem cc_4 {tg : Nat → Int32} {a b c d : Nat} (h0 : 1 ≤ a ∧ 1 ≤ b ∧ 1 ≤ c ∧ 1 ≤ d) (hd : a ≠ b ∧ a ≠ c ∧ a ≠ d ∧ b ≠ c ∧ b ≠ d ∧ c ≠ d) (ha : (tg a).toInt ≠ 3 ∧ (tg a).toInt ≠ 5) (hb : (tg b).toInt ≠ 3 ∧ (tg b).toInt ≠ 5) (hc : (tg c).toInt ≠ 3 ∧ (tg c).toInt ≠ 5) (hd' : (tg d).toInt ≠ 3 ∧ (tg d).toInt ≠ 5) : ∀ n : Nat, ccN tg n + (if 0 < n then 1 else 0) + (if a < n then 1 else 0) + (if b < n then 1 else 0) + (if c < n then 1 else 0) + (if d < n then 1 else 0) ≤ n := by
  intro n
  induction n with
  | zero =>
    rw [if_neg (Nat.lt_irrefl 0), if_neg (Nat.not_lt_zero a), if_neg (Nat.not_lt_zero b), if_neg (Nat.not_lt_zero c), if_neg (Nat.not_lt_zero d)]
    exact Nat.le_refl _
  | succ n ih =>
    unfold ccN
    have st : ∀ x : Nat, (if x < n + 1 then 1 else 0) = (if x < n then 1 else 0) + (if n = x then 1 else 0) := fun x => by
      by_cases q1 : x < n
      · rw [if_pos (by omega), if_pos q1, if_neg (by omega)]
      · by_cases q2 : n = x
        · rw [if_pos (by omega), if_neg q1, if_pos q2]
        · rw [if_neg (by omega), if_neg q1, if_neg q2]
    rw [st 0, st a, st b, st c, st d]
    have one : (if 1 ≤ n ∧ ((tg n).toInt = 3 ∨ (tg n).toInt = 5) then 1 else 0) + (if n = 0 then 1 else 0) + (if n = a then 1 else 0) + (if n = b then 1 else 0) + (if n = c then 1 else 0) + (if n = d then 1 else 0) ≤ 1 := by
      by_cases q0 : n = 0
      · rw [if_neg (by omega), if_pos q0, if_neg (by omega), if_neg (by omega), if_neg (by omega), if_neg (by omega)]; exact Nat.le_refl _
      · by_cases qa : n = a
        · subst qa
          rw [if_neg (by omega), if_neg q0, if_pos rfl, if_neg (by omega), if_neg (by omega), if_neg (by omega)]; exact Nat.le_refl _
        · by_cases qb : n = b
          · subst qb
            rw [if_neg (by omega), if_neg q0, if_neg qa, if_pos rfl, if_neg (by omega), if_neg (by omega)]; exact Nat.le_refl _
          · by_cases qc : n = c
            · subst qc
              rw [if_neg (by omega), if_neg q0, if_neg qa, if_neg qb, if_pos rfl, if_neg (by omega)]; exact Nat.le_refl _
            · by_cases qd : n = d
              · subst qd
                rw [if_neg (by omega), if_neg q0, if_neg qa, if_neg qb, if_neg qc, if_pos rfl]; exact Nat.le_refl _
              · rw [if_neg q0, if_neg qa, if_neg qb, if_neg qc, if_neg qd]
                split <;> omega
    omega
theorem cc_1 {tg : Nat → Int32} : ∀ n : Nat, ccN tg (n + 1) ≤ n := by
  intro n
  induction n with
  | zero => exact Nat.le_refl _
  | succ n ih =>
    show ccN tg (n + 1) + (if 1 ≤ n + 1 ∧ ((tg (n + 1)).toInt = 3 ∨ (tg (n + 1)).toInt = 5) then 1 else 0) ≤ n + 1
    split <;> omega
theorem cF_t {S : MS} {o : Int32} : ∀ (m : Nat) (f i : Int32), 0 ≤ i.toInt → i.toInt ≤ 3000 → 0 ≤ (cF S o m f i).toInt → (3001 - i.toInt).toNat < m + 1 → (qI S 0 25).toInt ≤ 3000 → 0 ≤ f.toInt ∨ ∃ a : Nat, (a : Int) < (qI S 0 25).toInt ∧ ¬ (tV S (f_two S (qI S 10 a)) 10000000).toInt = 0 := by
  intro m
  induction m with
  | zero => intro f i i0 i1 h hm _; omega
  | succ m ih =>
    intro f i i0 i1 h hm hn
    unfold cF at h
    have ei : i.toInt < 3000 → (i + Int32.ofInt 1).toInt = i.toInt + 1 := fun _ => by rw [t_add (by rw [lo_1]; omega), lo_1]
    by_cases c1 : (qI S 0 25).toInt ≤ i.toInt
    · rw [if_pos c1] at h; exact Or.inl h
    · rw [if_neg c1] at h
      have e := ei (by omega)
      by_cases c2 : (qI S 11 i.toInt.toNat).toInt = o.toInt
      · rw [if_pos c2] at h
        by_cases c3 : (tV S (f_two S (qI S 10 i.toInt.toNat)) 10000000).toInt = 0
        · rw [if_pos c3] at h
          exact ih f _ (by omega) (by omega) h (by omega) hn
        · exact Or.inr ⟨i.toInt.toNat, by omega, c3⟩
      · rw [if_neg c2] at h
        exact ih f _ (by omega) (by omega) h (by omega) hn
theorem cc_ok {S : MS} (h : RT S) : 13 + 4 * (qI S 0 22).toInt + 4 * ((qI S 0 21).toInt - (qI S 0 22).toInt) + ccN (qI S 4) (qI S 0 14).toInt.toNat ≤ 700 := by
  obtain ⟨hM, hN, hT, hR, ⟨hc1, hc2⟩, hX, hC⟩ := h
  have b22 := hM.2.2.1
  have b14 := hM.2.2.2.2.2.2.1
  have b25 := hM.2.2.2.2.1
  obtain ⟨pc, ep⟩ : ∃ pc : Nat, (qI S 0 14).toInt.toNat = pc + 1 := ⟨(qI S 0 14).toInt.toNat - 1, by omega⟩
  by_cases q : (qI S 0 21).toInt ≤ 47
  · have := cc_1 (tg := qI S 4) pc
    rw [ep]
    omega
  · have e22 : (qI S 0 22).toInt = 24 := by omega
    have e21 : (qI S 0 21).toInt = 48 := by omega
    have o24 : (24 : Int32).toInt = 24 := by decide
    obtain ⟨x0, x1, x2⟩ := hc1
    obtain ⟨t0, t1, t2⟩ := (hN.1 0 (by omega)).2
    obtain ⟨d0, d1, d2⟩ := (hN.1 24 (by omega)).2
    have ty := (hT.2 0 (by omega)).1 (by omega)
    have pp := (hT.2 24 (by omega)).2 (by omega)
    have cd := hC 24 (by omega) (by omega)
    obtain ⟨a, a0, a1⟩ : ∃ a : Nat, (a : Int) < (qI S 0 25).toInt ∧ ¬ (tV S (f_two S (qI S 10 a)) 10000000).toInt = 0 := by
      rcases cF_t 3001 (-1) 0 (by decide) (by decide) cd (by decide) (by omega) with y | y
      · exact absurd y (by decide)
      · exact y
    obtain ⟨k0, k1, k2⟩ := hN.2 a a0
    -- the letters
    obtain ⟨X1, X2, X3⟩ := hX 0 (by decide)
    have n4 : qN S 10000001 = 4 := X2
    have l67 : qI S 10000001 0 = 67 := X3 0
    unfold tV at a1
    have kk : (qI S 7 (f_two S (qI S 10 a)).toInt.toNat).toInt = 4 ∧ (f_letter S (f_two S (qI S 10 a)) 0).toInt = 67 := by
      rw [show (10000000 + 1 : Nat) = 10000001 from rfl, n4] at a1
      have o4 : (Int32.ofNat 4).toInt = 4 := by decide
      rw [o4] at a1
      by_cases c1 : (qI S 7 (f_two S (qI S 10 a)).toInt.toNat).toInt = 4
      · rw [if_pos c1] at a1
        refine ⟨c1, ?_⟩
        unfold tF at a1
        rw [show (10000000 + 1 : Nat) = 10000001 from rfl, n4] at a1
        have z0 : (0 : Int32).toInt = 0 := rfl
        rw [if_neg (by rw [z0]; decide)] at a1
        have ca : (cAt S 10000000 0).toInt = 67 := by
          unfold cAt
          rw [show (10000000 + 1 : Nat) = 10000001 from rfl, show (0 : Int32).toInt.toNat = 0 from rfl, l67]
          decide
        rw [ca] at a1
        by_cases c2 : (f_letter S (f_two S (qI S 10 a)) 0).toInt = 67
        · exact c2
        · rw [if_neg c2] at a1; exact absurd rfl a1
      · rw [if_neg c1] at a1; exact absurd rfl a1
    have tt : ((qI S 7 (f_two S (qI S 9 0 + 4)).toInt.toNat).toInt = 1 ∨ (qI S 7 (f_two S (qI S 9 0 + 4)).toInt.toNat).toInt = 2) ∧ (f_letter S (f_two S (qI S 9 0 + 4)) 0).toInt ≠ 40 := by
      unfold f_isType f_isType_J28 at ty
      by_cases c1 : (f_typeAt S (f_two S (qI S 9 0 + 4)) 0).toInt ≤ 0
      · rw [if_pos c1] at ty; exact absurd rfl ty
      · rw [if_neg c1] at ty
        by_cases c2 : (f_typeAt S (f_two S (qI S 9 0 + 4)) 0).toInt = (qI S 7 (f_two S (qI S 9 0 + 4)).toInt.toNat).toInt
        · have r := (f_ta (S := S) (x := f_two S (qI S 9 0 + 4)) (i := 0) (by decide)).2.1
          refine ⟨by omega, fun z => ?_⟩
          unfold f_typeAt f_typeAt_J52 at c1
          rw [z, if_neg (by decide), if_neg (by decide), if_neg (by decide)] at c1
          exact c1 (by decide)
        · rw [if_neg c2] at ty; exact absurd rfl ty
    have dd : (f_letter S (f_two S (qI S 9 24 + 4)) 0).toInt = 40 := by
      have p0 := pp.1
      unfold pV at p0
      by_cases c1 : (f_letter S (f_two S (qI S 9 24 + 4)) 0).toInt = 40
      · exact c1
      · rw [if_neg c1] at p0; exact absurd p0 (by decide)
    have inj : ∀ x y : Int32, 1 ≤ x.toInt → 1 ≤ y.toInt → x.toInt.toNat = y.toInt.toNat → x = y := fun x y h1 h2 e => Int32.toInt_inj.mp (by omega)
    have n1 : (f_two S (qI S 9 0 + 4)).toInt.toNat ≠ (f_two S (qI S 10 a)).toInt.toNat := fun e => by
      have := inj _ _ t0 k0 e
      rw [this] at tt
      omega
    have n2 : (f_two S (qI S 9 0 + 4)).toInt.toNat ≠ (f_two S (qI S 9 24 + 4)).toInt.toNat := fun e => by
      have := inj _ _ t0 d0 e
      rw [this] at tt
      exact tt.2 dd
    have n3 : (f_two S (qI S 9 24 + 4)).toInt.toNat ≠ (f_two S (qI S 10 a)).toInt.toNat := fun e => by
      have := inj _ _ d0 k0 e
      rw [this] at dd
      omega
    have m : ∀ y z : Nat, (qI S 4 y).toInt = 1 → (qI S 4 z).toInt = 7 → z ≠ y := fun y z h1 h2 e => by rw [e] at h2; omega
    have cc := cc_4 (tg := qI S 4) (a := (f_two S (qI S 0 20 + 2)).toInt.toNat) (b := (f_two S (qI S 9 0 + 4)).toInt.toNat) (c := (f_two S (qI S 9 24 + 4)).toInt.toNat) (d := (f_two S (qI S 10 a)).toInt.toNat) (by omega) ⟨m _ _ t2 x2, m _ _ d2 x2, m _ _ k2 x2, n2, n1, n3⟩ (by omega) (by omega) (by omega) (by omega) (qI S 0 14).toInt.toNat
    rw [if_pos (by omega), if_pos (by omega), if_pos (by omega), if_pos (by omega), if_pos (by omega)] at cc
    omega
/-- what a kept File keeps of its reading: tables in order, methods in order, few constants -/
def XfR (u : MS) (f R nc : Nat) : Prop := ∃ (tg : Nat → Int32) (wv : Nat → Int64) (pc : Nat), (∀ i : Nat, i < nc → kcG tg wv pc (qI u R (3 * i)) (qI u R (3 * i + 1)) (qI u R (3 * i + 2))) ∧ (∀ i j : Nat, i < j → j < nc → (qI u R (3 * i)).toInt = 170 ∨ (qI u R (3 * i)).toInt = 171 → (qI u R (3 * j)).toInt = 170 ∨ (qI u R (3 * j)).toInt = 171 → (qI u R (3 * i + 1)).toInt + 2 * (qI u R (3 * i + 2)).toInt + 1 ≤ (qI u R (3 * j + 1)).toInt) ∧ (∀ m1 m2 : Nat, m1 < m2 → (m2 : Int) < (qI u f 4).toInt → (qI u (f + 10) m1).toInt + (qI u (f + 11) m1).toInt ≤ (qI u (f + 10) m2).toInt) ∧ 13 + 4 * (qI u f 3).toInt + 4 * (qI u f 4).toInt + ccN tg pc ≤ 700
def XfI (u : MS) (f : Nat) : Prop := ∃ R nc : Nat, qR u f 18 = some R ∧ qN u R = 3 * nc ∧ XfR u f R nc
def OdI (U : MS) (f : Nat) (n : Int) : Prop := ∀ m1 m2 : Nat, m1 < m2 → (m2 : Int) < n → (qI U (f + 10) m1).toInt + (qI U (f + 11) m1).toInt ≤ (qI U (f + 10) m2).toInt
/-! readFile, part 1: frames, a new File (behind sp_rf_L242) -/
def JL : List Nat := [7, 8, 11, 12, 13, 14, 20, 21, 22, 23, 25, 28, 35, 36, 37, 39, 41, 43, 45, 46]
def Rfb (b0 : Nat) (S u : MS) (c s : Nat) : Prop := (∀ a : Nat, a ≠ 0 → (a < 4 ∨ 21 < a) → (a < b0 ∨ qn u ≤ a) → sm5 S u a) ∧ (∀ a : Nat, a ≤ 21 → qT u a = qT S a ∧ qN u a = qN S a) ∧ (∀ j : Nat, j ∉ JL → qI u 0 j = qI S 0 j ∧ qJ u 0 j = qJ S 0 j ∧ qR u 0 j = qR S 0 j) ∧ (qn S ≤ qn u ∧ qn u ≤ qn S + c) ∧ qu u ≤ qu S + s
theorem Rfb.rf {b0 : Nat} {S : MS} : Rfb b0 S S 0 0 := ⟨fun _ _ _ _ => sm5.rf, fun _ _ => ⟨rfl, rfl⟩, fun _ _ => ⟨rfl, rfl, rfl⟩, ⟨Nat.le_refl _, Nat.le_refl _⟩, Nat.le_refl _⟩
theorem Rfb.tr {b0 : Nat} {S u v : MS} {c s c' s' : Nat} (h : Rfb b0 S u c s) (k : Rfb b0 u v c' s') : Rfb b0 S v (c + c') (s + s') := by
  obtain ⟨a1, a2, a3, a4, a5⟩ := h
  obtain ⟨b1, b2, b3, b4, b5⟩ := k
  exact ⟨fun a x y z => (a1 a x y (by omega)).tr (b1 a x y z), fun a ha => ⟨(b2 a ha).1.trans (a2 a ha).1, (b2 a ha).2.trans (a2 a ha).2⟩, fun j hj => ⟨(b3 j hj).1.trans (a3 j hj).1, (b3 j hj).2.1.trans (a3 j hj).2.1, (b3 j hj).2.2.trans (a3 j hj).2.2⟩, by omega, by omega⟩
theorem Rfb.le {b0 : Nat} {S u : MS} {c s c' s' : Nat} (h : Rfb b0 S u c s) (hc : c ≤ c') (hs : s ≤ s') : Rfb b0 S u c' s' := ⟨h.1, h.2.1, h.2.2.1, by have := h.2.2.2.1; omega, by have := h.2.2.2.2; omega⟩
theorem Rfb.fm {b0 : Nat} {S u : MS} {W J : List Nat} (f : frm W J S u) (hW : ∀ w ∈ W, 4 ≤ w ∧ w ≤ 21) (hJ : ∀ j ∈ J, j ∈ JL) : Rfb b0 S u 0 0 := by
  obtain ⟨t, n, q, s, r, j⟩ := f
  refine ⟨fun a a0 a1 _ => ?_, fun a _ => ⟨by rw [t], by rw [n]⟩, fun i hi => j i (fun z => hi (hJ i z)), by omega, by omega⟩
  have k := r a a0 (fun z => by have := hW a z; omega)
  exact ⟨k.1, k.2.1, k.2.2, by rw [t], by rw [n]⟩
theorem Rfb.fp {b0 : Nat} {S u : MS} {W : Nat → Prop} {J : List Nat} (f : frp W J S u) (hW : ∀ w, W w → (4 ≤ w ∧ w ≤ 21) ∨ (b0 ≤ w ∧ w < qn S)) (hJ : ∀ j ∈ J, j ∈ JL) : Rfb b0 S u 0 0 := by
  obtain ⟨t, n, q, s, r, j⟩ := f
  refine ⟨fun a a0 a1 a2 => ?_, fun a _ => ⟨by rw [t], by rw [n]⟩, fun i hi => j i (fun z => hi (hJ i z)), by omega, by omega⟩
  have k := r a a0 (fun z => by have := hW a z; omega)
  exact ⟨k.1, k.2.1, k.2.2, by rw [t], by rw [n]⟩
theorem Rfb.kn {b0 : Nat} {S u : MS} {c s : Nat} (h : Rfb b0 S u c s) (k : knI S) (hr : qn u ≤ KC) : knI u := ⟨by have := k.1; have := h.2.2.2.1; omega, hr, fun a ha => by
  have h93 := k.1
  have hq := h.2.2.2.1
  by_cases q : a < qn u
  · exact Or.inl q
  · rw [(h.1 a (by omega) (by omega) (Or.inr (by omega))).2.2.2.1] at ha
    have := k.2.2 a ha
    omega⟩
/-- k rows of a new File are made -/
def InK (S : MS) (f k : Nat) (U : MS) : Prop := qn U = f + 1 + k ∧ qu U = qu S + 24 * k ∧ (∀ a : Nat, a < f ∨ f + 1 + k ≤ a → sm5 S U a) ∧ (qT U f = qT S f ∧ qN U f = qN S f ∧ qI U f = qI S f) ∧ ∀ i : Nat, i < k → qR U f (5 + i) = some (f + 1 + i) ∧ qN U (f + 1 + i) = 24 ∧ qT U (f + 1 + i) = if i < 7 then 5 else 2
theorem InK.step {S U A B : MS} {f k t : Nat} (h : InK S f k U) (eA : A = wN U t 24 24) (eB : B = wR A f (5 + k) (some (qn U))) (ht : t = if k < 7 then 5 else 2) : InK S f (k + 1) B := by
  obtain ⟨h1, h2, h3, h4, h5⟩ := h
  obtain ⟨n1, n2, n3, n4, n5, n6⟩ := wN_new (S := U) (t := t) (n := 24) (k := 24)
  rw [← eA] at n1 n2 n3 n4 n5 n6
  have sA : ∀ a : Nat, a ≠ qn U → sm5 U A a := fun a ha => by rw [eA]; exact sm5.wN ha
  have sB : ∀ a : Nat, a ≠ f → sm5 A B a := fun a ha => by rw [eB]; exact sm5.wR ha
  have sf := sA f (by omega)
  refine ⟨by rw [eB]; show qn A = _; omega, by rw [eB]; show qu A = _; omega, fun a ha => ((h3 a (by omega)).tr (sA a (by omega))).tr (sB a (by omega)), ⟨by rw [eB]; show qT A f = _; rw [sf.2.2.2.1]; exact h4.1, by rw [eB]; show qN A f = _; rw [sf.2.2.2.2]; exact h4.2.1, by rw [eB]; show qI A f = _; rw [sf.1]; exact h4.2.2⟩, fun i hi => ?_⟩
  by_cases q : i = k
  · subst q
    rw [h1] at n3 n4
    refine ⟨by rw [eB, qR_wR, if_pos ⟨rfl, rfl⟩, h1], by rw [(sB _ (by omega)).2.2.2.2]; exact n4, by rw [(sB _ (by omega)).2.2.2.1, n3]; exact ht⟩
  · obtain ⟨o1, o2, o3⟩ := h5 i (by omega)
    have e := (sA (f + 1 + i) (by omega)).tr (sB (f + 1 + i) (by omega))
    refine ⟨by rw [eB, qR_wR, if_neg (by omega), sf.2.2.1]; exact o1, by rw [e.2.2.2.2]; exact o2, by rw [e.2.2.2.1]; exact o3⟩
theorem sp_init {S : MS} {f : Nat} (hq : qn S = f + 1) (hr : qn S + 13 ≤ KC ∧ qu S + 312 ≤ KS) : w_init S f (InK S f 13) := by
  have k0 : InK S f 0 S := ⟨by omega, by omega, fun _ _ => sm5.rf, ⟨rfl, rfl, rfl⟩, fun i hi => absurd hi (Nat.not_lt_zero _)⟩
  unfold w_init
  refine ⟨⟨by omega, by omega⟩, fun A1 a1 B1 b1 => ?_⟩
  have k1 := k0.step a1 b1 (by decide)
  have q1 := k1.1; have p1 := k1.2.1
  refine ⟨⟨by omega, by omega⟩, fun A2 a2 B2 b2 => ?_⟩
  have k2 := k1.step a2 b2 (by decide)
  have q2 := k2.1; have p2 := k2.2.1
  refine ⟨⟨by omega, by omega⟩, fun A3 a3 B3 b3 => ?_⟩
  have k3 := k2.step a3 b3 (by decide)
  have q3 := k3.1; have p3 := k3.2.1
  refine ⟨⟨by omega, by omega⟩, fun A4 a4 B4 b4 => ?_⟩
  have k4 := k3.step a4 b4 (by decide)
  have q4 := k4.1; have p4 := k4.2.1
  refine ⟨⟨by omega, by omega⟩, fun A5 a5 B5 b5 => ?_⟩
  have k5 := k4.step a5 b5 (by decide)
  have q5 := k5.1; have p5 := k5.2.1
  refine ⟨⟨by omega, by omega⟩, fun A6 a6 B6 b6 => ?_⟩
  have k6 := k5.step a6 b6 (by decide)
  have q6 := k6.1; have p6 := k6.2.1
  refine ⟨⟨by omega, by omega⟩, fun A7 a7 B7 b7 => ?_⟩
  have k7 := k6.step a7 b7 (by decide)
  have q7 := k7.1; have p7 := k7.2.1
  refine ⟨⟨by omega, by omega⟩, fun A8 a8 B8 b8 => ?_⟩
  have k8 := k7.step a8 b8 (by decide)
  have q8 := k8.1; have p8 := k8.2.1
  refine ⟨⟨by omega, by omega⟩, fun A9 a9 B9 b9 => ?_⟩
  have k9 := k8.step a9 b9 (by decide)
  have q9 := k9.1; have p9 := k9.2.1
  refine ⟨⟨by omega, by omega⟩, fun A10 a10 B10 b10 => ?_⟩
  have k10 := k9.step a10 b10 (by decide)
  have q10 := k10.1; have p10 := k10.2.1
  refine ⟨⟨by omega, by omega⟩, fun A11 a11 B11 b11 => ?_⟩
  have k11 := k10.step a11 b11 (by decide)
  have q11 := k11.1; have p11 := k11.2.1
  refine ⟨⟨by omega, by omega⟩, fun A12 a12 B12 b12 => ?_⟩
  have k12 := k11.step a12 b12 (by decide)
  have q12 := k12.1; have p12 := k12.2.1
  refine ⟨⟨by omega, by omega⟩, fun A13 a13 B13 b13 => ?_⟩
  exact k12.step a13 b13 (by decide)
/-- the lengths of the fixed rows -/
def FxI (S : MS) : Prop := qT S 0 = 10 ∧ ∀ q ∈ finL, qT S q.2.1 = q.2.2.1 ∧ qN S q.2.1 = q.2.2.2
/-- a File that is kept -/
def FlI (S : MS) (f : Nat) : Prop := FlR S f ∧ f + 14 ≤ qn S ∧ OwO S f ∧ ((0 ≤ (qI S f 3).toInt ∧ (qI S f 3).toInt ≤ 24) ∧ 0 ≤ (qI S f 4).toInt ∧ (qI S f 4).toInt ≤ 24) ∧ (∀ i : Nat, (i : Int) < (qI S f 3).toInt → FdO S f i) ∧ ∃ R T C nc ts cn : Nat, ((f + 14 ≤ R ∧ R < qn S) ∧ (f + 14 ≤ T ∧ T < qn S) ∧ (f + 14 ≤ C ∧ C < qn S)) ∧ (qR S f 18 = some R ∧ qR S f 19 = some T ∧ qR S f 20 = some C) ∧ (qT S R = 2 ∧ qT S T = 2 ∧ qT S C = 2) ∧ (qN S R = 3 * nc ∧ qN S T = ts ∧ qN S C = 4 * cn) ∧ (nc ≤ 28800 ∧ ts ≤ 28800 ∧ cn ≤ 384) ∧ ∀ m : Nat, (m : Int) < (qI S f 4).toInt → (∃ pl : Int, MdO S f m pl ∧ pl ≤ (qI S (f + 9) m).toInt) ∧ (0 ≤ (qI S (f + 8) m).toInt ∧ (qI S (f + 8) m).toInt ≤ 24) ∧ (0 ≤ (qI S (f + 9) m).toInt ∧ (qI S (f + 9) m).toInt ≤ 24) ∧ MtI (qI S R) (qI S T) (qI S C) nc ts cn (qI S (f + 9) m).toInt (qI S f 3).toInt (qI S f 4).toInt (qI S (f + 10) m) (qI S (f + 11) m) (qI S (f + 12) m) (qI S (f + 13) m)
/-- the methods that pointing took up -/
def PtA (B : MS) (f : Nat) (n : Int) : Prop := ∀ m : Nat, (m : Int) < n → MtI (qI B 19) (qI B 20) (qI B 21) (qI B 0 41).toInt (qI B 0 43).toInt (qI B 0 45).toInt (qI B 13 m).toInt (qI B 0 22).toInt ((qI B 0 21).toInt - (qI B 0 22).toInt) (qI B (f + 10) m) (qI B (f + 11) m) (qI B (f + 12) m) (qI B (f + 13) m)
def CnI (B : MS) : Prop := (0 ≤ (qI B 0 41).toInt ∧ (qI B 0 41).toInt ≤ 28800) ∧ (0 ≤ (qI B 0 43).toInt ∧ (qI B 0 43).toInt ≤ 28800 ∧ 3 * (qI B 0 41).toInt + (qI B 0 43).toInt ≤ 86400) ∧ 0 ≤ (qI B 0 45).toInt ∧ (qI B 0 45).toInt ≤ 384
theorem rf_tail {B V : MS} {f : Nat} {n : Int32} {Q : Nat → MS → Prop} (hB : LsI B f) (hC : CnI B) (hl : qN B 19 = 86400 ∧ qN B 20 = 40000 ∧ qN B 21 = 1536) (hn : n.toInt = (qI B 0 21).toInt - (qI B 0 22).toInt) (hco : ∀ m : Nat, (m : Int) < n.toInt → COK B m) (hp : PtA B f n.toInt) (hxa : XaI B) (hod : OdI B f n.toInt) (hV : Ph B f V 760 18000) (hx : Xb B f n V) (hm : ∀ m : Nat, (m : Int) < n.toInt → MdO V f m (pV B (f_two B (qI B 9 ((qI B 0 22).toInt.toNat + m) + 4))).toInt ∧ qI V (f + 8) m = qI B 12 m ∧ qI V (f + 9) m = qI B 13 m)
    (hQ : ∀ u : MS, FlI u f → XfI u f → qI u f 21 = qI B f 21 → (∀ a : Nat, a < f ∨ qn u ≤ a → sm5 B u a) → (qn B ≤ qn u ∧ qn u ≤ qn B + 763) → qu u ≤ qu B + 106000 → Q f u) : (∃ Q79, w_firstInts V 19 ((3 : Int32) * (qI V 0 41)) Q79 ∧ ∀ b84 S81, Q79 b84 S81 → (∀ S85, S85 = wR S81 f 18 (some b84) → (∃ Q86, w_firstInts S85 20 (qI S85 0 43) Q86 ∧ ∀ b91 S88, Q86 b91 S88 → (∀ S92, S92 = wR S88 f 19 (some b91) → (∃ Q94, w_firstInts S92 21 ((4 : Int32) * (qI S92 0 45)) Q94 ∧ ∀ b99 S96, Q94 b99 S96 → (∀ S100, S100 = wR S96 f 20 (some b99) → Q f S100)))))) := by
  have hB' := hB
  obtain ⟨b1, b2, b3, b4, b5, b6, b7⟩ := hB
  obtain ⟨c1, c2, c3⟩ := hC
  have hf92 := b3.1.1
  have hmm := b1.1.2.2.1
  have e3 : ((3 : Int32) * qI B 0 41).toInt = 3 * (qI B 0 41).toInt := by rw [t_mul (by rw [li_3]; omega), li_3]
  have e4 : ((4 : Int32) * qI B 0 45).toInt = 4 * (qI B 0 45).toInt := by rw [t_mul (by rw [li_4]; omega), li_4]
  have V0 := hV.1 0 (Or.inl (by omega))
  have V19 := hV.1 19 (Or.inl (by omega))
  have hVq := hV.2.2
  rw [V0.1]
  refine ⟨_, sp_firstInts (by rw [V19.2.2.2.2, hl.1, e3]; omega) (by omega) (by rw [V19.2.2.2.2, hl.1]; decide) (by rw [e3]; omega), ?_⟩
  rintro R V1 ⟨rR, x1, x2, x3, x4, x5⟩ V2 e2
  have P1 := hV.ex (by omega) x1
  have P2 := P1.wR (h := f) (j := 18) (v := some R) (by omega) (by omega)
  rw [← e2] at P2
  have W0 := P2.1 0 (Or.inl (by omega))
  have W20 := P2.1 20 (Or.inl (by omega))
  have q2 : qn V2 = qn V + 1 := by rw [e2]; exact x2
  have u2 : qu V2 ≤ qu V + 3 * (qI B 0 41).toInt.toNat := by rw [e2]; show qu V1 ≤ _; have := x1.2.2; rw [e3] at this; omega
  rw [W0.1]
  refine ⟨_, sp_firstInts (by rw [W20.2.2.2.2, hl.2.1]; omega) (by omega) (by rw [W20.2.2.2.2, hl.2.1]; decide) (by omega), ?_⟩
  rintro T V3 ⟨rT, y1, y2, y3, y4, y5⟩ V4 e4'
  have P3 := P2.ex (by omega) y1
  have P4 := P3.wR (h := f) (j := 19) (v := some T) (by omega) (by omega)
  rw [← e4'] at P4
  have Z0 := P4.1 0 (Or.inl (by omega))
  have Z21 := P4.1 21 (Or.inl (by omega))
  have q4 : qn V4 = qn V + 2 := by rw [e4']; show qn V3 = _; omega
  have u4 : qu V4 ≤ qu V2 + (qI B 0 43).toInt.toNat := by rw [e4']; exact y1.2.2
  rw [Z0.1]
  refine ⟨_, sp_firstInts (by rw [Z21.2.2.2.2, hl.2.2, e4]; omega) (by omega) (by rw [Z21.2.2.2.2, hl.2.2]; decide) (by rw [e4]; omega), ?_⟩
  rintro C V5 ⟨rC, z1, z2, z3, z4, z5⟩ V6 e6
  have P5 := P4.ex (by omega) z1
  have P6 := P5.wR (h := f) (j := 20) (v := some C) (by omega) (by omega)
  rw [← e6] at P6
  have q6 : qn V6 = qn V + 3 := by rw [e6]; show qn V5 = _; omega
  have u6 : qu V6 ≤ qu V4 + 4 * (qI B 0 45).toInt.toNat := by rw [e6]; show qu V5 ≤ _; have := z1.2.2; rw [e4] at this; omega
  have hfV : f + 14 ≤ qn V := by omega
  -- what stays
  let P : Nat → Nat → Prop := fun r j => r = f ∧ (j = 18 ∨ j = 19 ∨ j = 20)
  have w2 : Rw f P V1 V2 := by rw [e2]; exact Rw.wR ⟨rfl, by omega⟩
  have w4 : Rw f P V3 V4 := by rw [e4']; exact Rw.wR ⟨rfl, by omega⟩
  have w6 : Rw f P V5 V6 := by rw [e6]; exact Rw.wR ⟨rfl, by omega⟩
  have RW : Rw f P V V6 := (((((Rw.ex x1 hfV).tr w2).tr (Rw.ex y1 (by omega))).tr w4).tr (Rw.ex z1 (by omega))).tr w6
  have k12 : Kp f V1 V2 := by rw [e2]; exact Kp.wR (by omega)
  have k34 : Kp f V3 V4 := by rw [e4']; exact Kp.wR (by omega)
  have k56 : Kp f V5 V6 := by rw [e6]; exact Kp.wR (by omega)
  have k36 : Kp f V3 V6 := k34.tr ((Kp.ex z1).tr k56)
  have k16 : Kp f V1 V6 := k12.tr ((Kp.ex y1).tr k36)
  have k06 : Kp f V V6 := (Kp.ex x1).tr k16
  have f3 : qI V6 f 3 = qI B 0 22 := by rw [(RW f 3 (Nat.le_refl _) (by omega) (fun q => by have := q.2; omega)).2]; exact hx.1.2.1
  have f4 : qI V6 f 4 = n := by rw [(RW f 4 (Nat.le_refl _) (by omega) (fun q => by have := q.2; omega)).2]; exact hx.1.2.2.1
  have sR := k16.1 R (by omega) (by omega)
  have sTT := k36.1 T (by omega) (by omega)
  have sC := k56.1 C (by omega) (by omega)
  have rows : ∀ a : Nat, f + 10 ≤ a → a ≤ f + 13 → qI V6 a = qI B a := fun a a0 a1 => (P6.1 a (Or.inr (Or.inl ⟨a0, a1⟩))).1
  have g20 : qR V6 f 20 = some C := by rw [e6, qR_wR, if_pos ⟨rfl, rfl⟩]
  have g19 : qR V6 f 19 = some T := by rw [e6, qR_wR, if_neg (fun q => absurd q.2 (by decide)), (z1.1 f (Or.inl (by omega))).2.2.1, e4', qR_wR, if_pos ⟨rfl, rfl⟩]
  have g18 : qR V6 f 18 = some R := by rw [e6, qR_wR, if_neg (fun q => absurd q.2 (by decide)), (z1.1 f (Or.inl (by omega))).2.2.1, e4', qR_wR, if_neg (fun q => absurd q.2 (by decide)), (y1.1 f (Or.inl (by omega))).2.2.1, e2, qR_wR, if_pos ⟨rfl, rfl⟩]
  apply hQ
  · refine ⟨P6.2.1, by omega, hx.1.1.mv k06 (fun j hj => (RW f j (Nat.le_refl _) (by omega) (fun q => by have := q.2; omega)).1), by rw [f3, f4]; omega, fun i hi => ?_, R, T, C, (qI B 0 41).toInt.toNat, (qI B 0 43).toInt.toNat, (qI B 0 45).toInt.toNat, ⟨⟨by omega, by omega⟩, ⟨by omega, by omega⟩, by omega, by omega⟩, ⟨g18, g19, g20⟩, ⟨by rw [sR.2.2.2.1]; exact x3, by rw [sTT.2.2.2.1]; exact y3, by rw [sC.2.2.2.1]; exact z3⟩, ⟨by rw [sR.2.2.2.2, x4, e3]; omega, by rw [sTT.2.2.2.2, y4], by rw [sC.2.2.2.2, z4, e4]; omega⟩, ⟨by omega, by omega, by omega⟩, fun m hm' => ?_⟩
    · rw [f3] at hi
      exact (hx.2 i hi).mv k06 (fun r r0 r1 => (RW r i (by omega) (by omega) (fun q => by have := q.1; omega)).1)
    · rw [f4] at hm'
      obtain ⟨o1, o2, o3⟩ := hm m hm'
      have r8 : qI V6 (f + 8) m = qI B 12 m := by rw [(RW (f + 8) m (by omega) (by omega) (fun q => by have := q.1; omega)).2]; exact o2
      have r9 : qI V6 (f + 9) m = qI B 13 m := by rw [(RW (f + 9) m (by omega) (by omega) (fun q => by have := q.1; omega)).2]; exact o3
      have co := (hco m hm').1
      rw [r8, r9, f3, f4, rows (f + 10) (by omega) (by omega), rows (f + 11) (by omega) (by omega), rows (f + 12) (by omega) (by omega), rows (f + 13) (by omega) (by omega)]
      refine ⟨⟨_, o1.mv k06 (fun r r0 r1 => (RW r m (by omega) (by omega) (fun q => by have := q.1; omega)).1), co.2.1.1⟩, co.1, co.2.1.2, ?_⟩
      rw [hn]
      have e1 := c1.1
      have e5 := c2.1
      have e7 := c3.1
      refine (hp m hm').mv (by omega) (by omega) (by omega) (fun j hj => ?_) (fun j hj => ?_) (fun j hj => ?_)
      · rw [sR.1, x5 j (by rw [e3]; exact hj), V19.1]
      · rw [sTT.1, y5 j hj, W20.1]
      · rw [sC.1, z5 j (by rw [e4]; exact hj), Z21.1]
  · refine ⟨R, (qI B 0 41).toInt.toNat, g18, by rw [sR.2.2.2.2, x4, e3]; omega, qI B 4, qJ B 8, (qI B 0 14).toInt.toNat, fun i hi => ?_, fun i j ij hj ti tj => ?_, fun m1 m2 m12 hm2 => ?_, ?_⟩
    · have cr : ∀ j : Nat, (j : Int) < 3 * (qI B 0 41).toInt → qI V6 R j = qI B 19 j := fun j hj => by rw [sR.1, x5 j (by rw [e3]; exact hj), V19.1]
      rw [cr _ (by omega), cr _ (by omega), cr _ (by omega)]
      have k := (hxa.1 i (by omega)).1
      have b14 := b1.1.2.2.2.2.2.2.1.1
      unfold kcV at k
      rw [show (((qI B 0 14).toInt.toNat : Nat) : Int) = (qI B 0 14).toInt by omega]
      exact k
    · have cr : ∀ j : Nat, (j : Int) < 3 * (qI B 0 41).toInt → qI V6 R j = qI B 19 j := fun j hj => by rw [sR.1, x5 j (by rw [e3]; exact hj), V19.1]
      rw [cr _ (by omega)] at ti tj
      rw [cr _ (by omega), cr _ (by omega), cr _ (by omega)]
      exact hxa.2 i j ij (by omega) ti tj
    · rw [f4] at hm2
      rw [rows (f + 10) (by omega) (by omega), rows (f + 11) (by omega) (by omega)]
      exact hod m1 m2 m12 hm2
    · rw [f3, f4, hn]
      exact cc_ok b1
  · rw [(RW f 21 (Nat.le_refl _) (by omega) (fun q => by have := q.2; omega)).2]; exact hx.1.2.2.2.2
  · exact fun a ha => P6.1 a (by omega)
  · omega
  · omega
/-! readFile, part 2 (behind rf_tail) -/
/-- what readFile promises -/
def RfQ (S : MS) (f : Nat) (u : MS) : Prop := f = qn S ∧ (FlI u f ∧ (qI u f 21).toInt = 0) ∧ Rfb (qn S) S u 780 106400 ∧ knI u ∧ XfI u f
def RfE (S : MS) (u : MS) : Prop := Rfb (qn S) S u 14 335
theorem cls_nm {S : MS} (h : RT S) {d x : Int32} (hx : x = f_two S (qI S 0 20 + d)) (hE : isE S x 7) : isE S (qI S 6 x.toInt.toNat) 1 ∧ (0 ≤ x.toInt ∧ x.toInt < 502) := by
  have hp := h.1.2.2.2.2.2.2.1
  obtain ⟨a, b, c⟩ := hE
  exact ⟨(h.2.2.2.1 x.toInt.toNat (by omega) (by omega)).1 c, by omega, by omega⟩
theorem rf_head {S B : MS} {f : Nat} {n : Int32} (hf : f = qn S) (hB : LsI B f) (hC : CnI B) (hl : qN B 19 = 86400 ∧ qN B 20 = 40000 ∧ qN B 21 = 1536) (hn : n.toInt = (qI B 0 21).toInt - (qI B 0 22).toInt) (hco : ∀ m : Nat, (m : Int) < n.toInt → COK B m) (hp : PtA B f n.toInt) (hS : Rfb f S B 14 335) (k : MS → Prop)
    (hk : ∀ V : MS, Ph B f V 8 416 → Xa B f n V → ∃ n', w_readFile_L242 (RfQ S) (RfE S) n' V n f 0) :
    (d_two B ((qI B 0 20) + (2 : Int32)) ∧ (((0 : Int) ≤ (f_two B ((qI B 0 20) + (2 : Int32))).toInt ∧ (f_two B ((qI B 0 20) + (2 : Int32))).toInt < 502) ∧ (∃ Q53, w_text B (qI B 6 (((f_two B ((qI B 0 20) + (2 : Int32))).toInt).toNat)) Q53 ∧ ∀ b58 S55, Q53 b58 S55 → (∀ S59, S59 = wR S55 f 0 (some b58) → (d_two S59 ((qI S59 0 20) + (4 : Int32)) ∧ (((0 : Int) ≤ (f_two S59 ((qI S59 0 20) + (4 : Int32))).toInt ∧ (f_two S59 ((qI S59 0 20) + (4 : Int32))).toInt < 502) ∧ (∃ Q66, w_text S59 (qI S59 6 (((f_two S59 ((qI S59 0 20) + (4 : Int32))).toInt).toNat)) Q66 ∧ ∀ b71 S68, Q66 b71 S68 → (∀ S72, S72 = wR S68 f 1 (some b71) → (∀ S73, S73 = wI S72 f 2 (qI S72 0 14) → (∀ S74, S74 = wI S73 f 3 (qI S73 0 22) → (∀ S75, S75 = wI S74 f 4 n → (∃ n', w_readFile_L242 (RfQ S) (RfE S) n' S75 n f 0)))))))))))) := by
  have hB' := hB
  obtain ⟨b1, b2, b3, b4, b5, b6, b7⟩ := hB
  have hf92 := b3.1.1
  have hc := b1.1.2.1
  have hb := b1.1.1.bnd
  have e2 : (qI B 0 20 + (2 : Int32)).toInt = (qI B 0 20).toInt + 2 := by rw [t_add (by rw [li_2]; omega), li_2]
  have e4 : (qI B 0 20 + (4 : Int32)).toInt = (qI B 0 20).toInt + 4 := by rw [t_add (by rw [li_4]; omega), li_4]
  have c1 := cls_nm b1 (d := 2) rfl b1.2.2.2.2.1.1
  refine ⟨b1.1.1.two (by omega) (by omega), c1.2, _, sp_text b1.1 c1.1 b2 (by omega), ?_⟩
  rintro s1 V1 ⟨x1, x2, x3, x4⟩ V2 e2'
  have N1 : StN V1 s1 := tx_n b1.1 c1.1 x4
  have P0 : Ph B f B 0 0 := ⟨fun _ _ => sm5.rf, b3, by omega, by omega⟩
  have P1 := P0.ex (by omega) x1
  have P2 := P1.wR (h := f) (j := 0) (v := some s1) (by omega) (by omega)
  rw [← e2'] at P2
  obtain ⟨sT2, R2, K2⟩ := P2.up hB' (by omega)
  have v20 : qI V2 0 20 = qI B 0 20 := sT2.1.f 20
  have q2 : qn V2 = qn B + 4 := by rw [e2']; exact x3
  have u2 : qu V2 ≤ qu B + 208 := by rw [e2']; exact x1.2.2
  have c2 := cls_nm R2 (d := 4) rfl R2.2.2.2.2.1.2
  refine ⟨R2.1.1.two (by rw [v20]; omega) (by rw [v20, sT2.1.f 12]; omega), c2.2, _, sp_text R2.1 c2.1 K2 (by omega), ?_⟩
  rintro s2 V3 ⟨z1, z2, z3, z4⟩ V4 e4' V5 e5 V6 e6 V7 e7
  have N2 : StN V3 s2 := tx_n R2.1 c2.1 z4
  have P3 := P2.ex (by omega) z1
  have P4 := P3.wR (h := f) (j := 1) (v := some s2) (by omega) (by omega)
  rw [← e4'] at P4
  have P5 := P4.wI (h := f) (j := 2) (v := qI V4 0 14) (by omega) (by omega)
  rw [← e5] at P5
  have P6 := P5.wI (h := f) (j := 3) (v := qI V5 0 22) (by omega) (by omega)
  rw [← e6] at P6
  have P7 := P6.wI (h := f) (j := 4) (v := n) (by omega) (by omega)
  rw [← e7] at P7
  have k12 : Kp f V1 V2 := by rw [e2']; exact Kp.wR (by omega)
  have k34 : Kp f V3 V4 := by rw [e4']; exact Kp.wR (by omega)
  have k45 : Kp f V4 V5 := by rw [e5]; exact Kp.wI (by omega)
  have k56 : Kp f V5 V6 := by rw [e6]; exact Kp.wI (by omega)
  have k67 : Kp f V6 V7 := by rw [e7]; exact Kp.wI (by omega)
  have k37 : Kp f V3 V7 := k34.tr (k45.tr (k56.tr k67))
  have k17 : Kp f V1 V7 := k12.tr ((Kp.ex z1).tr k37)
  have hq37 := k37.2
  have r1 : qR V7 f 1 = some s2 := by rw [e7, e6, e5]; show qR V4 f 1 = _; rw [e4', qR_wR, if_pos ⟨rfl, rfl⟩]
  have r0 : qR V7 f 0 = some s1 := by rw [e7, e6, e5]; show qR V4 f 0 = _; rw [e4', qR_wR, if_neg (fun q => absurd q.2 (by decide)), (z1.1 f (Or.inl (by omega))).2.2.1, e2', qR_wR, if_pos ⟨rfl, rfl⟩]
  have i4 : qI V7 f 4 = n := by rw [e7, qI_wI, if_pos ⟨rfl, rfl⟩]
  have i3 : qI V7 f 3 = qI B 0 22 := by rw [e7, qI_wI, if_neg (fun q => absurd q.2 (by decide)), e6, qI_wI, if_pos ⟨rfl, rfl⟩, (P5.1 0 (Or.inl (by omega))).1]
  have i2 : qI V7 f 2 = qI B 0 14 := by rw [e7, qI_wI, if_neg (fun q => absurd q.2 (by decide)), e6, qI_wI, if_neg (fun q => absurd q.2 (by decide)), e5, qI_wI, if_pos ⟨rfl, rfl⟩, (P4.1 0 (Or.inl (by omega))).1]
  have i21 : qI V7 f 21 = qI B f 21 := by rw [e7, qI_wI, if_neg (fun q => absurd q.2 (by decide)), e6, qI_wI, if_neg (fun q => absurd q.2 (by decide)), e5, qI_wI, if_neg (fun q => absurd q.2 (by decide)), e4']; show qI V3 f 21 = _; rw [(z1.1 f (Or.inl (by omega))).1, e2']; show qI V1 f 21 = _; rw [(x1.1 f (Or.inl (by omega))).1]
  exact hk V7 (P7.le (by omega) (by omega)) ⟨⟨s1, s2, by omega, by omega, r0, r1, N1.kp (by omega) k17, N2.kp (by omega) k37⟩, i3, i4, i2, i21⟩
theorem rf_rest {S B : MS} {f : Nat} {n : Int32} (hf : f = qn S) (hB : LsI B f) (hC : CnI B) (hl : qN B 19 = 86400 ∧ qN B 20 = 40000 ∧ qN B 21 = 1536) (hn : n.toInt = (qI B 0 21).toInt - (qI B 0 22).toInt) (hco : ∀ m : Nat, (m : Int) < n.toInt → COK B m) (hp : PtA B f n.toInt) (hxa : XaI B) (hod : OdI B f n.toInt) (hS : Rfb f S B 14 335) (h21 : qI B f 21 = 0) {V : MS} (hV : Ph B f V 8 416) (hx : Xa B f n V) : ∃ n', w_readFile_L242 (RfQ S) (RfE S) n' V n f 0 := by
  have hB' := hB
  obtain ⟨b1, b2, b3, b4, b5, b6, b7⟩ := hB
  have hf92 := b3.1.1
  have hmm := b1.1.2.2.1
  refine ⟨_, sp_rf_L242 hB' (c0 := 8) (s0 := 416) (by decide) (by decide) (fun V2 p2 x2 => ?_) _ V 0 ⟨by decide, by rw [li_0]; omega⟩ hV hx (fun m hm => by rw [li_0] at hm; omega) (Nat.lt_succ_self _)⟩
  refine ⟨_, sp_rf_L330 hB' (c0 := 8 + 312) (s0 := 416 + 6048) hn hco (by decide) (by decide) (Xb B f n) (fun V3 p3 x3 m3 => ?_) (fun U W i hx0 hq kp rw0 => hx0.mv kp rw0) _ V2 0 ⟨by decide, by rw [li_0]; omega⟩ p2 x2 (fun m hm => by rw [li_0] at hm; omega) (Nat.lt_succ_self _)⟩
  refine rf_tail hB' hC hl hn hco hp hxa hod (p3.le (by decide) (by decide)) x3 m3 (fun u hu1 hux hu0 hu2 hu3 hu4 => ⟨hf, ⟨hu1, by rw [hu0, h21]; rfl⟩, ?_, ?_, hux⟩)
  · have R2 : Rfb f B u 763 106000 := by
      have o := fun (a : Nat) (ha : a < f ∨ qn u ≤ a) => hu2 a ha
      refine ⟨fun a _ _ ha => o a ha, fun a ha => ⟨(o a (Or.inl (by omega))).2.2.2.1, (o a (Or.inl (by omega))).2.2.2.2⟩, fun j _ => ?_, hu3, hu4⟩
      have z := o 0 (Or.inl (by omega))
      exact ⟨by rw [z.1], by rw [z.2.1], by rw [z.2.2.1]⟩
    rw [← hf]
    exact (hS.tr R2).le (by decide) (by decide)
  · refine ⟨by have := b2.1; omega, by omega, fun a ha => ?_⟩
    by_cases q : a < qn u
    · exact Or.inl q
    · rw [(hu2 a (by omega)).2.2.2.1] at ha
      have := b2.2.2 a ha
      omega
/-- the loop that takes up the methods -/
def PlI (S : MS) (f : Nat) (n i : Int) (U : MS) : Prop := Rfb f S U 14 335 ∧ LsI U f ∧ (qN U 19 = 86400 ∧ qN U 20 = 40000 ∧ qN U 21 = 1536) ∧ n = (qI U 0 21).toInt - (qI U 0 22).toInt ∧ (∀ m : Nat, (m : Int) < n → COK U m) ∧ (0 ≤ (qI U 0 41).toInt ∧ (qI U 0 41).toInt ≤ 1200 * i) ∧ (0 ≤ (qI U 0 43).toInt ∧ (qI U 0 43).toInt ≤ 1200 * i ∧ 3 * (qI U 0 41).toInt + (qI U 0 43).toInt ≤ 3600 * i) ∧ (0 ≤ (qI U 0 45).toInt ∧ (qI U 0 45).toInt ≤ 16 * i) ∧ PtA U f i ∧ qI U f 21 = 0 ∧ XaI U ∧ OdI U f i ∧ byt U (qO U 0 11)
theorem sp_rf_L147 {S : MS} {f : Nat} {n : Int32} (hf : f = qn S) : ∀ (k : Nat) (U : MS) (i : Int32), (0 ≤ i.toInt ∧ i.toInt ≤ n.toInt ∧ n.toInt ≤ 24) → PlI S f n.toInt i.toInt U → (24 - i.toInt).toNat < k → w_readFile_L147 (RfQ S) (RfE S) k U n f i := by
  intro k
  induction k with
  | zero => intro U i _ _ h9; exact absurd h9 (Nat.not_lt_zero _)
  | succ k ih =>
    rintro U i hi ⟨h1, h2, h3, h4, h5, h6, h7, h8, h9, h10, hxa, hod, hby⟩ hm
    have h2' := h2
    obtain ⟨b1, b2, b3, b4, b5, b6, b7⟩ := h2
    have hf92 := b3.1.1
    have hT1 := b3.1.2
    rw [show TXB = 10000000 from rfl] at hT1
    unfold w_readFile_L147
    refine ⟨fun c => ?_, fun c => ?_⟩
    · have hCn : CnI U := ⟨by omega, by omega, by omega⟩
      have hp : PtA U f n.toInt := fun m hm' => h9 m (by omega)
      exact rf_head hf h2' hCn h3 h4 h5 hp h1 (fun _ => True) (fun V hV hx => rf_rest hf h2' hCn h3 h4 h5 hp hxa (fun m1 m2 a b => hod m1 m2 a (by omega)) h1 h10 hV hx)
    · have co := h5 i.toInt.toNat (by omega)
      refine ⟨_, _, sp_pointing b1 b3 ⟨by omega, by omega⟩ co ⟨by omega, by omega⟩ ⟨by omega, by omega⟩ ⟨by omega, by omega⟩ hby hxa, ?_, fun u9 h9' => ?_⟩
      · rintro V ⟨⟨p1, p2, p3, p4, p5, p6, p7, p8, p9⟩, xV, fst⟩ a ea
        subst ea
        have ei : (i + Int32.ofInt 1).toInt = i.toInt + 1 := by rw [t_add (by rw [lo_1]; omega), lo_1]
        have R2 : Rfb f U V 0 0 := Rfb.fp p1 (fun w hw => by omega) (by decide)
        have kd : ∀ a : Nat, (a = 18 ∨ a = 19 ∨ a = 20 ∨ a = 21 ∨ a = f + 10 ∨ a = f + 11 ∨ a = f + 12 ∨ a = f + 13) → 18 ≤ a ∧ a < TXB ∧ qT U a ≠ 1 := fun a ha => by
          rw [show TXB = 10000000 from rfl]
          have t18 : qT U 18 = 2 := b1.1.1.fin (q := (38, 18, 2, 1201)) (by decide)
          have t19 : qT U 19 = 2 := b1.1.1.fin (q := (40, 19, 2, 86400)) (by decide)
          have t20 : qT U 20 = 2 := b1.1.1.fin (q := (42, 20, 2, 40000)) (by decide)
          have t21 : qT U 21 = 2 := b1.1.1.fin (q := (44, 21, 2, 1536)) (by decide)
          have r10 := (b3.2.2 9 (by decide)).2.2
          have r11 := (b3.2.2 10 (by decide)).2.2
          have r12 := (b3.2.2 11 (by decide)).2.2
          have r13 := (b3.2.2 12 (by decide)).2.2
          simp only [Nat.reduceAdd, Nat.reduceLT, if_false, Nat.add_assoc] at r10 r11 r12 r13
          rcases ha with rfl | rfl | rfl | rfl | rfl | rfl | rfl | rfl <;> refine ⟨by omega, by omega, ?_⟩ <;> omega
        have sT := p1.sT b1.1.1 kd (by decide)
        have RV := sT.rt b1
        have kdS' := sT.1.1
        have hFV : FlR V f := by
          refine ⟨b3.1, by rw [p1.1, p1.2.1]; exact b3.2.1, fun j hj => ?_⟩
          rw [(p1.2.2.2.2.1 f (by omega) (by omega)).2.2, p1.1, p1.2.1]
          exact b3.2.2 j hj
        have q22 : qI V 0 22 = qI U 0 22 := sT.1.f 22
        have q21 : qI V 0 21 = qI U 0 21 := sT.1.f 21
        have q13 : qI V 13 = qI U 13 := sT.2.1 13 (by decide) (by decide)
        have hqn := p1.2.2.1
        have hqu := p1.2.2.2.1
        have qo : qO V 0 11 = qO U 0 11 := by unfold qO; rw [sT.1.2.1.1]
        have KV : knI V := ⟨by rw [hqn]; exact b2.1, by rw [hqn]; exact b2.2.1, fun a ha => by rw [p1.1] at ha; rw [hqn]; exact b2.2.2 a ha⟩
        refine ih V _ ⟨by omega, by omega, hi.2.2⟩ ⟨(h1.tr R2).le (by decide) (by decide), ⟨RV, KV, hFV, by omega, by rw [qo]; exact b5, by rw [hqn]; exact b6, by rw [hqu]; exact b7⟩, by rw [p1.2.1]; exact h3, by rw [q21, q22]; exact h4, fun m hm' => (h5 m hm').mv sT.1 b1.2.2.2.2.2.1 (fun a a0 a1 => by rw [sT.2.1 a a0 a1]), by omega, by omega, by omega, fun m hm' => ?_, by rw [(p1.2.2.2.2.1 f (by omega) (by omega)).1]; exact h10, xV, fun m1 m2 m12 hm2 => ?_, fun j => by rw [qo, sT.1.2.1.2]; exact hby j⟩ (by omega)
        rotate_left
        · by_cases qm : (m2 : Int) < i.toInt
          · rw [p2 (f + 10) m1 (by omega) (by omega) (by omega), p2 (f + 11) m1 (by omega) (by omega) (by omega), p2 (f + 10) m2 (by omega) (by omega) (by omega)]
            exact hod m1 m2 m12 qm
          · have em : m2 = i.toInt.toNat := by omega
            subst em
            rw [fst, p2 (f + 10) m1 (by omega) (by omega) (by omega), p2 (f + 11) m1 (by omega) (by omega) (by omega)]
            exact (h9 m1 (by omega)).2.2.1
        rw [q13, q22, q21]
        by_cases qm : (m : Int) < i.toInt
        · have ne : m ≠ i.toInt.toNat := by omega
          rw [p2 (f + 10) m (by omega) (by omega) ne, p2 (f + 11) m (by omega) (by omega) ne, p2 (f + 12) m (by omega) (by omega) ne, p2 (f + 13) m (by omega) (by omega) ne]
          exact (h9 m qm).mv p3.1 p4.1 p5.1 p6 p7 p8
        · have em : m = i.toInt.toNat := by omega
          subst em
          exact p9
      · have R2 : Rfb f U u9 0 0 := Rfb.fp h9' (fun w hw => by omega) (by decide)
        unfold RfE
        rw [← hf]
        exact (h1.tr R2).le (by decide) (by decide)
/-! readFile, part 3 (behind sp_rf_L147) -/
def LnI (S : MS) : Prop := qN S 19 = 86400 ∧ qN S 20 = 40000 ∧ qN S 21 = 1536
/-- before the File is made: S the start, U now -/
def PrI (S : MS) (n : Int) (U : MS) : Prop := Rfb (qn S) S U 0 0 ∧ RT U ∧ knI U ∧ LnI U ∧ (qO U 0 11 < qn S ∧ qn U = qn S) ∧ (qn S + 814 ≤ KC ∧ qu S + 106335 ≤ KS) ∧ n = (qI U 0 21).toInt - (qI U 0 22).toInt ∧ byt U (qO U 0 11)
theorem sp_rf_L102 {S : MS} {n : Int32} : ∀ (k : Nat) (U : MS) (i : Int32), (0 ≤ i.toInt ∧ i.toInt ≤ n.toInt ∧ n.toInt ≤ 24) → PrI S n.toInt U → (∀ m : Nat, (m : Int) < n.toInt → COK U m) → (24 - i.toInt).toNat < k → w_readFile_L102 (RfQ S) (RfE S) k U n i := by
  intro k
  induction k with
  | zero => intro U i _ _ _ h9; exact absurd h9 (Nat.not_lt_zero _)
  | succ k ih =>
    rintro U i hi ⟨h1, h2, h3, h4, h5, h6, h7, hby⟩ hco hm
    unfold w_readFile_L102
    refine ⟨fun c A eA B eB C eC => ?_, fun c => ?_⟩
    · have fC : frm [] [41, 43, 45] U C := by
        have f1 : frm [] [41, 43, 45] U A := by rw [eA]; exact frm.pI0 (by decide)
        have f2 : frm [] [41, 43, 45] A B := by rw [eB]; exact frm.pI0 (by decide)
        have f3 : frm [] [41, 43, 45] B C := by rw [eC]; exact frm.pI0 (by decide)
        exact (f1.tr f2).tr f3
      have sTC : smT U C := smT.fr h2.1.1 (fC.mo (by decide) (by decide))
      have RC := sTC.rt h2
      have R2 : Rfb (qn S) U C 0 0 := Rfb.fm fC (by decide) (by decide)
      have hqn := fC.2.2.1
      have hqu := fC.2.2.2.1
      have huS := h1.2.2.2.2
      have KCc : knI C := ⟨by rw [hqn]; exact h3.1, by rw [hqn]; exact h3.2.1, fun a ha => by rw [fC.1] at ha; rw [hqn]; exact h3.2.2 a ha⟩
      have c41 : qI C 0 41 = 0 := by rw [eC, qI_wI, if_neg (by decide), eB, qI_wI, if_neg (by decide), eA, qI_wI, if_pos ⟨rfl, rfl⟩]
      have c43 : qI C 0 43 = 0 := by rw [eC, qI_wI, if_neg (by decide), eB, qI_wI, if_pos ⟨rfl, rfl⟩]
      have c45 : qI C 0 45 = 0 := by rw [eC, qI_wI, if_pos ⟨rfl, rfl⟩]
      refine ⟨⟨by omega, by omega⟩, fun D eD => ?_⟩
      obtain ⟨n1, n2, n3, n4, n5, n6⟩ := wN_new (S := C) (t := 11) (n := 0) (k := 23)
      rw [← eD] at n1 n2 n3 n4 n5 n6
      have sD : ∀ a : Nat, a ≠ qn C → sm5 C D a := fun a ha => by rw [eD]; exact sm5.wN ha
      refine ⟨_, sp_init (f := qn C) n5 ⟨by omega, by omega⟩, ?_⟩
      rintro F ⟨k1, k2, k3, k4, k5⟩
      have hfS : qn C = qn S := by omega
      have ex : exS C F 14 335 := ⟨fun a ha => (sD a (by omega)).tr (k3 a (by omega)), by omega, by omega⟩
      have hK : qn F ≤ KC := by omega
      have sTF := ex.sT KCc RC.1.1 hK
      have RF := sTF.rt RC
      have KF := ex.kn KCc hK
      have o0 := ex.ol hK (a := 0) (Or.inl (by have := KCc.1; omega))
      have R3 : Rfb (qn S) C F 14 335 := by
        refine ⟨fun a _ _ ha => ex.1 a (by omega), fun a ha => ?_, fun j _ => ⟨by rw [o0.1], by rw [o0.2.1], by rw [o0.2.2.1]⟩, ex.2.1, ex.2.2⟩
        have z := ex.1 a (Or.inl (by have := KCc.1; omega))
        exact ⟨z.2.2.2.1, z.2.2.2.2⟩
      have hKC : KC = 300000 := rfl
      have hFR : FlR F (qn C) := ⟨⟨by have := KCc.1; omega, by rw [show TXB = 10000000 from rfl]; omega⟩, ⟨by rw [k4.1, n3], by rw [k4.2.1, n4]⟩, k5⟩
      have qoC : qO C 0 11 = qO U 0 11 := by unfold qO; rw [sTC.1.2.1.1]
      have qoF : qO F 0 11 = qO C 0 11 := by unfold qO; rw [sTF.1.2.1.1]
      have n22 : qI F 0 22 = qI U 0 22 := (sTF.1.f 22).trans (sTC.1.f 22)
      have n21 : qI F 0 21 = qI U 0 21 := (sTF.1.f 21).trans (sTC.1.f 21)
      have sTT := sTC.tr sTF
      have lenF : LnI F := by
        have z := fun (a : Nat) (ha : a < 93) => (ex.1 a (Or.inl (by have := KCc.1; omega))).2.2.2.2
        unfold LnI
        rw [z 19 (by decide), z 20 (by decide), z 21 (by decide), fC.2.1]
        exact h4
      have f41 : qI F 0 41 = 0 := by rw [o0.1, c41]
      have f43 : qI F 0 43 = 0 := by rw [o0.1, c43]
      have f45 : qI F 0 45 = 0 := by rw [o0.1, c45]
      refine ⟨_, sp_rf_L147 hfS _ F 0 ⟨by decide, by rw [li_0]; omega, hi.2.2⟩ ⟨?_, ⟨RF, KF, hFR, by omega, by rw [qoF, qoC]; omega, by omega, by have := ex.2.2; omega⟩, lenF, by rw [n21, n22]; exact h7, fun m hm' => (hco m hm').mv sTT.1 h2.2.2.2.2.2.1 (fun a a0 a1 => by rw [sTT.2.1 a a0 a1]), by rw [f41]; decide, by rw [f41, f43]; decide, by rw [f45]; decide, fun m hm' => by rw [li_0] at hm'; omega, by rw [k4.2.2, n1], ⟨fun i hi => by rw [f41] at hi; exact absurd hi (by show ¬ (i : Int) < 0; omega), fun i j _ hj => by rw [f41] at hj; exact absurd hj (by show ¬ (j : Int) < 0; omega)⟩, fun m1 m2 _ hm2 => by rw [li_0] at hm2; omega, fun j => by rw [qoF, qoC, sTT.1.2.1.2]; exact hby j⟩ (Nat.lt_succ_self _)⟩
      rw [hfS]
      exact ((h1.tr R2).tr R3).le (by decide) (by decide)
    · have co := hco i.toInt.toNat (by omega)
      refine ⟨_, _, fr_wholes (sp_wholes h2.1.1 ⟨by omega, by omega⟩ co.1.2.2.1), ?_, fun u9 h9 => ?_⟩
      · rintro V ⟨-, fV⟩ a ea
        subst ea
        have ei : (i + Int32.ofInt 1).toInt = i.toInt + 1 := by rw [t_add (by rw [lo_1]; omega), lo_1]
        have sT := smT.fr h2.1.1 (fV.mo (by decide) (by decide))
        have R2 : Rfb (qn S) U V 0 0 := Rfb.fm fV (by decide) (by decide)
        have hqn := fV.2.2.1
        have qo : qO V 0 11 = qO U 0 11 := by unfold qO; rw [sT.1.2.1.1]
        refine ih V _ ⟨by omega, by omega, hi.2.2⟩ ⟨h1.tr R2, sT.rt h2, ⟨by rw [hqn]; exact h3.1, by rw [hqn]; exact h3.2.1, fun a ha => by rw [fV.1] at ha; rw [hqn]; exact h3.2.2 a ha⟩, by unfold LnI; rw [fV.2.1]; exact h4, by rw [qo, hqn]; exact h5, h6, by rw [sT.1.f 21, sT.1.f 22]; exact h7, fun j => by rw [qo, sT.1.2.1.2]; exact hby j⟩ (fun m hm' => (hco m hm').mv sT.1 h2.2.2.2.2.2.1 (fun a a0 a1 => by rw [sT.2.1 a a0 a1])) (by omega)
      · have R2 : Rfb (qn S) U u9 0 0 := Rfb.fm h9.2 (by decide) (by decide)
        exact (h1.tr R2).le (by decide) (by decide)
theorem sp_rf_L81 {S : MS} {n : Int32} : ∀ (k : Nat) (U : MS) (i : Int32), (0 ≤ i.toInt ∧ i.toInt ≤ n.toInt ∧ n.toInt ≤ 24) → PrI S n.toInt U → (∀ m : Nat, (m : Int) < i.toInt → COK U m) → (24 - i.toInt).toNat < k → w_readFile_L81 (RfQ S) (RfE S) k U n i := by
  intro k
  induction k with
  | zero => intro U i _ _ _ h9; exact absurd h9 (Nat.not_lt_zero _)
  | succ k ih =>
    intro U i hi hP hco hm
    have hP' := hP
    obtain ⟨h1, h2, h3, h4, h5, h6, h7, hby⟩ := hP
    unfold w_readFile_L81
    refine ⟨fun c => ⟨_, sp_rf_L102 _ U 0 ⟨by decide, by rw [li_0]; omega, hi.2.2⟩ hP' (fun m hm' => hco m (by omega)) (Nat.lt_succ_self _)⟩, fun c => ?_⟩
    have htx := h2.2.2.2.2.2.1
    have q4 : qN U 10000001 < 1000 := by
      have := (htx 0 (by decide)).2.1
      rw [show TXB + 2 * 0 + 1 = 10000001 from rfl] at this
      rw [this]
      decide
    refine ⟨_, _, fr_codeItems (sp_codeItems h2.1 h2.2.1 q4 h2.2.2.2.2.2.2 ⟨hi.1, by omega⟩), ?_, fun u9 h9 => ?_⟩
    · rintro V ⟨⟨⟨c1, c2, c3, c4⟩, c5, c6, c7, c8⟩, fV⟩ a ea
      subst ea
      have ei : (i + Int32.ofInt 1).toInt = i.toInt + 1 := by rw [t_add (by rw [lo_1]; omega), lo_1]
      have sC : smC U V := ⟨fun b _ => ⟨by rw [fV.1], by rw [fV.2.1]⟩, c2, fun a a0 a1 => ⟨funext (fun j => c4 a j a0 (Or.inl a1)), (fV.2.2.2.2.1 a a0 (by simp; omega)).2.1⟩, fun a ha => funext (fun j => c4 a j (by rw [show TXB = 10000000 from rfl] at ha; omega) (Or.inr (Or.inl (by rw [show TXB = 10000000 from rfl] at ha; omega)))), fun j j0 j1 j2 => c3 j j2 (by omega)⟩
      have RV := sC.rt c1.1 h2
      have R2 : Rfb (qn S) U V 0 0 := Rfb.fm fV (by decide) (by decide)
      have hqn := fV.2.2.1
      have qo : qO V 0 11 = qO U 0 11 := by unfold qO; rw [c2.1]
      have hmm := h2.1.2.2.1
      have ea : (qI U 0 22 + i).toInt = (qI U 0 22).toInt + i.toInt := t_add (by omega)
      have en : (qI U 0 22 + i).toInt.toNat = (qI U 0 22).toInt.toNat + i.toInt.toNat := by omega
      refine ih V _ ⟨by omega, by omega, hi.2.2⟩ ⟨h1.tr R2, RV, ⟨by rw [hqn]; exact h3.1, by rw [hqn]; exact h3.2.1, fun a ha => by rw [fV.1] at ha; rw [hqn]; exact h3.2.2 a ha⟩, by unfold LnI; rw [fV.2.1]; exact h4, by rw [qo, hqn]; exact h5, h6, by rw [sC.f 21, sC.f 22]; exact h7, fun j => by rw [qo, c2.2]; exact hby j⟩ (fun m hm' => ?_) (by omega)
      by_cases qm : (m : Int) < i.toInt
      · exact (hco m qm).mv sC htx (fun a a0 a1 => c4 a m (by omega) (Or.inr (Or.inr (by omega))))
      · have em : m = i.toInt.toNat := by omega
        subst em
        refine ⟨?_, c6, c7, c8⟩
        rw [(sC.sR htx).epV, sC.two, sC.r 9, sC.f 22]
        rw [en] at c5
        exact c5
    · have R2 : Rfb (qn S) U u9 0 0 := Rfb.fm h9.2 (by decide) (by decide)
      exact (h1.tr R2).le (by decide) (by decide)
/-- before readFile: the bytes b, n of them -/
def RfI (S : MS) (b : Nat) (n : Int32) : Prop := FxI S ∧ TxI S ∧ knI S ∧ (qT S b = 1 ∧ b < qn S ∧ qN S b ≤ 131072) ∧ (0 ≤ n.toInt ∧ n.toInt ≤ (qN S b : Int)) ∧ qn S + 814 ≤ KC ∧ qu S + 106335 ≤ KS
theorem fr_bs {S : MS} {b : Nat} {n : Int32} (h : RfI S b n) : BsI (wI (wR S 0 11 (some b)) 0 12 n) := by
  obtain ⟨h1, h2, h3, h4, h5, h6⟩ := h
  refine ⟨b, ?_, h4.1, ⟨h1.1, fun q hq => (h1.2 q hq).1⟩, ?_, ?_, h4.2.2⟩
  · show qR (wR S 0 11 (some b)) 0 11 = some b
    rw [qR_wR, if_pos ⟨rfl, rfl⟩]
  · rw [qI_wI, if_pos ⟨rfl, rfl⟩]; exact h5.1
  · rw [qI_wI, if_pos ⟨rfl, rfl⟩]; exact h5.2
theorem sp_readFile {S : MS} {b : Nat} {n : Int32} (h : RfI S b n) (hby : byt S b) (hbn : b = 2 ∨ 21 < b) (hlay : ∃ Q3, w_layout (wI (wR S 0 11 (some b)) 0 12 n) Q3 (fun _ => True) ∧ ∀ u, Q3 u → MmI u) : w_readFile S b n (RfQ S) (RfE S) := by
  obtain ⟨h1, h2, h3, h4, h5, h6⟩ := h
  obtain ⟨Q3, hw, hM⟩ := hlay
  unfold w_readFile
  intro S1 e1 S2 e2
  have e2' : S2 = wI (wR S 0 11 (some b)) 0 12 n := by rw [e2, e1]
  rw [← e2'] at hw
  have R0 : Rfb (qn S) S S2 0 0 := by
    rw [e2']
    refine ⟨fun a a0 _ _ => ⟨if_neg a0, rfl, if_neg a0, rfl, rfl⟩, fun _ _ => ⟨rfl, rfl⟩, fun j hj => ⟨?_, rfl, ?_⟩, ⟨Nat.le_refl _, Nat.le_refl _⟩, Nat.le_refl _⟩
    · rw [qI_wI, if_neg (fun q => hj (by rw [q.2]; decide))]; rfl
    · show qR (wR S 0 11 (some b)) 0 j = _
      rw [qR_wR, if_neg (fun q => hj (by rw [q.2]; decide))]
  refine ⟨_, _, fr_layout hw, ?_, fun u9 h9 => (R0.tr (Rfb.fm h9.2 (by decide) (by decide))).le (by decide) (by decide)⟩
  rintro A ⟨hA, fA⟩
  have MA := hM A hA
  have RA : Rfb (qn S) S A 0 0 := R0.tr (Rfb.fm fA (by decide) (by decide))
  have hp := MA.2.2.2.2.2.2.1
  have tT : qT A = qT S := by rw [fA.1, e2']; rfl
  have tN : qN A = qN S := by rw [fA.2.1, e2']; rfl
  have tq : qn A = qn S := by rw [fA.2.2.1, e2']; rfl
  have TA : TxI A := fun i hi => by
    obtain ⟨x, y, z⟩ := h2 i hi
    rw [tT, tN]
    refine ⟨x, y, fun k => ?_⟩
    have hTX : TXB = 10000000 := rfl
    rw [(fA.2.2.2.2.1 (TXB + 2 * i + 1) (by omega) (by simp; omega)).1, e2', rdH (by omega)]
    exact z k
  have q4 : qN A 10000001 < 1000 := by
    have := (TA 0 (by decide)).2.1
    rw [show TXB + 2 * 0 + 1 = 10000001 from rfl] at this
    rw [this]
    decide
  have et : ∀ u9 : MS, frm [] [7, 8] A u9 → RfE S u9 := fun u9 h9 => (RA.tr (Rfb.fm h9 (by decide) (by decide))).le (by decide) (by decide)
  refine ⟨_, _, fr_entries (sp_entries hp.2), ?_, fun u9 h9 => et u9 h9.2⟩
  rintro A1 ⟨⟨rfl, hre⟩, -⟩
  refine ⟨_, _, fr_flags (sp_flags MA), ?_, fun u9 h9 => et u9 h9.2⟩
  rintro A2 ⟨rfl, -⟩
  refine ⟨_, _, fr_classes (sp_classes MA), ?_, fun u9 h9 => et u9 h9.2⟩
  rintro A3 ⟨⟨rfl, hcl⟩, -⟩
  refine ⟨_, _, fr_names (sp_names MA), ?_, fun u9 h9 => et u9 h9.2⟩
  rintro A4 ⟨⟨rfl, hnm⟩, -⟩
  refine ⟨_, _, fr_types (sp_typesF MA hnm hre), ?_, fun u9 h9 => et u9 h9.2⟩
  rintro A5 ⟨⟨rfl, hty⟩, -⟩
  refine ⟨_, _, fr_twice (sp_twice MA hnm), ?_, fun u9 h9 => et u9 h9.2⟩
  rintro A6 ⟨rfl, -⟩
  refine ⟨_, _, fr_codes (sp_codesF MA hnm q4), ?_, fun u9 h9 => et u9 h9.2⟩
  rintro A7 ⟨⟨rfl, hcd⟩, -⟩
  have RTA : RT A7 := ⟨MA, hnm, hty, hre, hcl, TA, hcd⟩
  have KA : knI A7 := ⟨by rw [tq]; exact h3.1, by rw [tq]; exact h3.2.1, fun a ha => by rw [tT] at ha; rw [tq]; exact h3.2.2 a ha⟩
  have hmm := MA.2.2.1
  have qo : qO A7 0 11 = b := by
    have : qR A7 0 11 = some b := by
      rw [(fA.2.2.2.2.2 11 (by decide)).2.2, e2']
      show qR (wR S 0 11 (some b)) 0 11 = _
      rw [qR_wR, if_pos ⟨rfl, rfl⟩]
    unfold qO
    rw [this]
    rfl
  have st : ∀ t : Int32, w_readFile_J59 (RfQ S) (RfE S) A7 t := fun t => by
    unfold w_readFile_J59
    refine ⟨_, _, fr_must sp_must, ?_, fun u9 h9 => et u9 h9.2⟩
    rintro A8 ⟨⟨rfl, -⟩, -⟩ m em
    have en : m.toInt = (qI A8 0 21).toInt - (qI A8 0 22).toInt := by rw [em, t_sub (by omega)]
    refine ⟨_, sp_rf_L81 _ A8 0 ⟨by decide, by rw [li_0]; omega, by omega⟩ ⟨RA, RTA, KA, ?_, ⟨by rw [qo]; exact h4.2.1, tq⟩, h6, en, fun j => by rw [qo, (fA.2.2.2.2.1 b (by omega) (by simp only [List.mem_cons, List.not_mem_nil, or_false]; omega)).1, e2', rdH (by omega)]; exact hby j⟩ (fun k hk => by rw [li_0] at hk; omega) (Nat.lt_succ_self _)⟩
    unfold LnI
    rw [tN]
    exact ⟨(h1.2 (40, 19, 2, 86400) (by decide)).2, (h1.2 (42, 20, 2, 40000) (by decide)).2, (h1.2 (44, 21, 2, 1536) (by decide)).2⟩
  exact ⟨fun _ => st 1, fun _ => st 0⟩
/-! the kept Files; file, size, length (behind sp_readTray) -/
/-- a cell stays; of a File all but whether it is checked, and its states -/
def sm7 (S u : MS) (a : Nat) : Prop := (∀ j : Nat, j ≠ 21 → qI u a j = qI S a j) ∧ (∀ j : Nat, j ≠ 22 → qR u a j = qR S a j) ∧ qT u a = qT S a ∧ qN u a = qN S a
def sm6 (S u : MS) (a : Nat) : Prop := (qT S a ≠ 11 → sm5 S u a) ∧ (qT S a = 11 → sm7 S u a)
theorem sm5.s7 {S u : MS} {a : Nat} (h : sm5 S u a) : sm7 S u a := ⟨fun j _ => by rw [h.1], fun j _ => by rw [h.2.2.1], h.2.2.2.1, h.2.2.2.2⟩
theorem sm5.s6 {S u : MS} {a : Nat} (h : sm5 S u a) : sm6 S u a := ⟨fun _ => h, fun _ => h.s7⟩
theorem sm7.tr {S u v : MS} {a : Nat} (h : sm7 S u a) (k : sm7 u v a) : sm7 S v a := ⟨fun j hj => (k.1 j hj).trans (h.1 j hj), fun j hj => (k.2.1 j hj).trans (h.2.1 j hj), k.2.2.1.trans h.2.2.1, k.2.2.2.trans h.2.2.2⟩
theorem StN.s6 {S u : MS} {s : Nat} (h : StN S s) (hs : s + 1 < qn S) (k : ∀ a : Nat, s ≤ a → a < qn S → sm6 S u a) (hq : qn S ≤ qn u) : StN u s := by
  obtain ⟨n, g, a, b⟩ := h
  exact ⟨n, g, a.mv hq ((k s (Nat.le_refl _) (by omega)).1 (by rw [a.1.1]; decide)) ((k (s + 1) (by omega) hs).1 a.1.2.2), b⟩
theorem StL.s6 {S u : MS} {s : Nat} {p : Int} (h : StL S s p) (hs : s + 1 < qn S) (k : ∀ a : Nat, s ≤ a → a < qn S → sm6 S u a) (hq : qn S ≤ qn u) : StL u s p := by
  obtain ⟨n, g, a, b⟩ := h
  exact ⟨n, g, a.mv hq ((k s (Nat.le_refl _) (by omega)).1 (by rw [a.1.1]; decide)) ((k (s + 1) (by omega) hs).1 a.1.2.2), b⟩
theorem StO.s6 {S u : MS} {s : Nat} {p : Int} (h : StO S s p) (hs : s + 1 < qn S) (k : ∀ a : Nat, s ≤ a → a < qn S → sm6 S u a) (hq : qn S ≤ qn u) : StO u s p := by
  obtain ⟨g, a, b⟩ := h
  exact ⟨g, a.mv hq ((k s (Nat.le_refl _) (by omega)).1 (by rw [a.1.1]; decide)) ((k (s + 1) (by omega) hs).1 a.1.2.2), b⟩
theorem FlI.mv {S u : MS} {f : Nat} (h : FlI S f) (k : ∀ a : Nat, f ≤ a → a < qn S → sm6 S u a) (hq : qn S ≤ qn u) : FlI u f := by
  obtain ⟨h1, h2, h3, h4, h5, R, T, C, nc, ts, cn, r1, r2, r3, r4, r5, r6⟩ := h
  have kf := (k f (Nat.le_refl _) (by omega)).2 h1.2.1.1
  have kr : ∀ i : Nat, i < 13 → sm5 S u (f + 1 + i) := fun i hi => (k _ (by omega) (by omega)).1 (by rw [(h1.2.2 i hi).2.2]; split <;> decide)
  have kg : ∀ i : Nat, 1 ≤ i → i ≤ 13 → sm5 S u (f + i) := fun i h0 hi => by
    have := kr (i - 1) (by omega)
    rw [show f + 1 + (i - 1) = f + i by omega] at this
    exact this
  have ks : ∀ s : Nat, f + 14 ≤ s → ∀ a : Nat, s ≤ a → a < qn S → sm6 S u a := fun s hs a a0 a1 => k a (by omega) a1
  have kR := (k R (by omega) (by omega)).1 (by rw [r3.1]; decide)
  have kT := (k T (by omega) (by omega)).1 (by rw [r3.2.1]; decide)
  have kC := (k C (by omega) (by omega)).1 (by rw [r3.2.2]; decide)
  refine ⟨⟨h1.1, by rw [kf.2.2.1, kf.2.2.2]; exact h1.2.1, fun i hi => ?_⟩, by omega, ?_, by rw [kf.1 3 (by decide), kf.1 4 (by decide)]; exact h4, fun i hi => ?_, R, T, C, nc, ts, cn, by omega, by rw [kf.2.1 18 (by decide), kf.2.1 19 (by decide), kf.2.1 20 (by decide)]; exact r2, ?_, ?_, r5, fun m hm => ?_⟩
  · have z := kr i hi
    rw [kf.2.1 (5 + i) (by omega), z.2.2.2.1, z.2.2.2.2]
    exact h1.2.2 i hi
  · obtain ⟨s1, s2, a1, a2, b1, b2, c1, c2⟩ := h3
    exact ⟨s1, s2, by omega, by omega, by rw [kf.2.1 0 (by decide)]; exact b1, by rw [kf.2.1 1 (by decide)]; exact b2, c1.s6 a1.2 (ks s1 a1.1) hq, c2.s6 a2.2 (ks s2 a2.1) hq⟩
  · rw [kf.1 3 (by decide)] at hi
    obtain ⟨s1, s2, s3, a1, a2, a3, b1, b2, b3, c1, c2, p, p1, c3⟩ := h5 i hi
    exact ⟨s1, s2, s3, by omega, by omega, by omega, by rw [(kg 1 (by decide) (by decide)).2.2.1]; exact b1, by rw [(kg 2 (by decide) (by decide)).2.2.1]; exact b2, by rw [(kg 3 (by decide) (by decide)).2.2.1]; exact b3, c1.s6 a1.2 (ks s1 a1.1) hq, c2.s6 a2.2 (ks s2 a2.1) hq, p, p1, c3.s6 a3.2 (ks s3 a3.1) hq⟩
  · rw [kR.2.2.2.1, kT.2.2.2.1, kC.2.2.2.1]; exact r3
  · rw [kR.2.2.2.2, kT.2.2.2.2, kC.2.2.2.2]; exact r4
  · rw [kf.1 4 (by decide)] at hm
    obtain ⟨⟨pl, ⟨s1, s2, s3, s4, a1, a2, a3, a4, b1, b2, b3, b4, c1, c2, ⟨p8, c3⟩, p, p1, c4⟩, q2⟩, b, c, d⟩ := r6 m hm
    rw [(kg 8 (by decide) (by decide)).1, (kg 9 (by decide) (by decide)).1, (kg 10 (by decide) (by decide)).1, (kg 11 (by decide) (by decide)).1, (kg 12 (by decide) (by decide)).1, (kg 13 (by decide) (by decide)).1, kR.1, kT.1, kC.1, kf.1 3 (by decide), kf.1 4 (by decide)]
    exact ⟨⟨pl, ⟨s1, s2, s3, s4, by omega, by omega, by omega, by omega, by rw [(kg 4 (by decide) (by decide)).2.2.1]; exact b1, by rw [(kg 5 (by decide) (by decide)).2.2.1]; exact b2, by rw [(kg 6 (by decide) (by decide)).2.2.1]; exact b3, by rw [(kg 7 (by decide) (by decide)).2.2.1]; exact b4, c1.s6 a1.2 (ks s1 a1.1) hq, c2.s6 a2.2 (ks s2 a2.1) hq, ⟨p8, c3.s6 a3.2 (ks s3 a3.1) hq⟩, p, p1, c4.s6 a4.2 (ks s4 a4.1) hq⟩, q2⟩, b, c, d⟩
/-- a fact of a File that hangs on its own cells alone -/
def stab (V : MS → Nat → Prop) : Prop := ∀ (S u : MS) (f : Nat), V S f → knI S → (∀ a : Nat, 92 < a → a < qn S → sm6 S u a) → (∀ a : Nat, TXB ≤ a → sm5 S u a) → qI u f 21 = qI S f 21 → qR u f 22 = qR S f 22 → qn S ≤ qn u → V u f
/-- the Files that are kept -/
def FsI (V : MS → Nat → Prop) (S : MS) : Prop := (0 ≤ (qI S 0 1).toInt ∧ (qI S 0 1).toInt ≤ 12) ∧ ∀ i : Nat, (i : Int) < (qI S 0 1).toInt → ∃ f : Nat, qR S 1 i = some f ∧ FlI S f ∧ ((qI S f 21).toInt = 1 → V S f)
theorem FsI.mv {V : MS → Nat → Prop} {S u : MS} (hV : stab V) (h : FsI V S) (hk : knI S) (k : ∀ a : Nat, 92 < a → a < qn S → sm5 S u a) (kx : ∀ a : Nat, TXB ≤ a → sm5 S u a) (hq : qn S ≤ qn u) (e1 : qI u 0 1 = qI S 0 1) (e2 : qR u 1 = qR S 1) : FsI V u := by
  refine ⟨by rw [e1]; exact h.1, fun i hi => ?_⟩
  rw [e1] at hi
  obtain ⟨f, a, b, c⟩ := h.2 i hi
  have hf := b.1.1.1
  have kf := k f hf (by have := b.2.1; omega)
  exact ⟨f, by rw [e2]; exact a, b.mv (fun a a0 a1 => (k a (by omega) a1).s6) hq, fun z => hV S u f (c (by rw [kf.1] at z; exact z)) hk (fun a a0 a1 => (k a a0 a1).s6) kx (by rw [kf.1]) (by rw [kf.2.2.1]) hq⟩
theorem XfI.mv {S u : MS} {f : Nat} (h : XfI S f) (hf : FlI S f) (k : ∀ a : Nat, f ≤ a → a < qn S → sm6 S u a) : XfI u f := by
  obtain ⟨R, nc, x1, x2, tg, wv, pc, y1, y2, y3, y4⟩ := h
  obtain ⟨h1, h2, h3, h4, h5, R', T, C, nc', ts, cn, r1, r2, r3, r4, r5, r6⟩ := hf
  have eR : R' = R := by rw [x1] at r2; injection r2.1.symm
  subst eR
  have kf := (k f (Nat.le_refl _) (by omega)).2 h1.2.1.1
  have kr : ∀ i : Nat, i < 13 → sm5 S u (f + 1 + i) := fun i hi => (k _ (by omega) (by omega)).1 (by rw [(h1.2.2 i hi).2.2]; split <;> decide)
  have kR := (k R' (by omega) (by omega)).1 (by rw [r3.1]; decide)
  have k10 : qI u (f + 10) = qI S (f + 10) := (kr 9 (by decide)).1
  have k11 : qI u (f + 11) = qI S (f + 11) := (kr 10 (by decide)).1
  refine ⟨R', nc, by rw [kf.2.1 18 (by decide)]; exact x1, by rw [kR.2.2.2.2]; exact x2, tg, wv, pc, ?_, ?_, ?_, ?_⟩
  · rw [kR.1]; exact y1
  · rw [kR.1]; exact y2
  · rw [k10, k11, kf.1 4 (by decide)]; exact y3
  · rw [kf.1 3 (by decide), kf.1 4 (by decide)]; exact y4
/-- all kept Files keep what their reading found -/
def XsI (S : MS) : Prop := ∀ i f : Nat, (i : Int) < (qI S 0 1).toInt → qR S 1 i = some f → XfI S f
theorem XsI.mv {V : MS → Nat → Prop} {S u : MS} (h : XsI S) (F : FsI V S) (k : ∀ a : Nat, 92 < a → a < qn S → sm6 S u a) (e1 : qI u 0 1 = qI S 0 1) (e2 : qR u 1 = qR S 1) : XsI u := fun i f hi hr => by
  rw [e1] at hi
  rw [e2] at hr
  obtain ⟨f', a, b, _⟩ := F.2 i hi
  have ef : f' = f := by rw [hr] at a; injection a.symm
  subst ef
  exact (h i f' hi hr).mv b (fun a a0 a1 => k a (by have := b.1.1.1; omega) a1)
theorem sp_fileAt {V : MS → Nat → Prop} {S : MS} {x : Int32} (h : FsI V S) : w_fileAt S x (fun r u => u = S ∧ (r = none ∨ ∃ f : Nat, r = some f ∧ (0 ≤ x.toInt ∧ x.toInt < (qI S 0 1).toInt) ∧ qR S 1 x.toInt.toNat = some f ∧ FlI S f ∧ ((qI S f 21).toInt = 1 → V S f))) := by
  have h1 := h.1
  unfold w_fileAt w_fileAt_J21
  refine ⟨fun _ => ⟨rfl, Or.inl rfl⟩, fun c => ⟨fun _ => ⟨rfl, Or.inl rfl⟩, fun c2 => ?_⟩⟩
  obtain ⟨f, a, b, d⟩ := h.2 x.toInt.toNat (by omega)
  have qo : qO S 1 x.toInt.toNat = f := by unfold qO; rw [a]; rfl
  rw [qo]
  exact ⟨⟨by omega, by omega⟩, a, rfl, Or.inr ⟨f, rfl, ⟨by omega, by omega⟩, a, b, d⟩⟩
theorem sp_isMethod {V : MS → Nat → Prop} {S : MS} {x y : Int32} (h : FsI V S) : w_isMethod S x y (fun r u => u = S ∧ (r.toInt ≠ 0 → ∃ f : Nat, (0 ≤ x.toInt ∧ x.toInt < (qI S 0 1).toInt) ∧ qR S 1 x.toInt.toNat = some f ∧ FlI S f ∧ ((qI S f 21).toInt = 1 → V S f) ∧ 0 ≤ y.toInt ∧ y.toInt < (qI S f 4).toInt)) := by
  have h1 := h.1
  unfold w_isMethod w_isMethod_J29
  refine ⟨_, sp_fileAt h, ?_⟩
  rintro r u ⟨rfl, hr⟩
  refine ⟨fun _ => ⟨rfl, fun q => absurd rfl q⟩, fun c => ⟨fun _ => ⟨rfl, fun q => absurd rfl q⟩, fun c2 => ?_⟩⟩
  rcases hr with q | ⟨f, a, b, d, e, g⟩
  · exact absurd q c
  · have qo : qO u 1 x.toInt.toNat = f := by unfold qO; rw [d]; rfl
    rw [qo]
    exact ⟨⟨by omega, by omega⟩, d, fun _ => ⟨rfl, fun q => absurd rfl q⟩, fun c3 => ⟨rfl, fun _ => ⟨f, b, d, e, g, by omega, by omega⟩⟩⟩
theorem sp_size {V : MS → Nat → Prop} {S : MS} {x y : Int32} (h : FsI V S) : w_size S x y (fun _ u => u = S) := by
  unfold w_size
  refine ⟨_, sp_fileAt h, ?_⟩
  rintro r u ⟨rfl, hr⟩
  refine ⟨fun _ => rfl, fun c => ⟨fun _ => rfl, fun _ => ⟨fun _ => rfl, fun _ => ⟨fun _ => rfl, fun _ => ⟨fun _ => ?_, fun _ => rfl⟩⟩⟩⟩⟩
  rcases hr with q | ⟨f, a, b, d, e, g⟩
  · exact absurd q c
  · rw [a]
    obtain ⟨R, T, C, nc, ts, cn, r1, r2, -⟩ := e.2.2.2.2.2
    show (qR u f 18 = some (qO u f 18)) ∧ _
    refine ⟨?_, rfl⟩
    unfold qO
    rw [r2.1]
    rfl
theorem FlI.row {S : MS} {f : Nat} (h : FlI S f) {i : Nat} (hi : i < 13) : qR S f (5 + i) = some (f + 1 + i) ∧ qO S f (5 + i) = f + 1 + i ∧ qN S (f + 1 + i) = 24 := by
  have k := h.1.2.2 i hi
  exact ⟨k.1, by unfold qO; rw [k.1]; rfl, k.2.1⟩
theorem sp_length {V : MS → Nat → Prop} {S : MS} {x y : Int32} (h : FsI V S) : w_length S x y (fun _ u => u = S) := by
  have h1 := h.1
  unfold w_length
  refine ⟨_, sp_isMethod h, ?_⟩
  rintro r u ⟨rfl, hr⟩
  refine ⟨fun _ => rfl, fun c => ?_⟩
  obtain ⟨f, a, b, d, e, g⟩ := hr c
  have qo : qO u 1 x.toInt.toNat = f := by unfold qO; rw [b]; rfl
  have rr := d.row (i := 10) (by decide)
  simp only [Nat.reduceAdd, Nat.add_assoc] at rr
  have hm := d.2.2.2.1
  rw [qo, rr.2.1]
  exact ⟨⟨by omega, by omega⟩, b, rr.1, ⟨by omega, by rw [rr.2.2]; omega⟩, rfl⟩
/-! the method that is looked at (behind sp_file) -/
def plS (S : MS) (s : Nat) : Int := plc (qI S (s + 1)) (qN S (s + 1))
def okH (S : MS) (a : Nat) : Prop := 92 < a ∧ qT S a ≠ 0 ∧ qT S a ≠ 11
def okF (S : MS) (f : Nat) : Prop := (92 < f ∧ qT S f = 11) ∧ okH S (f + 3) ∧ okH S (f + 6) ∧ okH S (f + 7)
def lOK (S : MS) (s : Nat) (p : Int) : Prop := (okH S (s + 1) ∧ qN S (s + 1) ≤ 8) ∧ (∀ i : Nat, i < qN S (s + 1) → (qI S (s + 1) i).toInt = 73 ∨ (qI S (s + 1) i).toInt = 74 ∨ (qI S (s + 1) i).toInt = 65) ∧ plS S s ≤ p
def LkI (S : MS) : Prop := ((okF S (qO S 0 47) ∧ okH S (qO S 0 48) ∧ okH S (qO S 0 49) ∧ okH S (qO S 0 50)) ∧ qR S 0 47 = some (qO S 0 47) ∧ qR S 0 48 = some (qO S 0 48) ∧ qR S 0 49 = some (qO S 0 49) ∧ qR S 0 50 = some (qO S 0 50)) ∧ ∃ (L F M : Int) (nc ts cn : Nat), (qN S (qO S 0 48) = 3 * nc ∧ qN S (qO S 0 49) = ts ∧ qN S (qO S 0 50) = 4 * cn) ∧ (nc ≤ 28800 ∧ ts ≤ 28800 ∧ cn ≤ 384) ∧ ((0 ≤ L ∧ L ≤ 24) ∧ F ≤ 24 ∧ M ≤ 24) ∧ MtI (qI S (qO S 0 48)) (qI S (qO S 0 49)) (qI S (qO S 0 50)) nc ts cn L F M (qI S 0 51) (qI S 0 52) (qI S 0 53) (qI S 0 54) ∧ (qR S (qO S 0 47) 7 = some (qO S 0 47 + 3) ∧ qR S (qO S 0 47) 10 = some (qO S 0 47 + 6) ∧ qR S (qO S 0 47) 11 = some (qO S 0 47 + 7)) ∧ (qN S (qO S 0 47 + 3) = 24 ∧ qN S (qO S 0 47 + 6) = 24 ∧ qN S (qO S 0 47 + 7) = 24) ∧ (∀ i : Nat, (i : Int) < F → ∃ s : Nat, qR S (qO S 0 47 + 3) i = some s ∧ lOK S s 2) ∧ (∀ m : Nat, (m : Int) < M → (∃ s : Nat, qR S (qO S 0 47 + 6) m = some s ∧ lOK S s 8) ∧ ∃ s : Nat, qR S (qO S 0 47 + 7) m = some s ∧ lOK S s 2)
/-- the same method is looked at -/
def smL (S u : MS) : Prop := ((∀ a : Nat, okH S a → sm5 S u a) ∧ ∀ a : Nat, 92 < a → qT S a = 11 → sm7 S u a) ∧ ∀ j : Nat, 47 ≤ j → j ≤ 54 → qI u 0 j = qI S 0 j ∧ qR u 0 j = qR S 0 j
theorem okH.mv {S u : MS} {a : Nat} (k : okH S a) (h : smL S u) : okH u a := ⟨k.1, by rw [(h.1.1 a k).2.2.2.1]; exact k.2⟩
theorem smL.rf {S : MS} : smL S S := ⟨⟨fun _ _ => sm5.rf, fun _ _ _ => sm5.rf.s7⟩, fun _ _ _ => ⟨rfl, rfl⟩⟩
theorem smL.tr {S u v : MS} (h : smL S u) (k : smL u v) : smL S v := ⟨⟨fun a ha => (h.1.1 a ha).tr (k.1.1 a (ha.mv h)), fun a ha hb => (h.1.2 a ha hb).tr (k.1.2 a ha (by rw [(h.1.2 a ha hb).2.2.1]; exact hb))⟩, fun j a b => ⟨(k.2 j a b).1.trans (h.2 j a b).1, (k.2 j a b).2.trans (h.2 j a b).2⟩⟩
theorem smL.fm {S u : MS} {W J : List Nat} (f : frm W J S u) (hW : ∀ w ∈ W, w ≤ 92) (hJ : ∀ j ∈ J, j < 47 ∨ 54 < j) : smL S u := by
  have z5 : ∀ a : Nat, 92 < a → sm5 S u a := fun a ha => by
    have z := f.2.2.2.2.1 a (by omega) (fun q => by have := hW a q; omega)
    exact ⟨z.1, z.2.1, z.2.2, by rw [f.1], by rw [f.2.1]⟩
  refine ⟨⟨fun a ha => z5 a ha.1, fun a ha _ => (z5 a ha).s7⟩, fun j a b => ?_⟩
  have z := f.2.2.2.2.2 j (fun q => by have := hJ j q; omega)
  exact ⟨z.1, z.2.2⟩
theorem smL.qo {S u : MS} (h : smL S u) {j : Nat} (h0 : 47 ≤ j) (h1 : j ≤ 54) : qO u 0 j = qO S 0 j := by unfold qO; rw [(h.2 j h0 h1).2]
theorem smL.pl {S u : MS} (h : smL S u) {s : Nat} (hs : okH S (s + 1)) : plS u s = plS S s := by
  unfold plS
  rw [(h.1.1 (s + 1) hs).1, (h.1.1 (s + 1) hs).2.2.2.2]
theorem smL.lo {S u : MS} (h : smL S u) {s : Nat} {p : Int} (k : lOK S s p) : lOK u s p := by
  have z := h.1.1 (s + 1) k.1.1
  have k1 := k.1.1.mv h
  unfold lOK
  rw [h.pl k.1.1, z.1, z.2.2.2.2]
  exact ⟨⟨k1, k.1.2⟩, k.2⟩
theorem LkI.mv {S u : MS} (k : LkI S) (h : smL S u) : LkI u := by
  obtain ⟨⟨⟨n1, n2, n3, n4⟩, r1, r2, r3, r4⟩, L, F, M, nc, ts, cn, a, b, c, d, e, f, g, i⟩ := k
  unfold LkI
  rw [h.qo (j := 47) (by decide) (by decide), h.qo (j := 48) (by decide) (by decide), h.qo (j := 49) (by decide) (by decide), h.qo (j := 50) (by decide) (by decide), (h.2 47 (by decide) (by decide)).2, (h.2 48 (by decide) (by decide)).2, (h.2 49 (by decide) (by decide)).2, (h.2 50 (by decide) (by decide)).2, (h.2 51 (by decide) (by decide)).1, (h.2 52 (by decide) (by decide)).1, (h.2 53 (by decide) (by decide)).1, (h.2 54 (by decide) (by decide)).1, (h.1.1 _ n2).1, (h.1.1 _ n3).1, (h.1.1 _ n4).1, (h.1.1 _ n2).2.2.2.2, (h.1.1 _ n3).2.2.2.2, (h.1.1 _ n4).2.2.2.2]
  have zf := h.1.2 _ n1.1.1 n1.1.2
  rw [zf.2.1 7 (by decide), zf.2.1 10 (by decide), zf.2.1 11 (by decide)]
  have z3 := h.1.1 (qO S 0 47 + 3) n1.2.1
  have z6 := h.1.1 (qO S 0 47 + 6) n1.2.2.1
  have z7 := h.1.1 (qO S 0 47 + 7) n1.2.2.2
  refine ⟨⟨⟨⟨⟨n1.1.1, by rw [zf.2.2.1]; exact n1.1.2⟩, n1.2.1.mv h, n1.2.2.1.mv h, n1.2.2.2.mv h⟩, n2.mv h, n3.mv h, n4.mv h⟩, r1, r2, r3, r4⟩, L, F, M, nc, ts, cn, a, b, c, d, e, ?_, fun j hj => ?_, fun m hm => ⟨?_, ?_⟩⟩
  · rw [z3.2.2.2.2, z6.2.2.2.2, z7.2.2.2.2]; exact f
  · obtain ⟨s, s1, s2⟩ := g j hj
    exact ⟨s, by rw [z3.2.2.1]; exact s1, h.lo s2⟩
  · obtain ⟨s, s1, s2⟩ := (i m hm).1
    exact ⟨s, by rw [z6.2.2.1]; exact s1, h.lo s2⟩
  · obtain ⟨s, s1, s2⟩ := (i m hm).2
    exact ⟨s, by rw [z7.2.2.1]; exact s1, h.lo s2⟩
theorem LkI.cnt {S : MS} (h : LkI S) : (1 ≤ (qI S 0 52).toInt ∧ (qI S 0 52).toInt ≤ 1200) ∧ (0 ≤ (qI S 0 54).toInt ∧ (qI S 0 54).toInt ≤ 16) ∧ (0 ≤ (qI S 0 51).toInt ∧ (qI S 0 51).toInt ≤ 28800) ∧ (0 ≤ (qI S 0 53).toInt ∧ (qI S 0 53).toInt ≤ 384) := by
  obtain ⟨-, L, F, M, nc, ts, cn, a, b, c, d, -⟩ := h
  obtain ⟨d1, d2, d3, d4, d5, d6, d7, d8, d9⟩ := d
  exact ⟨d2, d7, by omega, by omega⟩
section LKX
variable {S : MS} {x : Int32}
theorem lk_ix (h : LkI S) (hx : 0 ≤ x.toInt ∧ x.toInt < (qI S 0 52).toInt) : ((3 : Int32) * (qI S 0 51 + x)).toInt = 3 * ((qI S 0 51).toInt + x.toInt) ∧ ((3 : Int32) * (qI S 0 51 + x) + 1).toInt = 3 * ((qI S 0 51).toInt + x.toInt) + 1 ∧ ((3 : Int32) * (qI S 0 51 + x) + 2).toInt = 3 * ((qI S 0 51).toInt + x.toInt) + 2 := by
  have k := h.cnt
  have e : (qI S 0 51 + x).toInt = (qI S 0 51).toInt + x.toInt := t_add (by omega)
  have e3 : ((3 : Int32) * (qI S 0 51 + x)).toInt = 3 * ((qI S 0 51).toInt + x.toInt) := by rw [t_mul (by rw [li_3, e]; omega), li_3, e]
  exact ⟨e3, by rw [t_add (by rw [li_1, e3]; omega), li_1, e3], by rw [t_add (by rw [li_2, e3]; omega), li_2, e3]⟩
theorem LkI.dop (h : LkI S) (hx : 0 ≤ x.toInt ∧ x.toInt < (qI S 0 52).toInt) : d_op S x ∧ d_first S x ∧ d_second S x := by
  obtain ⟨e1, e2, e3⟩ := lk_ix h hx
  have k := h.cnt
  obtain ⟨⟨-, r1, r2, r3, r4⟩, L, F, M, nc, ts, cn, a, b, c, d, -⟩ := h
  have d3 := d.2.2.1
  exact ⟨⟨r2, ⟨by omega, by rw [a.1]; omega⟩, trivial⟩, ⟨r2, ⟨by omega, by rw [a.1]; omega⟩, trivial⟩, ⟨r2, ⟨by omega, by rw [a.1]; omega⟩, trivial⟩⟩
/-- what is known of the row at x -/
theorem LkI.rv (h : LkI S) (hx : 0 ≤ x.toInt ∧ x.toInt < (qI S 0 52).toInt) : ∃ (L F M : Int) (ts : Nat), ((0 ≤ L ∧ L ≤ 24) ∧ F ≤ 24 ∧ M ≤ 24) ∧ (qN S (qO S 0 49) = ts ∧ ts ≤ 28800) ∧ rV (qI S (qO S 0 49)) ts (qI S 0 52).toInt L F M (f_op S x) (f_first S x) (f_second S x) ∧ (∀ i : Nat, (i : Int) < F → ∃ s : Nat, qR S (qO S 0 47 + 3) i = some s ∧ lOK S s 2) ∧ (∀ m : Nat, (m : Int) < M → (∃ s : Nat, qR S (qO S 0 47 + 6) m = some s ∧ lOK S s 8) ∧ ∃ s : Nat, qR S (qO S 0 47 + 7) m = some s ∧ lOK S s 2) := by
  obtain ⟨e1, e2, e3⟩ := lk_ix h hx
  have k := h.cnt
  obtain ⟨-, L, F, M, nc, ts, cn, a, b, c, d, e, f, g, i⟩ := h
  refine ⟨L, F, M, ts, c, ⟨a.2.1, b.2.1⟩, ?_, g, i⟩
  have q := d.2.2.2.1 x.toInt.toNat (by omega)
  unfold rOK at q
  unfold f_op f_first f_second
  rw [e1, e2, e3, show (3 * ((qI S 0 51).toInt + x.toInt)).toNat = 3 * ((qI S 0 51).toInt.toNat + x.toInt.toNat) by omega, show (3 * ((qI S 0 51).toInt + x.toInt) + 1).toNat = 3 * ((qI S 0 51).toInt.toNat + x.toInt.toNat) + 1 by omega, show (3 * ((qI S 0 51).toInt + x.toInt) + 2).toNat = 3 * ((qI S 0 51).toInt.toNat + x.toInt.toNat) + 2 by omega]
  exact q
theorem LkI.dcw (h : LkI S) {c k : Int32} (hc : 0 ≤ c.toInt ∧ c.toInt < (qI S 0 54).toInt) (hk : 0 ≤ k.toInt ∧ k.toInt ≤ 3) : d_catchWord S c k := by
  have kk := h.cnt
  obtain ⟨⟨-, r1, r2, r3, r4⟩, L, F, M, nc, ts, cn, a, b, c', d, -⟩ := h
  have d8 := d.2.2.2.2.2.2.2.1
  have e : (qI S 0 53 + c).toInt = (qI S 0 53).toInt + c.toInt := t_add (by omega)
  have e4 : ((4 : Int32) * (qI S 0 53 + c)).toInt = 4 * ((qI S 0 53).toInt + c.toInt) := by rw [t_mul (by rw [li_4, e]; omega), li_4, e]
  have e5 : ((4 : Int32) * (qI S 0 53 + c) + k).toInt = 4 * ((qI S 0 53).toInt + c.toInt) + k.toInt := by rw [t_add (by rw [e4]; omega), e4]
  exact ⟨r4, ⟨by omega, by rw [a.2.2]; omega⟩, trivial⟩
theorem LkI.cw (h : LkI S) {c : Int32} (hc : 0 ≤ c.toInt ∧ c.toInt < (qI S 0 54).toInt) : (0 ≤ (f_catchWord S c 0).toInt ∧ (f_catchWord S c 0).toInt < (qI S 0 52).toInt) ∧ (0 ≤ (f_catchWord S c 1).toInt ∧ (f_catchWord S c 1).toInt ≤ (qI S 0 52).toInt) ∧ (0 ≤ (f_catchWord S c 2).toInt ∧ (f_catchWord S c 2).toInt < (qI S 0 52).toInt) ∧ -1 ≤ (f_catchWord S c 3).toInt ∧ (f_catchWord S c 3).toInt ≤ 3 := by
  have kk := h.cnt
  obtain ⟨-, L, F, M, nc, ts, cn, a, b, c', d, -⟩ := h
  have q := d.2.2.2.2.2.2.2.2 c.toInt.toNat (by omega)
  have e : (qI S 0 53 + c).toInt = (qI S 0 53).toInt + c.toInt := t_add (by omega)
  have e4 : ((4 : Int32) * (qI S 0 53 + c)).toInt = 4 * ((qI S 0 53).toInt + c.toInt) := by rw [t_mul (by rw [li_4, e]; omega), li_4, e]
  have e5 : ∀ k : Int32, 0 ≤ k.toInt → k.toInt ≤ 3 → ((4 : Int32) * (qI S 0 53 + c) + k).toInt.toNat = 4 * ((qI S 0 53).toInt.toNat + c.toInt.toNat) + k.toInt.toNat := fun k k0 k1 => by rw [t_add (by rw [e4]; omega), e4]; omega
  unfold f_catchWord
  rw [e5 0 (by decide) (by decide), e5 1 (by decide) (by decide), e5 2 (by decide) (by decide), e5 3 (by decide) (by decide)]
  exact q
theorem LkI.dic (h : LkI S) {c : Int32} (hc : 0 ≤ c.toInt ∧ c.toInt < (qI S 0 54).toInt) : d_isCaught S x c := by
  unfold d_isCaught d_isCaught_J24
  refine ⟨h.dcw hc (by decide), ?_⟩
  by_cases c1 : x.toInt < (f_catchWord S c 0).toInt
  · rw [if_pos c1]; trivial
  · rw [if_neg c1, ite_self]
    exact ⟨h.dcw hc (by decide), trivial⟩
end LKX
/-- placesOf, by the letters -/
theorem fn_places {S : MS} {s : Nat} (hn : qN S (s + 1) ≤ 100) (hl : ∀ i : Nat, i < qN S (s + 1) → 0 ≤ (qI S (s + 1) i).toInt ∧ (qI S (s + 1) i).toInt ≤ 127) : w_placesOf S s (fun r u => u = S ∧ r.toInt = plS S s) := by
  have pl2 : ∀ n : Nat, plc (qI S (s + 1)) n ≤ 2 * n := by
    intro n
    induction n with
    | zero => exact Int.le_refl _
    | succ n ih => unfold plc; split <;> omega
  have L : ∀ (m : Nat) (r k : Int32), (0 ≤ k.toInt ∧ k.toInt ≤ qN S (s + 1)) → r.toInt = plc (qI S (s + 1)) k.toInt.toNat → (100 - k.toInt).toNat < m → w_placesOf_L4 (fun r u => u = S ∧ r.toInt = plS S s) m S s r k := by
    intro m
    induction m with
    | zero => intro r k _ _ h9; exact absurd h9 (Nat.not_lt_zero _)
    | succ m ih =>
      intro r k hk hr hm
      have p2 := pl2 k.toInt.toNat
      have p0 := plc_ge (g := qI S (s + 1)) k.toInt.toNat
      have ek : (k + Int32.ofInt 1).toInt = k.toInt + 1 := by rw [t_add (by rw [lo_1]; omega), lo_1]
      unfold w_placesOf_L4
      rw [oN (by omega)]
      refine ⟨fun c => ⟨rfl, by rw [hr]; unfold plS; rw [show k.toInt.toNat = qN S (s + 1) by omega]⟩, fun c => ?_⟩
      have a := hl k.toInt.toNat (by omega)
      have ec : cAt S s k = qI S (s + 1) k.toInt.toNat := (asc a.1 a.2).2.2
      rw [ec]
      have st : ∀ t : Int32, (t.toInt = if (qI S (s + 1) k.toInt.toNat).toInt = 74 then 2 else 1) → w_placesOf_J28 (fun r u => u = S ∧ r.toInt = plS S s) (w_placesOf_L4 (fun r u => u = S ∧ r.toInt = plS S s) m) S t r s k := fun t ht => by
        unfold w_placesOf_J28
        intro a6 e6 a7 e7
        subst e7
        have t2 : t.toInt ≤ 2 ∧ 0 ≤ t.toInt := by rw [ht]; split <;> omega
        refine ih a6 _ ⟨by omega, by omega⟩ ?_ (by omega)
        rw [e6, t_add (by omega), hr, ht, show (k + Int32.ofInt 1).toInt.toNat = k.toInt.toNat + 1 by omega]
        rfl
      refine ⟨⟨hk.1, by omega⟩, fun c1 => st 2 (by rw [if_pos c1]; rfl), fun c1 => st 1 (by rw [if_neg c1]; rfl)⟩
  unfold w_placesOf
  exact ⟨_, L _ 0 0 ⟨by decide, by rw [li_0]; omega⟩ rfl (Nat.lt_succ_self _)⟩
