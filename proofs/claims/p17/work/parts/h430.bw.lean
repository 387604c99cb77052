/-! build: its loops -/
section BW
variable {B : Nat × Nat} {S U u v : MS} {p : Nat}
theorem wfC.fresh {n : Nat} (w : wfC S) (hn : qn S + n ≤ KCC) : ∀ i, i < n → qT S (qn S + i) = 0 := fun i hi => by
  by_cases e : qT S (qn S + i) = 0
  · exact e
  · have := w.out hn _ e; omega
def NsI (S : MS) (p : Nat) (U : MS) (k m : Int) : Prop := (NmP S (qI U p 2) ∧ NmP S (qI U p 3)) ∧ (∀ j : Nat, (j : Int) < k → NmP S (qI U (p + 2) j) ∧ NmP S (qI U (p + 3) j)) ∧ ∀ j : Nat, (j : Int) < m → NmP S (qI U (p + 5) j) ∧ NmP S (qI U (p + 6) j)
theorem NsI.eq {k m : Int} (h : NsI S p U k m) (e : ∀ (a j : Nat), a = p ∧ (j = 2 ∨ j = 3) ∨ (a = p + 2 ∨ a = p + 3) ∧ (j : Int) < k ∨ (a = p + 5 ∨ a = p + 6) ∧ (j : Int) < m → qI v a j = qI U a j) : NsI S p v k m := by
  obtain ⟨⟨a1, a2⟩, b, c⟩ := h
  refine ⟨⟨by rw [e _ _ (by omega)]; exact a1, by rw [e _ _ (by omega)]; exact a2⟩, fun j hj => ?_, fun j hj => ?_⟩
  · rw [e (p + 2) j (by omega), e (p + 3) j (by omega)]; exact b j hj
  · rw [e (p + 5) j (by omega), e (p + 6) j (by omega)]; exact c j hj
/-- the rows of the Unit that is being built have their kinds -/
theorem BdIk.kd (b : BdIk B S p U) (w : wfC U) : qT U (p + 1) = 105 ∧ qT U (p + 2) = 231 ∧ qT U (p + 3) = 232 ∧ qT U (p + 4) = 233 ∧ qT U (p + 5) = 234 ∧ qT U (p + 6) = 235 ∧ qT U (p + 7) = 236 ∧ qT U (p + 8) = 237 := by
  have k := b.1.2.1
  have R := b.1.1.unit k
  obtain ⟨e0, e5, e6, e7, e9, e10, e11, e12, _⟩ := R.at w k
  obtain ⟨⟨a0, a5, a6, a7, a9, a10, a11, a12, a13⟩, _⟩ := R
  exact ⟨by rw [← e0]; exact w.ref a0 k, by rw [← e5]; exact w.ref a5 k, by rw [← e6]; exact w.ref a6 k, by rw [← e7]; exact w.ref a7 k, by rw [← e9]; exact w.ref a9 k, by rw [← e10]; exact w.ref a10 k, by rw [← e11]; exact w.ref a11 k, by rw [← e12]; exact w.ref a12 k⟩
theorem SndP.nm {k : Int32} (s : SndP S) (h0 : 0 ≤ k.toInt) (h1 : k.toInt < (qI S 9 7).toInt + (qI S 9 8).toInt) : NmP S (fX7_entryAt S (fX7_nameOf S k)) ∧ NmP S (fX7_entryAt S (fX7_typeOf S k)) := ⟨s.1.tag (s.2.2.2.2 k h0 h1).1, s.1.tag (s.2.2.2.2 k h0 h1).2⟩
set_option maxHeartbeats 8000000 in
theorem bd_L200 {Q : Nat → MS → Prop} (s : SndP S) (h9 : 0 ≤ (qI S 9 1).toInt) (fr : ∀ i, i < 10 → qT S (p + i) = 0) (hQ : ∀ V : MS, wfC V → BdIk B S p V → NsI S p V (qI S 9 7).toInt (qI S 9 8).toInt → Q p V) : ∀ (n : Nat) {U : MS} {v2 : Int32}, BdIk B S p U → NsI S p U (qI S 9 7).toInt v2.toInt → 0 ≤ v2.toInt → v2.toInt ≤ (qI S 9 8).toInt → 30 - v2.toInt < n → w_X2_build_L200 Q n U p v2 := by
  have m7 := s.2.1.1
  have m8 := s.2.1.2
  intro n
  induction n with
  | zero => intro U v2 _ _ h0 h1 hm; omega
  | succ n ih =>
    intro U v2 b ns h0 h1 hm
    have k := b.1.2.1
    have R := b.1.1.unit k
    have g8 := b.2.2.2
    have R9 : (qN U (qO U p 9) : Int) = (qI S 9 8).toInt := by rw [R.2.2.2.2.2.2.2.2.1, g8]
    have R13 : (qN U (qO U p 13) : Int) = (qI S 9 8).toInt := by rw [R.2.2.2.2.2.2.2.2.2.2.2.2, g8]
    unfold w_X2_build_L200
    intro w kp
    obtain ⟨o0, o5, o6, o7, o9, o10, o11, o12, o13⟩ := R.at w k
    have kd := b.kd w
    have h9U := b.1.2.2.1.1.h9 h9
    refine ⟨R.1.2.2.2.2.2.2.2.2, fun c => hQ U w b (by rw [show (qI S 9 8).toInt = v2.toInt by omega]; exact ns), fun c a55 e55 => ⟨R.1.2.2.2.2.1, dd_X7_nameOf h9U, fun a61 e61 => ⟨dd_X7_entryAt, fun a65 e65 => ⟨by omega, fun S67 e67 k67 w67 => ?_⟩⟩⟩⟩
    have y := b.1.2.2.1
    have e55' : a55.toInt = (qI S 9 7).toInt + v2.toInt := by rw [e55, y.2.2.2.2.2.1, t_addk (by omega)]
    have nm := s.nm (k := a55) (by omega) (by omega)
    have n65 : NmP S a65 := by rw [e65, e61, y.nam, y.ent]; exact nm.1
    rw [o9] at e67
    have b67 := b.w w e67 (fr 5 (by decide)) kd.2.2.2.2.1 (by omega) (fun z => by omega) (Or.inr ⟨rfl, rfl, rfl, rfl, rfl⟩)
    have k67' := b67.1.2.1
    have R67 := b67.1.1.unit k67'
    have Q67 : (qN S67 (qO S67 p 10) : Int) = (qI S 9 8).toInt := by rw [R67.2.2.2.2.2.2.2.2.2.1, b67.2.2.2]
    obtain ⟨_, _, _, _, _, p10, p11, p12, p13⟩ := R67.at w67 k67'
    have kd67 := b67.kd w67
    have h967 := b67.1.2.2.1.1.h9 h9
    have y67 := b67.1.2.2.1
    refine ⟨R67.1.2.2.2.2.2.1, dd_X7_typeOf h967, fun a73 e73 => ⟨dd_X7_entryAt, fun a77 e77 => ⟨by omega, fun S79 e79 k79 w79 => ?_⟩⟩⟩
    have n77 : NmP S a77 := by rw [e77, e73, y67.typ, y67.ent]; exact nm.2
    rw [p10] at e79
    have b79 := b67.w w67 e79 (fr 6 (by decide)) kd67.2.2.2.2.2.1 (by omega) (fun z => by omega) (Or.inr ⟨rfl, rfl, rfl, rfl, rfl⟩)
    have h979 := b79.1.2.2.1.1.h9 h9
    have kd79 := b79.kd w79
    refine ⟨dd_X7_typeOf h979, fun a83 _ => ⟨_, frX7_isMethodType w79 (sfX7_isMethodType w79 h979 w79.k9), fun r85 S86 q86 w86 s86 => ?_⟩⟩
    have b86 := b79.c w79 q86.2 s86 w86 rfl rfl rfl rfl (fun _ => rfl) kd79.1
    have R86 := b86.1.1.unit b86.1.2.1
    have Q86 : (qN S86 (qO S86 p 11) : Int) = (qI S 9 8).toInt := by rw [R86.2.2.2.2.2.2.2.2.2.2.1, b86.2.2.2]
    obtain ⟨_, _, _, _, _, _, q11, q12, q13⟩ := R86.at w86 b86.1.2.1
    have kd86 := b86.kd w86
    refine ⟨R86.1.2.2.2.2.2.2.1, by omega, fun S91 e91 k91 w91 => ?_⟩
    rw [q11] at e91
    have b91 := b86.w w86 e91 (fr 7 (by decide)) kd86.2.2.2.2.2.2.1 (by omega) (fun z => by omega) (Or.inr ⟨rfl, rfl, rfl, rfl, rfl⟩)
    have R91 := b91.1.1.unit b91.1.2.1
    have Q91 : (qN S91 (qO S91 p 12) : Int) = (qI S 9 8).toInt := by rw [R91.2.2.2.2.2.2.2.2.2.2.2.1, b91.2.2.2]
    obtain ⟨_, _, _, _, _, _, _, t12, t13⟩ := R91.at w91 b91.1.2.1
    have kd91 := b91.kd w91
    refine ⟨R91.1.2.2.2.2.2.2.2.1, by omega, fun S95 e95 k95 w95 a96 ea => ?_⟩
    rw [t12] at e95
    have b95 := b91.w w91 e95 (fr 8 (by decide)) kd91.2.2.2.2.2.2.2 (by omega) (fun z => by omega) (Or.inr ⟨rfl, rfl, rfl, rfl, rfl⟩)
    have e := t_inc ea (by omega)
    -- what was put
    have i95 : ∀ a j, a ≠ p + 7 → a ≠ p + 8 → (qT S79 a = 49 ∨ (101 ≤ qT S79 a)) → qI S95 a j = qI S79 a j := fun a j n7 n8 hk => by
      rw [e95, qI_wI, if_neg (fun z => n8 z.1), e91, qI_wI, if_neg (fun z => n7 z.1)]
      refine (q86.2.2.2 a j (fun z => ?_) rfl ?_).1
      · rw [z] at hk; omega
      · rcases hk with z | z
        · rw [z]; rfl
        · exact okO_n (F := [(46, 12), (46, 13), (46, 14)]) rfl (Or.inr (by omega))
    have i79 : ∀ a j, qI S79 a j = if a = p + 6 ∧ j = v2.toInt.toNat then a77 else if a = p + 5 ∧ j = v2.toInt.toNat then a65 else qI U a j := fun a j => by
      rw [e79, qI_wI, e67, qI_wI]
    have kk : qT S79 p = 49 ∧ qT S79 (p + 2) = 231 ∧ qT S79 (p + 3) = 232 ∧ qT S79 (p + 5) = 234 ∧ qT S79 (p + 6) = 235 := ⟨b79.1.2.1, kd79.2.1, kd79.2.2.1, kd79.2.2.2.2.1, kd79.2.2.2.2.2.1⟩
    refine ih b95 ⟨⟨?_, ?_⟩, fun j hj => ⟨?_, ?_⟩, fun j hj => ⟨?_, ?_⟩⟩ (by omega) (by omega) (by omega)
    · rw [i95 _ _ (by omega) (by omega) (by omega), i79, if_neg (fun z => by omega), if_neg (fun z => by omega)]; exact ns.1.1
    · rw [i95 _ _ (by omega) (by omega) (by omega), i79, if_neg (fun z => by omega), if_neg (fun z => by omega)]; exact ns.1.2
    · rw [i95 _ _ (by omega) (by omega) (by omega), i79, if_neg (fun z => by omega), if_neg (fun z => by omega)]; exact (ns.2.1 j hj).1
    · rw [i95 _ _ (by omega) (by omega) (by omega), i79, if_neg (fun z => by omega), if_neg (fun z => by omega)]; exact (ns.2.1 j hj).2
    · rw [i95 _ _ (by omega) (by omega) (by omega), i79, if_neg (fun z => by omega)]
      split
      · exact n65
      · rename_i z
        exact (ns.2.2 j (by have : j ≠ v2.toInt.toNat := fun q => z ⟨rfl, q⟩; omega)).1
    · rw [i95 _ _ (by omega) (by omega) (by omega), i79]
      split
      · exact n77
      · rename_i z
        rw [if_neg (fun z => by omega)]
        exact (ns.2.2 j (by have : j ≠ v2.toInt.toNat := fun q => z ⟨rfl, q⟩; omega)).2
set_option maxHeartbeats 8000000 in
theorem bd_L120 {Q : Nat → MS → Prop} (s : SndP S) (h9 : 0 ≤ (qI S 9 1).toInt) (fr : ∀ i, i < 10 → qT S (p + i) = 0) (hQ : ∀ V : MS, wfC V → BdIk B S p V → NsI S p V (qI S 9 7).toInt (qI S 9 8).toInt → Q p V) : ∀ (n : Nat) {U : MS} {v2 : Int32}, BdIk B S p U → NsI S p U v2.toInt 0 → 0 ≤ v2.toInt → v2.toInt ≤ (qI S 9 7).toInt → 30 - v2.toInt < n → w_X2_build_L120 Q n U p v2 := by
  have m7 := s.2.1.1
  have m8 := s.2.1.2
  intro n
  induction n with
  | zero => intro U v2 _ _ h0 h1 hm; omega
  | succ n ih =>
    intro U v2 b ns h0 h1 hm
    have k := b.1.2.1
    have R := b.1.1.unit k
    have R5 : (qN U (qO U p 5) : Int) = (qI S 9 7).toInt := by rw [R.2.2.2.1, b.2.2.1]
    unfold w_X2_build_L120
    intro w kp
    obtain ⟨o0, o5, o6, o7, _⟩ := R.at w k
    have kd := b.kd w
    have h9U := b.1.2.2.1.1.h9 h9
    have y := b.1.2.2.1
    refine ⟨R.1.2.1, fun c => ⟨31, bd_L200 s h9 fr hQ _ b (by rw [show (qI S 9 7).toInt = v2.toInt by omega, li_0k]; exact ns) (by decide) (by rw [li_0k]; omega) (by rw [li_0k]; decide)⟩, fun c => ⟨R.1.2.1, dd_X7_nameOf h9U, fun a102 e102 => ⟨dd_X7_entryAt, fun a106 e106 => ⟨by omega, fun S108 e108 k108 w108 => ?_⟩⟩⟩⟩
    have nm := s.nm (k := v2) h0 (by omega)
    have n106 : NmP S a106 := by rw [e106, e102, y.nam, y.ent]; exact nm.1
    rw [o5] at e108
    have b108 := b.w w e108 (fr 2 (by decide)) kd.2.1 (by omega) (fun z => by omega) (Or.inr ⟨rfl, rfl, rfl, rfl, rfl⟩)
    have R108 := b108.1.1.unit b108.1.2.1
    have Q108 : (qN S108 (qO S108 p 6) : Int) = (qI S 9 7).toInt := by rw [R108.2.2.2.2.1, b108.2.2.1]
    obtain ⟨_, _, p6, p7, _⟩ := R108.at w108 b108.1.2.1
    have kd108 := b108.kd w108
    have h9108 := b108.1.2.2.1.1.h9 h9
    have y108 := b108.1.2.2.1
    refine ⟨R108.1.2.2.1, dd_X7_typeOf h9108, fun a114 e114 => ⟨dd_X7_entryAt, fun a118 e118 => ⟨by omega, fun S120 e120 k120 w120 => ?_⟩⟩⟩
    have n118 : NmP S a118 := by rw [e118, e114, y108.typ, y108.ent]; exact nm.2
    rw [p6] at e120
    have b120 := b108.w w108 e120 (fr 3 (by decide)) kd108.2.2.1 (by omega) (fun z => by omega) (Or.inr ⟨rfl, rfl, rfl, rfl, rfl⟩)
    have R120 := b120.1.1.unit b120.1.2.1
    have Q120 : (qN S120 (qO S120 p 7) : Int) = (qI S 9 7).toInt := by rw [R120.2.2.2.2.2.1, b120.2.2.1]
    obtain ⟨_, _, _, q7, _⟩ := R120.at w120 b120.1.2.1
    have kd120 := b120.kd w120
    have h9120 := b120.1.2.2.1.1.h9 h9
    refine ⟨R120.1.2.2.2.1, dd_X7_typeOf h9120, fun a126 _ => ⟨dd_X7_kindOfType h9120, fun a130 _ => ⟨by omega, fun S132 e132 k132 w132 a133 ea => ?_⟩⟩⟩
    rw [q7] at e132
    have b132 := b120.w w120 e132 (fr 4 (by decide)) kd120.2.2.2.1 (by omega) (fun z => by omega) (Or.inr ⟨rfl, rfl, rfl, rfl, rfl⟩)
    have e := t_inc ea (by omega)
    have i132 : ∀ a j, a ≠ p + 4 → qI S132 a j = if a = p + 3 ∧ j = v2.toInt.toNat then a118 else if a = p + 2 ∧ j = v2.toInt.toNat then a106 else qI U a j := fun a j n4 => by
      rw [e132, qI_wI, if_neg (fun z => n4 z.1), e120, qI_wI, e108, qI_wI]
    refine ih b132 ⟨⟨?_, ?_⟩, fun j hj => ⟨?_, ?_⟩, fun j hj => by omega⟩ (by omega) (by omega) (by omega)
    · rw [i132 _ _ (by omega), if_neg (fun z => by omega), if_neg (fun z => by omega)]; exact ns.1.1
    · rw [i132 _ _ (by omega), if_neg (fun z => by omega), if_neg (fun z => by omega)]; exact ns.1.2
    · rw [i132 _ _ (by omega), if_neg (fun z => by omega)]
      split
      · exact n106
      · rename_i z
        exact (ns.2.1 j (by have : j ≠ v2.toInt.toNat := fun q => z ⟨rfl, q⟩; omega)).1
    · rw [i132 _ _ (by omega)]
      split
      · exact n118
      · rename_i z
        rw [if_neg (fun z => by omega)]
        exact (ns.2.1 j (by have : j ≠ v2.toInt.toNat := fun q => z ⟨rfl, q⟩; omega)).2
/-- what build leaves -/
def BuP (B : Nat × Nat) (S : MS) (r : Nat) (u : MS) : Prop := r = qn S ∧ BdIk (B.1 + 210 + (qI S 9 1).toInt.toNat, B.2 + 640) S r u ∧ NmU u r
theorem sp_build (w : wfC S) (g : ShC B S) (s : SndP S) (h9 : 0 ≤ (qI S 9 1).toInt) (hd : (qI S 9 1).toInt ≤ (qN S (qO S 9 0) : Int)) (hB : B.1 + 210 + (qI S 9 1).toInt.toNat ≤ KSC ∧ B.2 + 640 ≤ 64 * KCC) : wX2_build S (fun r u => BuP B S r u) := by
  have gl := g.le
  have fr := w.fresh (n := 10) (by omega)
  have m7 := s.2.1.1
  have m8 := s.2.1.2
  unfold wX2_build
  refine sp_buildS (B := B) w g h9 hd m7 m8 hB (fun S14 w14 b14 => ?_)
  obtain ⟨F, G, kp, ⟨g4, g8⟩, l0, c0⟩ := b14
  intro S17 e17 k17 w17
  have UK := G.unit kp
  obtain ⟨o0, _⟩ := UK.at w14 kp
  rw [o0] at l0 c0
  have f46 : cfr [46] [] S S14 := ⟨F.1, F.2.1, fun a j ha _ _ => F.2.2 a j ha rfl rfl⟩
  have B14 : BdIk (B.1 + 210 + (qI S 9 1).toInt.toNat, B.2 + 640) S (qn S) S14 := ⟨⟨G, kp, smE.fr w F rfl rfl rfl rfl rfl rfl, f46⟩, ⟨o0, l0, c0⟩, g4, g8⟩
  have z0 : qT S (qn S) = 0 := fr 0 (by decide)
  have B17 := B14.w w14 e17 z0 kp (by omega) (fun _ => Or.inl rfl) (Or.inl ⟨rfl, rfl⟩)
  have y17 := B17.1.2.2.1
  have h917 := y17.1.h9 h9
  refine ⟨dd_X7_u2 h917, fun a22 e22 => ⟨dd_X7_firstOf h917, fun a26 e26 => ⟨dd_X7_entryAt, fun a30 e30 S31 e31 k31 w31 => ?_⟩⟩⟩
  have n30 : NmP S a30 := by
    rw [e30, e26, e22, y17.2.2.2.2.1, y17.1.u2, y17.fst, y17.ent]
    exact s.1.tag (s.2.2.1 _ s.2.2.2.1.1)
  have B31 := B17.w w17 e31 z0 B17.1.2.1 (by omega) (fun _ => Or.inr (Or.inl rfl)) (Or.inl ⟨rfl, rfl⟩)
  have y31 := B31.1.2.2.1
  have h931 := y31.1.h9 h9
  refine ⟨dd_X7_u2 h931, fun a36 e36 => ⟨dd_X7_firstOf h931, fun a40 e40 => ⟨dd_X7_entryAt, fun a44 e44 S45 e45 k45 w45 => ?_⟩⟩⟩
  have n44 : NmP S a44 := by
    rw [e44, e40, e36, y31.2.2.2.2.1, y31.1.u2, y31.fst, y31.ent]
    exact s.1.tag (s.2.2.1 _ s.2.2.2.1.2)
  have B45 := B31.w w31 e45 z0 B31.1.2.1 (by omega) (fun _ => Or.inr (Or.inr rfl)) (Or.inl ⟨rfl, rfl⟩)
  have q2 : qI S45 (qn S) 2 = a30 := by rw [e45, qI_wI, if_neg (fun z => absurd z.2 (by decide)), e31, qI_wI, if_pos ⟨rfl, rfl⟩]
  have q3 : qI S45 (qn S) 3 = a44 := by rw [e45, qI_wI, if_pos ⟨rfl, rfl⟩]
  refine ⟨31, bd_L120 s h9 (fun i hi => fr i hi) (fun V wV bV nV => ⟨rfl, bV, ?_⟩) _ B45 ⟨⟨by rw [q2]; exact n30, by rw [q3]; exact n44⟩, fun j hj => by rw [li_0k] at hj; omega, fun j hj => by omega⟩ (by decide) (by rw [li_0k]; omega) (by rw [li_0k]; decide)⟩
  have RV := bV.1.1.unit bV.1.2.1
  obtain ⟨_, v5, v6, _, v9, v10, _⟩ := RV.at wV bV.1.2.1
  refine ⟨⟨bV.nm hd nV.1.1, bV.nm hd nV.1.2⟩, fun k hk => ?_, fun k hk => ?_⟩
  · rw [bV.2.2.1] at hk
    rw [v5, v6]
    exact ⟨bV.nm hd (nV.2.1 k hk).1, bV.nm hd (nV.2.1 k hk).2⟩
  · rw [bV.2.2.2] at hk
    rw [v9, v10]
    exact ⟨bV.nm hd (nV.2.2 k hk).1, bV.nm hd (nV.2.2 k hk).2⟩
end BW
/-! unitOf -/
section UO
variable {B : Nat × Nat} {S U u v : MS} {p r : Nat}
/-- a Row of a Unit -/
def RrK (S : MS) (r : Nat) : Prop := RdK S r ∧ rWs S r (qI S r 2).toInt.toNat + 8 * (qI S r 4).toInt ≤ 3600
theorem RrK.mv (h : RrK S r) (s : rSm S u r) : RrK u r := ⟨⟨h.1.1.mv s, by rw [s.1.1]; exact h.1.2⟩, by rw [s.1.1, s.1.2, s.xW]; exact h.2⟩
/-- a Unit that is kept -/
def UtK (S : MS) (p : Nat) : Prop := NmU S p ∧ ∀ j : Nat, (j : Int) < (qI S p 8).toInt → ∃ r, qR S (qO S p 13) j = some r ∧ RrK S r
def unitA (t : Nat) : Bool := t == 49 || t == 105 || t == 231 || t == 232 || t == 234 || t == 235 || t == 6
/-- the Units as they were -/
def uOld (S u : MS) : Prop := ∀ a j : Nat, unitA (qT S a) = true → qI u a j = qI S a j ∧ qR u a j = qR S a j
theorem uOld.fr {K : List Nat} {F : List (Nat × Nat)} (f : cfr K F S u) (hK : K.all (fun x => !unitA x) = true) (hF : F.all (fun x => !unitA x.1) = true) : uOld S u := fun a j ha => by
  have := f.2.2 a j (fun z => by rw [z] at ha; cases ha) (by
    cases e : K.contains (qT S a) with
    | false => rfl
    | true =>
      have := List.all_eq_true.mp hK _ (List.contains_iff_mem.mp e)
      rw [ha] at this; cases this) (by
    cases e : F.contains (qT S a, j) with
    | false => rfl
    | true =>
      have := List.all_eq_true.mp hF _ (List.contains_iff_mem.mp e)
      simp only [ha] at this; cases this)
  exact ⟨this.1, this.2.2⟩
theorem uOld.tr (h : uOld S u) (s : shx S u) (k : uOld u v) : uOld S v := fun a j ha => by
  have e := (s.1 a (fun z => by rw [z] at ha; cases ha)).1
  obtain ⟨h1, h2⟩ := h a j ha
  obtain ⟨k1, k2⟩ := k a j (by rw [e]; exact ha)
  exact ⟨k1.trans h1, k2.trans h2⟩
theorem NmU.mv (w : wfC S) (k : qT S p = 49) (R : UnK S p) (h : NmU S p) (o : uOld S u) (s : shx S u) : NmU u p := by
  have f0 : ∀ j, qI u p j = qI S p j ∧ qR u p j = qR S p j := fun j => o p j (by rw [k]; rfl)
  have q : ∀ j, qO u p j = qO S p j := fun j => qO_eq (f0 j).2
  obtain ⟨⟨a0, a5, a6, a7, a9, a10, a11, a12, a13⟩, _⟩ := R
  have k0 : qT S (qO S p 0) = 105 := w.ref a0 k
  have c : ∀ (j t : Nat), qT S (qO S p j) = t → unitA t = true → qI u (qO u p j) = qI S (qO S p j) := fun j t e ht => by
    rw [q]; funext i; exact (o _ i (by rw [e]; exact ht)).1
  have c0 := c 0 105 k0 rfl
  have c5 := c 5 231 (w.ref a5 k) rfl
  have c6 := c 6 232 (w.ref a6 k) rfl
  have c9 := c 9 234 (w.ref a9 k) rfl
  have c10 := c 10 235 (w.ref a10 k) rfl
  have n0 : qN u (qO u p 0) = qN S (qO S p 0) := by rw [q, (s.1 _ (by rw [k0]; decide)).2]
  have m : ∀ a, uNm u p a ↔ uNm S p a := fun a => by unfold uNm; rw [c0, n0]
  obtain ⟨⟨h1, h2⟩, h3, h4⟩ := h
  refine ⟨⟨?_, ?_⟩, fun j hj => ?_, fun j hj => ?_⟩
  · rw [m, (f0 2).1]; exact h1
  · rw [m, (f0 3).1]; exact h2
  · rw [m, m, c5, c6]; rw [(f0 4).1] at hj; exact h3 j hj
  · rw [m, m, c9, c10]; rw [(f0 8).1] at hj; exact h4 j hj
theorem UtK.mv (w : wfC S) (g : ShC B S) (k : qT S p = 49) (h : UtK S p) (o : uOld S u) (s : shx S u) (rows : ∀ q, qT S q = 47 → rSm S u q) : UtK u p := by
  have R := g.unit k
  refine ⟨h.1.mv w k R o s, fun j hj => ?_⟩
  have f0 : ∀ j, qI u p j = qI S p j ∧ qR u p j = qR S p j := fun j => o p j (by rw [k]; rfl)
  rw [(f0 8).1] at hj
  obtain ⟨r, e, hr⟩ := h.2 j hj
  have k13 : qT S (qO S p 13) = 6 := w.ref R.1.2.2.2.2.2.2.2.2 k
  refine ⟨r, ?_, hr.mv (rows r (w.ref e k13))⟩
  rw [qO_eq (f0 13).2, (o _ j (by rw [k13]; rfl)).2]; exact e
/-- the Reader at rest over the same bytes -/
def smF (S u : MS) : Prop := smE S u ∧ ∀ j, qI u 13 j = qI S 13 j
theorem smF.tr (h : smF S u) (k : smF u v) : smF S v := ⟨h.1.tr k.1, fun j => (k.2 j).trans (h.2 j)⟩
theorem smF.rf : smF S S := ⟨smE.rf, fun _ => rfl⟩
theorem smF.fr {K : List Nat} {F : List (Nat × Nat)} (w : wfC S) (f : cfr K F S u) (h1 : K.contains 101 = false) (h2 : K.contains 46 = false) (h3 : K.contains 218 = false) (h4 : K.contains 219 = false) (h5 : K.contains 220 = false) (hF : okL [(46, 0), (46, 1), (46, 5), (46, 6), (46, 7), (46, 8)] F = true) (hA : okO F = true) : smF S u := ⟨smE.fr w f h1 h2 h3 h4 hF hA, fun j => cfr.k13 w f h5 (okO_n hA (by decide))⟩
/-- all methods of the file can be read -/
def RdY (S : MS) : Prop := ∀ m : Int32, 0 ≤ m.toInt → m.toInt < (qI S 9 8).toInt → HdO S (stV S m) ∧ ChM S m
theorem smF.st (h : smF S u) {m : Int32} : stV u m = stV S m := by unfold stV; rw [h.2]
theorem RdY.mv (h : RdY S) (y : smF S u) : RdY u := fun m a b => by
  rw [y.1.2.2.2.2.2.2] at b
  obtain ⟨h1, h2⟩ := h m a b
  refine ⟨by rw [y.st, HdO.sm y.1.1]; exact h1, fun x hx => ?_⟩
  rw [y.st] at hx
  obtain ⟨a1, a2, a3, a4, a5⟩ := hx
  have es : szV u (stV S m) = szV S (stV S m) := by unfold szV; rw [y.1.1.s4]
  exact h2 x ⟨y.1.1.tr a1, a2, by rw [a3, es], by rw [a4, es, y.1.1.u2], by rw [a5, y.1.1.u2]⟩
/-- the Rows as they were, with their rows -/
def rOld (S u : MS) : Prop := ∀ a j : Nat, rowA (qT S a) = true → qI u a j = qI S a j ∧ qJ u a j = qJ S a j ∧ qR u a j = qR S a j
theorem rOld.rf : rOld S S := fun _ _ _ => ⟨rfl, rfl, rfl⟩
theorem rOld.tr (a : rOld S u) (s : shx S u) (b : rOld u v) : rOld S v := fun x j hx => by
  have e : qT u x = qT S x := (s.1 x (fun z => by rw [z] at hx; cases hx)).1
  obtain ⟨a1, a2, a3⟩ := a x j hx
  obtain ⟨b1, b2, b3⟩ := b x j (by rw [e]; exact hx)
  exact ⟨b1.trans a1, b2.trans a2, b3.trans a3⟩
theorem rOld.of {K : List Nat} {F : List (Nat × Nat)} (f : cfr K F S u) (hK : K.all (fun x => !rowA x) = true) (hF : F.all (fun x => !rowA x.1) = true) : rOld S u := fun a j ha => (rfr.of (P := a + 1) f hK hF) a j ha (Or.inl (Nat.lt_succ_self _))
theorem rOld.nw (w : wfC S) (f : rfr (qn S) S u) : rOld S u := fun a j ha => f a j ha (Or.inl (by
  have h0 : qT S a ≠ 0 := fun z => by rw [z] at ha; cases ha
  have h12 : qT S a ≠ 12 := fun z => by rw [z] at ha; cases ha
  have h22 : qT S a ≠ 22 := fun z => by rw [z] at ha; cases ha
  exact w.lt4 _ h0 h12 h22))
/-- the Unit that is being filled with Rows -/
def UoI (B : Nat × Nat) (S0 : MS) (p : Nat) (m : Int) (U : MS) : Prop := (ShC (B.1 + 2479 * m.toNat, B.2 + 512 * m.toNat) U ∧ qT U p = 49 ∧ NmU U p) ∧ (smF S0 U ∧ shx S0 U ∧ qI U p 8 = qI S0 9 8) ∧ (∀ j : Nat, (j : Int) < m → ∃ r, qR U (qO U p 13) j = some r ∧ RrK U r ∧ qT S0 r = 0) ∧ (∀ q, qT S0 q = 47 → rSm S0 U q) ∧ uOld S0 U ∧ rOld S0 U
theorem uo_L41 {Q : Option Nat → MS → Prop} {S0 : MS} (h9 : 0 ≤ (qI S0 9 1).toInt) (h8 : 0 ≤ (qI S0 9 8).toInt ∧ (qI S0 9 8).toInt ≤ 24) (rd : RdY S0) (fr : ∀ i, i < 10 → qT S0 (p + i) = 0) (hB : B.1 + 59496 ≤ KSC ∧ B.2 + 12288 ≤ 64 * KCC) (hQ : ∀ V : MS, wfC V → UoI B S0 p (qI S0 9 8).toInt V → Q (some p) V) : ∀ (n : Nat) {U : MS} {v3 : Int32}, UoI B S0 p v3.toInt U → 0 ≤ v3.toInt → v3.toInt ≤ (qI S0 9 8).toInt → 30 - v3.toInt < n → w_X2_unitOf_L41 Q n U p v3 := by
  intro n
  induction n with
  | zero => intro U v3 _ h0 h1 hm; omega
  | succ n ih =>
    intro U v3 h h0 h1 hm
    obtain ⟨⟨g, k, nm⟩, ⟨y, sx, e8⟩, rw', old, uo, ro⟩ := h
    have R := g.unit k
    have R13 : (qN U (qO U p 13) : Int) = (qI S0 9 8).toInt := by rw [R.2.2.2.2.2.2.2.2.2.2.2.2, e8]
    unfold w_X2_unitOf_L41
    intro w kp
    obtain ⟨_, _, _, _, _, _, _, _, o13⟩ := R.at w k
    have p13 := R.1.2.2.2.2.2.2.2.2
    have k13 : qT U (qO U p 13) = 6 := w.ref p13 k
    refine ⟨p13, fun c => hQ U w (by rw [show (qI S0 9 8).toInt = v3.toInt by omega]; exact ⟨⟨g, k, nm⟩, ⟨y, sx, e8⟩, rw', old, uo, ro⟩), fun c => ⟨p13, ?_⟩⟩
    have rdU := rd.mv y
    have gl9 := g.le
    have hTX : qn U < TXB := KC_TX (n := qn U) (by
      have e1 : (B.1 + 2479 * v3.toInt.toNat, B.2 + 512 * v3.toInt.toNat).2 = B.2 + 512 * v3.toInt.toNat := rfl
      omega)
    obtain ⟨hH, hC⟩ := rdU v3 h0 (by rw [y.1.2.2.2.2.2.2]; omega)
    refine ⟨_, frX2_rowOf w (sp_rowOf w g (y.1.1.h9 h9) hH hC (by show B.1 + 2479 * v3.toInt.toNat + 2479 ≤ KSC ∧ B.2 + 512 * v3.toInt.toNat + 512 ≤ 64 * KCC; omega)), fun b38 S35 q35 w35 s35 k35 => ?_⟩
    obtain ⟨⟨g35, ⟨eb, kb⟩, rd35, wt35, _, y35, rf35, rows35⟩, f35⟩ := q35
    have o35 : uOld U S35 := uOld.fr f35 rfl rfl
    have kp35 : qT S35 p = 49 := f35.1.T k (by decide)
    have n13 : (qN S35 (qO U p 13) : Int) = (qI S0 9 8).toInt := by rw [(f35.1.1 _ (by rw [k13]; decide)).2, R13]
    refine ⟨by omega, fun S40 e40 k40 w40 => ?_⟩
    have f40 : cfr [6] [] S35 S40 := by rw [e40]; exact cfr.aR k40 rfl
    have g40 : ShC (B.1 + 2479 * v3.toInt.toNat + 2479, B.2 + 512 * v3.toInt.toNat + 512) S40 := ShC.ws w35 g35 f40 (by rw [e40]; rfl) (by rw [e40]; rfl) (by rw [e40]; rfl) rfl rfl
    have q35' : qO S35 p 13 = qO U p 13 := qO_eq (o35 p 13 (by rw [k]; rfl)).2
    have kp40 : qT S40 p = 49 := f40.1.T kp35 (by decide)
    have q40 : qO S40 p 13 = qO U p 13 := by
      have ne : p ≠ qO U p 13 := fun z => by rw [← z, k] at k13; cases k13
      rw [← q35']
      refine qO_eq ?_
      rw [e40, qR_wR, if_neg (fun z => ne z.1)]
    have R40 := g40.unit kp40
    have l40 : (qN S40 (qO S40 p 13) : Int) = (qI S0 9 8).toInt := by rw [q40, e40]; exact n13
    have r40 : qR S40 (qO S40 p 13) v3.toInt.toNat = some b38 := by rw [q40, e40, qR_wR, if_pos ⟨rfl, rfl⟩]
    refine ⟨R40.1.2.2.2.2.2.2.2.2, by omega, by rw [qO_of r40]; exact r40, fun S47 e47 k47 w47 a48 ea => ?_⟩
    have e := t_inc ea (by omega)
    have f47 : cfr [] [(49, 14)] S40 S47 := by rw [e47]; exact cfr.oI k47 rfl
    have g47 : ShC (B.1 + 2479 * v3.toInt.toNat + 2479, B.2 + 512 * v3.toInt.toNat + 512) S47 := ShC.ws w40 g40 f47 (by rw [e47]; rfl) (by rw [e47]; rfl) (by rw [e47]; rfl) rfl rfl
    have sx47 : shx U S47 := (f35.1.tr f40.1).tr f47.1
    have rows47 : ∀ q, qT S35 q = 47 → rSm S35 S47 q := fun q kq => by
      have e1 : ∀ a j, a ≠ p → qI S47 a j = qI S35 a j := fun a j ne => by
        rw [e47, qI_wI, if_neg (fun z => ne z.1), e40]; rfl
      have e2 : ∀ a j, qJ S47 a j = qJ S35 a j := fun a j => by rw [e47, e40]; rfl
      have e3 : ∀ a j, qT S35 a ≠ 6 → qR S47 a j = qR S35 a j := fun a j ne => by
        have : qR S47 a j = qR S40 a j := by rw [e47]; rfl
        rw [this, e40, qR_wR, if_neg (fun z => ne (by rw [z.1]; exact k40))]
      have nq : q ≠ p := fun z => by rw [z, kp35] at kq; cases kq
      have Rq := g35.row kq
      have oo : ∀ j, qO S47 q j = qO S35 q j := fun j => qO_eq (e3 q j (by rw [kq]; decide))
      have na : ∀ {b t : Nat}, qT S35 b = t → t ≠ 49 → b ≠ p := fun eb ht z => ht (by rw [← eb, z]; exact kp35)
      exact ⟨⟨e1 q 2 nq, e1 q 4 nq⟩, ⟨oo 0, oo 1, oo 3⟩, funext (fun j => e1 _ j (na (w35.ref Rq.1.1 kq : qT S35 (qO S35 q 0) = 222) (by decide))), funext (fun j => e2 _ j), funext (fun j => e1 _ j (na (w35.ref Rq.1.2.2.1 kq : qT S35 (qO S35 q 3) = 223) (by decide)))⟩
    have nm35 := nm.mv w k R o35 f35.1
    have i47 : ∀ a j, ¬ (a = p ∧ j = 14) → qI S47 a j = qI S35 a j := fun a j z => by rw [e47, qI_wI, if_neg z, e40]; rfl
    have q47 : ∀ j, qO S47 p j = qO S35 p j := fun j => by
      have ne : p ≠ qO U p 13 := fun z => by rw [← z, k] at k13; cases k13
      refine qO_eq ?_
      have : qR S47 p j = qR S40 p j := by rw [e47]; rfl
      rw [this, e40, qR_wR, if_neg (fun z => ne z.1)]
    have nm47 : NmU S47 p := by
      have R35 := g35.unit kp35
      have na : ∀ {b t : Nat}, qT S35 b = t → t ≠ 49 → b ≠ p := fun eb ht z => ht (by rw [← eb, z]; exact kp35)
      have cc : ∀ (j t : Nat), qT S35 (qO S35 p j) = t → t ≠ 49 → qI S47 (qO S47 p j) = qI S35 (qO S35 p j) := fun j t et ht => by
        rw [q47]; funext i; exact i47 _ i (fun z => na et ht z.1)
      obtain ⟨⟨a0, a5, a6, a7, a9, a10, a11, a12, a13⟩, _⟩ := R35
      have c0 := cc 0 105 (w35.ref a0 kp35) (by decide)
      have c5 := cc 5 231 (w35.ref a5 kp35) (by decide)
      have c6 := cc 6 232 (w35.ref a6 kp35) (by decide)
      have c9 := cc 9 234 (w35.ref a9 kp35) (by decide)
      have c10 := cc 10 235 (w35.ref a10 kp35) (by decide)
      have n0 : qN S47 (qO S47 p 0) = qN S35 (qO S35 p 0) := by rw [q47, e47, e40]; rfl
      have m : ∀ a, uNm S47 p a ↔ uNm S35 p a := fun a => by unfold uNm; rw [c0, n0]
      obtain ⟨⟨h1', h2'⟩, h3', h4'⟩ := nm35
      refine ⟨⟨?_, ?_⟩, fun j hj => ?_, fun j hj => ?_⟩
      · rw [m, i47 _ _ (fun z => absurd z.2 (by decide))]; exact h1'
      · rw [m, i47 _ _ (fun z => absurd z.2 (by decide))]; exact h2'
      · rw [m, m, c5, c6]; rw [i47 _ _ (fun z => absurd z.2 (by decide))] at hj; exact h3' j hj
      · rw [m, m, c9, c10]; rw [i47 _ _ (fun z => absurd z.2 (by decide))] at hj; exact h4' j hj
    have eB : (B.1 + 2479 * v3.toInt.toNat + 2479, B.2 + 512 * v3.toInt.toNat + 512) = (B.1 + 2479 * a48.toInt.toNat, B.2 + 512 * a48.toInt.toNat) := by
      rw [show a48.toInt.toNat = v3.toInt.toNat + 1 by omega]
      exact Prod.ext (by show B.1 + 2479 * v3.toInt.toNat + 2479 = B.1 + 2479 * (v3.toInt.toNat + 1); omega) (by show B.2 + 512 * v3.toInt.toNat + 512 = B.2 + 512 * (v3.toInt.toNat + 1); omega)
    rw [eB] at g47
    have y47 : smF S0 S47 := (y.tr (smF.fr w f35 rfl rfl rfl rfl rfl rfl rfl)).tr ((smF.fr w35 f40 rfl rfl rfl rfl rfl rfl rfl).tr (smF.fr w40 f47 rfl rfl rfl rfl rfl rfl rfl))
    have e8' : qI S47 p 8 = qI S0 9 8 := by rw [i47 _ _ (fun z => absurd z.2 (by decide)), (o35 p 8 (by rw [k]; rfl)).1]; exact e8
    refine ih ⟨⟨g47, f47.1.T kp40 (by decide), nm47⟩, ⟨y47, sx.tr sx47, e8'⟩, fun j hj => ?_, fun q kq => ?_, fun a j ha => ?_, (ro.tr sx (rOld.nw w (eb ▸ rf35))).tr (sx.tr f35.1) ((rOld.of f40 rfl rfl).tr f40.1 (rOld.of f47 rfl rfl))⟩ (by omega) (by omega) (by omega)
    · have rr : ∀ i, qR S47 (qO S47 p 13) i = qR S40 (qO S40 p 13) i := fun i => by
        rw [q47, q35', q40, e47]; rfl
      by_cases z : j = v3.toInt.toNat
      · refine ⟨b38, by rw [rr, z, r40], RrK.mv ⟨rd35, wt35⟩ (rows47 b38 kb), ?_⟩
        by_cases y0 : qT S0 b38 = 0
        · exact y0
        · exact absurd (((sx.1 b38 y0).1).symm.trans (by rw [eb]; exact w.nx hTX)) y0
      · obtain ⟨r, er, hr, zr⟩ := rw' j (by omega)
        have kr : qT U r = 47 := w.ref er k13
        refine ⟨r, ?_, (hr.mv (rows35 r kr)).mv (rows47 r (f35.1.T kr (by decide))), zr⟩
        rw [rr, q40, e40, qR_wR, if_neg (fun y => z y.2), (o35 _ j (by rw [k13]; rfl)).2]
        exact er
    · have kU : qT U q = 47 := sx.T kq (by decide)
      exact ((old q kq).tr (rows35 q kU)).tr (rows47 q (f35.1.T kU (by decide)))
    · have h0' : qT S0 a ≠ 0 := fun z => by rw [z] at ha; cases ha
      have nea : a ≠ p := fun z => h0' (by rw [z]; exact fr 0 (by decide))
      have ne9 : a ≠ qO U p 13 := fun z => h0' (by rw [z, o13]; exact fr 9 (by decide))
      obtain ⟨u1, u2⟩ := uo a j ha
      obtain ⟨v1, v2⟩ := o35 a j (by rw [(sx.1 a h0').1]; exact ha)
      refine ⟨by rw [i47 _ _ (fun z => nea z.1), v1]; exact u1, ?_⟩
      have : qR S47 a j = qR S40 a j := by rw [e47]; rfl
      rw [this, e40, qR_wR, if_neg (fun z => ne9 z.1), v2]; exact u2
end UO
/-! unitOf whole -/
section UQ
variable {B : Nat × Nat} {S U u v : MS} {p p1 r : Nat}
def UoP (B : Nat × Nat) (S : MS) (c : Nat) (o : Option Nat) (u : MS) : Prop := ((o = none ∧ ShC B u) ∨ ∃ p, o = some p ∧ ShC (B.1 + 59706 + c, B.2 + 12928) u ∧ qT u p = 49 ∧ UtK u p ∧ ∀ (j r : Nat), (j : Int) < (qI u p 8).toInt → qR u (qO u p 13) j = some r → qT S r = 0) ∧ (∀ q, qT S q = 47 → rSm S u q) ∧ uOld S u ∧ shx S u ∧ rOld S u
theorem sp_unitOf (w : wfC S) (g : ShC B S) (kp : qT S p1 = 40) (hp : qR S p1 0 = some (qO S p1 0)) (h0 : 0 ≤ (qI S p1 1).toInt ∧ (qI S p1 1).toInt ≤ (qN S (qO S p1 0) : Int)) (hB : B.1 + 59706 + (qI S p1 1).toInt.toNat ≤ KSC ∧ B.2 + 12928 ≤ 64 * KCC) : wX2_unitOf S p1 (fun o u => UoP B S (qI S p1 1).toInt.toNat o u) := by
  unfold wX2_unitOf
  intro _
  refine ⟨_, frX7_isSound w (ct_isSound w kp hp h0.1), fun r2 S3 q3 w3 s3 => ?_⟩
  obtain ⟨⟨q3, b3⟩, f3⟩ := q3
  have g3 : ShC B S3 := ShC.ca w g f3 s3 w3 rfl rfl
  have rows3 : ∀ q, qT S q = 47 → rSm S S3 q := fun q kq => rSm.fr w kq (g.row kq) f3 rfl rfl rfl
  have u3 : uOld S S3 := uOld.fr f3 rfl rfl
  have h93 : 0 ≤ (qI S3 9 1).toInt := by rw [b3.2.1]; exact h0.1
  have ro3 : rOld S S3 := rOld.of f3 rfl rfl
  refine ⟨fun _ => ⟨Or.inl ⟨rfl, g3⟩, rows3, u3, s3.1, ro3⟩, fun c3 => ?_⟩
  have snd3 := q3.resolve_left c3
  refine ⟨_, frX2_limitsHold w3 (sp_limitsHold h93), fun r7 S8 q8 w8 s8 => ?_⟩
  obtain ⟨q8, f8⟩ := q8
  have g8 : ShC B S8 := ShC.ca w3 g3 f8 s8 w8 rfl rfl
  have y8 : smF S3 S8 := smF.fr w3 f8 rfl rfl rfl rfl rfl rfl rfl
  have sx8 := s3.1.tr s8.1
  have rows8 : ∀ q, qT S q = 47 → rSm S S8 q := fun q kq => by
    have k3 : qT S3 q = 47 := s3.1.T kq (by decide)
    exact (rows3 q kq).tr (rSm.fr w3 k3 (g3.row k3) f8 rfl rfl rfl)
  have u8 : uOld S S8 := u3.tr s3.1 (uOld.fr f8 rfl rfl)
  have ro8 : rOld S S8 := ro3.tr s3.1 (rOld.of f8 rfl rfl)
  refine ⟨fun _ => ⟨Or.inl ⟨rfl, g8⟩, rows8, u8, sx8, ro8⟩, fun c8 => ?_⟩
  have lm := q8.resolve_left (fun z => c8 (by rw [z]; rfl))
  have h98 := y8.1.1.h9 h93
  have snd8 := snd3.mv y8.1
  refine ⟨_, frX2_instructionsHold w8 (ct_instructionsHold h98 (by have := snd8.2.1.2; omega)), fun r12 S13 q13 w13 s13 => ?_⟩
  obtain ⟨q13, f13⟩ := q13
  have g13 : ShC B S13 := ShC.ca w8 g8 f13 s13 w13 rfl rfl
  have y13 : smF S8 S13 := smF.fr w8 f13 rfl rfl rfl rfl rfl rfl rfl
  have sx13 := sx8.tr s13.1
  have rows13 : ∀ q, qT S q = 47 → rSm S S13 q := fun q kq => by
    have k8 : qT S8 q = 47 := sx8.T kq (by decide)
    exact (rows8 q kq).tr (rSm.fr w8 k8 (g8.row k8) f13 rfl rfl rfl)
  have u13 : uOld S S13 := u8.tr sx8 (uOld.fr f13 rfl rfl)
  have ro13 : rOld S S13 := ro8.tr sx8 (rOld.of f13 rfl rfl)
  refine ⟨fun _ => ⟨Or.inl ⟨rfl, g13⟩, rows13, u13, sx13, ro13⟩, fun c13 => ?_⟩
  have am := q13.1.resolve_left (fun z => c13 (by rw [z]; rfl))
  have rd8 : RdY S8 := fun m m0 m1 => by
    refine ⟨?_, am m m0 m1⟩
    have m8 := snd8.2.1.2
    have e : stV S8 m = qI S3 13 m.toInt.toNat := by
      unfold stV
      rw [if_pos ⟨m0, by omega⟩, y8.2]
    rw [e, HdO.sm y8.1.1]
    have e8 : (qI S8 9 8).toInt = (qI S3 9 8).toInt := by rw [y8.1.2.2.2.2.2.2]
    exact lm m.toInt.toNat (by omega) (by omega)
  have h913 := y13.1.1.h9 h98
  have snd13 := snd8.mv y13.1
  refine ⟨_, frX2_pointersHold w13 (sfX2_pointersHold h913 (by have := snd13.2.1.2; omega)), fun r17 S18 q18 w18 s18 => ?_⟩
  obtain ⟨_, f18⟩ := q18
  have g18 : ShC B S18 := ShC.ca w13 g13 f18 s18 w18 rfl rfl
  have y18 : smF S13 S18 := smF.fr w13 f18 rfl rfl rfl rfl rfl rfl rfl
  have sx18 := sx13.tr s18.1
  have rows18 : ∀ q, qT S q = 47 → rSm S S18 q := fun q kq => by
    have k13 : qT S13 q = 47 := sx13.T kq (by decide)
    exact (rows13 q kq).tr (rSm.fr w13 k13 (g13.row k13) f18 rfl rfl rfl)
  have u18 : uOld S S18 := u13.tr sx13 (uOld.fr f18 rfl rfl)
  have ro18 : rOld S S18 := ro13.tr sx13 (rOld.of f18 rfl rfl)
  refine ⟨fun _ => ⟨Or.inl ⟨rfl, g18⟩, rows18, u18, sx18, ro18⟩, fun c18 => ?_⟩
  have h918 := y18.1.1.h9 h913
  have snd18 := snd13.mv y18.1
  have rd18 := (rd8.mv y13).mv y18
  have b18 := b3.mv ((y8.1.1.tr y13.1.1).tr y18.1.1)
  have e18 : (qI S18 9 1).toInt = (qI S p1 1).toInt := by rw [b18.2.1]
  have hd18 : (qI S18 9 1).toInt ≤ (qN S18 (qO S18 9 0) : Int) := by rw [e18, b18.1, b18.2.2.2]; exact h0.2
  refine ⟨_, sp_build w18 g18 snd18 h918 hd18 (by rw [e18]; omega), fun b26 S23 q23 w23 s23 k23 => ⟨31, ?_⟩⟩
  obtain ⟨rfl, bd, nm⟩ := q23
  obtain ⟨⟨g23, kp23, y23, f23⟩, _, e4, e8⟩ := bd
  have gl := g18.le
  have m18 := snd18.2.1.2
  have yF : smF S18 S23 := ⟨y23, fun j => cfr.k13 w18 f23 rfl rfl⟩
  have I0 : UoI (B.1 + 210 + (qI S18 9 1).toInt.toNat, B.2 + 640) S18 (qn S18) (0 : Int32).toInt S23 := by
    refine ⟨⟨by rw [li_0k]; exact g23, kp23, nm⟩, ⟨yF, s23, e8⟩, fun j hj => by rw [li_0k] at hj; omega, fun q kq => rSm.fr w18 kq (g18.row kq) f23 rfl rfl rfl, uOld.fr f23 rfl rfl, rOld.of f23 rfl rfl⟩
  refine uo_L41 (B := (B.1 + 210 + (qI S18 9 1).toInt.toNat, B.2 + 640)) h918 m18 rd18 (w18.fresh (n := 10) (by omega)) (by show B.1 + 210 + (qI S18 9 1).toInt.toNat + 59496 ≤ KSC ∧ B.2 + 640 + 12288 ≤ 64 * KCC; rw [e18]; omega) (fun V wV hV => ?_) _ I0 (by decide) (by rw [li_0k]; exact m18.1) (by rw [li_0k]; decide)
  obtain ⟨⟨gV, kV, nV⟩, ⟨_, sV, e8V⟩, rV, oV, uV, roV⟩ := hV
  refine ⟨Or.inr ⟨qn S18, rfl, gV.up ⟨?_, ?_, ?_, ?_⟩, kV, ⟨nV, fun j hj => ?_⟩, fun j r hj hr => ?_⟩, fun q kq => ?_, u18.tr sx18 uV, sx18.tr sV, ro18.tr sx18 roV⟩
  · show B.1 + 210 + (qI S18 9 1).toInt.toNat + 2479 * (qI S18 9 8).toInt.toNat ≤ B.1 + 59706 + (qI S p1 1).toInt.toNat
    rw [e18]; omega
  · exact hB.1
  · show B.2 + 640 + 512 * (qI S18 9 8).toInt.toNat ≤ B.2 + 12928
    omega
  · exact hB.2
  · rw [e8V] at hj
    obtain ⟨r, h1, h2, _⟩ := rV j hj
    exact ⟨r, h1, h2⟩
  · rw [e8V] at hj
    obtain ⟨r', h1, _, h3⟩ := rV j hj
    rw [h1] at hr
    cases hr
    by_cases y0 : qT S r = 0
    · exact y0
    · exact absurd (((sx18.1 r y0).1).symm.trans h3) y0
  · exact (rows18 q kq).tr (oV q (sx18.T kq (by decide)))
end UQ
/-! a way of a Row is changed -/
section ST
variable {B : Nat × Nat} {S u v U : MS} {p : Nat} {x : Int32}
/-- the same instructions, of the same weight, with other aims -/
def RkE (B : Nat × Nat) (S u : MS) (p : Nat) : Prop := (ShC B u ∧ shx S u ∧ rfr p S u) ∧ (qI u p 2 = qI S p 2 ∧ qI u p 4 = qI S p 4) ∧ (∀ i, rOp u p i = rOp S p i) ∧ RvK u p ∧ (∀ n : Nat, rWs u p n = rWs S p n) ∧ ∀ i : Nat, (i : Int) < (qI S p 2).toInt → swO (rOp S p i) → aTk u p i = aTk S p i ∧ mT u p i = mT S p i
theorem RkE.rf (g : ShC B S) (h : RvK S p) : RkE B S S p := ⟨⟨g, shx.rf, rfr.rf⟩, ⟨rfl, rfl⟩, fun _ => rfl, h, fun _ => rfl, fun _ _ _ => ⟨rfl, rfl⟩⟩
theorem RkE.tr (h : RkE B S u p) (k : RkE B u v p) : RkE B S v p := by
  obtain ⟨⟨h1, h2, h3⟩, ⟨h4, h5⟩, h6, h7, h8, h9⟩ := h
  obtain ⟨⟨k1, k2, k3⟩, ⟨k4, k5⟩, k6, k7, k8, k9⟩ := k
  refine ⟨⟨k1, h2.tr k2, h3.tr h2 k3⟩, ⟨k4.trans h4, k5.trans h5⟩, fun i => (k6 i).trans (h6 i), k7, fun n => (k8 n).trans (h8 n), fun i hi sw => ?_⟩
  obtain ⟨a1, a2⟩ := h9 i hi sw
  obtain ⟨b1, b2⟩ := k9 i (by rw [h4]; exact hi) (by rw [h6]; exact sw)
  exact ⟨b1.trans a1, b2.trans a2⟩
/-- RvK out of the same switches -/
theorem RvK.same (h : RvK S p) (e2 : qI u p 2 = qI S p 2) (e4 : qI u p 4 = qI S p 4) (eo : ∀ i, rOp u p i = rOp S p i) (em : ∀ i : Nat, (i : Int) < (qI S p 2).toInt → swO (rOp S p i) → aTk u p i = aTk S p i ∧ mT u p i = mT S p i) : RvK u p := by
  have ee : ∀ i : Nat, (i : Int) < (qI S p 2).toInt → swO (rOp S p i) → eT u p i = eT S p i := fun i hi sw => by
    obtain ⟨a, b⟩ := em i hi sw
    unfold eT; rw [a, b, eo]
  unfold RvK
  rw [e2, e4]
  refine ⟨fun i hi sw => ?_, fun i i' hl hi s1 s2 => ?_⟩
  · rw [eo] at sw
    rw [(em i hi sw).1, (em i hi sw).2, ee i hi sw]; exact h.1 i hi sw
  · rw [eo] at s1 s2
    rw [ee i (by omega) s1, (em i' hi s2).1]; exact h.2 i i' hl hi s1 s2
theorem RvK.tcs (h : RvK S p) (hj : (fX6_isJump S (fX8_opAt S p x)).toInt = 0) (h0 : 0 < (fX8_targetCount S p x).toInt) : (0 ≤ x.toInt ∧ x.toInt < (qI S p 2).toInt) ∧ swO (rOp S p x.toInt.toNat) ∧ (fX8_targetCount S p x).toInt = mT S p x.toInt.toNat := by
  unfold fX8_targetCount at h0 ⊢
  rw [if_pos hj] at h0 ⊢
  by_cases d : (fX6_isSwitch S (fX8_opAt S p x)).toInt = 0
  · rw [if_pos d] at h0; have z := li_0k; omega
  · rw [if_neg d]
    have sw := is_sw d
    by_cases q : 0 ≤ x.toInt ∧ x.toInt < (qI S p 2).toInt
    · rw [rv_op q.1 q.2] at sw
      obtain ⟨a1, a2, a3, a4⟩ := h.1 x.toInt.toNat (by omega) sw
      refine ⟨q, sw, ?_⟩
      have := szT_ge (o := rOp S p x.toInt.toNat) a2
      have e : eT S p x.toInt.toNat = aTk S p x.toInt.toNat + szT (rOp S p x.toInt.toNat) (mT S p x.toInt.toNat) := rfl
      have hl : aTk S p x.toInt.toNat < (qI S p 4).toInt := by omega
      unfold mT
      rw [rv_arg q.1 q.2, rv_tab a1 hl]
      rfl
    · rw [rv_op0 q] at sw
      exact absurd sw (by unfold swO; decide)
theorem rWs_w : ∀ (n : Nat), (∀ i, i < n → rW (rOp u p i).toInt (rAr u p i) = rW (rOp S p i).toInt (rAr S p i)) → rWs u p n = rWs S p n := by
  intro n
  induction n with
  | zero => intro _; rfl
  | succ n ih => intro h; rw [rWs_s, rWs_s, ih (fun i hi => h i (by omega)), h n (by omega)]
/-- op and arg of one place -/
theorem set_eq {i : Nat} {y : Int64} (w : wfC S) (g : ShC B S) (k : qT S p = 47) (e : u = wJ (wI S (qO S p 0) i x) (qO S p 1) i y) : ShC B u ∧ rfr p S u ∧ (∀ j, qI u p j = qI S p j) ∧ (∀ j, qO u p j = qO S p j) ∧ (∀ j, rOp u p j = if j = i then x else rOp S p j) ∧ (∀ j, rAr u p j = if j = i then y else rAr S p j) ∧ (∀ j, qI u (qO S p 3) j = qI S (qO S p 3) j) ∧ shx S u := by
  have R := g.row k
  obtain ⟨e0, e1, e3, _⟩ := R.at w k
  have kd := R.kd w k
  rw [e0, e1] at e
  have iu : ∀ a j, qI u a j = if a = p + 1 ∧ j = i then x else qI S a j := fun a j => by
    rw [e]
    show qI (wI S (p + 1) i x) a j = _
    rw [qI_wI]
  have ju : ∀ a j, qJ u a j = if a = p + 2 ∧ j = i then y else qJ S a j := fun a j => by
    rw [e, qJ_wJ]
    rfl
  have ru : ∀ a j, qR u a j = qR S a j := fun a j => by rw [e]; rfl
  have f : cfr [222, 406] [] S u := by
    rw [e]
    exact (cfr.aI kd.1 rfl).tr (cfr.aJ (show qT (wI S (p + 1) i x) (p + 2) = 406 from kd.2.1) rfl)
  refine ⟨ShC.ws w g f (by rw [e]; rfl) (by rw [e]; rfl) (by rw [e]; rfl) rfl rfl, fun a j _ hr => ⟨by rw [iu, if_neg (fun z => by omega)], by rw [ju, if_neg (fun z => by omega)], ru a j⟩, fun j => by rw [iu, if_neg (fun z => by omega)], fun j => qO_eq (ru p j), fun j => ?_, fun j => ?_, fun j => by rw [iu, if_neg (fun z => by omega)], f.1⟩
  · unfold rOp
    rw [qO_eq (ru p 0), iu, e0]
    by_cases z : j = i
    · rw [if_pos ⟨rfl, z⟩, if_pos z]
    · rw [if_neg (fun q => z q.2), if_neg z]
  · unfold rAr
    rw [qO_eq (ru p 1), ju, e1]
    by_cases z : j = i
    · rw [if_pos ⟨rfl, z⟩, if_pos z]
    · rw [if_neg (fun q => z q.2), if_neg z]
theorem sp_setTarget {i j t : Int32} (w : wfC S) (g : ShC B S) (k : qT S p = 47) (rv : RvK S p) (hj : 0 ≤ j.toInt ∧ j.toInt < (fX8_targetCount S p i).toInt) : wX8_setTarget S p i j t (fun u => RkE B S u p) := by
  have R := g.row k
  have R2 := R.2
  obtain ⟨e0, e1, e3, _⟩ := R.at w k
  have kd := R.kd w k
  unfold wX8_setTarget
  refine ⟨dd_X8_opAt w g k, fun a4 e4 => ⟨dd_X6_isJump, fun a8 e8 => ⟨fun c => ⟨dd_X8_argAt w g k, fun a13 e13 a16 e16 => ?_⟩, fun c => ⟨dd_X8_opAt w g k, fun a26 e26 _ => ?_⟩⟩⟩⟩
  · rw [e8, e4] at c
    obtain ⟨q1, sw, q3⟩ := rv.tcs c (by omega)
    obtain ⟨a1, a2, a3, a4'⟩ := rv.1 i.toInt.toNat (by omega) sw
    have sz := szT_ge (o := rOp S p i.toInt.toNat) a2
    have ee : eT S p i.toInt.toNat = aTk S p i.toInt.toNat + szT (rOp S p i.toInt.toNat) (mT S p i.toInt.toNat) := rfl
    have ea : a13.toInt32.toInt = aTk S p i.toInt.toNat := by rw [e13, rv_arg q1.1 q1.2]; rfl
    have et : a16.toInt = aTk S p i.toInt.toNat + 2 + j.toInt := by
      have e2 : (a13.toInt32 + (2 : Int32)).toInt = aTk S p i.toInt.toNat + 2 := by rw [t_addk (by rw [li_2k, ea]; omega), li_2k, ea]
      rw [e16, t_addk (by rw [e2]; omega), e2]
    refine ⟨fun d => by omega, fun d => ⟨fun d2 => by omega, fun d2 => ⟨R.1.2.2.1, by omega, fun S22 e22 k22 w22 => ?_⟩⟩⟩
    rw [e3] at e22
    have iu : ∀ a m, qI S22 a m = if a = p + 3 ∧ m = a16.toInt.toNat then t else qI S a m := fun a m => by rw [e22, qI_wI]
    have f : cfr [223] [] S S22 := by rw [e22]; exact cfr.aI kd.2.2.1 rfl
    have oo : ∀ m, qO S22 p m = qO S p m := fun m => by rw [e22]; rfl
    have eo : ∀ m, rOp S22 p m = rOp S p m := fun m => by
      unfold rOp; rw [oo, iu, if_neg (fun z => by omega)]
    have er : ∀ m, rAr S22 p m = rAr S p m := fun m => by
      unfold rAr; rw [oo, e22]; rfl
    have em : ∀ m : Nat, (m : Int) < (qI S p 2).toInt → swO (rOp S p m) → aTk S22 p m = aTk S p m ∧ mT S22 p m = mT S p m := fun m hm swm => by
      have ea' : aTk S22 p m = aTk S p m := by
        have := er m
        unfold rAr at this
        unfold aTk; rw [this]
      refine ⟨ea', ?_⟩
      unfold mT
      rw [ea', oo, iu, if_neg (fun z => ?_)]
      obtain ⟨b1, b2, b3, b4⟩ := rv.1 m hm swm
      have szm := szT_ge (o := rOp S p m) b2
      have eem : eT S p m = aTk S p m + szT (rOp S p m) (mT S p m) := rfl
      have zz := z.2
      by_cases l1 : m < i.toInt.toNat
      · have := rv.2 m i.toInt.toNat l1 (by omega) swm sw; omega
      · by_cases l2 : i.toInt.toNat < m
        · have := rv.2 i.toInt.toNat m l2 hm sw swm; omega
        · rw [show m = i.toInt.toNat by omega] at zz; omega
    have c2 : qI S22 p 2 = qI S p 2 := by rw [iu, if_neg (fun z => by omega)]
    have c4 : qI S22 p 4 = qI S p 4 := by rw [iu, if_neg (fun z => by omega)]
    exact ⟨⟨ShC.ws w g f (by rw [e22]; rfl) (by rw [e22]; rfl) (by rw [e22]; rfl) rfl rfl, f.1, by rw [e22]; exact rfr.inI (by omega) (by omega)⟩, ⟨c2, c4⟩, eo, rv.same c2 c4 eo em, fun n => rWs_eq n (fun m _ => ⟨eo m, er m⟩), em⟩
  · rw [e8] at c
    have jp := jump1 c
    have q : 0 ≤ i.toInt ∧ i.toInt < (qI S p 2).toInt := by
      by_cases z : 0 ≤ i.toInt ∧ i.toInt < (qI S p 2).toInt
      · exact z
      · rw [e4, rv_op0 z] at jp
        exact absurd jp (by decide)
    have op : a26 = rOp S p i.toInt.toNat := by rw [e26, rv_op q.1 q.2]
    have jp' : (153 ≤ (rOp S p i.toInt.toNat).toInt ∧ (rOp S p i.toInt.toNat).toInt ≤ 167) ∨ (rOp S p i.toInt.toNat).toInt = 198 ∨ (rOp S p i.toInt.toNat).toInt = 199 := by
      rw [← op, e26, ← e4]; exact jp
    refine ⟨_, sp_set8 (Q := fun u => u = wJ (wI S (qO S p 0) i.toInt.toNat a26) (qO S p 1) i.toInt.toNat t.toInt64) w k R (by omega) (fun u _ e => e), fun S28 q28 w28 _ => ?_⟩
    obtain ⟨g28, f28, i28, o28, op28, ar28, tb28, s28⟩ := set_eq w g k q28
    have eo : ∀ m, rOp S28 p m = rOp S p m := fun m => by
      rw [op28]
      split
      · rename_i z; rw [op, z]
      · rfl
    have em : ∀ m : Nat, (m : Int) < (qI S p 2).toInt → swO (rOp S p m) → aTk S28 p m = aTk S p m ∧ mT S28 p m = mT S p m := fun m hm swm => by
      have ne : m ≠ i.toInt.toNat := fun z => by rw [z] at swm; unfold swO at swm; omega
      have ea' : aTk S28 p m = aTk S p m := by
        have := ar28 m
        rw [if_neg ne] at this
        unfold rAr at this
        unfold aTk; rw [this]
      refine ⟨ea', ?_⟩
      unfold mT
      rw [ea', o28, tb28]
    refine ⟨⟨g28, s28, f28⟩, ⟨i28 2, i28 4⟩, eo, rv.same (i28 2) (i28 4) eo em, fun n => rWs_w n (fun m _ => ?_), em⟩
    rw [eo, ar28]
    split
    · rename_i z
      rw [z, rW_n (by omega), rW_n (by omega), aW_j jp', aW_j jp']
    · rfl
end ST
/-! instructions are taken away -/
section RM
variable {B : Nat × Nat} {S u v U : MS} {p : Nat} {x : Int32}
theorem RvK.sw (h : RvK S p) (q : 0 ≤ x.toInt ∧ x.toInt < (qI S p 2).toInt) (sw : swO (rOp S p x.toInt.toNat)) : (fX8_targetCount S p x).toInt = mT S p x.toInt.toNat := by
  have sw' := sw
  rw [← rv_op q.1 q.2] at sw'
  obtain ⟨s1, s2⟩ := sw_isk (S := S) sw'
  obtain ⟨a1, a2, a3, a4⟩ := h.1 x.toInt.toNat (by omega) sw
  have := szT_ge (o := rOp S p x.toInt.toNat) a2
  have e : eT S p x.toInt.toNat = aTk S p x.toInt.toNat + szT (rOp S p x.toInt.toNat) (mT S p x.toInt.toNat) := rfl
  have hl : aTk S p x.toInt.toNat < (qI S p 4).toInt := by omega
  unfold fX8_targetCount
  rw [if_pos s2, if_neg s1]
  unfold mT
  rw [rv_arg q.1 q.2, rv_tab a1 hl]
  rfl
theorem RkE.tc (h : RkE B S u p) (rv : RvK S p) : (fX8_targetCount u p x).toInt = (fX8_targetCount S p x).toInt := by
  obtain ⟨_, ⟨e2, e4⟩, eo, rvu, _, em⟩ := h
  have op : fX8_opAt u p x = fX8_opAt S p x := by
    by_cases q : 0 ≤ x.toInt ∧ x.toInt < (qI S p 2).toInt
    · rw [rv_op q.1 q.2, rv_op q.1 (by rw [e2]; exact q.2), eo]
    · rw [rv_op0 q, rv_op0 (by rw [e2]; exact q)]
  by_cases c : swO (fX8_opAt S p x)
  · have q : 0 ≤ x.toInt ∧ x.toInt < (qI S p 2).toInt := by
      by_cases z : 0 ≤ x.toInt ∧ x.toInt < (qI S p 2).toInt
      · exact z
      · rw [rv_op0 z] at c; exact absurd c (by unfold swO; decide)
    have swS : swO (rOp S p x.toInt.toNat) := by rw [← rv_op q.1 q.2]; exact c
    rw [rv.sw q swS, rvu.sw (by rw [e2]; exact q) (by rw [eo]; exact swS), (em x.toInt.toNat (by omega) swS).2]
  · unfold fX8_targetCount
    rw [op]
    have j : fX6_isJump u (fX8_opAt S p x) = fX6_isJump S (fX8_opAt S p x) := rfl
    have s : (fX6_isSwitch S (fX8_opAt S p x)).toInt = 0 := by
      by_cases z : (fX6_isSwitch S (fX8_opAt S p x)).toInt = 0
      · exact z
      · exact absurd (is_sw z) c
    have s' : (fX6_isSwitch u (fX8_opAt S p x)).toInt = 0 := s
    rw [j, if_pos s', if_pos s]
/-- instructions have moved up -/
def ShfI (B : Nat × Nat) (S : MS) (p i n k : Nat) (U : MS) : Prop := (ShC B U ∧ shx S U ∧ rfr p S U) ∧ (∀ j, qI U p j = qI S p j) ∧ (∀ j, qO U p j = qO S p j) ∧ (∀ j, qI U (qO S p 3) j = qI S (qO S p 3) j) ∧ ∀ m : Nat, rOp U p m = rOp S p (if i ≤ m ∧ m < k then m + n else m) ∧ rAr U p m = rAr S p (if i ≤ m ∧ m < k then m + n else m)
theorem ShfI.nx {i n k : Nat} {y : Int64} (h : ShfI B S p i n k U) (w : wfC U) (kU : qT U p = 47) (hik : i ≤ k) (hn : 0 < n) (e : u = wJ (wI U (qO U p 0) k (rOp U p (k + n))) (qO U p 1) k (rAr U p (k + n))) : ShfI B S p i n (k + 1) u := by
  obtain ⟨⟨h1, h2, h3⟩, h4, h5, h6, h7⟩ := h
  obtain ⟨g, f, i1, o1, op, ar, tb, s⟩ := set_eq w h1 kU e
  rw [h5] at tb
  refine ⟨⟨g, h2.tr s, h3.tr h2 f⟩, fun j => (i1 j).trans (h4 j), fun j => (o1 j).trans (h5 j), fun j => (tb j).trans (h6 j), fun m => ?_⟩
  rw [op, ar]
  by_cases z : m = k
  · rw [if_pos z, if_pos z, (h7 (k + n)).1, (h7 (k + n)).2, if_neg (by omega), if_pos (by omega), z]
    exact ⟨rfl, rfl⟩
  · rw [if_neg z, if_neg z, (h7 m).1, (h7 m).2]
    by_cases y : i ≤ m ∧ m < k
    · rw [if_pos y, if_pos (by omega)]; exact ⟨rfl, rfl⟩
    · rw [if_neg y, if_neg (by omega)]; exact ⟨rfl, rfl⟩
/-- the place where an instruction stood -/
def sig (i n m : Nat) : Nat := if m < i then m else m + n
theorem sig_mo {i n a b : Nat} (h : a < b) : sig i n a < sig i n b := by
  unfold sig; split <;> split <;> omega
/-- what remove leaves -/
def RmQ (B : Nat × Nat) (S : MS) (p i n : Nat) (u : MS) : Prop := (ShC B u ∧ shx S u ∧ rfr p S u) ∧ ((qI u p 2).toInt = (qI S p 2).toInt - n ∧ qI u p 4 = qI S p 4) ∧ RvK u p ∧ rWs u p (qI u p 2).toInt.toNat + (rWs S p (i + n) - rWs S p i) = rWs S p (qI S p 2).toInt.toNat ∧ ∀ m : Nat, (m : Int) < (qI u p 2).toInt → rOp u p m = rOp S p (sig i n m)
theorem sig_k {i n k : Nat} (h : ∀ m : Nat, m < k → rOp u p m = rOp S p (sig i n m) ∧ rAr u p m = rAr S p (sig i n m)) : ∀ m : Nat, m ≤ k → i ≤ m → rWs u p m + (rWs S p (i + n) - rWs S p i) = rWs S p (m + n) := by
  have lo : ∀ m : Nat, m ≤ k → m ≤ i → rWs u p m = rWs S p m := fun m hk hi => rWs_eq m (fun j hj => by
    obtain ⟨a, b⟩ := h j (by omega)
    rw [a, b]
    unfold sig
    rw [if_pos (by omega)]
    exact ⟨rfl, rfl⟩)
  intro m
  induction m with
  | zero =>
    intro _ hz
    rw [show i = 0 by omega]
    show (0 : Int) + (rWs S p (0 + n) - 0) = rWs S p (0 + n)
    omega
  | succ m ih =>
    intro hk hz
    by_cases c : m < i
    · rw [lo (m + 1) hk (by omega), show i = m + 1 by omega]
      omega
    · have a := ih (by omega) (by omega)
      obtain ⟨e1, e2⟩ := h m (by omega)
      rw [rWs_s, e1, e2, show m + 1 + n = m + n + 1 by omega, rWs_s]
      unfold sig
      rw [if_neg c]
      omega
theorem ShfI.cut {i n k : Nat} {S8 : MS} (h : ShfI B S p i n k U) (w : wfC U) (kU : qT U p = 47) (rv : RvK S p) (hk : ((k + n : Nat) : Int) = (qI S p 2).toInt) (hi : i ≤ k) (e : S8 = wI U p 2 ((qI U p 2) - x)) (hx : x.toInt = n) (R2 : (qI S p 2).toInt ≤ 1296) : RmQ B S p i n S8 := by
  obtain ⟨⟨h1, h2, h3⟩, h4, h5, h6, h7⟩ := h
  have R := h1.row kU
  have R' := R.2
  have c2 : (qI S8 p 2).toInt = (qI S p 2).toInt - n := by rw [e, qI_wI, if_pos ⟨rfl, rfl⟩, h4, t_subk (by omega), hx]
  have ng : ((qI U p 2) - x).toInt = (qI S p 2).toInt - n := by rw [h4, t_subk (by omega), hx]
  have i8 : ∀ a j, ¬ (a = p ∧ j = 2) → qI S8 a j = qI U a j := fun a j z => by rw [e, qI_wI, if_neg z]
  have o8 : ∀ j, qO S8 p j = qO S p j := fun j => by
    have : qO S8 p j = qO U p j := by rw [e]; rfl
    rw [this, h5]
  have at' := R.at w kU
  have g8 : ShC B S8 := by
    rw [e]
    refine ShC.cnt w h1 kU (Or.inl ⟨rfl, by omega, ?_⟩)
    rw [h4] at R'
    omega
  have ops : ∀ m : Nat, m < k → rOp S8 p m = rOp S p (sig i n m) ∧ rAr S8 p m = rAr S p (sig i n m) := fun m hm => by
    have e1 : rOp S8 p m = rOp U p m := by
      unfold rOp
      have : qO S8 p 0 = qO U p 0 := by rw [e]; rfl
      rw [this, i8 _ _ (fun z => by rw [at'.1] at z; omega)]
    have e2 : rAr S8 p m = rAr U p m := by unfold rAr; rw [e]; rfl
    rw [e1, e2, (h7 m).1, (h7 m).2]
    unfold sig
    by_cases c : m < i
    · rw [if_pos c, if_neg (by omega)]; exact ⟨rfl, rfl⟩
    · rw [if_neg c, if_pos (by omega)]; exact ⟨rfl, rfl⟩
  have c4 : qI S8 p 4 = qI S p 4 := by rw [i8 _ _ (fun z => absurd z.2 (by decide))]; exact h4 4
  have hsig : ∀ m, m < k → ((sig i n m : Nat) : Int) < (qI S p 2).toInt := fun m hm => by unfold sig; split <;> omega
  have sw8 : ∀ m : Nat, m < k → swO (rOp S8 p m) → swO (rOp S p (sig i n m)) ∧ aTk S8 p m = aTk S p (sig i n m) ∧ mT S8 p m = mT S p (sig i n m) ∧ eT S8 p m = eT S p (sig i n m) := fun m hm sw => by
    obtain ⟨o1, o2⟩ := ops m hm
    have ea : aTk S8 p m = aTk S p (sig i n m) := by unfold rAr at o2; unfold aTk; rw [o2]
    have em : mT S8 p m = mT S p (sig i n m) := by
      unfold mT
      rw [ea, o8, i8 _ _ (fun z => by rw [← h5, at'.2.2.1] at z; omega), h6]
    exact ⟨by rw [← o1]; exact sw, ea, em, by unfold eT; rw [ea, em, o1]⟩
  refine ⟨⟨g8, by rw [e]; exact h2, h3.tr h2 (by rw [e]; exact rfr.inI (Nat.le_refl _) (by omega))⟩, ⟨c2, c4⟩, ⟨fun m hm sw => ?_, fun m m' hl hm s1 s2 => ?_⟩, ?_, fun m hm => (ops m (by omega)).1⟩
  · obtain ⟨s1, s2, s3, s4⟩ := sw8 m (by omega) sw
    rw [s2, s3, s4, c4]
    exact rv.1 _ (hsig m (by omega)) s1
  · obtain ⟨a1, a2, a3, a4⟩ := sw8 m (by omega) s1
    obtain ⟨b1, b2, b3, b4⟩ := sw8 m' (by omega) s2
    rw [a4, b2]
    exact rv.2 _ _ (sig_mo hl) (hsig m' (by omega)) a1 b1
  · have ek : (qI S8 p 2).toInt.toNat = k := by omega
    have sg := sig_k (u := S8) (S := S) (p := p) (i := i) (n := n) ops k (Nat.le_refl _)
    rw [ek, show (qI S p 2).toInt.toNat = k + n by omega]
    exact sg hi
end RM
/-! remove whole -/
section RN
variable {B : Nat × Nat} {S u v U : MS} {p : Nat} {x : Int32}
theorem rm_J232 {Q : MS → Prop} {k138 : MS → Nat → Int32 → Int32 → Int32 → Int32 → Prop} {v1 v2 v3 v4 : Int32} (hk : ∀ a : Int32, a = v4 + Int32.ofInt 1 → k138 U p v1 v2 v3 a) : w_X8_remove_J232 Q k138 U p v1 v2 v3 v4 := by
  unfold w_X8_remove_J232
  exact fun _ _ a ea => hk a ea
theorem rm_L138 {Q : MS → Prop} {v1 v2 : Int32} (hQ : ∀ u : MS, (ShC B u ∧ shx S u ∧ rfr p S u) ∧ rSm S u p → Q u) : ∀ (n : Nat) {U : MS} {v3 v4 : Int32}, CaI B S U p → 0 ≤ v3.toInt → v3.toInt ≤ v4.toInt → v3.toInt ≤ (qI S p 9).toInt → 2147483648 - v4.toInt < n → w_X8_remove_L138 Q n U p v1 v2 v3 v4 := by
  intro n
  induction n with
  | zero => intro U v3 v4 _ _ _ _ hm; have := rgI v4; omega
  | succ n ih =>
    intro U v3 v4 c h0 h1 h2 hm
    have k := c.1.2.1
    have R := c.1.1.row k
    have R2 := R.2
    rw [c.2.2] at R2
    have hc9 : (qI S p 9).toInt ≤ 16 := by omega
    unfold w_X8_remove_L138
    intro w _
    obtain ⟨e0, e1, e3, e5, e6, e7, e8⟩ := R.at w k
    have kd := R.kd w k
    rw [c.2.2]
    refine ⟨fun d S11 e11 k11 w11 => ?_, fun d => ⟨R.1.2.2.2.1, by omega, dd_X8_behindRemoved, fun a19 _ => ⟨R.1.2.2.2.2.1, by omega, dd_X8_behindRemoved, fun a27 _ => ⟨fun _ => rm_J232 (fun a ea => ?_), fun _ => ⟨R.1.2.2.2.1, by omega, fun S33 e33 k33 w33 => ?_⟩⟩⟩⟩⟩
    · have f : cfr [] [(47, 9)] U S11 := by rw [e11]; exact cfr.oI k11 rfl
      refine hQ S11 ⟨⟨?_, c.1.2.2.1.tr f.1, c.1.2.2.2.tr c.1.2.2.1 (by rw [e11]; exact rfr.inI (Nat.le_refl _) (by omega))⟩, c.2.1.tr (rSm.fr w k R f rfl rfl rfl)⟩
      rw [e11]
      exact ShC.cnt w c.1.1 k (Or.inr (Or.inr ⟨rfl, h0, by omega⟩))
    · have e := t_inc ea (by omega)
      exact ih c h0 (by omega) h2 (by omega)
    · rw [e5] at e33
      have c33 := c.w w e33 kd.2.2.2.1 (by omega) (by omega)
      have k' := c33.1.2.1
      have R33 := c33.1.1.row k'
      have Q33 := R33.2
      rw [c33.2.2] at Q33
      obtain ⟨_, _, _, p5, p6, p7, p8⟩ := R33.at w33 k'
      have kd33 := R33.kd w33 k'
      refine ⟨R33.1.2.2.2.2.1, by omega, fun S37 e37 k37 w37 => ?_⟩
      rw [p6] at e37
      have c37 := c33.w w33 e37 kd33.2.2.2.2.1 (by omega) (by omega)
      have k'' := c37.1.2.1
      have R37 := c37.1.1.row k''
      have Q37 := R37.2
      rw [c37.2.2] at Q37
      obtain ⟨_, _, _, _, _, q7, q8⟩ := R37.at w37 k''
      have kd37 := R37.kd w37 k''
      clear R2 Q33
      refine ⟨R37.1.2.2.2.2.2.1, R37.1.2.2.2.2.2.1, by omega, dd_X8_behindRemoved, fun a47 _ => ⟨by omega, fun S49 e49 k49 w49 => ?_⟩⟩
      rw [q7] at e49
      have c49 := c37.w w37 e49 kd37.2.2.2.2.2.1 (by omega) (by omega)
      have k3 := c49.1.2.1
      have R49 := c49.1.1.row k3
      have Q49 := R49.2
      rw [c49.2.2] at Q49
      obtain ⟨_, _, _, _, _, _, s8⟩ := R49.at w49 k3
      have kd49 := R49.kd w49 k3
      clear Q37
      refine ⟨R49.1.2.2.2.2.2.2, R49.1.2.2.2.2.2.2, by omega, by omega, fun S57 e57 k57 w57 a58 e58 => ?_⟩
      rw [s8] at e57
      have c57 := c49.w w49 e57 kd49.2.2.2.2.2.2 (by omega) (by omega)
      clear Q49
      refine rm_J232 (fun a ea => ?_)
      have e := t_inc ea (by omega)
      have e' := t_inc e58 (by omega)
      exact ih c57 (by omega) (by omega) (by omega) (by omega)
theorem rm_L95 {Q : MS → Prop} {k77 : MS → Nat → Int32 → Int32 → Int32 → Prop} {v1 v2 v3 v4 : Int32} (rv : RvK S p) (h4 : v4.toInt = (fX8_targetCount S p v3).toInt) (hk : ∀ (V : MS) (a : Int32), RkE B S V p → a = v3 + Int32.ofInt 1 → k77 V p v1 v2 a) : ∀ (n : Nat) {U : MS} {v5 : Int32}, RkE B S U p → 0 ≤ v5.toInt → 2147483648 - v5.toInt < n → w_X8_remove_L95 Q k77 n U p v1 v2 v3 v4 v5 := by
  intro n
  induction n with
  | zero => intro U v5 _ _ hm; have := rgI v5; omega
  | succ n ih =>
    intro U v5 h h0 hm
    unfold w_X8_remove_L95
    intro w k
    refine ⟨fun _ a ea => hk U a h ea, fun c => ⟨dd_X8_targetAt w h.1.1 k, fun a68 _ => ⟨dd_X8_behindRemoved, fun a72 _ _ => ⟨_, sp_setTarget w h.1.1 k h.2.2.2.1 ⟨h0, by rw [h.tc rv]; omega⟩, fun S74 q w74 s74 a76 ea => ?_⟩⟩⟩⟩
    have r4 := rgI v4
    have e := t_inc ea (by omega)
    exact ih (h.tr q) (by omega) (by omega)
theorem rm_L77 {Q : MS → Prop} {v1 v2 : Int32} (rv : RvK S p) (hQ : ∀ V : MS, wfC V → RkE B S V p → ∃ n, w_X8_remove_L138 Q n V p v1 v2 0 0) : ∀ (n : Nat) {U : MS} {v3 : Int32}, RkE B S U p → 2147483648 - v3.toInt < n → w_X8_remove_L77 Q n U p v1 v2 v3 := by
  intro n
  induction n with
  | zero => intro U v3 _ hm; have := rgI v3; omega
  | succ n ih =>
    intro U v3 h hm
    unfold w_X8_remove_L77
    intro w k
    refine ⟨fun _ => hQ U w h, fun c => ⟨dd_X8_targetCount w h.1.1 k, fun a62 e62 => ⟨2147483649, rm_L95 rv (by rw [e62, h.tc rv]) (fun V a hV ea => ?_) _ h (by decide) (by rw [li_0k]; decide)⟩⟩⟩
    have rc := rgI (qI U p 2)
    have e := t_inc ea (by omega)
    exact ih hV (by omega)
theorem rm_L21 {Q : MS → Prop} {v1 v2 : Int32} {i n : Nat} (rv : RvK S p) (hc : (qI S p 2).toInt ≤ 1296) (h1 : v1.toInt = i) (h2 : v2.toInt = n ∧ 0 < n ∧ n ≤ 3) (hin : ((i + n : Nat) : Int) ≤ (qI S p 2).toInt) (hQ : ∀ S8 : MS, wfC S8 → qT S8 p = 47 → RmQ B S p i n S8 → ∃ m, w_X8_remove_L77 Q m S8 p v1 v2 0) : ∀ (N k : Nat) {U : MS} {v3 : Int32}, ShfI B S p i n k U → v3.toInt = k → i ≤ k → ((k + n : Nat) : Int) ≤ (qI S p 2).toInt → 2000 - (k : Int) < N → w_X8_remove_L21 Q N U p v1 v2 v3 := by
  intro N
  induction N with
  | zero => intro k U v3 _ _ _ hk hm; omega
  | succ N ih =>
    intro k U v3 h e3 hik hk hm
    unfold w_X8_remove_L21
    intro w kp
    have R := h.1.1.row kp
    have R2 := R.2
    have e2 : qI U p 2 = qI S p 2 := h.2.1 2
    have es : (v3 + v2).toInt = k + n := by rw [t_addk (by omega)]; omega
    rw [es]
    refine ⟨fun c S8 e8 k8 w8 => ?_, fun c => ?_⟩
    · have z : ((k + n : Nat) : Int) = (qI S p 2).toInt := by rw [e2] at c; omega
      exact hQ S8 w8 (by rw [e8]; exact kp) (h.cut w kp rv z hik e8 (by omega) hc)
    · rw [e2] at R2 c
      have nk : (((k : Int) + n)).toNat = k + n := by omega
      have n3 : v3.toInt.toNat = k := by omega
      rw [nk, n3]
      refine ⟨R.1.1, R.1.1, by omega, by omega, fun S85 e85 k85 w85 => ?_⟩
      have r85 : qR S85 p 1 = some (qO S85 p 1) := by rw [e85]; exact R.1.2.1
      have l85 : (qN S85 (qO S85 p 1) : Int) = (qN U (qO U p 1) : Int) := by rw [e85]; rfl
      refine ⟨r85, r85, by omega, by omega, fun S94 e94 k94 w94 a95 ea => ?_⟩
      have e := t_inc ea (by omega)
      have nx := h.nx (y := 0) w kp hik h2.2.1 (u := S94) (by
        rw [e94, e85]
        rfl)
      exact ih (k + 1) nx (by omega) (by omega) (by omega) (by omega)
/-- remove, with what becomes of the Row -/
theorem sp_remove {i n : Int32} (w : wfC S) (g : ShC B S) (k : qT S p = 47) (rv : RvK S p) (hn : 1 ≤ n.toInt ∧ n.toInt ≤ 3) (hi : 0 ≤ i.toInt ∧ i.toInt + n.toInt ≤ (qI S p 2).toInt) : wX8_remove S p i n (fun u => RmQ B S p i.toInt.toNat n.toInt.toNat u) := by
  have R2 := (g.row k).2
  have es : (i + n).toInt = i.toInt + n.toInt := t_addk (by omega)
  unfold wX8_remove
  refine ⟨fun c => by omega, fun _ => ⟨fun c => by omega, fun _ => ⟨fun _ => ⟨2001, ?_⟩, fun c => by omega⟩⟩⟩
  refine rm_L21 (i := i.toInt.toNat) (n := n.toInt.toNat) rv (by omega) (by omega) ⟨by omega, by omega, by omega⟩ (by omega) (fun S8 w8 k8 q8 => ⟨2147483649, ?_⟩) _ i.toInt.toNat ⟨⟨g, shx.rf, rfr.rf⟩, fun _ => rfl, fun _ => rfl, fun _ => rfl, fun m => by rw [if_neg (by omega)]; exact ⟨rfl, rfl⟩⟩ (by omega) (Nat.le_refl _) (by omega) (by omega)
  refine rm_L77 q8.2.2.1 (fun V wV hV => ⟨2147483649, ?_⟩) _ (RkE.rf q8.1.1 q8.2.2.1) (by rw [li_0k]; decide)
  have kV : qT V p = 47 := hV.1.2.1.T k8 (by decide)
  have RV := (hV.1.1.row kV).2
  refine rm_L138 (B := B) (S := V) (p := p) (v1 := i) (v2 := n) (fun u hu => ?_) 2147483649 (U := V) (v3 := 0) (v4 := 0) ⟨⟨hV.1.1, kV, shx.rf, rfr.rf⟩, rSm.rf, rfl⟩ (by decide) (by decide) (by rw [li_0k]; omega) (by rw [li_0k]; decide)
  obtain ⟨⟨u1, u2, u3⟩, m⟩ := hu
  obtain ⟨⟨a1, a2, a3⟩, ⟨b1, b2⟩, c, d, e⟩ := q8
  obtain ⟨⟨v1, v2, v3⟩, ⟨x1, x2⟩, xo, xr, xw, _⟩ := hV
  refine ⟨⟨u1, (a2.tr v2).tr u2, (a3.tr a2 v3).tr (a2.tr v2) u3⟩, ⟨by rw [m.1.1, x1]; exact b1, by rw [m.1.2, x2]; exact b2⟩, xr.mv m, by rw [m.1.1, m.xW, x1, xw]; exact d, fun j hj => ?_⟩
  rw [m.xOp, xo]
  exact e j (by rw [m.1.1, x1] at hj; exact hj)
end RN
/-! Smith's Row grows no heavier -/
section SL
variable {B : Nat × Nat} {S u v U : MS} {p : Nat} {x : Int32}
/-- no longer, no heavier, its switches in order; other Rows as they were -/
def SmL (B : Nat × Nat) (S u : MS) (p : Nat) : Prop := (ShC B u ∧ shx S u ∧ rfr p S u) ∧ ((qI u p 2).toInt ≤ (qI S p 2).toInt ∧ qI u p 4 = qI S p 4) ∧ RvK u p ∧ rWs u p (qI u p 2).toInt.toNat ≤ rWs S p (qI S p 2).toInt.toNat
theorem SmL.rf (g : ShC B S) (rv : RvK S p) : SmL B S S p := ⟨⟨g, shx.rf, rfr.rf⟩, ⟨Int.le_refl _, rfl⟩, rv, Int.le_refl _⟩
theorem SmL.tr (h : SmL B S u p) (k : SmL B u v p) : SmL B S v p := by
  obtain ⟨⟨h1, h2, h3⟩, ⟨h4, h5⟩, h6, h7⟩ := h
  obtain ⟨⟨k1, k2, k3⟩, ⟨k4, k5⟩, k6, k7⟩ := k
  exact ⟨⟨k1, h2.tr k2, h3.tr h2 k3⟩, ⟨Int.le_trans k4 h4, k5.trans h5⟩, k6, Int.le_trans k7 h7⟩
/-- other things are written -/
theorem SmL.sm (g : ShC B u) (s : shx S u) (f : rfr p S u) (m : rSm S u p) (rv : RvK S p) : SmL B S u p := ⟨⟨g, s, f⟩, ⟨by rw [m.1.1]; exact Int.le_refl _, m.1.2⟩, rv.mv m, by rw [m.1.1, m.xW]; exact Int.le_refl _⟩
theorem RkE.sl (h : RkE B S u p) : SmL B S u p := by
  obtain ⟨h1, ⟨h2, h3⟩, _, h5, h6, _⟩ := h
  exact ⟨h1, ⟨by rw [h2]; exact Int.le_refl _, h3⟩, h5, by rw [h2, h6]; exact Int.le_refl _⟩
theorem rWs_mo {i : Nat} : ∀ n : Nat, rWs S p i ≤ rWs S p (i + n) := by
  intro n
  induction n with
  | zero => exact Int.le_refl _
  | succ n ih =>
    have := (rW_rg (o := (rOp S p (i + n)).toInt) (a := rAr S p (i + n))).1
    have e : rWs S p (i + (n + 1)) = rWs S p (i + n) + rW (rOp S p (i + n)).toInt (rAr S p (i + n)) := rfl
    omega
theorem RmQ.sl {i n : Nat} (h : RmQ B S p i n u) : SmL B S u p := by
  obtain ⟨h1, ⟨h2, h3⟩, h4, h5, _⟩ := h
  have := rWs_mo (S := S) (p := p) (i := i) n
  exact ⟨h1, ⟨by omega, h3⟩, h4, by omega⟩
/-- one instruction is another -/
def StP (B : Nat × Nat) (S u : MS) (p i : Nat) (x : Int32) (y : Int64) : Prop := (ShC B u ∧ shx S u ∧ rfr p S u) ∧ (∀ j, qI u p j = qI S p j) ∧ RvK u p ∧ (∀ k : Nat, i < k → rWs u p k + rW (rOp S p i).toInt (rAr S p i) = rWs S p k + rW x.toInt y) ∧ qO u 66 0 = qO S 66 0
theorem st_one {i : Nat} {y : Int64} (w : wfC S) (g : ShC B S) (k : qT S p = 47) (rv : RvK S p) (no : ¬ swO (rOp S p i)) (nn : ¬ swO x) (e : u = wJ (wI S (qO S p 0) i x) (qO S p 1) i y) : StP B S u p i x y := by
  obtain ⟨g1, f1, i1, o1, op1, ar1, tb1, s1⟩ := set_eq w g k e
  have ne : ∀ m, swO (rOp u p m) → m ≠ i := fun m sw z => by rw [op1, if_pos z] at sw; exact nn sw
  have sm : ∀ m, swO (rOp u p m) → swO (rOp S p m) ∧ aTk u p m = aTk S p m ∧ mT u p m = mT S p m ∧ eT u p m = eT S p m := fun m sw => by
    have n := ne m sw
    have eo : rOp u p m = rOp S p m := by rw [op1, if_neg n]
    have ea : aTk u p m = aTk S p m := by
      have := ar1 m
      rw [if_neg n] at this
      unfold rAr at this
      unfold aTk; rw [this]
    have em : mT u p m = mT S p m := by unfold mT; rw [ea, o1, tb1]
    exact ⟨by rw [← eo]; exact sw, ea, em, by unfold eT; rw [ea, em, eo]⟩
  refine ⟨⟨g1, s1, f1⟩, i1, ⟨fun m hm sw => ?_, fun m m' hl hm a b => ?_⟩, ?_, by rw [e]; rfl⟩
  · obtain ⟨a1, a2, a3, a4⟩ := sm m sw
    rw [a2, a3, a4, i1]
    exact rv.1 m (by rw [i1] at hm; exact hm) a1
  · obtain ⟨a1, a2, a3, a4⟩ := sm m a
    obtain ⟨b1, b2, b3, b4⟩ := sm m' b
    rw [a4, b2]
    exact rv.2 m m' hl (by rw [i1] at hm; exact hm) a1 b1
  · have lo : ∀ k : Nat, k ≤ i → rWs u p k = rWs S p k := fun k hk => rWs_eq k (fun j hj => ⟨by rw [op1, if_neg (by omega)], by rw [ar1, if_neg (by omega)]⟩)
    intro k
    induction k with
    | zero => intro h; omega
    | succ k ih =>
      intro h
      rw [rWs_s, rWs_s]
      by_cases z : k = i
      · rw [op1, ar1, if_pos z, if_pos z, lo k (by omega), z]; omega
      · have := ih (by omega)
        rw [op1, ar1, if_neg z, if_neg z]; omega
/-- .. and those behind it are gone -/
theorem StP.rm {i n : Nat} {y : Int64} (h : StP B S u p i x y) (r : RmQ B u p (i + 1) n v) (hc : ((i + 1 + n : Nat) : Int) ≤ (qI S p 2).toInt) (hw : rW x.toInt y ≤ rW (rOp S p i).toInt (rAr S p i) + (rWs S p (i + 1 + n) - rWs S p (i + 1))) : SmL B S v p := by
  obtain ⟨⟨h1, h2, h3⟩, h4, h5, h6, _⟩ := h
  obtain ⟨⟨r1, r2, r3⟩, ⟨r4, r5⟩, r6, r7, _⟩ := r
  rw [h4] at r4 r5 r7
  have a := h6 (i + 1) (by omega)
  have b := h6 (i + 1 + n) (by omega)
  have c := h6 (qI S p 2).toInt.toNat (by omega)
  exact ⟨⟨r1, h2.tr r2, h3.tr h2 r3⟩, ⟨by omega, r5⟩, r6, by omega⟩
theorem rW_p {o : Int} {a : Int64} (h : o = 17 ∨ o = 20) : 3 ≤ rW o a ∧ rW o a ≤ 6 := by
  unfold rW
  have := aW_6 (o := o) (a := a) (by omega)
  by_cases c : o = 20
  · rw [if_pos c]; split <;> omega
  · rw [if_neg c]
    refine ⟨?_, this⟩
    rw [show o = 17 by omega]
    unfold aW
    repeat' split
    all_goals omega
theorem pk_op (h : ¬ (fX9_pushKind S x).toInt = 0) : (fX8_opAt S (qO S 66 0) x).toInt = 17 ∨ (fX8_opAt S (qO S 66 0) x).toInt = 20 := by
  unfold fX9_pushKind at h
  by_cases a : (fX8_opAt S (qO S 66 0) x).toInt = 17
  · exact Or.inl a
  · rw [if_neg a] at h
    by_cases b : (fX8_opAt S (qO S 66 0) x).toInt = 20
    · exact Or.inr b
    · rw [if_neg b, li_0k] at h; exact absurd rfl h
theorem wn_of {n : Int32} (h : ¬ (fX9_isWindow S x n).toInt = 0) : 0 ≤ x.toInt ∧ (x + n).toInt < (qI S (qO S 66 0) 2).toInt := by
  unfold fX9_isWindow at h
  by_cases a : x.toInt < 0
  · rw [if_pos a, li_0k] at h; exact absurd rfl h
  · rw [if_neg a] at h
    by_cases b : (x + n).toInt < (qI S (qO S 66 0) 2).toInt
    · exact ⟨by omega, b⟩
    · rw [if_neg b, li_0k] at h; exact absurd rfl h
/-- an instruction is set, in Smith's Row -/
theorem sp_set9 {i : Int32} {y : Int64} (w : wfC S) (g : ShC B S) (k : qT S p = 47) (rv : RvK S p) (hi : 0 ≤ i.toInt ∧ i.toInt < (qI S p 2).toInt) (no : ¬ swO (rOp S p i.toInt.toNat)) (nn : ¬ swO x) : wX8_set S p i x y (fun u => StP B S u p i.toInt.toNat x y) := by
  have R := g.row k
  have R2 := R.2
  exact sp_set8 w k R (by omega) (fun u _ e => st_one w g k rv no nn e)
theorem sp_isDropped {i n : Int32} (w : wfC S) (g : ShC B S) (rv : RvK S (qO S 66 0)) (hn : 1 ≤ n.toInt ∧ n.toInt ≤ 3) (hi : 0 ≤ i.toInt ∧ i.toInt + n.toInt ≤ (qI S (qO S 66 0) 2).toInt) : wX9_isDropped S i n (fun _ u => SmL B S u (qO S 66 0)) := by
  unfold wX9_isDropped
  exact fun k => ⟨_, sp_remove w g k rv hn hi, fun S3 q _ _ => q.sl⟩
theorem sp_putPush {i k : Int32} {y : Int64} (w : wfC S) (g : ShC B S) (rv : RvK S (qO S 66 0)) (hi : 0 ≤ i.toInt ∧ i.toInt < (qI S (qO S 66 0) 2).toInt) (no : ¬ swO (rOp S (qO S 66 0) i.toInt.toNat)) : wX9_putPush S i k y (fun u => ∃ x : Int32, (x.toInt = 17 ∨ x.toInt = 20) ∧ StP B S u (qO S 66 0) i.toInt.toNat x y) := by
  unfold wX9_putPush
  refine ⟨fun _ kp => ⟨_, sp_set9 w g kp rv hi no (by unfold swO; decide), fun S7 q _ _ => ⟨_, Or.inr (by decide), q⟩⟩, fun _ kp => ⟨_, sp_set9 w g kp rv hi no (by unfold swO; decide), fun S4 q _ _ => ⟨_, Or.inl (by decide), q⟩⟩⟩
end SL
/-! Smith's rules -/
section SR
variable {B : Nat × Nat} {S u v U : MS} {x : Int32}
theorem k66 (w : wfC S) : qT S (qO S 66 0) = 47 := w.ref (w.ptr ptrC_39) (w.2.1 _ finC_31).2.1
theorem StP.sl {p i : Nat} {y : Int64} (h : StP B S u p i x y) (hc : (i : Int) < (qI S p 2).toInt) (hw : rW x.toInt y ≤ rW (rOp S p i).toInt (rAr S p i)) : SmL B S u p := by
  obtain ⟨h1, h4, h5, h6, _⟩ := h
  have c := h6 (qI S p 2).toInt.toNat (by omega)
  exact ⟨h1, ⟨by rw [h4]; exact Int.le_refl _, h4 4⟩, h5, by rw [h4]; omega⟩
theorem ird_J117 {Q : Int32 → MS → Prop} {k11 : MS → Int32 → Int32 → Int32 → Prop} {v1 v2 v3 : Int32} (hk : ∀ a : Int32, a = v3 + Int32.ofInt 1 → k11 S v1 v2 a) : w_X9_isRedirected_J117 Q k11 S v1 v2 v3 := by
  unfold w_X9_isRedirected_J117
  exact fun _ a ea => hk a ea
theorem ird_J75 {k11 : MS → Int32 → Int32 → Int32 → Prop} {v1 v2 v3 v4 : Int32} (g : ShC B S) (rv : RvK S (qO S 66 0)) (hj : 0 ≤ v3.toInt ∧ v3.toInt < (fX8_targetCount S (qO S 66 0) v1).toInt) (hk : ∀ a : Int32, a = v3 + Int32.ofInt 1 → k11 S v1 v2 a) : w_X9_isRedirected_J75 (fun _ u => SmL B S u (qO S 66 0)) k11 S v1 v2 v3 v4 := by
  unfold w_X9_isRedirected_J75
  intro w
  have k := k66 w
  exact ⟨dd_X8_targetAt w g k, fun _ => ird_J117 hk, fun _ => ⟨dd_X8_opAt w g k, fun _ => ird_J117 hk, fun _ k' => ⟨_, sp_setTarget w g k' rv hj, fun S29 q _ _ => q.sl⟩⟩⟩
theorem ird_L30 {k11 : MS → Int32 → Int32 → Int32 → Prop} {v1 v2 v3 : Int32} (g : ShC B S) (rv : RvK S (qO S 66 0)) (hj : 0 ≤ v3.toInt ∧ v3.toInt < (fX8_targetCount S (qO S 66 0) v1).toInt) (hk : ∀ a : Int32, a = v3 + Int32.ofInt 1 → k11 S v1 v2 a) : ∀ (n : Nat) {v4 v5 : Int32}, 2147483648 - v5.toInt < n → w_X9_isRedirected_L30 (fun _ u => SmL B S u (qO S 66 0)) k11 n S v1 v2 v3 v4 v5 := by
  intro n
  induction n with
  | zero => intro v4 v5 hm; have := rgI v5; omega
  | succ n ih =>
    intro v4 v5 hm
    unfold w_X9_isRedirected_L30
    intro w
    have k := k66 w
    have R2 := (g.row k).2
    refine ⟨dd_X8_opAt w g k, fun _ => ⟨fun _ => ird_J75 g rv hj hk, fun c => ⟨dd_X8_targetAt w g k, fun a38 _ a39 ea => ?_⟩⟩, fun _ => ird_J75 g rv hj hk⟩
    have e := t_inc ea (by omega)
    exact ih (by omega)
theorem ird_L11 {v1 v2 : Int32} (g : ShC B S) (rv : RvK S (qO S 66 0)) (h2 : v2 = fX8_targetCount S (qO S 66 0) v1) : ∀ (n : Nat) {v3 : Int32}, 0 ≤ v3.toInt → 2147483648 - v3.toInt < n → w_X9_isRedirected_L11 (fun _ u => SmL B S u (qO S 66 0)) n S v1 v2 v3 := by
  intro n
  induction n with
  | zero => intro v3 _ hm; have := rgI v3; omega
  | succ n ih =>
    intro v3 h0 hm
    unfold w_X9_isRedirected_L11
    intro w
    have k := k66 w
    refine ⟨fun _ => SmL.rf g rv, fun c => ⟨dd_X8_targetAt w g k, fun a11 _ => ⟨2147483649, ird_L30 g rv ⟨h0, by rw [← h2]; omega⟩ (fun a ea => ?_) _ (by rw [li_0k]; decide)⟩⟩⟩
    have r := rgI v2
    have e := t_inc ea (by omega)
    exact ih (by omega) (by omega)
theorem sp_isRedirected {i : Int32} (w : wfC S) (g : ShC B S) (rv : RvK S (qO S 66 0)) : wX9_isRedirected S i (fun _ u => SmL B S u (qO S 66 0)) := by
  unfold wX9_isRedirected
  exact ⟨dd_X8_targetCount w g (k66 w), fun a5 e5 => ⟨2147483649, ird_L11 g rv e5 _ (by decide) (by rw [li_0k]; decide)⟩⟩
theorem no_sw {o : Int32} (h : ¬ (o.toInt = 170 ∨ o.toInt = 171)) : ¬ swO o := h
/-- a push, and what stands behind it, become one push -/
theorem sp_fold {Q : Int32 → MS → Prop} {i n kd : Int32} {y : Int64} (w : wfC S) (g : ShC B S) (rv : RvK S (qO S 66 0)) (hn : 1 ≤ n.toInt ∧ n.toInt ≤ 2) (hi : 0 ≤ i.toInt ∧ i.toInt + n.toInt + 1 < (qI S (qO S 66 0) 2).toInt) (hp : (fX8_opAt S (qO S 66 0) i).toInt = 17 ∨ (fX8_opAt S (qO S 66 0) i).toInt = 20) (h3 : 3 ≤ rW (rOp S (qO S 66 0) (i.toInt.toNat + 1)).toInt (rAr S (qO S 66 0) (i.toInt.toNat + 1))) (hQ : ∀ v : MS, SmL B S v (qO S 66 0) → Q 1 v) : ∃ Q67, wX9_putPush S i kd y Q67 ∧ ∀ S68, Q67 S68 → wfC S68 → shy S S68 → (qT S68 (qO S68 66 0) = 47 → (∃ Q72, wX8_remove S68 (qO S68 66 0) (i + (1 : Int32)) n Q72 ∧ ∀ S73, Q72 S73 → wfC S73 → shy S68 S73 → Q (1 : Int32) S73)) := by
  have R2 := (g.row (k66 w)).2
  rw [rv_op hi.1 (by omega)] at hp
  refine ⟨_, sp_putPush w g rv (by omega) (no_sw (by omega)), fun S68 q68 w68 _ k68 => ?_⟩
  obtain ⟨x, hx, st⟩ := q68
  have e : qO S68 66 0 = qO S 66 0 := st.2.2.2.2
  have c2 : qI S68 (qO S 66 0) 2 = qI S (qO S 66 0) 2 := st.2.1 2
  have e1 : (i + (1 : Int32)).toInt = i.toInt + 1 := by rw [t_addk (by rw [li_1k]; omega), li_1k]
  rw [e] at k68 ⊢
  refine ⟨_, sp_remove w68 st.1.1 k68 st.2.2.1 (by omega) (by rw [c2, e1]; omega), fun S73 q73 _ _ => hQ S73 ?_⟩
  rw [show (i + (1 : Int32)).toInt.toNat = i.toInt.toNat + 1 by omega] at q73
  refine st.rm q73 (by omega) ?_
  have a := (rW_p (a := y) hx).2
  have b := (rW_p (a := rAr S (qO S 66 0) i.toInt.toNat) hp).1
  have c := rWs_mo (S := S) (p := qO S 66 0) (i := i.toInt.toNat + 1 + 1) (n.toInt.toNat - 1)
  rw [show i.toInt.toNat + 1 + 1 + (n.toInt.toNat - 1) = i.toInt.toNat + 1 + n.toInt.toNat by omega] at c
  have d : rWs S (qO S 66 0) (i.toInt.toNat + 1 + 1) = rWs S (qO S 66 0) (i.toInt.toNat + 1) + rW (rOp S (qO S 66 0) (i.toInt.toNat + 1)).toInt (rAr S (qO S 66 0) (i.toInt.toNat + 1)) := rfl
  omega
theorem fo_J91 {i o : Int32} (g : ShC B S) (rv : RvK S (qO S 66 0)) (hi : 0 ≤ i.toInt ∧ i.toInt + 3 < (qI S (qO S 66 0) 2).toInt) (hp : (fX8_opAt S (qO S 66 0) i).toInt = 17 ∨ (fX8_opAt S (qO S 66 0) i).toInt = 20) (hp' : (fX8_opAt S (qO S 66 0) (i + 1)).toInt = 17 ∨ (fX8_opAt S (qO S 66 0) (i + 1)).toInt = 20) : w_X9_isFolded_J91 (fun _ u => SmL B S u (qO S 66 0)) S i o := by
  unfold w_X9_isFolded_J91
  intro w
  have k := k66 w
  have R2 := (g.row k).2
  have e1 : (i + (1 : Int32)).toInt = i.toInt + 1 := by rw [t_addk (by rw [li_1k]; omega), li_1k]
  rw [rv_op (by omega) (by omega), show (i + (1 : Int32)).toInt.toNat = i.toInt.toNat + 1 by omega] at hp'
  exact ⟨dd_X6_gives, fun a51 _ => ⟨dd_X8_argAt w g k, fun a56 _ => ⟨dd_X8_argAt w g k, fun a62 _ => ⟨dd_X6_binary w g, fun a66 _ => sp_fold (Q := fun _ u => SmL B S u (qO S 66 0)) (n := 2) w g rv (by decide) (by rw [li_2k]; omega) hp (rW_p hp').1 (fun v h => h)⟩⟩⟩⟩
theorem sp_isFolded {i : Int32} (w : wfC S) (g : ShC B S) (rv : RvK S (qO S 66 0)) (hi : i.toInt ≤ 50000) : wX9_isFolded S i (fun _ u => SmL B S u (qO S 66 0)) := by
  have k := k66 w
  have rf : SmL B S S (qO S 66 0) := SmL.rf g rv
  have e3 : 0 ≤ i.toInt → (i + (3 : Int32)).toInt = i.toInt + 3 := fun h => by rw [t_addk (by rw [li_3k]; omega), li_3k]
  unfold wX9_isFolded
  refine ⟨dd_X8_opAt w g k, fun a6 _ => ⟨dd_X6_isBinary, fun a10 _ => ⟨fun _ => rf, fun _ => ⟨dd_X9_pushKind w g, fun a15 e15 => ⟨fun _ => rf, fun c15 => ⟨dd_X9_pushKind w g, fun a21 e21 => ⟨fun _ => rf, fun c21 => ⟨dd_X9_isWindow w g (by decide) (by decide) (by omega), fun a26 e26 => ⟨fun _ => rf, fun c26 => ?_⟩⟩⟩⟩⟩⟩⟩⟩⟩
  rw [e15] at c15
  rw [e21] at c21
  rw [e26] at c26
  obtain ⟨w1, w2⟩ := wn_of c26
  have J : w_X9_isFolded_J91 (fun _ u => SmL B S u (qO S 66 0)) S i a6 := fo_J91 g rv ⟨w1, by rw [e3 w1] at w2; exact w2⟩ (pk_op c15) (pk_op c21)
  exact ⟨dd_X6_takes, fun a31 _ => ⟨dd_X9_pushKind w g, fun a35 _ => ⟨dd_X9_pushKind w g, fun a41 _ => ⟨fun _ => ⟨dd_X6_isDivision, fun a47 _ => ⟨fun _ => J, fun _ => ⟨dd_X8_argAt w g k, fun a81 _ => ⟨fun _ => rf, fun _ => J⟩⟩⟩⟩, fun _ => rf⟩⟩⟩⟩
theorem stTK_u : ∀ k : Nat, k < 202 → (k = 116 ∨ k = 117 ∨ k = 133 ∨ k = 136 ∨ (145 ≤ k ∧ k ≤ 147)) → ¬ (stTK.getD k 0).toInt = 0 := by decide +kernel
theorem un_of (h : ¬ (fX6_isUnary S x).toInt = 0) : x.toInt = 116 ∨ x.toInt = 117 ∨ x.toInt = 133 ∨ x.toInt = 136 ∨ (145 ≤ x.toInt ∧ x.toInt ≤ 147) := by
  by_cases a : x.toInt = 116 ∨ x.toInt = 117 ∨ x.toInt = 133 ∨ x.toInt = 136 ∨ (145 ≤ x.toInt ∧ x.toInt ≤ 147)
  · exact a
  · unfold fX6_isUnary at h
    rw [if_neg (by omega), if_neg (by omega), if_neg (by omega), if_neg (by omega)] at h
    by_cases b : x.toInt < 145
    · rw [if_pos b] at h; exact absurd rfl h
    · rw [if_neg b, if_pos (by omega)] at h; exact absurd rfl h
theorem tk_u (h : x.toInt = 116 ∨ x.toInt = 117 ∨ x.toInt = 133 ∨ x.toInt = 136 ∨ (145 ≤ x.toInt ∧ x.toInt ≤ 147)) : ¬ (fX6_takes S x).toInt = 0 := by
  unfold fX6_takes
  rw [if_neg (by omega), if_pos (by omega)]
  exact stTK_u _ (by omega) (by omega)
theorem sp_isUnaryFolded {i : Int32} (w : wfC S) (g : ShC B S) (rv : RvK S (qO S 66 0)) (hi : i.toInt ≤ 50000) : wX9_isUnaryFolded S i (fun _ u => SmL B S u (qO S 66 0)) := by
  have k := k66 w
  have R2 := (g.row k).2
  have rf : SmL B S S (qO S 66 0) := SmL.rf g rv
  have e2 : 0 ≤ i.toInt → (i + (2 : Int32)).toInt = i.toInt + 2 := fun h => by rw [t_addk (by rw [li_2k]; omega), li_2k]
  have e1 : 0 ≤ i.toInt → (i + (1 : Int32)).toInt = i.toInt + 1 := fun h => by rw [t_addk (by rw [li_1k]; omega), li_1k]
  unfold wX9_isUnaryFolded
  refine ⟨dd_X8_opAt w g k, fun a6 e6 => ⟨dd_X6_isUnary, fun a10 e10 => ⟨fun _ => rf, fun c10 => ⟨dd_X9_pushKind w g, fun a15 e15 => ⟨dd_X6_takes, fun a19 e19 => ⟨fun c19 => ⟨dd_X9_isWindow w g (by decide) (by decide) (by omega), fun a24 e24 => ⟨fun _ => rf, fun c24 => ⟨dd_X6_gives, fun a29 _ => ⟨dd_X8_argAt w g k, fun a34 _ => ⟨dd_X6_unary, fun a38 _ => ?_⟩⟩⟩⟩⟩, fun _ => rf⟩⟩⟩⟩⟩⟩
  rw [e10] at c10
  have un := un_of c10
  have tk := tk_u (S := S) un
  rw [← e19, ← c19, e15] at tk
  rw [e24] at c24
  obtain ⟨w1, w2⟩ := wn_of c24
  rw [e2 w1] at w2
  have ei := e1 w1
  rw [e6, rv_op (by omega) (by omega), show (i + (1 : Int32)).toInt.toNat = i.toInt.toNat + 1 by omega] at un
  refine sp_fold (Q := fun _ u => SmL B S u (qO S 66 0)) (n := 1) w g rv (by decide) (by rw [li_1k]; omega) (pk_op tk) ?_ (fun v h => h)
  rw [rW_n (by omega), aW_o (by omega) (by omega)]
  exact Int.le_refl _
end SR
/-! Smith's rules: jumps, stores -/
section SS
variable {B : Nat × Nat} {S u v U : MS} {x : Int32}
theorem op_in {p : Nat} (h : ¬ (fX8_opAt S p x).toInt = -1) : 0 ≤ x.toInt ∧ x.toInt < (qI S p 2).toInt := by
  by_cases z : 0 ≤ x.toInt ∧ x.toInt < (qI S p 2).toInt
  · exact z
  · rw [rv_op0 z] at h; exact absurd (by decide) h
theorem jd_J113 {t0 t1 t2 i n : Int32} (g : ShC B S) (rv : RvK S (qO S 66 0)) (hn : 2 ≤ n.toInt ∧ n.toInt ≤ 3) (hi : 0 ≤ i.toInt ∧ i.toInt + n.toInt < (qI S (qO S 66 0) 2).toInt) (hp : (rOp S (qO S 66 0) i.toInt.toNat).toInt = 17 ∨ (rOp S (qO S 66 0) i.toInt.toNat).toInt = 20) (hj : 153 ≤ (rOp S (qO S 66 0) (i.toInt.toNat + (n.toInt.toNat - 1))).toInt ∧ (rOp S (qO S 66 0) (i.toInt.toNat + (n.toInt.toNat - 1))).toInt ≤ 167) : w_X9_isJumpDecided_J113 (fun _ u => SmL B S u (qO S 66 0)) S t0 t1 t2 i n := by
  unfold w_X9_isJumpDecided_J113
  intro w
  have k := k66 w
  have R2 := (g.row k).2
  refine ⟨dd_X6_isTaken, fun _ k' => ⟨_, sp_remove w g k' rv (by omega) (by omega), fun S33 q _ _ => q.sl⟩, fun _ => ⟨dd_X8_argAt w g k, fun k' => ⟨_, sp_set9 w g k' rv (by omega) (no_sw (by omega)) (no_sw (by decide)), fun S43 st w43 _ k43 => ?_⟩⟩⟩
  have e : qO S43 66 0 = qO S 66 0 := st.2.2.2.2
  have c2 : qI S43 (qO S 66 0) 2 = qI S (qO S 66 0) 2 := st.2.1 2
  have e1 : (i + (1 : Int32)).toInt = i.toInt + 1 := by rw [t_addk (by rw [li_1k]; omega), li_1k]
  have en : (n - (1 : Int32)).toInt = n.toInt - 1 := by rw [t_subk (by rw [li_1k]; omega), li_1k]
  rw [e] at k43 ⊢
  refine ⟨_, sp_remove w43 st.1.1 k43 st.2.2.1 (by omega) (by rw [c2, e1, en]; omega), fun S49 q49 _ _ => ?_⟩
  rw [show (i + (1 : Int32)).toInt.toNat = i.toInt.toNat + 1 by omega, show (n - (1 : Int32)).toInt.toNat = n.toInt.toNat - 1 by omega] at q49
  refine st.rm q49 (by omega) ?_
  have a := (rW_rg (o := (rOp S (qO S 66 0) i.toInt.toNat).toInt) (a := rAr S (qO S 66 0) i.toInt.toNat)).1
  have c := rWs_mo (S := S) (p := qO S 66 0) (i := i.toInt.toNat + 1) (n.toInt.toNat - 2)
  rw [show i.toInt.toNat + 1 + (n.toInt.toNat - 2) = i.toInt.toNat + (n.toInt.toNat - 1) by omega] at c
  have d : rWs S (qO S 66 0) (i.toInt.toNat + (n.toInt.toNat - 1) + 1) = rWs S (qO S 66 0) (i.toInt.toNat + (n.toInt.toNat - 1)) + rW (rOp S (qO S 66 0) (i.toInt.toNat + (n.toInt.toNat - 1))).toInt (rAr S (qO S 66 0) (i.toInt.toNat + (n.toInt.toNat - 1))) := rfl
  rw [show i.toInt.toNat + (n.toInt.toNat - 1) + 1 = i.toInt.toNat + 1 + (n.toInt.toNat - 1) by omega, rW_n (o := (rOp S (qO S 66 0) (i.toInt.toNat + (n.toInt.toNat - 1))).toInt) (by omega), aW_j (Or.inl hj)] at d
  rw [rW_n (o := (167 : Int32).toInt) (by decide), aW_j (Or.inl (by decide))]
  omega
theorem jd_J55 {t i n o : Int32} (g : ShC B S) (rv : RvK S (qO S 66 0)) (ht : t.toInt = 159 ∨ t.toInt = 153) (hn : 2 ≤ n.toInt ∧ n.toInt ≤ 3) (h5 : i.toInt ≤ 50000) (ho : o = fX8_opAt S (qO S 66 0) ((i + n) - (1 : Int32))) (hp : (fX8_opAt S (qO S 66 0) i).toInt = 17) : w_X9_isJumpDecided_J55 (fun _ u => SmL B S u (qO S 66 0)) S t i n o := by
  unfold w_X9_isJumpDecided_J55
  intro w
  have k := k66 w
  have rf : SmL B S S (qO S 66 0) := SmL.rf g rv
  have e6 : (t + (6 : Int32)).toInt = t.toInt + 6 := by rw [t_addk (by rw [show (6 : Int32).toInt = 6 from by decide]; omega), show (6 : Int32).toInt = 6 from by decide]
  refine ⟨fun _ => rf, fun c1 => ⟨fun _ => rf, fun c2 => ⟨dd_X9_isWindow w g (by omega) (by omega) (by omega), fun _ => rf, fun cw => ?_⟩⟩⟩
  obtain ⟨w1, w2⟩ := wn_of cw
  have es : (i + n).toInt = i.toInt + n.toInt := t_addk (by omega)
  have em : ((i + n) - (1 : Int32)).toInt = i.toInt + n.toInt - 1 := by rw [t_subk (by rw [li_1k]; omega), li_1k, es]
  rw [es] at w2
  rw [rv_op (by omega) (by omega)] at hp
  rw [rv_op (by omega) (by omega), show ((i + n) - (1 : Int32)).toInt.toNat = i.toInt.toNat + (n.toInt.toNat - 1) by omega] at ho
  rw [ho] at c1 c2
  have J : ∀ a b c : Int32, w_X9_isJumpDecided_J113 (fun _ u => SmL B S u (qO S 66 0)) S a b c i n := fun a b c => jd_J113 g rv hn ⟨w1, w2⟩ (Or.inl hp) (by omega)
  exact ⟨dd_X8_argAt w g k, fun _ => ⟨dd_X8_argAt w g k, J _ _ _⟩, fun _ => J _ _ _⟩
theorem sp_isJumpDecided {i : Int32} (w : wfC S) (g : ShC B S) (rv : RvK S (qO S 66 0)) (hi : i.toInt ≤ 50000) : wX9_isJumpDecided S i (fun _ u => SmL B S u (qO S 66 0)) := by
  have k := k66 w
  have rf : SmL B S S (qO S 66 0) := SmL.rf g rv
  have J27 : ∀ n : Int32, 2 ≤ n.toInt ∧ n.toInt ≤ 3 → (fX8_opAt S (qO S 66 0) i).toInt = 17 → w_X9_isJumpDecided_J27 (fun _ u => SmL B S u (qO S 66 0)) S n i := fun n hn hp => by
    unfold w_X9_isJumpDecided_J27
    exact fun _ => ⟨dd_X8_opAt w g k, fun a15 e15 => ⟨fun _ => jd_J55 g rv (by decide) hn hi e15 hp, fun _ => jd_J55 g rv (by decide) hn hi e15 hp⟩⟩
  unfold wX9_isJumpDecided
  refine ⟨dd_X9_pushKind w g, fun c => ?_, fun _ => rf⟩
  have hp : (fX8_opAt S (qO S 66 0) i).toInt = 17 := by
    unfold fX9_pushKind at c
    by_cases z : (fX8_opAt S (qO S 66 0) i).toInt = 17
    · exact z
    · rw [if_neg z] at c
      by_cases y : (fX8_opAt S (qO S 66 0) i).toInt = 20
      · rw [if_pos y] at c; exact absurd c (by decide)
      · rw [if_neg y] at c; exact absurd c (by decide)
  exact ⟨dd_X9_pushKind w g, fun _ => J27 3 (by decide) hp, fun _ => J27 2 (by decide) hp⟩
theorem ds_J76 {i t : Int32} (g : ShC B S) (rv : RvK S (qO S 66 0)) (ht : t.toInt = 88 ∨ t.toInt = 87) (hs : (fX8_opAt S (qO S 66 0) i).toInt = 54 ∨ (fX8_opAt S (qO S 66 0) i).toInt = 55 ∨ (fX8_opAt S (qO S 66 0) i).toInt = 58) : w_X9_isDeadStoreDone_J76 (fun _ u => SmL B S u (qO S 66 0)) S t i (qO S 66 0) := by
  unfold w_X9_isDeadStoreDone_J76
  intro w _ k
  have h := op_in (S := S) (p := qO S 66 0) (x := i) (by omega)
  rw [rv_op h.1 h.2] at hs
  refine ⟨_, sp_set9 w g k rv h (no_sw (by omega)) (no_sw (by omega)), fun S18 st _ _ => st.sl (by omega) ?_⟩
  rw [rW_n (o := t.toInt) (by omega), aW_o (by omega) (by omega), rW_n (by omega)]
  unfold aW
  repeat' split
  all_goals omega
theorem ds_J23 {i o : Int32} (g : ShC B S) (rv : RvK S (qO S 66 0)) (eo : o = fX8_opAt S (qO S 66 0) i) (hs : o.toInt = 132 ∨ o.toInt = 54 ∨ o.toInt = 55 ∨ o.toInt = 58) : w_X9_isDeadStoreDone_J23 (fun _ u => SmL B S u (qO S 66 0)) S i o := by
  unfold w_X9_isDeadStoreDone_J23
  intro w
  refine ⟨_, frX9_liveBehind w (sgX9_liveBehind w g), fun r7 S8 q w8 s8 => ?_⟩
  obtain ⟨⟨g8, _⟩, f8⟩ := q
  have k := k66 w
  have e : qO S8 66 0 = qO S 66 0 := qO_eq (f8.kO (w.2.1 _ finC_31).2.1 (by decide) (by decide))
  have m := rSm.fr w k (g.row k) f8 rfl rfl rfl
  have s : SmL B S S8 (qO S 66 0) := SmL.sm g8 f8.1 (rfr.of f8 rfl rfl) m rv
  have rv8 : RvK S8 (qO S8 66 0) := by rw [e]; exact s.2.2.1
  have h := op_in (S := S) (p := qO S 66 0) (x := i) (by rw [← eo]; omega)
  have eo8 : o = fX8_opAt S8 (qO S8 66 0) i := by
    rw [e, rv_op h.1 (by rw [m.1.1]; exact h.2), m.xOp, ← rv_op h.1 h.2]; exact eo
  have tr : ∀ {v : MS}, SmL B S8 v (qO S8 66 0) → SmL B S v (qO S 66 0) := fun {v} z => by rw [e] at z; exact s.tr z
  refine ⟨dd_X9_localBits w8 g8, fun _ => ⟨fun _ k8 => ⟨_, sp_remove w8 g8 k8 rv8 (by decide) (by rw [e, m.1.1, li_1k]; omega), fun S23 q23 _ _ => tr q23.sl⟩, fun c => ⟨fun _ => ?_, fun _ => ?_⟩⟩, fun _ => s⟩
  all_goals
    have J := fun (t : Int32) (ht : t.toInt = 88 ∨ t.toInt = 87) => ds_J76 (B := B) (S := S8) (i := i) (t := t) g8 rv8 ht (by rw [← eo8]; omega)
  · have := J 88 (by decide)
    unfold w_X9_isDeadStoreDone_J76 at this ⊢
    intro a b c
    obtain ⟨Q, q1, q2⟩ := this a b c
    exact ⟨Q, q1, fun S18 x1 x2 x3 => tr (q2 S18 x1 x2 x3)⟩
  · have := J 87 (by decide)
    unfold w_X9_isDeadStoreDone_J76 at this ⊢
    intro a b c
    obtain ⟨Q, q1, q2⟩ := this a b c
    exact ⟨Q, q1, fun S18 x1 x2 x3 => tr (q2 S18 x1 x2 x3)⟩
theorem sp_isDeadStoreDone {i : Int32} (w : wfC S) (g : ShC B S) (rv : RvK S (qO S 66 0)) : wX9_isDeadStoreDone S i (fun _ u => SmL B S u (qO S 66 0)) := by
  have k := k66 w
  have rf : SmL B S S (qO S 66 0) := SmL.rf g rv
  unfold wX9_isDeadStoreDone
  refine ⟨dd_X8_opAt w g k, fun a5 e5 => ⟨fun c => ds_J23 g rv e5 (by omega), fun _ => ⟨dd_X6_isStore, fun _ => rf, fun c => ds_J23 g rv e5 ?_⟩⟩⟩
  unfold fX6_isStore at c
  by_cases a : a5.toInt = 54
  · omega
  · by_cases b : a5.toInt = 55
    · omega
    · by_cases d : a5.toInt = 58
      · omega
      · rw [if_neg a, if_neg b, if_neg d] at c; exact absurd rfl c
end SS
/-! Smith goes through its Row -/
section SD
variable {B : Nat × Nat} {S u v U V : MS} {x : Int32}
theorem sp_isDone {r i : Int32} (w : wfC S) (g : ShC B S) (rv : RvK S (qO S 66 0)) (hi : i.toInt ≤ 50000) : wX9_isDone S r i (fun _ u => SmL B S u (qO S 66 0)) := by
  have k := k66 w
  have rf : SmL B S S (qO S 66 0) := SmL.rf g rv
  have J1 : ∀ {U : MS}, SmL B S U (qO S 66 0) → w_X9_isDone_J115 (fun _ u => SmL B S u (qO S 66 0)) U := fun {U} h => by unfold w_X9_isDone_J115; exact fun _ => h
  have J2 : ∀ {U : MS}, SmL B S U (qO S 66 0) → w_X9_isDone_J141 (fun _ u => SmL B S u (qO S 66 0)) U := fun {U} h => by unfold w_X9_isDone_J141; exact fun _ => h
  have J3 : ∀ {U : MS}, SmL B S U (qO S 66 0) → w_X9_isDone_J191 (fun _ u => SmL B S u (qO S 66 0)) U := fun {U} h => by unfold w_X9_isDone_J191; exact fun _ => h
  have J4 : ∀ {U : MS}, SmL B S U (qO S 66 0) → w_X9_isDone_J223 (fun _ u => SmL B S u (qO S 66 0)) U := fun {U} h => by unfold w_X9_isDone_J223; exact fun _ => h
  have J5 : ∀ {U : MS}, SmL B S U (qO S 66 0) → w_X9_isDone_J255 (fun _ u => SmL B S u (qO S 66 0)) U := fun {U} h => by unfold w_X9_isDone_J255; exact fun _ => h
  have wn : ¬ (fX9_isWindow S i 2).toInt = 0 → 0 ≤ i.toInt ∧ i.toInt + (2 : Int32).toInt ≤ (qI S (qO S 66 0) 2).toInt := fun c => by
    obtain ⟨w1, w2⟩ := wn_of c
    rw [t_addk (by rw [li_2k]; omega)] at w2
    omega
  have dw : d_X9_isWindow S i 2 := dd_X9_isWindow w g (by decide) (by decide) (by omega)
  unfold wX9_isDone
  refine ⟨fun _ => ⟨_, sp_isRedirected w g rv, fun r u q _ _ => q⟩, fun _ => ⟨fun _ => ⟨fun _ => ⟨dd_X8_opAt w g k, fun c => ⟨dd_X8_argAt w g k, fun _ => ?_, fun _ => J1 rf⟩, fun _ => J1 rf⟩, fun _ => ⟨fun _ => ⟨dd_X8_opAt w g k, fun c => ?_, fun _ => J2 rf⟩, fun _ => ⟨fun _ => ⟨_, sp_isFolded w g rv hi, fun r u q _ _ => q⟩, fun _ => ⟨fun _ => ⟨_, sp_isUnaryFolded w g rv hi, fun r u q _ _ => q⟩, fun _ => ⟨fun _ => ⟨_, sp_isJumpDecided w g rv hi, fun r u q _ _ => q⟩, fun _ => ⟨fun _ => ⟨dw, fun _ => J3 rf, fun c => ⟨dd_X9_isNeutral w g, fun _ => J3 rf, fun _ => ?_⟩⟩, fun _ => ⟨fun _ => ⟨dw, fun _ => J4 rf, fun c => ⟨dd_X9_isPopped w g, fun _ => J4 rf, fun _ => ?_⟩⟩, fun _ => ⟨fun _ => ⟨dw, fun _ => J5 rf, fun c => ⟨_, frX9_isPassedOn w (sgX9_isPassedOn w g), fun r75 S76 q w76 s76 => ?_⟩⟩, fun _ => ⟨_, sp_isDeadStoreDone w g rv, fun r u q _ _ => q⟩⟩⟩⟩⟩⟩⟩⟩⟩, fun _ => rf⟩⟩
  · have h := op_in (S := S) (p := qO S 66 0) (x := i) (by omega)
    exact ⟨_, sp_isDropped w g rv (by decide) (by rw [li_1k]; omega), fun r u q _ _ => ⟨fun _ => J1 q, fun _ => q⟩⟩
  · have h := op_in (S := S) (p := qO S 66 0) (x := i) (by omega)
    exact ⟨_, sp_isDropped w g rv (by decide) (by rw [li_1k]; omega), fun r u q _ _ => ⟨fun _ => J2 q, fun _ => q⟩⟩
  · exact ⟨_, sp_isDropped w g rv (by decide) (wn c), fun r u q _ _ => ⟨fun _ => J3 q, fun _ => q⟩⟩
  · exact ⟨_, sp_isDropped w g rv (by decide) (wn c), fun r u q _ _ => ⟨fun _ => J4 q, fun _ => q⟩⟩
  · obtain ⟨⟨g8, _⟩, f8⟩ := q
    have e : qO S76 66 0 = qO S 66 0 := qO_eq (f8.kO (w.2.1 _ finC_31).2.1 (by decide) (by decide))
    have m := rSm.fr w k (g.row k) f8 rfl rfl rfl
    have s : SmL B S S76 (qO S 66 0) := SmL.sm g8 f8.1 (rfr.of f8 rfl rfl) m rv
    have rv8 : RvK S76 (qO S76 66 0) := by rw [e]; exact s.2.2.1
    have tr : ∀ {v : MS}, SmL B S76 v (qO S76 66 0) → SmL B S v (qO S 66 0) := fun {v} z => by rw [e] at z; exact s.tr z
    refine ⟨fun _ => J5 s, fun _ => ⟨_, sp_isDropped w76 g8 rv8 (by decide) (by rw [e, m.1.1]; exact wn c), fun r u q _ _ => ⟨fun _ => J5 (tr q), fun _ => tr q⟩⟩⟩
/-- the Row of Smith is the same one, and no heavier -/
def SgIk (B : Nat × Nat) (S U : MS) : Prop := qO U 66 0 = qO S 66 0 ∧ SmL B S U (qO S 66 0)
theorem SgIk.g (h : SgIk B S U) : ShC B U := h.2.1.1
theorem SgIk.rv (h : SgIk B S U) : RvK U (qO U 66 0) := by rw [h.1]; exact h.2.2.2.1
theorem SgIk.rf (g : ShC B S) (rv : RvK S (qO S 66 0)) : SgIk B S S := ⟨rfl, SmL.rf g rv⟩
theorem SgIk.tr (h : SgIk B S U) (k : SgIk B U V) : SgIk B S V := ⟨k.1.trans h.1, by have := k.2; rw [h.1] at this; exact h.2.tr this⟩
theorem SgIk.sm {K : List Nat} {F : List (Nat × Nat)} (h : SgIk B S U) (w : wfC U) (g : ShC B V) (f : cfr K F U V) (e : qO V 66 0 = qO U 66 0) (a1 : okM K = true) (a2 : okL LMr F = true) (a3 : okO F = true) (a4 : K.all (fun x => !rowA x) = true) (a5 : F.all (fun x => !rowA x.1) = true) : SgIk B S V :=
  h.tr ⟨e, SmL.sm g f.1 (rfr.of f a4 a5) (rSm.fr w (k66 w) (h.g.row (k66 w)) f a1 a2 a3) h.rv⟩
theorem SgIk.ap {i : Nat} {y : Int32} (h : SgIk B S U) (w : wfC U) (k : qT U 75 = 228) (e : V = wI U 75 i y) : SgIk B S V := by
  have f : cfr [228] [] U V := by rw [e]; exact cfr.aI k rfl
  exact h.sm w (ShC.ws w h.g f (by rw [e]; rfl) (by rw [e]; rfl) (by rw [e]; rfl) rfl rfl) f (by rw [e]; rfl) rfl rfl rfl rfl rfl
theorem gt_J68 {Q : Int32 → MS → Prop} {k10 : MS → Int32 → Int32 → Int32 → Int32 → Int32 → Prop} {r v2 v4 v5 : Int32} (h : SgIk B S U) (hr : 1 ≤ r.toInt ∧ r.toInt ≤ 11) (h4 : v4.toInt ≤ 50000) (hk : ∀ (V : MS) (a2 a3 a4 a : Int32), SgIk B S V → a = v5 + Int32.ofInt 1 → k10 V r a2 a3 a4 a) : w_X9_goThrough_J68 Q k10 U r v2 v4 v5 := by
  unfold w_X9_goThrough_J68
  intro w _
  refine ⟨_, frX9_isDone w (sp_isDone w h.g h.rv h4), fun r5 S6 q w6 s6 => ?_⟩
  have e : qO S6 66 0 = qO U 66 0 := qO_eq (q.2.kO (w.2.1 _ finC_31).2.1 (by decide) (by decide))
  have h6 : SgIk B S S6 := h.tr ⟨e, q.1⟩
  refine ⟨fun _ a10 _ => ?_, fun _ => ⟨by omega, by omega, fun S15 e15 k15 w15 => ?_⟩⟩
  · unfold w_X9_goThrough_J98
    exact fun _ _ _ a ea => hk S6 _ _ _ a h6 ea
  · unfold w_X9_goThrough_J98
    exact fun _ _ _ a ea => hk S15 _ _ _ a (h6.ap w6 k15 e15) ea
theorem gt_J49 {Q : Int32 → MS → Prop} {k10 : MS → Int32 → Int32 → Int32 → Int32 → Int32 → Prop} {r v2 v3 v4 v5 : Int32} (h : SgIk B S U) (hr : 1 ≤ r.toInt ∧ r.toInt ≤ 11) (h4 : v4.toInt ≤ 50000) (hk : ∀ (V : MS) (a2 a3 a4 a : Int32), SgIk B S V → a = v5 + Int32.ofInt 1 → k10 V r a2 a3 a4 a) : w_X9_goThrough_J49 Q k10 U r v2 v3 v4 v5 := by
  unfold w_X9_goThrough_J49
  intro w _ _
  refine ⟨fun _ => gt_J68 h hr h4 hk, fun _ => ⟨fun _ => gt_J68 h hr h4 hk, fun _ => ⟨fun _ => gt_J68 h hr h4 hk, fun _ => ⟨_, frX9_findMarked w (sgX9_findMarked w h.g), fun S20 q w20 _ => ?_⟩⟩⟩⟩
  have e : qO S20 66 0 = qO U 66 0 := qO_eq (q.2.kO (w.2.1 _ finC_31).2.1 (by decide) (by decide))
  exact gt_J68 (h.sm w q.1.1 q.2 e rfl rfl rfl rfl rfl) hr h4 hk
theorem gt_J45 {Q : Int32 → MS → Prop} {k10 : MS → Int32 → Int32 → Int32 → Int32 → Int32 → Prop} {r v2 v3 v4 v5 : Int32} (h : SgIk B S U) (hr : 1 ≤ r.toInt ∧ r.toInt ≤ 11) (h4 : v4.toInt ≤ 50000) (hk : ∀ (V : MS) (a2 a3 a4 a : Int32), SgIk B S V → a = v5 + Int32.ofInt 1 → k10 V r a2 a3 a4 a) : w_X9_goThrough_J45 Q k10 U r v2 v3 v4 v5 := by
  unfold w_X9_goThrough_J45
  intro w _ _
  refine ⟨_, frX9_findLive w (sgX9_findLive w h.g), fun S24 q w24 _ => ?_⟩
  have e : qO S24 66 0 = qO U 66 0 := qO_eq (q.2.kO (w.2.1 _ finC_31).2.1 (by decide) (by decide))
  exact gt_J49 (h.sm w q.1.1 q.2 e rfl rfl rfl rfl rfl) hr h4 hk
theorem gt_L10 {r : Int32} (hr : 1 ≤ r.toInt ∧ r.toInt ≤ 11) : ∀ (n : Nat) {U : MS} {v2 v3 v4 v5 : Int32}, SgIk B S U → 2147483648 - v5.toInt < n → w_X9_goThrough_L10 (fun _ u => SgIk B S u) n U r v2 v3 v4 v5 := by
  intro n
  induction n with
  | zero => intro U v2 v3 v4 v5 _ hm; have := rgI v5; omega
  | succ n ih =>
    intro U v2 v3 v4 v5 h hm
    unfold w_X9_goThrough_L10
    intro w _ _
    have R2 := (h.g.row (k66 w)).2
    refine ⟨fun _ => h, fun c => ⟨fun _ => h, fun c5 => ?_⟩⟩
    have h4 : v4.toInt ≤ 50000 := by omega
    have hk : ∀ (V : MS) (a2 a3 a4 a : Int32), SgIk B S V → a = v5 + Int32.ofInt 1 → w_X9_goThrough_L10 (fun _ u => SgIk B S u) n V r a2 a3 a4 a := fun V a2 a3 a4 a hV ea => by
      have e := t_inc ea (by omega)
      exact ih hV (by omega)
    exact ⟨fun _ => gt_J49 h hr h4 hk, fun _ => ⟨fun _ => gt_J45 h hr h4 hk, fun _ => ⟨fun _ => gt_J45 h hr h4 hk, fun _ => gt_J49 h hr h4 hk⟩⟩⟩
theorem sp_goThrough {r : Int32} (h : SgIk B S U) (hr : 1 ≤ r.toInt ∧ r.toInt ≤ 11) : wX9_goThrough U r (fun _ u => SgIk B S u) := by
  unfold wX9_goThrough
  exact ⟨2147483649, gt_L10 hr _ h (by rw [li_0k]; decide)⟩
end SD
/-! Smith: what is not reached; the rounds -/
section SE
variable {B : Nat × Nat} {S u v U V : MS} {x : Int32}
theorem du_J62 {Q : Int32 → MS → Prop} {k19 : MS → Int32 → Int32 → Int32 → Int32 → Prop} {v1 v2 v3 v4 : Int32} (hk : ∀ a : Int32, a = v4 + Int32.ofInt 1 → k19 U v1 v2 v3 a) : w_X9_dropUnreached_J62 Q k19 U v1 v2 v3 v4 := by
  unfold w_X9_dropUnreached_J62
  exact fun _ _ a ea => hk a ea
theorem du_L19 {v3 : Int32} (h3 : v3.toInt ≤ 1296) : ∀ (n : Nat) {U : MS} {v1 v2 v4 : Int32}, SgIk B S U → (qI U (qO U 66 0) 2).toInt = v3.toInt - (v4.toInt - v2.toInt) → 0 ≤ v2.toInt → v2.toInt ≤ v4.toInt → v3.toInt ≤ (qN U (qO U (qO U 66 0) 0) : Int) → 2147483648 - v4.toInt < n → w_X9_dropUnreached_L19 (fun _ u => SgIk B S u) n U v1 v2 v3 v4 := by
  intro n
  induction n with
  | zero => intro U v1 v2 v4 _ _ _ _ _ hm; have := rgI v4; omega
  | succ n ih =>
    intro U v1 v2 v4 h hc h0 h1 hl hm
    unfold w_X9_dropUnreached_L19
    intro w _
    have k := k66 w
    have R := h.g.row k
    have sk := h.g.smk.2.1
    refine ⟨fun _ => h, fun c => ⟨⟨by omega, by omega⟩, fun _ k' => ⟨_, frX8_remove w (sp_remove w h.g k' h.rv (by decide) (by rw [li_1k]; omega)), fun S15 q w15 _ S19 e19 k19 w19 => du_J62 (fun a ea => ?_)⟩, fun _ a20 e20 => du_J62 (fun a ea => ?_)⟩⟩
    · have e := t_inc ea (by omega)
      have eO : qO S15 66 0 = qO U 66 0 := qO_eq (q.2.kO (w.2.1 _ finC_31).2.1 (by decide) (by decide))
      have h15 : SgIk B S S15 := h.tr ⟨eO, q.1.sl⟩
      have c15 : (qI S15 (qO U 66 0) 2).toInt = (qI U (qO U 66 0) 2).toInt - ((1 : Int32).toInt.toNat : Nat) := q.1.2.1.1
      have n1 : ((1 : Int32).toInt.toNat : Nat) = 1 := rfl
      have l15 : (qN S15 (qO S15 (qO U 66 0) 0) : Int) = (qN U (qO U (qO U 66 0) 0) : Int) := q.2.kL (j := 0) w k R.1.1 (by decide) (by decide)
      have o19 : qO S19 66 0 = qO U 66 0 := by rw [← eO, e19]; rfl
      have c19 : qI S19 (qO U 66 0) 2 = qI S15 (qO U 66 0) 2 := by rw [e19, qI_wI, if_neg (fun z => absurd z.2 (by decide))]
      have l19 : (qN S19 (qO S19 (qO U 66 0) 0) : Int) = (qN S15 (qO S15 (qO U 66 0) 0) : Int) := by rw [e19]; rfl
      refine ih (h15.ap w15 k19 e19) ?_ h0 (by omega) ?_ (by omega)
      · rw [o19, c19]; omega
      · rw [o19, l19, l15]; exact hl
    · have e := t_inc ea (by omega)
      have e2 := t_inc e20 (by omega)
      exact ih h (by omega) (by omega) (by omega) hl (by omega)
theorem sp_dropUnreached (w : wfC U) (h : SgIk B S U) : wX9_dropUnreached U (fun _ u => SgIk B S u) := by
  unfold wX9_dropUnreached
  refine ⟨_, frX9_findReached w (sgX9_findReached w h.g), fun S2 q w2 _ a5 e5 => ⟨2147483649, ?_⟩⟩
  have e : qO S2 66 0 = qO U 66 0 := qO_eq (q.2.kO (w.2.1 _ finC_31).2.1 (by decide) (by decide))
  have h2 := h.sm w q.1.1 q.2 e rfl rfl rfl rfl rfl
  have R2 := (h2.g.row (k66 w2)).2
  exact du_L19 (by rw [e5]; omega) _ h2 (by rw [e5, li_0k]; omega) (by decide) (by decide) (by rw [e5]; omega) (by rw [li_0k]; decide)
theorem mb_L34 {Q : MS → Prop} {k18 : MS → Int32 → Int32 → Int32 → Prop} {v2 v4 : Int32} (hk : ∀ (V : MS) (a3 a : Int32), SgIk B S V → a = v4 + Int32.ofInt 1 → k18 V v2 a3 a) : ∀ (n : Nat) {U : MS} {v3 v5 : Int32}, SgIk B S U → 1 ≤ v5.toInt → 2147483648 - v5.toInt < n → w_X9_makeBetter_L34 Q k18 n U v2 v3 v4 v5 := by
  intro n
  induction n with
  | zero => intro U v3 v5 _ _ hm; have := rgI v5; omega
  | succ n ih =>
    intro U v3 v5 h h1 hm
    unfold w_X9_makeBetter_L34
    intro w
    refine ⟨fun _ a12 ea => hk U v3 a12 h ea, fun c => ?_⟩
    have J74 : ∀ (V : MS) (a3 : Int32), SgIk B S V → w_X9_makeBetter_J74 Q (w_X9_makeBetter_L34 Q k18 n) V v2 a3 v4 v5 := fun V a3 hV => by
      unfold w_X9_makeBetter_J74
      intro _ a ea
      have e := t_inc ea (by omega)
      exact ih hV (by omega) (by omega)
    have J72 : ∀ (V : MS) (a b : Int32), SgIk B S V → w_X9_makeBetter_J72 Q (w_X9_makeBetter_L34 Q k18 n) V a b v2 v4 v5 := fun V a b hV => by
      unfold w_X9_makeBetter_J72
      exact fun _ _ a19 _ => J74 V a19 hV
    exact ⟨fun _ => J74 U v3 h, fun _ => ⟨fun _ => ⟨_, sp_dropUnreached w h, fun r26 S27 q _ _ => J72 S27 r26 v3 q⟩, fun _ => ⟨_, sp_goThrough h ⟨h1, by omega⟩, fun r22 S23 q _ _ => J72 S23 r22 v3 q⟩⟩⟩
theorem mb_L18 {Q : MS → Prop} {v2 : Int32} (hQ : ∀ V : MS, wfC V → SgIk B S V → Q V) : ∀ (n : Nat) {U : MS} {v3 v4 : Int32}, SgIk B S U → 2147483648 - v4.toInt < n → w_X9_makeBetter_L18 Q n U v2 v3 v4 := by
  intro n
  induction n with
  | zero => intro U v3 v4 _ hm; have := rgI v4; omega
  | succ n ih =>
    intro U v3 v4 h hm
    unfold w_X9_makeBetter_L18
    intro w
    refine ⟨fun _ => hQ U w h, fun _ => ⟨fun _ => hQ U w h, fun c => ⟨2147483649, mb_L34 (fun V a3 a hV ea => ?_) _ h (by decide) (by rw [li_1k]; decide)⟩⟩⟩
    have e := t_inc ea (by omega)
    exact ih hV (by omega)
end SE
/-! a Row is copied -/
section CF
variable {B : Nat × Nat} {S u v U V : MS} {p q : Nat} {x : Int32}
theorem RvK.cp (h : RvK S q) (e2 : (qI u p 2).toInt = (qI S q 2).toInt) (e4 : (qI u p 4).toInt = (qI S q 4).toInt) (eo : ∀ i : Nat, (i : Int) < (qI S q 2).toInt → rOp u p i = rOp S q i ∧ rAr u p i = rAr S q i) (et : ∀ j : Nat, (j : Int) < (qI S q 4).toInt → qI u (qO u p 3) j = qI S (qO S q 3) j) : RvK u p := by
  have sm : ∀ i : Nat, (i : Int) < (qI S q 2).toInt → swO (rOp u p i) → swO (rOp S q i) ∧ aTk u p i = aTk S q i ∧ mT u p i = mT S q i ∧ eT u p i = eT S q i := fun i hi sw => by
    obtain ⟨o1, o2⟩ := eo i hi
    have sw' : swO (rOp S q i) := by rw [← o1]; exact sw
    have ea : aTk u p i = aTk S q i := by unfold rAr at o2; unfold aTk; rw [o2]
    obtain ⟨a1, a2, a3, a4⟩ := h.1 i hi sw'
    have sz := szT_ge (o := rOp S q i) a2
    have ee : eT S q i = aTk S q i + szT (rOp S q i) (mT S q i) := rfl
    have em : mT u p i = mT S q i := by unfold mT; rw [ea, et _ (by omega)]
    exact ⟨sw', ea, em, by unfold eT; rw [ea, em, o1]⟩
  unfold RvK
  rw [e2, e4]
  refine ⟨fun i hi sw => ?_, fun i i' hl hi s1 s2 => ?_⟩
  · obtain ⟨a1, a2, a3, a4⟩ := sm i hi sw
    rw [a2, a3, a4]; exact h.1 i hi a1
  · obtain ⟨a1, a2, a3, a4⟩ := sm i (by omega) s1
    obtain ⟨b1, b2, b3, b4⟩ := sm i' hi s2
    rw [a4, b2]; exact h.2 i i' hl hi a1 b1
theorem rWs_cp : ∀ (n : Nat), (∀ i, i < n → rOp u p i = rOp S q i ∧ rAr u p i = rAr S q i) → rWs u p n = rWs S q n := by
  intro n
  induction n with
  | zero => intro _; rfl
  | succ n ih => intro h; rw [rWs_s, rWs_s, ih (fun i hi => h i (by omega)), (h n (by omega)).1, (h n (by omega)).2]
/-- the first c instructions are there -/
def CfIk (B : Nat × Nat) (S : MS) (p q c : Nat) (U : MS) : Prop := (ShC B U ∧ shx S U ∧ rfr p S U) ∧ (qI U p 2).toInt = c ∧ ∀ i : Nat, i < c → rOp U p i = rOp S q i ∧ rAr U p i = rAr S q i
def CfT (B : Nat × Nat) (S : MS) (p q c t : Nat) (U : MS) : Prop := CfIk B S p q c U ∧ (qI U p 4).toInt = t ∧ ∀ j : Nat, j < t → qI U (qO U p 3) j = qI S (qO S q 3) j
def CpQ (B : Nat × Nat) (S : MS) (p q : Nat) (u : MS) : Prop := (ShC B u ∧ shx S u ∧ rfr p S u) ∧ ((qI u p 2).toInt = (qI S q 2).toInt ∧ (qI u p 4).toInt = (qI S q 4).toInt) ∧ RvK u p ∧ rWs u p (qI u p 2).toInt.toNat = rWs S q (qI S q 2).toInt.toNat
theorem cf_L83 {Q : MS → Prop} (hQ : ∀ u : MS, ((ShC B u ∧ shx V u ∧ rfr p V u) ∧ rSm V u p) → Q u) : ∀ (n : Nat) {U : MS} {v2 : Int32}, ((ShC B U ∧ shx V U ∧ rfr p V U) ∧ rSm V U p) → 0 ≤ v2.toInt → 2147483648 - v2.toInt < n → w_X8_copyFrom_L83 Q n U p q v2 := by
  intro n
  induction n with
  | zero => intro U v2 _ _ hm; have := rgI v2; omega
  | succ n ih =>
    intro U v2 h h0 hm
    unfold w_X8_copyFrom_L83
    intro w kp kq
    have R := h.1.1.row kq
    have R2 := R.2
    refine ⟨fun _ => hQ U h, fun c => ⟨R.1.2.2.2.1, by omega, R.1.2.2.2.2.1, by omega, R.1.2.2.2.2.2.1, by omega, R.1.2.2.2.2.2.2, by omega, fun k' => ⟨_, sp_addCatch w h.1.1 k', fun S25 q25 w25 _ a27 ea => ?_⟩⟩⟩
    have e := t_inc ea (by omega)
    exact ih ⟨⟨q25.1.1, h.1.2.1.tr q25.1.2.1, h.1.2.2.tr h.1.2.1 q25.1.2.2⟩, h.2.tr q25.2⟩ (by omega) (by omega)
theorem cf_L52 {Q : MS → Prop} {c : Nat} (w : wfC S) (g : ShC B S) (k0 : qT S p = 47) (k1 : qT S q = 47) (ne : q ≠ p) (hl : (qI S q 4).toInt ≤ (qN S (qO S p 3) : Int)) (hX : ∀ V : MS, wfC V → CfT B S p q c (qI S q 4).toInt.toNat V → ∃ n, w_X8_copyFrom_L83 Q n V p q 0) : ∀ (n t : Nat) {U : MS} {v2 : Int32}, CfT B S p q c t U → v2.toInt = t → (t : Int) ≤ (qI S q 4).toInt → 2147483648 - v2.toInt < n → w_X8_copyFrom_L52 Q n U p q v2 := by
  intro n
  induction n with
  | zero => intro t U v2 _ _ _ hm; have := rgI v2; omega
  | succ n ih =>
    intro t U v2 h h2 ht hm
    obtain ⟨⟨⟨gU, sU, fU⟩, hc, ho⟩, h4, hj⟩ := h
    unfold w_X8_copyFrom_L52
    intro wU kp kq
    have m := fU.row w k0 (g.row k0) k1 (g.row k1) ne
    have R := gU.row kq
    have R2 := R.2
    have Rp := gU.row kp
    have atU := Rp.at wU kp
    have atS := (g.row k0).at w k0
    have c4 : qI U q 4 = qI S q 4 := m.1.2
    have lN : (qN U (qO U p 3) : Int) = (qN S (qO S p 3) : Int) := by
      rw [atU.2.2.1, atS.2.2.1, (sU.1 (p + 3) (by rw [((g.row k0).kd w k0).2.2.1]; decide)).2]
    refine ⟨fun c S6 e6 k6 w6 => ?_, fun c => ⟨R.1.2.2.1, by omega, fun k' => ⟨_, frX8_addToTable wU (sp_addToTable wU gU k' (by rw [c4] at c; omega)), fun S33 q33 w33 _ a35 ea => ?_⟩⟩⟩
    · rw [c4] at c
      have f : cfr [] [(47, 9)] U S6 := by rw [e6]; exact cfr.oI k6 rfl
      have m6 := rSm.fr wU kp Rp f rfl rfl rfl
      have et : t = (qI S q 4).toInt.toNat := by omega
      refine hX S6 w6 ⟨⟨⟨by rw [e6]; exact ShC.cnt wU gU kp (Or.inr (Or.inr ⟨rfl, by decide, by rw [li_0k]; omega⟩)), sU.tr f.1, fU.tr sU (by rw [e6]; exact rfr.inI (Nat.le_refl _) (by omega))⟩, by rw [m6.1.1]; exact hc, fun i hi => ⟨by rw [m6.xOp]; exact (ho i hi).1, by rw [m6.xAr]; exact (ho i hi).2⟩⟩, by rw [m6.1.2, ← et]; exact h4, fun j hjt => ?_⟩
      rw [m6.2.1.2.2, m6.2.2.2.2]
      exact hj j (by omega)
    · have e := t_inc ea (by omega)
      obtain ⟨⟨g33, ⟨⟨a4, a2, a0, a1, a3⟩, ao, aj, ax⟩, f33⟩, fr33⟩ := q33
      refine ih (t + 1) ⟨⟨⟨g33, sU.tr fr33.1, fU.tr sU f33⟩, by rw [a2]; exact hc, fun i hi => ⟨by rw [(ao i).1]; exact (ho i hi).1, by rw [(ao i).2]; exact (ho i hi).2⟩⟩, by omega, fun j hjt => ?_⟩ (by omega) (by rw [c4] at c; omega) (by omega)
      rw [a3]
      by_cases z : j = (qI U p 4).toInt.toNat
      · rw [z, ax, show v2.toInt.toNat = (qI U p 4).toInt.toNat by omega, m.2.1.2.2, m.2.2.2.2]
      · rw [aj j z]; exact hj j (by omega)
theorem cf_L15 {Q : MS → Prop} (w : wfC S) (g : ShC B S) (k0 : qT S p = 47) (k1 : qT S q = 47) (ne : q ≠ p) (hl : (qI S q 2).toInt ≤ (qN S (qO S p 0) : Int)) (hX : ∀ V : MS, wfC V → CfT B S p q (qI S q 2).toInt.toNat 0 V → ∃ n, w_X8_copyFrom_L52 Q n V p q 0) : ∀ (n c : Nat) {U : MS} {v2 : Int32}, CfIk B S p q c U → v2.toInt = c → (c : Int) ≤ (qI S q 2).toInt → 2147483648 - v2.toInt < n → w_X8_copyFrom_L15 Q n U p q v2 := by
  intro n
  induction n with
  | zero => intro c U v2 _ _ _ hm; have := rgI v2; omega
  | succ n ih =>
    intro c U v2 h h2 hc' hm
    obtain ⟨⟨gU, sU, fU⟩, hc, ho⟩ := h
    unfold w_X8_copyFrom_L15
    intro wU kp kq
    have m := fU.row w k0 (g.row k0) k1 (g.row k1) ne
    have R := gU.row kq
    have R2 := R.2
    have Rp := gU.row kp
    have atU := Rp.at wU kp
    have atS := (g.row k0).at w k0
    have c2 : qI U q 2 = qI S q 2 := m.1.1
    have lN : (qN U (qO U p 0) : Int) = (qN S (qO S p 0) : Int) := by
      rw [atU.1, atS.1, (sU.1 (p + 1) (by rw [((g.row k0).kd w k0).1]; decide)).2]
    refine ⟨fun d S4 e4 k4 w4 => ?_, fun d => ⟨R.1.1, by omega, R.1.2.1, by omega, fun k' => ⟨_, frX8_add wU (sp_add wU gU k'), fun S45 q45 w45 _ a47 ea => ?_⟩⟩⟩
    · rw [c2] at d
      have ec : c = (qI S q 2).toInt.toNat := by omega
      have i4 : ∀ a j, ¬ (a = p ∧ j = 4) → qI S4 a j = qI U a j := fun a j z => by rw [e4, qI_wI, if_neg z]
      have o4 : ∀ a j, qO S4 a j = qO U a j := fun a j => by rw [e4]; rfl
      have f : cfr [] [(47, 4)] U S4 := by rw [e4]; exact cfr.oI k4 rfl
      refine hX S4 w4 ⟨⟨⟨by rw [e4]; exact ShC.cnt wU gU kp (Or.inr (Or.inl ⟨rfl, by decide, by rw [li_0k]; omega⟩)), sU.tr f.1, fU.tr sU (by rw [e4]; exact rfr.inI (Nat.le_refl _) (by omega))⟩, ?_, fun i hi => ⟨?_, ?_⟩⟩, by rw [e4, qI_wI, if_pos ⟨rfl, rfl⟩, li_0k]; rfl, fun j hj => absurd hj (by omega)⟩
      · rw [i4 _ _ (fun z => absurd z.2 (by decide)), ← ec]; exact hc
      · have := (ho i (by omega)).1
        rw [← this]
        unfold rOp
        rw [o4, i4 _ _ (fun z => by omega)]
      · have := (ho i (by omega)).2
        rw [← this]
        unfold rAr
        rw [o4, e4]; rfl
    · have e := t_inc ea (by omega)
      rw [c2] at d
      obtain ⟨⟨g45, ⟨_, ad⟩, f45⟩, fr45⟩ := q45
      rcases ad with ⟨_, full, _⟩ | ⟨n2, _, ao, ax, ay⟩
      · exfalso; omega
      · refine ih (c + 1) ⟨⟨g45, sU.tr fr45.1, fU.tr sU f45⟩, by omega, fun i hi => ?_⟩ (by omega) (by omega) (by omega)
        by_cases z : i = (qI U p 2).toInt.toNat
        · rw [z, ax, ay, show v2.toInt.toNat = (qI U p 2).toInt.toNat by omega]
          exact ⟨m.xOp _, m.xAr _⟩
        · rw [(ao i z).1, (ao i z).2]; exact ho i (by omega)
theorem sp_copyFrom (w : wfC S) (g : ShC B S) (k0 : qT S p = 47) (k1 : qT S q = 47) (ne : q ≠ p) (rv : RvK S q) (hl : (qI S q 2).toInt ≤ (qN S (qO S p 0) : Int) ∧ (qI S q 4).toInt ≤ (qN S (qO S p 3) : Int)) : wX8_copyFrom S p q (fun u => CpQ B S p q u) := by
  have R2 := (g.row k0).2
  have Rq := (g.row k1).2
  unfold wX8_copyFrom
  intro S1 e1 h1 w1 S2 e2 h2 w2
  have f1 : cfr [] [(47, 11)] S S1 := by rw [e1]; exact cfr.oI h1 rfl
  have g1 : ShC B S1 := ShC.ws w g f1 (by rw [e1]; rfl) (by rw [e1]; rfl) (by rw [e1]; rfl) rfl rfl
  have r1 : rfr p S S1 := by rw [e1]; exact rfr.inI (Nat.le_refl _) (by omega)
  have f2 : cfr [] [(47, 2)] S1 S2 := by rw [e2]; exact cfr.oI h2 rfl
  have g2 : ShC B S2 := by rw [e2]; exact ShC.cnt w1 g1 h2 (Or.inl ⟨rfl, by decide, by rw [li_0k]; omega⟩)
  have r2 : rfr p S1 S2 := by rw [e2]; exact rfr.inI (Nat.le_refl _) (by omega)
  refine ⟨2147483649, cf_L15 w g k0 k1 ne hl.1 (fun V wV hV => ⟨2147483649, cf_L52 w g k0 k1 ne hl.2 (fun W wW hW => ⟨2147483649, cf_L83 (V := W) (fun u hu => ?_) _ ⟨⟨hW.1.1.1, shx.rf, rfr.rf⟩, rSm.rf⟩ (by decide) (by rw [li_0k]; decide)⟩) _ 0 hV (by decide) (by omega) (by rw [li_0k]; decide)⟩) _ 0 ⟨⟨g2, f1.1.tr f2.1, r1.tr f1.1 r2⟩, by rw [e2, qI_wI, if_pos ⟨rfl, rfl⟩, li_0k]; rfl, fun i hi => absurd hi (by omega)⟩ (by decide) (by omega) (by rw [li_0k]; decide)⟩
  obtain ⟨⟨⟨gW, sW, fW⟩, hc, ho⟩, h4, hj⟩ := hW
  obtain ⟨⟨gu, su, fu⟩, mp⟩ := hu
  have e2' : (qI u p 2).toInt = (qI S q 2).toInt := by rw [mp.1.1, hc]; omega
  have e4' : (qI u p 4).toInt = (qI S q 4).toInt := by rw [mp.1.2, h4]; omega
  have eo : ∀ i : Nat, (i : Int) < (qI S q 2).toInt → rOp u p i = rOp S q i ∧ rAr u p i = rAr S q i := fun i hi => by
    obtain ⟨a, b⟩ := ho i (by omega)
    exact ⟨by rw [mp.xOp]; exact a, by rw [mp.xAr]; exact b⟩
  refine ⟨⟨gu, sW.tr su, fW.tr sW fu⟩, ⟨e2', e4'⟩, rv.cp e2' e4' eo (fun j hj' => ?_), ?_⟩
  · rw [mp.2.1.2.2, mp.2.2.2.2]; exact hj j (by omega)
  · rw [e2']; exact rWs_cp _ (fun i hi => eo i (by omega))
end CF
