/-! rule 12 -/
def txCode : List Int32 := [67, 111, 100, 101]
/-- behind the attributes of a chain, from q: the places of those with the name Code, as the last and how many -/
def CdC (S : MS) : Nat → Int32 → Nat → Int32 → Nat × Int32
  | 0, _, c, f => (c, f)
  | n + 1, q, c, f => if (fX7_nameLength S (fX7_u2 S q)).toInt = 4 ∧ (fX7_nameSign S (fX7_u2 S q) 0).toInt = 67 ∧ (fX7_nameSign S (fX7_u2 S q) 1).toInt = 111 ∧ (fX7_nameSign S (fX7_u2 S q) 2).toInt = 100 ∧ (fX7_nameSign S (fX7_u2 S q) 3).toInt = 101 then CdC S n (q + ((6 : Int32) + (fX7_s4 S (q + (2 : Int32))))) (c + 1) q else CdC S n (q + ((6 : Int32) + (fX7_s4 S (q + (2 : Int32))))) c f
section CO
variable {S S' R R' T u w : MS} {x y z r c v e len o N i x1 k t a b f : Int32} {oo : MS ⊕ MS} {p : Nat} {L : List Int32}
theorem isCd : isTx S k txCode ↔ (fX7_nameLength S k).toInt = 4 ∧ (fX7_nameSign S k 0).toInt = 67 ∧ (fX7_nameSign S k 1).toInt = 111 ∧ (fX7_nameSign S k 2).toInt = 100 ∧ (fX7_nameSign S k 3).toInt = 101 := by
  have o0 : (0 : Int32).toInt = 0 := rfl
  have o1 : (1 : Int32).toInt = 1 := li_1
  have o2 : (2 : Int32).toInt = 2 := li_2
  have o3 : (3 : Int32).toInt = 3 := li_3
  constructor
  · rintro ⟨h1, h2⟩
    exact ⟨h1, h2 0 (by decide) (by decide), h2 1 (by decide) (by decide), h2 2 (by decide) (by decide), h2 3 (by decide) (by decide)⟩
  · rintro ⟨h1, h2, h3, h4, h5⟩
    refine ⟨h1, fun i i0 i4 => ?_⟩
    have i4' : i.toInt < 4 := i4
    have c : i.toInt = 0 ∨ i.toInt = 1 ∨ i.toInt = 2 ∨ i.toInt = 3 := by omega
    rcases c with c | c | c | c
    · rw [show i = 0 from Int32.toInt_inj.mp (by rw [o0, c])]
      exact h2
    · rw [show i = 1 from Int32.toInt_inj.mp (by rw [o1, c])]
      exact h3
    · rw [show i = 2 from Int32.toInt_inj.mp (by rw [o2, c])]
      exact h4
    · rw [show i = 3 from Int32.toInt_inj.mp (by rw [o3, c])]
      exact h5
theorem CdC.mv (s : T3 S u) : ∀ (n : Nat) {q f : Int32} {c : Nat}, CdC u n q c f = CdC S n q c f := by
  intro n
  induction n with
  | zero => intro q f c; rfl
  | succ n ih =>
    intro q f c
    unfold CdC
    rw [s.1.u2, s.1.s4, s.nl, s.ns, s.ns, s.ns, s.ns, ih, ih]
theorem CdC.ge : ∀ (n : Nat) {q f : Int32} {c : Nat}, c ≤ (CdC S n q c f).1 := by
  intro n
  induction n with
  | zero => intro q f c; exact Nat.le_refl _
  | succ n ih =>
    intro q f c
    unfold CdC
    split
    · have := ih (q := q + ((6 : Int32) + (fX7_s4 S (q + (2 : Int32))))) (f := q) (c := c + 1)
      omega
    · exact ih
/-- the class's loop over one member's attributes -/
theorem cv_coL {S0 : MS} (hT : TxH S0 10000000 txCode) {m7 mp : Int32} {K : MS → Int32 → Prop} : ∀ (n : Nat) {S : MS} {N q cn i : Int32} {f : Int32} {c : Nat}, T3 S0 S → 0 ≤ i.toInt → i.toInt ≤ N.toInt → N.toInt ≤ 65535 → cn.toInt = c → c ≤ i.toInt → (c = 1 → qI S 13 m7.toInt.toNat = f + (6 : Int32) ∧ qI S 14 m7.toInt.toNat = (f + (6 : Int32)) + (fX7_s4 S0 (f + (2 : Int32)))) → v_X7_codesHold_L51 r u K n S m7 mp N q cn i →
    ∃ (U : MS), T3 S0 U ∧ (∀ j : Nat, j ≠ m7.toInt.toNat → qI U 13 j = qI S 13 j ∧ qI U 14 j = qI S 14 j) ∧ (((CdC S0 (N.toInt - i.toInt).toNat q c f).1 = 1 ∧ qI U 13 m7.toInt.toNat = (CdC S0 (N.toInt - i.toInt).toNat q c f).2 + (6 : Int32) ∧ qI U 14 m7.toInt.toNat = ((CdC S0 (N.toInt - i.toInt).toNat q c f).2 + (6 : Int32)) + (fX7_s4 S0 ((CdC S0 (N.toInt - i.toInt).toNat q c f).2 + (2 : Int32))) ∧ ∃ a : Int32, a = m7 + Int32.ofInt 1 ∧ K U a) ∨ ((CdC S0 (N.toInt - i.toInt).toNat q c f).1 ≠ 1 ∧ r = 0 ∧ u = bRk U 12 mp)) := by
  intro n
  induction n with
  | zero => intro S N q cn i f c _ _ _ _ _ _ _ h; unfold v_X7_codesHold_L51 at h; exact h.elim
  | succ n ih =>
    intro S N q cn i f c ht i0 iN N6 hc ci hf h
    unfold v_X7_codesHold_L51 at h
    obtain ⟨wS, h⟩ := h
    rcases h with ⟨c1, h⟩ | ⟨c1, -, a27, e27, a29, e29, -, a33, e33, -, r36, S37, h36, w37, -, h⟩
    · have e : (N.toInt - i.toInt).toNat = 0 := by omega
      rw [e]
      refine ⟨S, ht, fun j _ => ⟨rfl, rfl⟩, ?_⟩
      rcases h with ⟨c2, a17, e17, h⟩ | ⟨c2, r19, S20, h, -, -, er, eu⟩
      · have c1' : c = 1 := by omega
        obtain ⟨f1, f2⟩ := hf c1'
        exact Or.inl ⟨c1', f1, f2, a17, e17, h⟩
      · obtain ⟨a, b⟩ := cv_breaks h
        exact Or.inr ⟨fun z => c2 (by rw [hc]; have z' : c = 1 := z; omega), by rw [er, a], by rw [eu, b]⟩
    · have en : (N.toInt - i.toInt).toNat = (N.toInt - (i.toInt + 1)).toNat + 1 := by omega
      have hTS : TxH S 10000000 txCode := by
        obtain ⟨t1, t2, t3, t4⟩ := hT
        exact ⟨by rw [ht.2.2.2.2.2.2]; exact t1, t2, fun k => by rw [ht.2.2.1 10000001 (by decide) (by decide) (by decide)]; exact t3 k, t4⟩
      rw [e33, ht.1.u2] at h36
      obtain ⟨eS, q9⟩ := cv_isText hTS h36
      rw [eS] at h w37
      have a29' : a29 = (q + (6 : Int32)) + (fX7_s4 S0 (q + (2 : Int32))) := by rw [e29, e27, ht.1.s4]
      have a29'' : a29 = q + ((6 : Int32) + (fX7_s4 S0 (q + (2 : Int32)))) := by rw [a29', Int32.add_assoc]
      have isT : isTx S (fX7_u2 S0 q) txCode ↔ isTx S0 (fX7_u2 S0 q) txCode := by
        rw [isCd, isCd, ht.nl, ht.ns, ht.ns, ht.ns, ht.ns]
      have J110 : ∀ {U : MS} {cn2 : Int32}, v_X7_codesHold_J110 r u (v_X7_codesHold_L51 r u K n) U m7 mp N cn2 i a29 → ∃ b : Int32, b.toInt = i.toInt + 1 ∧ v_X7_codesHold_L51 r u K n U m7 mp N a29 cn2 b := fun h => by
        obtain ⟨-, a39, e39, h⟩ := h
        exact ⟨a39, by rw [e39, t_add (by rw [show (Int32.ofInt 1).toInt = 1 from rfl]; omega)]; rfl, h⟩
      rw [en]
      rcases q9 with ⟨er, q9⟩ | ⟨er, q9⟩
      · rcases h with ⟨z, -⟩ | ⟨-, a41, e41, -, S44, e44, k13, w44, -, S46, e46, k14, w46, h⟩
        · exact absurd z (by rw [er]; decide)
        obtain ⟨b, eb, h⟩ := J110 h
        have t44 : T3 S0 S44 := ht.tr (by rw [e44]; exact T3.wr (Or.inl rfl) wS k13 (by decide))
        have t46 : T3 S0 S46 := t44.tr (by rw [e46]; exact T3.wr (Or.inr rfl) w44 k14 (by decide))
        have ec : a41.toInt = ((c + 1 : Nat) : Int) := by rw [e41, t_add (by rw [show (Int32.ofInt 1).toInt = 1 from rfl]; omega), hc]; rfl
        have cd := isCd.mp (isT.mp q9)
        have y13 : qI S46 13 m7.toInt.toNat = q + (6 : Int32) := by rw [e46, g_ne (by decide), e44, g_eq]
        have y14 : qI S46 14 m7.toInt.toNat = a29 := by rw [e46, g_eq]
        obtain ⟨U, tU, fU, K9⟩ := ih (f := q) (c := c + 1) t46 (by omega) (by omega) N6 ec (by omega) (fun _ => ⟨y13, by rw [y14, a29']⟩) h
        rw [eb, a29''] at K9
        refine ⟨U, tU, fun j hj => ?_, ?_⟩
        · obtain ⟨g1, g2⟩ := fU j hj
          exact ⟨by rw [g1, e46, g_ne (by decide), e44, g_nf hj], by rw [g2, e46, g_nf hj, e44, g_ne (by decide)]⟩
        · unfold CdC
          rw [if_pos cd]
          exact K9
      · rcases h with ⟨-, h⟩ | ⟨z, -⟩
        · obtain ⟨b, eb, h⟩ := J110 h
          have cd := fun z => q9 (isT.mpr (isCd.mpr z))
          obtain ⟨U, tU, fU, K9⟩ := ih (f := f) (c := c) ht (by omega) (by omega) N6 hc (by omega) hf h
          rw [eb, a29''] at K9
          refine ⟨U, tU, fU, ?_⟩
          unfold CdC
          rw [if_neg cd]
          exact K9
        · exact absurd (by rw [er]; rfl) z
/-- the reference passes over others' attributes -/
theorem rv_skip : ∀ (n : Nat) {b b1 : Int32}, b.toInt ≤ b1.toInt → 0 ≤ b.toInt → (∀ j : Nat, b.toInt ≤ j → (j : Int) < b1.toInt → (qI R 11 j).toInt ≠ o.toInt) → b1.toInt ≤ (qI R 0 25).toInt → v_codeOf_L4 r T n R o f b → ∃ n', v_codeOf_L4 r T n' R o f b1 := by
  intro n
  induction n with
  | zero => intro b b1 _ _ _ _ h; unfold v_codeOf_L4 at h; exact h.elim
  | succ n ih =>
    intro b b1 h1 h0 ho hA h
    by_cases c : b.toInt = b1.toInt
    · rw [← Int32.toInt_inj.mp c]
      exact ⟨n + 1, h⟩
    · unfold v_codeOf_L4 at h
      rcases h with ⟨c2, -⟩ | ⟨-, gd, h⟩
      · omega
      rcases h with ⟨c3, -⟩ | ⟨-, h⟩
      · exact absurd c3 (ho b.toInt.toNat (by omega) (by omega))
      · obtain ⟨a4, e4, h⟩ := h
        have ek : a4.toInt = b.toInt + 1 := by rw [e4, t_add (by rw [show (Int32.ofInt 1).toInt = 1 from rfl]; omega)]; rfl
        exact ih (by omega) (by omega) (fun j h2 h3 => ho j (by omega) h3) hA h
/-- the reference's loop over one member's attributes -/
theorem rv_coL (hE : LyE S R) (hT : TxH R 10000000 txCode) : ∀ (n m : Nat) {q q2 b fr : Int32} {c : Nat}, AtC S R o m q b.toInt.toNat q2 → AtN S m q → 0 ≤ b.toInt → b.toInt + m ≤ (qI R 0 25).toInt → (c = 0 → fr.toInt < 0) → (c ≠ 0 → c = 1 ∧ fr = f ∧ 0 ≤ fr.toInt) → v_codeOf_L4 r T n R o fr b → (T = R ∧ r = -2 ∧ 2 ≤ (CdC S m q c f).1) ∨ (∃ (n' : Nat) (b' fr' : Int32), b'.toInt = b.toInt + m ∧ v_codeOf_L4 r T n' R o fr' b' ∧ (((CdC S m q c f).1 = 0 ∧ fr' = fr ∧ c = 0) ∨ ((CdC S m q c f).1 = 1 ∧ fr' = (CdC S m q c f).2 ∧ 0 ≤ fr'.toInt))) := by
  intro n
  induction n with
  | zero => intro m q q2 b fr c _ _ _ _ _ _ h; unfold v_codeOf_L4 at h; exact h.elim
  | succ n ih =>
    intro m q q2 b fr c hC hN b0 bA hf0 hf1 h
    cases m with
    | zero =>
      refine Or.inr ⟨n + 1, b, fr, by omega, h, ?_⟩
      by_cases z : c = 0
      · exact Or.inl ⟨z, rfl, z⟩
      · obtain ⟨a1, a2, a3⟩ := hf1 z
        exact Or.inr ⟨a1, a2, a3⟩
    | succ m =>
      obtain ⟨⟨c1, c2, c3, c4, c5⟩, hC⟩ := hC
      obtain ⟨n1, hN⟩ := hN
      have b2 := hE.1.2.1
      unfold v_codeOf_L4 at h
      rcases h with ⟨z, -⟩ | ⟨-, gd, h⟩
      · omega
      rcases h with ⟨-, -, -, r13, S14, h13, h⟩ | ⟨z, -⟩
      · rw [c1, hE.u2 (by omega) (by omega)] at h13
        obtain ⟨eT, q9⟩ := rv_isText hE n1 hT h13
        rw [eT] at h
        have NX : ∀ {fr2 : Int32}, v_codeOf_J59 r T (v_codeOf_L4 r T n) R o fr2 b → ∃ b' : Int32, b'.toInt = b.toInt + 1 ∧ v_codeOf_L4 r T n R o fr2 b' := fun h => by
          obtain ⟨a4, e4, h⟩ := h
          exact ⟨a4, by rw [e4, t_add (by rw [show (Int32.ofInt 1).toInt = 1 from rfl]; omega)]; rfl, h⟩
        have nb : ∀ {b' : Int32}, b'.toInt = b.toInt + 1 → b'.toInt.toNat = b.toInt.toNat + 1 := fun h => by omega
        rcases q9 with ⟨er, q9⟩ | ⟨er, q9⟩
        · have cd := isCd.mp q9
          rcases h with ⟨z, -⟩ | ⟨-, h⟩
          · exact absurd z (by rw [er]; decide)
          unfold CdC
          rw [if_pos cd]
          rcases h with ⟨z, -, a20, e20, h⟩ | ⟨z, e1, e2⟩
          · have cz : c = 0 := by
              by_cases zz : c = 0
              · exact zz
              · have := (hf1 zz).2.2
                omega
            obtain ⟨b', eb, h⟩ := NX h
            rw [e20, c1] at h
            rcases ih (f := q) (c := c + 1) m (by rw [nb eb]; exact hC) hN (by omega) (by omega) (fun z => by omega) (fun _ => ⟨by omega, rfl, by omega⟩) h with ⟨a1, a2, a3⟩ | ⟨n', b9, fr', eb9, h9, K⟩
            · exact Or.inl ⟨a1, a2, a3⟩
            · refine Or.inr ⟨n', b9, fr', by omega, h9, ?_⟩
              rcases K with ⟨-, -, z⟩ | K
              · omega
              · exact Or.inr K
          · have cz : c ≠ 0 := fun zz => absurd (hf0 zz) z
            obtain ⟨c1', -, -⟩ := hf1 cz
            refine Or.inl ⟨e2, e1, ?_⟩
            have := CdC.ge (S := S) m (q := q + ((6 : Int32) + (fX7_s4 S (q + (2 : Int32))))) (f := q) (c := c + 1)
            omega
        · have cd := fun z => q9 (isCd.mpr z)
          unfold CdC
          rw [if_neg cd]
          rcases h with ⟨-, h⟩ | ⟨z, -⟩
          · obtain ⟨b', eb, h⟩ := NX h
            rcases ih (f := f) (c := c) m (by rw [nb eb]; exact hC) hN (by omega) (by omega) hf0 hf1 h with K | ⟨n', b9, fr', eb9, h9, K⟩
            · exact Or.inl K
            · exact Or.inr ⟨n', b9, fr', by omega, h9, K⟩
          · exact absurd (by rw [er]; rfl) z
      · rw [c2] at z
        exact absurd rfl z
end CO
