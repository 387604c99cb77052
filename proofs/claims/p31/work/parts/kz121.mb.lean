/-! rule 16: members -/
/-- no two fields, no two methods have one name -/
def NtW (S : MS) : Prop := ∀ i j : Int32, 0 ≤ j.toInt → j.toInt < i.toInt → i.toInt < (qI S 9 7).toInt + (qI S 9 8).toInt → (i.toInt < (qI S 9 7).toInt ∨ (qI S 9 7).toInt ≤ j.toInt) → ¬ SmN S (fX7_nameOf S j) (fX7_nameOf S i)
/-- member f + j is what the pair says -/
def MtP (S : MS) (pr f j : Int32) : Prop := SmN S (fX7_nameOf S (f + j)) (fX7_firstOf S pr) ∧ SmN S (fX7_typeOf S (f + j)) (fX7_secondOf S pr)
section MP
variable {S S' R R' T u w : MS} {x y z r c v e len o N i x1 k t a b f pr g : Int32} {p : Nat}
theorem SmN.sy (h : SmN S a b) : SmN S b a := ⟨h.1.symm, fun i h0 h1 => (h.2 i h0 (by rw [h.1]; exact h1)).symm⟩
theorem SmN.tr (h : SmN S a b) (g : SmN S b c) : SmN S a c := ⟨h.1.trans g.1, fun i h0 h1 => (h.2 i h0 h1).trans (g.2 i h0 (by rw [← h.1]; exact h1))⟩
theorem snL_of {p q l : Int32} (l0 : 0 ≤ l.toInt ∧ l.toInt ≤ 1000) : ∀ (k : Nat) {i : Int32}, 1 ≤ i.toInt → i.toInt ≤ l.toInt + 3 → l.toInt + 3 - i.toInt ≤ k → (snL S p q l k i = 1 ∧ ∀ j : Int32, i.toInt ≤ j.toInt → j.toInt < 3 + l.toInt → fX7_u1 S (p + j) = fX7_u1 S (q + j)) ∨ (snL S p q l k i = 0 ∧ ∃ j : Int32, 1 ≤ j.toInt ∧ j.toInt < 3 + l.toInt ∧ fX7_u1 S (p + j) ≠ fX7_u1 S (q + j)) := by
  have e3 : ((3 : Int32) + l).toInt = 3 + l.toInt := by rw [t_add (by rw [li_3]; omega), li_3]
  intro k
  induction k with
  | zero => intro i _ _ hk; exact Or.inl ⟨rfl, fun j h1 h2 => by omega⟩
  | succ k ih =>
    intro i i1 i2 hk
    rw [snL_s, e3]
    by_cases c : 3 + l.toInt ≤ i.toInt
    · rw [if_pos c]
      exact Or.inl ⟨rfl, fun j h1 h2 => by omega⟩
    · rw [if_neg c]
      by_cases c1 : (fX7_u1 S (p + i)).toInt = (fX7_u1 S (q + i)).toInt
      · rw [if_pos c1]
        have ek : (i + Int32.ofInt 1).toInt = i.toInt + 1 := by rw [t_add (by rw [show (Int32.ofInt 1).toInt = 1 from rfl]; omega)]; rfl
        rcases ih (i := i + Int32.ofInt 1) (by omega) (by omega) (by omega) with ⟨a, b⟩ | K
        · refine Or.inl ⟨a, fun j h1 h2 => ?_⟩
          by_cases z : j.toInt = i.toInt
          · rw [show j = i from Int32.toInt_inj.mp z]
            exact Int32.toInt_inj.mp c1
          · exact b j (by omega) h2
        · exact Or.inr K
      · rw [if_neg c1]
        exact Or.inr ⟨rfl, i, i1, by omega, fun q => c1 (by rw [q])⟩
theorem sn_of (hE : LyE S R) (ha : (fX7_tagOf S a).toInt = 1) (hb : (fX7_tagOf S b).toInt = 1) : ((snF S a b).toInt = 0 ∧ ¬ SmN S a b) ∨ (¬ (snF S a b).toInt = 0 ∧ SmN S a b) := by
  obtain ⟨a0, al, af⟩ := sm_F hE ha
  have D := sm_D hE ha hb
  have e : snF S a b = snL S (fX7_entryAt S a) (fX7_entryAt S b) (fX7_nameLength S a) 70000 1 := rfl
  rw [e]
  rcases snL_of (S := S) (p := fX7_entryAt S a) (q := fX7_entryAt S b) (l := fX7_nameLength S a) (by omega) 70000 (i := 1) (by decide) (by rw [li_1]; omega) (by rw [li_1]; omega) with ⟨h1, h2⟩ | ⟨h1, j, h2, h3, h4⟩
  · rw [h1]
    exact Or.inr ⟨by decide, D.mpr (fun j g1 g2 => h2 j (by rw [li_1]; exact g1) g2)⟩
  · rw [h1]
    exact Or.inl ⟨rfl, fun q => h4 (D.mp q j h2 h3)⟩
theorem mb_of (hE : LyE S R) (hn : ∀ j : Int32, 0 ≤ j.toInt → j.toInt < c.toInt → (fX7_tagOf S (fX7_nameOf S (f + j))).toInt = 1 ∧ (fX7_tagOf S (fX7_typeOf S (f + j))).toInt = 1) (h1 : (fX7_tagOf S (fX7_firstOf S pr)).toInt = 1) (h2 : (fX7_tagOf S (fX7_secondOf S pr)).toInt = 1) (c0 : c.toInt ≤ 90) : ∀ (k : Nat) {i : Int32}, 0 ≤ i.toInt → c.toInt - i.toInt ≤ k → (0 ≤ (mbL S pr f c k i).toInt ∧ (mbL S pr f c k i).toInt < c.toInt ∧ MtP S pr f (mbL S pr f c k i)) ∨ (mbL S pr f c k i = -1 ∧ ∀ j : Int32, i.toInt ≤ j.toInt → j.toInt < c.toInt → ¬ MtP S pr f j) := by
  intro k
  induction k with
  | zero => intro i i0 hk; exact Or.inr ⟨rfl, fun j g1 g2 => by omega⟩
  | succ k ih =>
    intro i i0 hk
    rw [mbL_s]
    by_cases z : c.toInt ≤ i.toInt
    · rw [if_pos z]
      exact Or.inr ⟨rfl, fun j g1 g2 => by omega⟩
    rw [if_neg z]
    obtain ⟨n1, n2⟩ := hn i i0 (by omega)
    have ek : (i + Int32.ofInt 1).toInt = i.toInt + 1 := by rw [t_add (by rw [show (Int32.ofInt 1).toInt = 1 from rfl]; omega)]; rfl
    have NX : ¬ MtP S pr f i → (0 ≤ (mbL S pr f c k (i + Int32.ofInt 1)).toInt ∧ (mbL S pr f c k (i + Int32.ofInt 1)).toInt < c.toInt ∧ MtP S pr f (mbL S pr f c k (i + Int32.ofInt 1))) ∨ (mbL S pr f c k (i + Int32.ofInt 1) = -1 ∧ ∀ j : Int32, i.toInt ≤ j.toInt → j.toInt < c.toInt → ¬ MtP S pr f j) := fun hno => by
      rcases ih (i := i + Int32.ofInt 1) (by omega) (by omega) with K | ⟨K1, K2⟩
      · exact Or.inl K
      · refine Or.inr ⟨K1, fun j g1 g2 => ?_⟩
        by_cases zz : j.toInt = i.toInt
        · rw [show j = i from Int32.toInt_inj.mp zz]
          exact hno
        · exact K2 j (by omega) g2
    rcases sn_of hE n1 h1 with ⟨s1, s2⟩ | ⟨s1, s2⟩
    · rw [if_pos s1]
      exact NX (fun q => s2 q.1)
    rw [if_neg s1]
    rcases sn_of hE n2 h2 with ⟨s3, s4⟩ | ⟨s3, s4⟩
    · rw [if_pos s3]
      exact NX (fun q => s4 q.2)
    rw [if_neg s3]
    exact Or.inl ⟨i0, by omega, s2, s4⟩
theorem rv_pointE {α : Type} {oo : α ⊕ MS} {K : MS → Prop} (h : (∃ S1 : MS, v_point R x o (.inl S1) ∧ K S1) ∨ (∃ u9 : MS, v_point R x o (.inr u9) ∧ oo = .inr u9)) : (x.toInt ≠ 0 ∧ K R) ∨ (x.toInt = 0 ∧ oo = .inr (rBk R 16 ((qI R 0 36) + o))) := by
  have P : ∀ {o1 : MS ⊕ MS}, v_point R x o o1 → (x.toInt ≠ 0 ∧ o1 = .inl R) ∨ (x.toInt = 0 ∧ o1 = .inr (rBk R 16 ((qI R 0 36) + o))) := fun h => by
    unfold v_point at h
    exact rv_mustE h
  rcases h with ⟨S1, hm, h⟩ | ⟨u9, hm, h⟩
  · rcases P hm with ⟨c, z⟩ | ⟨c, z⟩
    · injection z with z
      rw [z] at h
      exact Or.inl ⟨c, h⟩
    · exact nomatch z
  · rcases P hm with ⟨c, z⟩ | ⟨c, z⟩
    · exact nomatch z
    · injection z with z
      exact Or.inr ⟨c, by rw [h, z]⟩
theorem rv_mbL {oo : (Int32 × MS) ⊕ MS} (hE : LyE S R) (me : ∀ j : Int32, 0 ≤ j.toInt → j.toInt < ((qI S 9 7) + (qI S 9 8)).toInt → MeN S j) (k12 : (fX7_tagOf S pr).toInt = 12) (h1 : (fX7_tagOf S (fX7_firstOf S pr)).toInt = 1) (h2 : (fX7_tagOf S (fX7_secondOf S pr)).toInt = 1) (f0 : 0 ≤ f.toInt) (g1 : g.toInt ≤ (qI S 9 7).toInt + (qI S 9 8).toInt) : ∀ (n : Nat) {v i : Int32}, f.toInt ≤ i.toInt → i.toInt ≤ 48 → (((v.toInt = -1) ∧ ∀ j : Int32, 0 ≤ j.toInt → f.toInt + j.toInt < i.toInt → ¬ MtP S pr f j) ∨ (0 ≤ v.toInt ∧ f.toInt + v.toInt < i.toInt ∧ MtP S pr f v)) → v_member_L108 oo n R o pr f g v i → (∃ j : Int32, 0 ≤ j.toInt ∧ (f.toInt + j.toInt < g.toInt ∨ f.toInt + j.toInt < i.toInt) ∧ MtP S pr f j ∧ oo = .inl (j, R)) ∨ ((∀ j : Int32, 0 ≤ j.toInt → f.toInt + j.toInt < g.toInt → ¬ MtP S pr f j) ∧ oo = .inr (rBk R 16 ((qI R 0 36) + o))) := by
  intro n
  induction n with
  | zero => intro v i _ _ _ h; unfold v_member_L108 at h; exact h.elim
  | succ n ih =>
    intro v i fi i48 hv h
    obtain ⟨-, -, -, m4, -⟩ := hE.cnt
    unfold v_member_L108 at h
    rcases h with ⟨c, h⟩ | ⟨c, gd, -, -, r47, S48, h47, h⟩
    · rcases h with ⟨c2, h⟩ | ⟨c2, h⟩
      · rcases hv with ⟨-, hv⟩ | ⟨z, -⟩
        swap
        · omega
        rcases rv_pointE h with ⟨z, -⟩ | ⟨-, e⟩
        · exact absurd rfl z
        · exact Or.inr ⟨fun j j0 j1 => hv j j0 (by omega), e⟩
      · rcases hv with ⟨z, -⟩ | ⟨v0, v1, v2⟩
        · omega
        rcases rv_pointE h with ⟨-, e⟩ | ⟨z, -⟩
        · exact Or.inl ⟨v, v0, Or.inr v1, v2, e⟩
        · exact absurd z (by decide)
    · have MN := me i (by omega) (by rw [m4]; omega)
      have k6 := (fs_7 hE (Or.inr (Or.inr (Or.inr k12)))).1
      have k7 := (fs_7 hE (Or.inr (Or.inr (Or.inr k12)))).2 (by omega)
      have ei : f + (i - f) = i := Int32.toInt_inj.mp (by rw [t_add (by rw [t_sub (by omega)]; omega), t_sub (by omega)]; omega)
      have eif : (i - f).toInt = i.toInt - f.toInt := t_sub (by omega)
      rw [hE.no (by omega) (by omega), k6] at h47
      obtain ⟨e48, q9⟩ := rv_isSame hE MN.1 h1 h47
      rw [e48] at h
      have NX : ∀ {v' : Int32}, (((v'.toInt = -1) ∧ ∀ j : Int32, 0 ≤ j.toInt → f.toInt + j.toInt < i.toInt + 1 → ¬ MtP S pr f j) ∨ (0 ≤ v'.toInt ∧ f.toInt + v'.toInt < i.toInt + 1 ∧ MtP S pr f v')) → v_member_J176 oo (v_member_L108 oo n) R o pr f g v' i → (∃ j : Int32, 0 ≤ j.toInt ∧ (f.toInt + j.toInt < g.toInt ∨ f.toInt + j.toInt < i.toInt) ∧ MtP S pr f j ∧ oo = .inl (j, R)) ∨ ((∀ j : Int32, 0 ≤ j.toInt → f.toInt + j.toInt < g.toInt → ¬ MtP S pr f j) ∧ oo = .inr (rBk R 16 ((qI R 0 36) + o))) := fun {v'} hv' h => by
        obtain ⟨a, ea, h⟩ := h
        have ek : a.toInt = i.toInt + 1 := by rw [ea, t_add (by rw [show (Int32.ofInt 1).toInt = 1 from rfl]; omega)]; rfl
        rcases ih (v := v') (i := a) (by omega) (by omega) (by rw [ek]; exact hv') h with ⟨j, j0, j1, j2, j3⟩ | K
        · exact Or.inl ⟨j, j0, Or.inl (by omega), j2, j3⟩
        · exact Or.inr K
      have STAY : ¬ MtP S pr f (i - f) → (((v.toInt = -1) ∧ ∀ j : Int32, 0 ≤ j.toInt → f.toInt + j.toInt < i.toInt + 1 → ¬ MtP S pr f j) ∨ (0 ≤ v.toInt ∧ f.toInt + v.toInt < i.toInt + 1 ∧ MtP S pr f v)) := fun hno => by
        rcases hv with ⟨v1, v2⟩ | ⟨v0, v1, v2⟩
        · refine Or.inl ⟨v1, fun j j0 j1 => ?_⟩
          by_cases zz : f.toInt + j.toInt < i.toInt
          · exact v2 j j0 zz
          · rw [show j = i - f from Int32.toInt_inj.mp (by omega)]
            exact hno
        · exact Or.inr ⟨v0, by omega, v2⟩
      rcases q9 with ⟨er, s1⟩ | ⟨er, s1⟩
      swap
      · rcases h with ⟨-, h⟩ | ⟨z, -⟩
        · exact NX (STAY (fun q => s1 (by have q1 := q.1; rw [ei] at q1; exact q1))) h
        · exact absurd (by rw [er]; rfl) z
      rcases h with ⟨z, -⟩ | ⟨-, -, -, -, r61, S62, h61, h⟩
      · exact absurd z (by rw [er]; decide)
      rw [hE.ty (by omega) (by omega), k7] at h61
      obtain ⟨e62, q9⟩ := rv_isSame hE MN.2.1 h2 h61
      rw [e62] at h
      rcases q9 with ⟨er, s2⟩ | ⟨er, s2⟩
      swap
      · rcases h with ⟨-, h⟩ | ⟨z, -⟩
        · exact NX (STAY (fun q => s2 (by have q1 := q.2; rw [ei] at q1; exact q1))) h
        · exact absurd (by rw [er]; rfl) z
      rcases h with ⟨z, -⟩ | ⟨-, a66, e66, h⟩
      · exact absurd z (by rw [er]; decide)
      rw [e66] at h
      refine NX (Or.inr ⟨by omega, by omega, ?_, ?_⟩) h
      · rw [ei]
        exact s1
      · rw [ei]
        exact s2
/-- rule 11, what it leaves known -/
theorem rv_tw29 {K : MS → Int32 → Prop} (hE : LyE S R) (me : ∀ j : Int32, 0 ≤ j.toInt → j.toInt < ((qI S 9 7) + (qI S 9 8)).toInt → MeN S j) (i1 : i.toInt < (qI S 9 7).toInt + (qI S 9 8).toInt) : ∀ (n : Nat) {j : Int32}, 0 ≤ j.toInt → j.toInt ≤ i.toInt → v_twice_L29 (.inl w) K n R i j → (∀ l : Int32, j.toInt ≤ l.toInt → l.toInt < i.toInt → ¬ SmN S (fX7_nameOf S l) (fX7_nameOf S i)) ∧ K R (i + Int32.ofInt 1) := by
  intro n
  induction n with
  | zero => intro j _ _ h; unfold v_twice_L29 at h; exact h.elim
  | succ n ih =>
    intro j j0 ji h
    obtain ⟨-, -, -, m4, -⟩ := hE.cnt
    unfold v_twice_L29 at h
    rcases h with ⟨c, a3, e3, h⟩ | ⟨c, g1, -, g2, -, r17, S18, h17, h⟩
    · rw [e3] at h
      exact ⟨fun l l0 l1 => by omega, h⟩
    · rw [hE.no (by omega) (by omega), hE.no (by omega) i1] at h17
      obtain ⟨e18, q9⟩ := rv_isSame hE (me j j0 (by rw [m4]; omega)).1 (me i (by omega) (by rw [m4]; omega)).1 h17
      rw [e18] at h
      rcases q9 with ⟨er, s1⟩ | ⟨er, s1⟩
      · rcases h with ⟨z, -⟩ | ⟨-, -, h⟩
        · exact absurd z (by rw [er]; decide)
        · rcases rv_mustE h with ⟨z, -⟩ | ⟨-, z⟩
          · exact absurd rfl z
          · exact nomatch z
      · rcases h with ⟨-, -, h⟩ | ⟨z, -⟩
        swap
        · exact absurd (by rw [er]; rfl) z
        rcases rv_mustE h with ⟨-, a, ea, h⟩ | ⟨-, z⟩
        swap
        · exact nomatch z
        have ek : a.toInt = j.toInt + 1 := by rw [ea, t_add (by rw [show (Int32.ofInt 1).toInt = 1 from rfl]; omega)]; rfl
        obtain ⟨K1, K2⟩ := ih (by omega) (by omega) h
        refine ⟨fun l l0 l1 => ?_, K2⟩
        by_cases zz : l.toInt = j.toInt
        · rw [show l = j from Int32.toInt_inj.mp zz]
          exact s1
        · exact K1 l (by omega) l1
theorem rv_tw2 (hE : LyE S R) (me : ∀ j : Int32, 0 ≤ j.toInt → j.toInt < ((qI S 9 7) + (qI S 9 8)).toInt → MeN S j) : ∀ (n : Nat) {k : Int32}, 0 ≤ k.toInt → v_twice_L2 (.inl w) n R k → ∀ i j : Int32, k.toInt ≤ i.toInt → 0 ≤ j.toInt → j.toInt < i.toInt → i.toInt < (qI S 9 7).toInt + (qI S 9 8).toInt → (i.toInt < (qI S 9 7).toInt ∨ (qI S 9 7).toInt ≤ j.toInt) → ¬ SmN S (fX7_nameOf S j) (fX7_nameOf S i) := by
  intro n
  induction n with
  | zero => intro k _ h; unfold v_twice_L2 at h; exact h.elim
  | succ n ih =>
    intro k k0 h i j ki j0 ji i1 hg
    obtain ⟨m1, m2, m3, m4, m5⟩ := hE.cnt
    unfold v_twice_L2 at h
    rw [m3, m5] at h
    rcases h with ⟨c, -⟩ | ⟨c, h⟩
    · omega
    have ek : (k + Int32.ofInt 1).toInt = k.toInt + 1 := by rw [t_add (by rw [show (Int32.ofInt 1).toInt = 1 from rfl]; omega)]; rfl
    rcases h with ⟨c2, n2, h⟩ | ⟨c2, n2, h⟩
    · obtain ⟨K1, K2⟩ := rv_tw29 hE me (by omega) n2 m1.1 c2 h
      by_cases zz : i.toInt = k.toInt
      · rw [show i = k from Int32.toInt_inj.mp zz]
        exact K1 j (by omega) (by omega)
      · exact ih (by omega) K2 i j (by omega) j0 ji i1 hg
    · obtain ⟨K1, K2⟩ := rv_tw29 hE me (by omega) n2 (by decide) (by rw [show (0 : Int32).toInt = 0 from rfl]; omega) h
      by_cases zz : i.toInt = k.toInt
      · rw [show i = k from Int32.toInt_inj.mp zz]
        exact K1 j (by rw [show (0 : Int32).toInt = 0 from rfl]; omega) (by omega)
      · exact ih (by omega) K2 i j (by omega) j0 ji i1 hg
theorem rv_ntw (hE : LyE S R) (me : ∀ j : Int32, 0 ≤ j.toInt → j.toInt < ((qI S 9 7) + (qI S 9 8)).toInt → MeN S j) (h : v_twice R (.inl w)) : NtW S := by
  obtain ⟨n, h⟩ := h
  exact fun i j j0 ji i1 hg => rv_tw2 hE me n (by decide) h i j (by rw [show (0 : Int32).toInt = 0 from rfl]; omega) j0 ji i1 hg
end MP
