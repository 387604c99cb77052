/-! rule 6: what entries point to -/
def PsE (S R : MS) (r : Int32) (u : MS) (oo : MS ⊕ MS) : Prop := (r = 1 ∧ u = S ∧ oo = .inl R) ∨ (r = 0 ∧ ∃ w, oo = .inr w ∧ BadP u w)
def ptOK (S : MS) (k : Int32) : Prop := ((fX7_tagOf S k).toInt = 7 → (fX7_tagOf S (fX7_firstOf S k)).toInt = 1) ∧ ((fX7_tagOf S k).toInt = 12 → (fX7_tagOf S (fX7_firstOf S k)).toInt = 1 ∧ (fX7_tagOf S (fX7_secondOf S k)).toInt = 1) ∧ ((fX7_tagOf S k).toInt = 9 ∨ (fX7_tagOf S k).toInt = 10 → (fX7_tagOf S (fX7_firstOf S k)).toInt = 7 ∧ (fX7_tagOf S (fX7_secondOf S k)).toInt = 12)
section PT
variable {S S' R R' T u w : MS} {x y z r c v e len o N i x1 k t : Int32} {oo : MS ⊕ MS}
theorem LyE.ent (h : LyE S R) : (qI R 0 14 = qI S 9 5 ∧ 1 ≤ (qI S 9 5).toInt ∧ (qI S 9 5).toInt ≤ 500) ∧ ∀ j : Nat, (j : Int) < (qI S 9 5).toInt → (qI S 11 j = 0 ∧ qI R 4 j = 0) ∨ EnR S R j (qI S 11 j) := ⟨h.2.2.2.1, h.2.2.2.2.1⟩
theorem ea_in (h1 : 1 ≤ k.toInt) (h2 : k.toInt < (qI S 9 5).toInt) (h3 : (qI S 9 5).toInt ≤ 500) : fX7_entryAt S k = qI S 11 k.toInt.toNat := by
  unfold fX7_entryAt
  rw [if_neg (by omega), if_neg (by omega), if_pos (by omega)]
theorem ea_out (h : k.toInt < 1 ∨ (qI S 9 5).toInt ≤ k.toInt) : fX7_entryAt S k = 0 := by
  unfold fX7_entryAt f_X7_entryAt_J22
  by_cases c : k.toInt < 1
  · rw [if_pos c]
  · rw [if_neg c, if_pos (by omega)]
theorem tg_in (h : LyE S R) (h1 : 1 ≤ k.toInt) (h2 : k.toInt < (qI S 9 5).toInt) : fX7_tagOf S k = qI R 4 k.toInt.toNat ∧ ((fX7_tagOf S k).toInt ≠ 0 → EnR S R k.toInt.toNat (fX7_entryAt S k)) := by
  obtain ⟨⟨-, -, p5⟩, he⟩ := h.ent
  have ea := ea_in (S := S) h1 h2 p5
  unfold fX7_tagOf
  rw [ea]
  rcases he k.toInt.toNat (by omega) with ⟨a, b⟩ | a
  · rw [a, b, if_pos (by decide)]
    exact ⟨rfl, fun q => absurd (by decide) q⟩
  · have e0 : ¬ (qI S 11 k.toInt.toNat).toInt = 0 := by have := a.1.1; omega
    rw [if_neg e0]
    exact ⟨a.2.2.1.symm, fun _ => a⟩
theorem tg_out (h : k.toInt < 1 ∨ (qI S 9 5).toInt ≤ k.toInt) : fX7_tagOf S k = 0 := by
  unfold fX7_tagOf
  rw [ea_out h, if_pos (by decide)]
theorem tg_nz (h : (fX7_tagOf S k).toInt ≠ 0) : 1 ≤ k.toInt ∧ k.toInt < (qI S 9 5).toInt := by
  by_cases c : k.toInt < 1 ∨ (qI S 9 5).toInt ≤ k.toInt
  · rw [tg_out c] at h
    exact absurd (by decide) h
  · omega
theorem tg_en (h : LyE S R) (hk : (fX7_tagOf S k).toInt ≠ 0) : EnR S R k.toInt.toNat (fX7_entryAt S k) ∧ (1 ≤ k.toInt ∧ k.toInt < (qI S 9 5).toInt) ∧ qI R 4 k.toInt.toNat = fX7_tagOf S k := by
  obtain ⟨a, b⟩ := tg_nz hk
  obtain ⟨c, d⟩ := tg_in h a b
  exact ⟨d hk, ⟨a, b⟩, c.symm⟩
theorem ie_of (h : LyE S R) (ht : t.toInt ≠ 0) : (f_isEntry R k t).toInt ≠ 0 ↔ (fX7_tagOf S k).toInt = t.toInt := by
  obtain ⟨⟨e14, -, -⟩, -⟩ := h.ent
  unfold f_isEntry f_isEntry_J27
  rw [e14]
  by_cases c : k.toInt < 1
  · rw [if_pos c, tg_out (Or.inl c)]
    exact ⟨fun q => absurd (by decide) q, fun q => absurd q (by rw [show (0 : Int32).toInt = 0 from rfl]; omega)⟩
  · by_cases c2 : (qI S 9 5).toInt ≤ k.toInt
    · rw [if_neg c, if_pos c2, tg_out (Or.inr c2)]
      exact ⟨fun q => absurd (by decide) q, fun q => absurd q (by rw [show (0 : Int32).toInt = 0 from rfl]; omega)⟩
    · rw [if_neg c, if_neg c2, (tg_in h (by omega) (by omega)).1]
      by_cases c3 : (qI R 4 k.toInt.toNat).toInt = t.toInt
      · rw [if_pos c3]
        exact ⟨fun _ => c3, fun _ => by decide⟩
      · rw [if_neg c3]
        exact ⟨fun q => absurd (by decide) q, fun q => absurd q c3⟩
theorem ie_no (h : LyE S R) (ht : t.toInt ≠ 0) : (f_isEntry R k t).toInt = 0 ↔ (fX7_tagOf S k).toInt ≠ t.toInt := by
  have := ie_of (k := k) h ht
  constructor
  · intro a b
    exact (this.mpr b) a
  · intro a
    by_cases c : (f_isEntry R k t).toInt = 0
    · exact c
    · exact absurd (this.mp c) a
theorem fs_7 (h : LyE S R) (hk : (fX7_tagOf S k).toInt = 7 ∨ (fX7_tagOf S k).toInt = 9 ∨ (fX7_tagOf S k).toInt = 10 ∨ (fX7_tagOf S k).toInt = 12) : qI R 6 k.toInt.toNat = fX7_firstOf S k ∧ ((fX7_tagOf S k).toInt ≠ 7 → qI R 7 k.toInt.toNat = fX7_secondOf S k) := by
  obtain ⟨⟨-, -, -, en⟩, -, e4⟩ := tg_en h (k := k) (by omega)
  rw [e4] at en
  unfold fX7_firstOf fX7_secondOf
  rcases en with ⟨a, -⟩ | ⟨a, -⟩ | ⟨a, -⟩ | ⟨a, b⟩ | ⟨a, -, b, c⟩
  · omega
  · omega
  · omega
  · exact ⟨b, fun q => absurd a q⟩
  · exact ⟨b, fun _ => c⟩
theorem cv_entryPoints (h : vX7_entryPoints S k r u) : u = S ∧ ((r = 1 ∧ ptOK S k) ∨ (r = 0 ∧ ¬ ptOK S k)) := by
  have J127 : v_X7_entryPoints_J127 r u S → r = 0 ∧ u = S := fun h => h.2
  have J93 : v_X7_entryPoints_J93 r u S → r = 0 ∧ u = S := fun h => h.2
  have J95 : (fX7_tagOf S k).toInt = 9 ∨ (fX7_tagOf S k).toInt = 10 → v_X7_entryPoints_J95 r u S k → u = S ∧ ((r = 1 ∧ ptOK S k) ∨ (r = 0 ∧ ¬ ptOK S k)) := fun ht h => by
    obtain ⟨-, -, a8, e8, -, a12, e12, h⟩ := h
    rw [e12, e8] at h
    rcases h with ⟨c, -, a17, e17, -, a21, e21, h⟩ | ⟨c, h⟩
    · rw [e21, e17] at h
      rcases h with ⟨c2, er, eu⟩ | ⟨c2, h⟩
      · exact ⟨eu, Or.inl ⟨er, fun q => by omega, fun q => by omega, fun _ => ⟨c, c2⟩⟩⟩
      · obtain ⟨er, eu⟩ := J127 h
        exact ⟨eu, Or.inr ⟨er, fun q => c2 (q.2.2 ht).2⟩⟩
    · obtain ⟨er, eu⟩ := J127 h
      exact ⟨eu, Or.inr ⟨er, fun q => c (q.2.2 ht).1⟩⟩
  obtain ⟨-, a4, e4, h⟩ := h
  rw [e4] at h
  rcases h with ⟨c7, -, a26, e26, -, a30, e30, h⟩ | ⟨c7, h⟩
  · rw [e30, e26] at h
    rcases h with ⟨c, er, eu⟩ | ⟨c, er, eu⟩
    · exact ⟨eu, Or.inl ⟨er, fun _ => c, fun q => by omega, fun q => by omega⟩⟩
    · exact ⟨eu, Or.inr ⟨er, fun q => c (q.1 c7)⟩⟩
  have OK : (fX7_tagOf S k).toInt ≠ 7 → (fX7_tagOf S k).toInt ≠ 9 → (fX7_tagOf S k).toInt ≠ 10 → (fX7_tagOf S k).toInt ≠ 12 → ptOK S k := fun h1 h2 h3 h4 => ⟨fun q => absurd q h1, fun q => absurd q h4, fun q => by omega⟩
  rcases h with ⟨c8, er, eu⟩ | ⟨c8, h⟩
  · exact ⟨eu, Or.inl ⟨er, OK c7 (by omega) (by omega) (by omega)⟩⟩
  rcases h with ⟨c9, h⟩ | ⟨c9, h⟩
  · exact J95 (Or.inl c9) h
  rcases h with ⟨c10, h⟩ | ⟨c10, h⟩
  · exact J95 (Or.inr c10) h
  rcases h with ⟨c11, er, eu⟩ | ⟨c11, h⟩
  · exact ⟨eu, Or.inl ⟨er, OK c7 c9 c10 (by omega)⟩⟩
  rcases h with ⟨c12, -, a35, e35, -, a39, e39, h⟩ | ⟨c12, er, eu⟩
  · rw [e39, e35] at h
    rcases h with ⟨c, -, a44, e44, -, a48, e48, h⟩ | ⟨c, h⟩
    · rw [e48, e44] at h
      rcases h with ⟨c2, er, eu⟩ | ⟨c2, h⟩
      · exact ⟨eu, Or.inl ⟨er, fun q => by omega, fun _ => ⟨c, c2⟩, fun q => by omega⟩⟩
      · obtain ⟨er, eu⟩ := J93 h
        exact ⟨eu, Or.inr ⟨er, fun q => c2 (q.2.1 c12).2⟩⟩
    · obtain ⟨er, eu⟩ := J93 h
      exact ⟨eu, Or.inr ⟨er, fun q => c (q.2.1 c12).1⟩⟩
  · exact ⟨eu, Or.inl ⟨er, OK c7 c9 c10 c12⟩⟩
/-- the reference's look at entry k, at its end -/
def PtX (S R : MS) (k : Int32) (oo : MS ⊕ MS) (K : MS → Int32 → Prop) : Prop := (ptOK S k ∧ ∃ a : Int32, a = k + Int32.ofInt 1 ∧ K R a) ∨ (¬ ptOK S k ∧ oo = .inr (rBk R 6 (qI R 5 k.toInt.toNat)))
theorem rv_131 {K : MS → Int32 → Prop} (hg : t.toInt ≠ 0 ↔ ptOK S k) (g : v_entries_J131 oo K R k t) : PtX S R k oo K := by
  obtain ⟨-, g⟩ := g
  rcases g with ⟨S17, hm, a, ea, g⟩ | ⟨u9, hm, g⟩
  · rcases rv_must hm with ⟨q, z⟩ | ⟨-, z⟩
    · injection z with z
      rw [z] at g
      exact Or.inl ⟨hg.mp q, a, ea, g⟩
    · exact nomatch z
  · rcases rv_must hm with ⟨-, z⟩ | ⟨q, z⟩
    · exact nomatch z
    · injection z with z
      exact Or.inr ⟨fun p => (hg.mpr p) q, by rw [g, z]⟩
theorem rv_pt {K : MS → Int32 → Prop} {a4 a7 : Int32} (h : LyE S R) (h1 : 1 ≤ k.toInt) (h2 : k.toInt < (qI S 9 5).toInt) (e4 : a4 = qI R 6 k.toInt.toNat) (e7 : a7 = qI R 7 k.toInt.toNat) (g : ((qI R 4 k.toInt.toNat).toInt = 7 ∧ (d_isEntry R a4 (1 : Int32) ∧ (∃ a45 : Int32, a45 = (f_isEntry R a4 (1 : Int32)) ∧ (v_entries_J46 oo K R k a4 a7 a45)))) ∨ (¬ (qI R 4 k.toInt.toNat).toInt = 7 ∧ (v_entries_J46 oo K R k a4 a7 1))) : PtX S R k oo K := by
  obtain ⟨tg, -⟩ := tg_in h h1 h2
  have o1 : (1 : Int32).toInt = 1 := li_1
  have o0 : (0 : Int32).toInt = 0 := rfl
  have i1 : ∀ {a : Int32}, (f_isEntry R a (1 : Int32)).toInt ≠ 0 ↔ (fX7_tagOf S a).toInt = 1 := ie_of (t := 1) h (by decide)
  have i7 : ∀ {a : Int32}, (f_isEntry R a (7 : Int32)).toInt ≠ 0 ↔ (fX7_tagOf S a).toInt = 7 := ie_of (t := 7) h (by decide)
  have i12 : ∀ {a : Int32}, (f_isEntry R a (12 : Int32)).toInt ≠ 0 ↔ (fX7_tagOf S a).toInt = 12 := ie_of (t := 12) h (by decide)
  -- from J82 on: only 9 and 10 are looked at
  have J104 : (fX7_tagOf S k).toInt = 9 ∨ (fX7_tagOf S k).toInt = 10 → v_entries_J104 oo K R k a4 a7 → PtX S R k oo K := fun ht g => by
    obtain ⟨f1, f2⟩ := fs_7 h (k := k) (by omega)
    rw [e4, f1, e7, f2 (by omega)] at g
    obtain ⟨-, g⟩ := g
    have no : ¬ ptOK S k → v_entries_J128 oo K R k → PtX S R k oo K := fun hn g => rv_131 (t := 0) ⟨fun q => absurd o0 q, fun q => absurd q hn⟩ g
    rcases g with ⟨c, g⟩ | ⟨c, -, g⟩
    · exact no (fun q => (i7.mpr (q.2.2 ht).1) c) g
    · rcases g with ⟨c2, g⟩ | ⟨c2, g⟩
      · exact no (fun q => (i12.mpr (q.2.2 ht).2) c2) g
      · exact rv_131 (t := 1) ⟨fun _ => ⟨fun q => by omega, fun q => by omega, fun _ => ⟨i7.mp c, i12.mp c2⟩⟩, fun _ => by decide⟩ g
  have J82 : ∀ {t : Int32}, ((fX7_tagOf S k).toInt ≠ 9 → (fX7_tagOf S k).toInt ≠ 10 → (t.toInt ≠ 0 ↔ ptOK S k)) → v_entries_J82 oo K R k a4 a7 t → PtX S R k oo K := fun hg g => by
    obtain ⟨-, g⟩ := g
    rw [← tg] at g
    rcases g with ⟨c, g⟩ | ⟨c, -, g⟩
    · exact J104 (Or.inl c) g
    · rcases g with ⟨c2, g⟩ | ⟨c2, g⟩
      · exact J104 (Or.inr c2) g
      · exact rv_131 (hg c c2) g
  have J46 : ∀ {t : Int32}, ((fX7_tagOf S k).toInt ≠ 12 → (fX7_tagOf S k).toInt ≠ 9 → (fX7_tagOf S k).toInt ≠ 10 → (t.toInt ≠ 0 ↔ ptOK S k)) → v_entries_J46 oo K R k a4 a7 t → PtX S R k oo K := fun hg g => by
    obtain ⟨-, g⟩ := g
    rw [← tg] at g
    rcases g with ⟨c, -, g⟩ | ⟨c, g⟩
    · obtain ⟨f1, f2⟩ := fs_7 h (k := k) (by omega)
      have no : ¬ ptOK S k → v_entries_J79 oo K R k a4 a7 → PtX S R k oo K := fun hn g => J82 (t := 0) (fun _ _ => ⟨fun q => absurd o0 q, fun q => absurd q hn⟩) g
      have i1a : (f_isEntry R a4 (1 : Int32)).toInt ≠ 0 ↔ (fX7_tagOf S (fX7_firstOf S k)).toInt = 1 := by rw [e4, f1]; exact i1
      have i1b : (f_isEntry R a7 (1 : Int32)).toInt ≠ 0 ↔ (fX7_tagOf S (fX7_secondOf S k)).toInt = 1 := by rw [e7, f2 (by omega)]; exact i1
      rcases g with ⟨c2, g⟩ | ⟨c2, -, g⟩
      · exact no (fun q => (i1a.mpr (q.2.1 c).1) c2) g
      · rcases g with ⟨c3, g⟩ | ⟨c3, g⟩
        · exact no (fun q => (i1b.mpr (q.2.1 c).2) c3) g
        · exact J82 (t := 1) (fun _ _ => ⟨fun _ => ⟨fun q => by omega, fun _ => ⟨i1a.mp c2, i1b.mp c3⟩, fun q => by omega⟩, fun _ => by decide⟩) g
    · exact J82 (hg c) g
  rw [← tg] at g
  rcases g with ⟨c, -, a45, e45, g⟩ | ⟨c, g⟩
  · obtain ⟨f1, -⟩ := fs_7 h (k := k) (by omega)
    have i1a : a45.toInt ≠ 0 ↔ (fX7_tagOf S (fX7_firstOf S k)).toInt = 1 := by rw [e45, e4, f1]; exact i1
    exact J46 (fun _ _ _ => ⟨fun q => ⟨fun _ => i1a.mp q, fun q => by omega, fun q => by omega⟩, fun q => i1a.mpr (q.1 c)⟩) g
  · exact J46 (t := 1) (fun h1 h2 h3 => ⟨fun _ => ⟨fun q => absurd q c, fun q => absurd q h1, fun q => by omega⟩, fun _ => by decide⟩) g
theorem s_entriesL (hE : LyE S R) : ∀ (n m : Nat) {k : Int32}, 1 ≤ k.toInt → k.toInt ≤ 500 → v_X7_entriesPoint_L2 r u n S k → v_entries_L2 oo m R k → PsE S R r u oo := by
  intro n
  induction n with
  | zero => intro m k _ _ h _; unfold v_X7_entriesPoint_L2 at h; exact h.elim
  | succ n ih =>
    intro m k k1 k5 h g
    cases m with
    | zero => unfold v_entries_L2 at g; exact g.elim
    | succ m =>
      obtain ⟨⟨e14, p1, p5⟩, -⟩ := hE.ent
      unfold v_X7_entriesPoint_L2 at h
      unfold v_entries_L2 at g
      rw [e14] at g
      obtain ⟨-, h⟩ := h
      rcases h with ⟨c, er, eu⟩ | ⟨c, r3, S4, h3, -, -, h⟩
      · rcases g with ⟨-, g⟩ | ⟨c2, -⟩
        · exact Or.inl ⟨er, eu, g⟩
        · exact absurd c c2
      rcases g with ⟨c2, -⟩ | ⟨-, -, a4, e4, -, a7, e7, -, g⟩
      · exact absurd c2 c
      obtain ⟨eS, q⟩ := cv_entryPoints h3
      rw [eS] at h
      rcases rv_pt hE k1 (by omega) e4 e7 g with ⟨ok, a, ea, g⟩ | ⟨no, e⟩
      · rcases q with ⟨er, -⟩ | ⟨-, q⟩
        · rcases h with ⟨z, -⟩ | ⟨-, a8, e8, h⟩
          · exact absurd z (by rw [er]; decide)
          · have ek : a8.toInt = k.toInt + 1 := by rw [e8, t_add (by rw [show (Int32.ofInt 1).toInt = 1 from rfl]; omega)]; rfl
            rw [ea, ← e8] at g
            exact ih m (by omega) (by omega) h g
        · exact absurd ok q
      · rcases q with ⟨-, q⟩ | ⟨er, -⟩
        · exact absurd q no
        · rcases h with ⟨-, -, r12, S13, h, -, -, er12, eu⟩ | ⟨z, -⟩
          · obtain ⟨a, b⟩ := cv_breaks h
            refine Or.inr ⟨by rw [er12, a], _, e, ?_⟩
            rw [eu, b, show fX7_entryAt S k = qI R 5 k.toInt.toNat from ?_]
            · exact badP
            · have nz : (fX7_tagOf S k).toInt ≠ 0 := fun q => no ⟨fun p => by omega, fun p => by omega, fun p => by omega⟩
              exact (tg_en hE nz).1.2.1.symm
          · exact absurd (by rw [er]; decide) z
theorem s_entries (hE : LyE S R) (h : vX7_entriesPoint S r u) (g : v_entries R oo) : PsE S R r u oo := by
  obtain ⟨n, h⟩ := h
  obtain ⟨m, g⟩ := g
  exact s_entriesL hE n m (by decide) (by decide) h g
end PT
