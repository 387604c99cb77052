/-! a typed world: every cell of the class's side in one list, its kinds told by one predicate -/
def Gm : Type := (Nat → ClassId) × (Nat → Nat → Nat) × (ClassId) × (ClassId) × (ClassId) × (ClassId) × (ClassId) × (ClassId) × (Nat → Nat → Option Value) × (Nat → Nat) × (Nat → Nat) × (Nat → Int32) × (Nat → Int32) × (Nat → Int32) × (Nat → Int32)
def Gm.dC (g : Gm) : Nat → ClassId := g.1
def Gm.dI (g : Gm) : Nat → Nat → Nat := g.2.1
def Gm.cB (g : Gm) : ClassId := g.2.2.1
def Gm.cI (g : Gm) : ClassId := g.2.2.2.1
def Gm.cZ (g : Gm) : ClassId := g.2.2.2.2.1
def Gm.cL (g : Gm) : ClassId := g.2.2.2.2.2.1
def Gm.cU (g : Gm) : ClassId := g.2.2.2.2.2.2.1
def Gm.cR (g : Gm) : ClassId := g.2.2.2.2.2.2.2.1
def Gm.k (g : Gm) : Nat → Nat → Option Value := g.2.2.2.2.2.2.2.2.1
def Gm.aK (g : Gm) : Nat → Nat := g.2.2.2.2.2.2.2.2.2.1
def Gm.aV (g : Gm) : Nat → Nat := g.2.2.2.2.2.2.2.2.2.2.1
/-- what stands in MAGIC, LENGTH_OF, TAKES_OF, GIVES_OF -/
def Gm.tM (g : Gm) : Nat → Int32 := g.2.2.2.2.2.2.2.2.2.2.2.1
def Gm.tL (g : Gm) : Nat → Int32 := g.2.2.2.2.2.2.2.2.2.2.2.2.1
def Gm.tT (g : Gm) : Nat → Int32 := g.2.2.2.2.2.2.2.2.2.2.2.2.2.1
def Gm.tG (g : Gm) : Nat → Int32 := g.2.2.2.2.2.2.2.2.2.2.2.2.2.2
/-- the texts: Code, J, DivideError, NullError, IndexError, SizeError -/
def sL : List Nat := [4, 1, 11, 9, 10, 9]
def sB : List (List Int32) := [[67, 111, 100, 101], [74], [68, 105, 118, 105, 100, 101, 69, 114, 114, 111, 114], [78, 117, 108, 108, 69, 114, 114, 111, 114], [73, 110, 100, 101, 120, 69, 114, 114, 111, 114], [83, 105, 122, 101, 69, 114, 114, 111, 114]]
def gT (g : Gm) (b n : Nat) : Prop := ∃ i : Nat, i < 6 ∧ b = g.aK i ∧ n = sL.getD i 0
def gV (g : Gm) (b n : Nat) : Prop := ∃ i : Nat, i < 6 ∧ b = g.aV i ∧ n = sL.getD i 0
theorem sL_le : ∀ i : Nat, i < 6 → sL.getD i 0 ≤ 11 := by decide
def tyL (g : Gm) : List (ClassId × FieldType) := [(g.cB, .byte), (g.cI, .int), (g.cZ, .boolean), (g.cL, .long), (g.cU, .object RX10), (g.cR, .object RX8)]
abbrev gD (g : Gm) : va_G := (g.dC, g.dI)
def shp : va_E → (ClassId × Nat × Nat) ⊕ Nat
  | .inl (c, n, .inl _) => .inl (c, n, 0)
  | .inl (c, n, .inr (.inl _)) => .inl (c, n, 1)
  | .inl (c, n, .inr (.inr (.inl _))) => .inl (c, n, 2)
  | .inl (c, n, .inr (.inr (.inr (.inl _)))) => .inl (c, n, 3)
  | .inl (c, n, .inr (.inr (.inr (.inr _)))) => .inl (c, n, 4)
  | .inr (ci, _) => .inr ci
def gS (ws : va_W) (a : Nat) (z : (ClassId × Nat × Nat) ⊕ Nat) : Prop := ∃ (k : Nat) (x : va_E), ws[k]? = some (a, x) ∧ shp x = z
abbrev gC (ws : va_W) (a ci : Nat) : Prop := gS ws a (.inr ci)
abbrev gI (ws : va_W) (a : Nat) (c : ClassId) (n : Nat) : Prop := gS ws a (.inl (c, n, 0))
abbrev gJ (ws : va_W) (a : Nat) (c : ClassId) (n : Nat) : Prop := gS ws a (.inl (c, n, 1))
abbrev gR (ws : va_W) (a : Nat) (c : ClassId) (n : Nat) : Prop := gS ws a (.inl (c, n, 4))
abbrev ows (ws : va_W) (k a ci : Nat) (fs : List Value) : Prop := ws[k]? = some (a, .inr (ci, fs))
abbrev iws (ws : va_W) (k a : Nat) (c : ClassId) (n : Nat) (f : Nat → Int32) : Prop := ws[k]? = some (a, .inl (c, n, .inl f))
abbrev jws (ws : va_W) (k a : Nat) (c : ClassId) (n : Nat) (f : Nat → Int64) : Prop := ws[k]? = some (a, .inl (c, n, .inr (.inl f)))
abbrev rws (ws : va_W) (k a : Nat) (c : ClassId) (n : Nat) (f : Nat → Option Nat) : Prop := ws[k]? = some (a, .inl (c, n, .inr (.inr (.inr (.inr f)))))
theorem gC_of {ws : va_W} {a ci : Nat} (h : gC ws a ci) : ∃ (k : Nat) (fs : List Value), ows ws k a ci fs := by
  obtain ⟨k, x, h1, h2⟩ := h
  rcases x with ⟨c, n, f | f | f | f | f⟩ | ⟨c, fs⟩ <;> simp [shp] at h2
  subst h2
  exact ⟨k, fs, h1⟩
theorem gI_of {ws : va_W} {a n : Nat} {c : ClassId} (h : gI ws a c n) : ∃ (k : Nat) (f : Nat → Int32), iws ws k a c n f := by
  obtain ⟨k, x, h1, h2⟩ := h
  rcases x with ⟨c, n, f | f | f | f | f⟩ | ⟨c, fs⟩ <;> simp [shp] at h2
  obtain ⟨rfl, rfl⟩ := h2
  exact ⟨k, f, h1⟩
theorem gJ_of {ws : va_W} {a n : Nat} {c : ClassId} (h : gJ ws a c n) : ∃ (k : Nat) (f : Nat → Int64), jws ws k a c n f := by
  obtain ⟨k, x, h1, h2⟩ := h
  rcases x with ⟨c, n, f | f | f | f | f⟩ | ⟨c, fs⟩ <;> simp [shp] at h2
  obtain ⟨rfl, rfl⟩ := h2
  exact ⟨k, f, h1⟩
theorem gR_of {ws : va_W} {a n : Nat} {c : ClassId} (h : gR ws a c n) : ∃ (k : Nat) (f : Nat → Option Nat), rws ws k a c n f := by
  obtain ⟨k, x, h1, h2⟩ := h
  rcases x with ⟨c, n, f | f | f | f | f⟩ | ⟨c, fs⟩ <;> simp [shp] at h2
  obtain ⟨rfl, rfl⟩ := h2
  exact ⟨k, f, h1⟩
/-- what stays for ever: the kinds of cells; a place of a row of references that isn't null; a Unit's rows -/
def nnS (ws : va_W) (a i : Nat) : Prop := ∃ (k : Nat) (c : ClassId) (n : Nat) (f : Nat → Option Nat) (b : Nat), rws ws k a c n f ∧ f i = some b
def fnS (ws : va_W) (a r : Nat) : Prop := ∃ (k : Nat) (fs : List Value), ows ws k a 9 fs ∧ fs[13]? = some (.ref r)
def gE (ws ws' : va_W) : Prop := (∀ a z, gS ws a z → gS ws' a z) ∧ (∀ a i, nnS ws a i → nnS ws' a i) ∧ ∀ a r, fnS ws a r → fnS ws' a r
theorem gE.rf {ws : va_W} : gE ws ws := ⟨fun _ _ h => h, fun _ _ h => h, fun _ _ h => h⟩
theorem gE.tr {u v w : va_W} (h : gE u v) (h' : gE v w) : gE u w := ⟨fun a z q => h'.1 a z (h.1 a z q), fun a i q => h'.2.1 a i (h.2.1 a i q), fun a r q => h'.2.2 a r (h.2.2 a r q)⟩
def cw (x x' : va_E) : Prop := shp x' = shp x ∧ (∀ (c : ClassId) (n : Nat) (f : Nat → Option Nat) (i b : Nat), x = .inl (c, n, .inr (.inr (.inr (.inr f)))) → f i = some b → ∃ (c' : ClassId) (n' : Nat) (f' : Nat → Option Nat) (b' : Nat), x' = .inl (c', n', .inr (.inr (.inr (.inr f')))) ∧ f' i = some b') ∧ ∀ (fs : List Value) (r : Nat), x = .inr (9, fs) → fs[13]? = some (.ref r) → ∃ fs' : List Value, x' = .inr (9, fs') ∧ fs'[13]? = some (.ref r)
theorem cw_i {c : ClassId} {n : Nat} {f f' : Nat → Int32} : cw (.inl (c, n, .inl f)) (.inl (c, n, .inl f')) := ⟨rfl, fun _ _ _ _ _ h => (by cases h), fun _ _ h => (by cases h)⟩
theorem cw_j {c : ClassId} {n : Nat} {f f' : Nat → Int64} : cw (.inl (c, n, .inr (.inl f))) (.inl (c, n, .inr (.inl f'))) := ⟨rfl, fun _ _ _ _ _ h => (by cases h), fun _ _ h => (by cases h)⟩
theorem cw_r {c : ClassId} {n i v : Nat} {f : Nat → Option Nat} : cw (.inl (c, n, .inr (.inr (.inr (.inr f))))) (.inl (c, n, .inr (.inr (.inr (.inr (va_up f i (some v))))))) := ⟨rfl, fun _ _ _ j b h hb => by
  cases h
  by_cases hj : j = i
  · subst hj; exact ⟨_, _, _, v, rfl, by rw [va_up_self]⟩
  · exact ⟨_, _, _, b, rfl, by rw [va_up_ne _ _ hj]; exact hb⟩, fun _ _ h => (by cases h)⟩
theorem cw_o {ci fi : Nat} {v : Value} {fs fs' : List Value} (hs : fs' = fs.set fi v) (hn : (ci, fi) ≠ (9, 13)) : cw (.inr (ci, fs)) (.inr (ci, fs')) := ⟨rfl, fun _ _ _ _ _ h => (by cases h), fun gs r h hr => by
  cases h
  refine ⟨fs', rfl, ?_⟩
  rw [hs, List.getElem?_set_ne (fun e => hn (by rw [e]))]
  exact hr⟩
theorem cw_n {ci fi : Nat} {v : Value} {fs fs' : List Value} (hs : fs' = fs.set fi v) (h0 : fs[13]? = some .null) : cw (.inr (ci, fs)) (.inr (ci, fs')) := ⟨rfl, fun _ _ _ _ _ h => (by cases h), fun gs r h hr => by
  cases h
  rw [h0] at hr
  cases hr⟩
theorem gE_set {ws ws' : va_W} {k a : Nat} {x x' : va_E} (e : ws' = ws.set k (a, x')) (hk : ws[k]? = some (a, x)) (hc : cw x x') : gE ws ws' := by
  subst e
  have hl := (List.getElem?_eq_some_iff.mp hk).1
  refine ⟨?_, ?_, ?_⟩
  · intro b z ⟨j, y, h1, h2⟩
    by_cases hj : j = k
    · subst hj
      rw [hk] at h1
      cases h1
      exact ⟨j, x', by rw [List.getElem?_set_self hl], hc.1.trans h2⟩
    · exact ⟨j, y, by rw [List.getElem?_set_ne (Ne.symm hj)]; exact h1, h2⟩
  · intro b i ⟨j, c, n, f, d, h1, h2⟩
    by_cases hj : j = k
    · subst hj
      rw [rws, hk] at h1
      cases h1
      obtain ⟨c', n', f', b', h3, h4⟩ := hc.2.1 _ _ _ i d rfl h2
      subst h3
      exact ⟨j, c', n', f', b', by rw [rws, List.getElem?_set_self hl], h4⟩
    · exact ⟨j, c, n, f, d, by rw [rws, List.getElem?_set_ne (Ne.symm hj)]; exact h1, h2⟩
  · intro b r ⟨j, fs, h1, h2⟩
    by_cases hj : j = k
    · subst hj
      rw [ows, hk] at h1
      cases h1
      obtain ⟨fs', h3, h4⟩ := hc.2.2 _ r rfl h2
      subst h3
      exact ⟨j, fs', by rw [ows, List.getElem?_set_self hl], h4⟩
    · exact ⟨j, fs, by rw [ows, List.getElem?_set_ne (Ne.symm hj)]; exact h1, h2⟩
theorem gS_back {ws ws' : va_W} {k a : Nat} {x x' : va_E} (e : ws' = ws.set k (a, x')) (hk : ws[k]? = some (a, x)) (hs : shp x' = shp x) {b : Nat} {z : (ClassId × Nat × Nat) ⊕ Nat} (h : gS ws' b z) : gS ws b z := by
  subst e
  obtain ⟨j, y, h1, h2⟩ := h
  have hl := (List.getElem?_eq_some_iff.mp hk).1
  by_cases hj : j = k
  · subst hj
    rw [List.getElem?_set_self hl] at h1
    cases h1
    exact ⟨j, x, hk, hs.symm.trans h2⟩
  · rw [List.getElem?_set_ne (Ne.symm hj)] at h1
    exact ⟨j, y, h1, h2⟩
theorem gset_self0 {ws ws' : va_W} {k : Nat} {x x' : Nat × va_E} (e : ws' = ws.set k x') (hk : ws[k]? = some x) : ws'[k]? = some x' := by
  subst e
  exact List.getElem?_set_self (List.getElem?_eq_some_iff.mp hk).1
/-! whose an array is: one field of one object has it (but what a Reader reads is some Bytes' row) -/
def aS (ws : va_W) (r : Nat) : Prop := ∃ z, gS ws r (.inl z)
abbrev bd (ci j : Nat) : Prop := (ci = 6 ∨ ci = 0) ∧ j = 0
def uq (ws : va_W) : Prop := ∀ (k k' a a' ci ci' : Nat) (fs fs' : List Value) (j j' r : Nat), ows ws k a ci fs → ows ws k' a' ci' fs' → fs[j]? = some (.ref r) → fs'[j']? = some (.ref r) → aS ws r → (k = k' ∧ j = j') ∨ (bd ci j ∧ bd ci' j')
def clo (ws : va_W) : Prop := ∀ (k a ci : Nat) (fs : List Value) (j r : Nat), ows ws k a ci fs → fs[j]? = some (.ref r) → ∃ z, gS ws r z
def gU (ws : va_W) : Prop := uq ws ∧ clo ws
/-- no object has it -/
def frs (ws : va_W) (r : Nat) : Prop := ∀ (k a ci : Nat) (fs : List Value) (j : Nat), ows ws k a ci fs → fs[j]? ≠ some (.ref r)
def okv (ws : va_W) (ci fi : Nat) (v : Value) : Prop := ∀ r : Nat, v = .ref r → (∃ z, gS ws r z) ∧ (¬ aS ws r ∨ frs ws r ∨ (bd ci fi ∧ ∃ (k b di : Nat) (gs : List Value) (j : Nat), ows ws k b di gs ∧ gs[j]? = some (.ref r) ∧ bd di j))
theorem okv_i {ws : va_W} {ci fi : Nat} {c : Int32} : okv ws ci fi (.int c) := fun _ h => by cases h
theorem okv_l {ws : va_W} {ci fi : Nat} {c : Int64} : okv ws ci fi (.long c) := fun _ h => by cases h
theorem okv_n {ws : va_W} {ci fi : Nat} : okv ws ci fi .null := fun _ h => by cases h
theorem gS_one {A : Nat → Prop} {ws : va_W} {a : Nat} {z z' : (ClassId × Nat × Nat) ⊕ Nat} (hD : va_D A ws) (h : gS ws a z) (h' : gS ws a z') : z = z' := by
  obtain ⟨k, x, h1, h2⟩ := h
  obtain ⟨j, y, h3, h4⟩ := h'
  have e := hD.1 k j (a, x) (a, y) h1 h3 rfl
  subst e
  rw [h1] at h3
  cases h3
  exact h2.symm.trans h4
theorem okv_o {A : Nat → Prop} {ws : va_W} {ci fi b di : Nat} (hD : va_D A ws) (h : gC ws b di) : okv ws ci fi (.ref b) := fun r e => by
  cases e
  refine ⟨⟨_, h⟩, Or.inl ?_⟩
  rintro ⟨z, q⟩
  exact absurd (gS_one hD h q) (by intro h; cases h)
theorem okv_q {A : Nat → Prop} {ws : va_W} {ci fi di : Nat} {v : Option Nat} (hD : va_D A ws) (h : ∀ b, v = some b → gC ws b di) : okv ws ci fi (va_rf v) := by
  rcases v with _ | b
  · exact okv_n
  · exact okv_o hD (h b rfl)
theorem okv_a {ws : va_W} {ci fi b : Nat} {z : (ClassId × Nat × Nat) ⊕ Nat} (h : gS ws b z) (hf : frs ws b) : okv ws ci fi (.ref b) := fun r e => by
  cases e
  exact ⟨⟨_, h⟩, Or.inr (Or.inl hf)⟩
theorem okv_b {ws : va_W} {ci fi b k a di j : Nat} {gs : List Value} {z : (ClassId × Nat × Nat) ⊕ Nat} (h : gS ws b z) (h1 : bd ci fi) (hk : ows ws k a di gs) (hj : gs[j]? = some (.ref b)) (h2 : bd di j) : okv ws ci fi (.ref b) := fun r e => by
  cases e
  exact ⟨⟨_, h⟩, Or.inr (Or.inr ⟨h1, k, a, di, gs, j, hk, hj, h2⟩)⟩
theorem fl_set {ws ws' : va_W} {k a ci fi : Nat} {v : Value} {fs fs' : List Value} (e : ws' = ws.set k (a, .inr (ci, fs'))) (hk : ows ws k a ci fs) (hs : fs' = fs.set fi v) {j b di i r : Nat} {gs : List Value} (h : ows ws' j b di gs) (hi : gs[i]? = some (.ref r)) : (∃ gs0 : List Value, ows ws j b di gs0 ∧ gs0[i]? = some (.ref r)) ∨ (j = k ∧ di = ci ∧ i = fi ∧ v = .ref r) := by
  have hl := (List.getElem?_eq_some_iff.mp hk).1
  subst e
  by_cases hj : j = k
  · subst hj
    rw [ows, List.getElem?_set_self hl] at h
    cases h
    by_cases hf : i = fi
    · subst hf
      right
      rw [hs] at hi
      have hl2 : i < fs.length := by
        have := (List.getElem?_eq_some_iff.mp hi).1
        rw [List.length_set] at this
        exact this
      rw [List.getElem?_set_self hl2] at hi
      exact ⟨rfl, rfl, rfl, Option.some.inj hi⟩
    · left
      rw [hs, List.getElem?_set_ne (Ne.symm hf)] at hi
      exact ⟨fs, hk, hi⟩
  · left
    rw [ows, List.getElem?_set_ne (Ne.symm hj)] at h
    exact ⟨gs, h, hi⟩
theorem ows_one {ws : va_W} {k a b ci di : Nat} {fs gs : List Value} (h : ows ws k a ci fs) (h' : ows ws k b di gs) : a = b ∧ ci = di ∧ fs = gs := by
  rw [ows, h] at h'
  cases h'
  exact ⟨rfl, rfl, rfl⟩
theorem gU_set {ws ws' : va_W} {k a ci fi : Nat} {v : Value} {fs fs' : List Value} (e : ws' = ws.set k (a, .inr (ci, fs'))) (hk : ows ws k a ci fs) (hs : fs' = fs.set fi v) (hv : okv ws ci fi v) (hU : gU ws) : gU ws' := by
  have back : ∀ {b : Nat} {z : (ClassId × Nat × Nat) ⊕ Nat}, gS ws' b z → gS ws b z := fun h => gS_back e hk rfl h
  have forw : ∀ {b : Nat} {z : (ClassId × Nat × Nat) ⊕ Nat}, gS ws b z → gS ws' b z := fun {b z} h => gS_back (ws := ws') (ws' := ws) (k := k) (a := a) (x := .inr (ci, fs')) (x' := .inr (ci, fs)) (by
    have hl := (List.getElem?_eq_some_iff.mp hk).1
    have h9 := (List.getElem?_eq_some_iff.mp hk).2
    rw [e, List.set_set, ← h9, List.set_getElem_self]) (gset_self0 e hk) rfl h
  have key : ∀ (j b di i r : Nat) (gs : List Value), ows ws j b di gs → gs[i]? = some (.ref r) → v = .ref r → aS ws r → bd ci fi ∧ bd di i := by
    intro j b di i r gs h hi hr ha
    rcases (hv r hr).2 with q | q | ⟨q1, k2, b2, d2, gs2, j2, q2, q3, q4⟩
    · exact absurd ha q
    · exact absurd hi (q j b di gs i h)
    · refine ⟨q1, ?_⟩
      rcases hU.1 _ _ _ _ _ _ _ _ _ _ _ h q2 hi q3 ha with ⟨rfl, rfl⟩ | ⟨z, -⟩
      · obtain ⟨-, rfl, -⟩ := ows_one h q2
        exact q4
      · exact z
  refine ⟨fun k1 k2 a1 a2 c1 c2 f1 f2 j1 j2 r h1 h2 h3 h4 ha => ?_, fun k1 a1 c1 f1 j1 r h1 h3 => ?_⟩
  · obtain ⟨z, hz⟩ := ha
    have ha : aS ws r := ⟨z, back hz⟩
    rcases fl_set e hk hs h1 h3 with ⟨g1, p1, p2⟩ | ⟨p1, p2, p3, p4⟩ <;> rcases fl_set e hk hs h2 h4 with ⟨g2, q1, q2⟩ | ⟨q1, q2, q3, q4⟩
    · exact hU.1 _ _ _ _ _ _ _ _ _ _ _ p1 q1 p2 q2 ha
    · have w := key _ _ _ _ _ _ p1 p2 q4 ha
      right
      rw [q2, q3]
      exact ⟨w.2, w.1⟩
    · have w := key _ _ _ _ _ _ q1 q2 p4 ha
      right
      rw [p2, p3]
      exact w
    · left
      exact ⟨p1.trans q1.symm, p3.trans q3.symm⟩
  · rcases fl_set e hk hs h1 h3 with ⟨g1, p1, p2⟩ | ⟨p1, p2, p3, p4⟩
    · obtain ⟨z, hz⟩ := hU.2 _ _ _ _ _ _ p1 p2
      exact ⟨z, forw hz⟩
    · obtain ⟨z, hz⟩ := (hv r p4).1
      exact ⟨z, forw hz⟩
theorem ows_arB {ws ws' : va_W} {k a : Nat} {x x' : ClassId × vp_A} (e : ws' = ws.set k (a, .inl x')) (hk : ws[k]? = some (a, .inl x)) {j b di : Nat} {gs : List Value} (h : ows ws' j b di gs) : ows ws j b di gs := by
  have hl := (List.getElem?_eq_some_iff.mp hk).1
  subst e
  by_cases hj : j = k
  · subst hj
    rw [ows, List.getElem?_set_self hl] at h
    cases h
  · rw [ows, List.getElem?_set_ne (Ne.symm hj)] at h
    exact h
theorem gU_ar {ws ws' : va_W} {k a : Nat} {x x' : ClassId × vp_A} (e : ws' = ws.set k (a, .inl x')) (hk : ws[k]? = some (a, .inl x)) (hs : shp (.inl x') = shp (.inl x)) (hE : gE ws ws') (hU : gU ws) : gU ws' := ⟨fun k1 k2 a1 a2 c1 c2 f1 f2 j1 j2 r h1 h2 h3 h4 ⟨z, ha⟩ => hU.1 _ _ _ _ _ _ _ _ _ _ _ (ows_arB e hk h1) (ows_arB e hk h2) h3 h4 ⟨z, gS_back e hk hs ha⟩, fun k1 a1 c1 f1 j1 r h1 h3 => by
  obtain ⟨z, hz⟩ := hU.2 _ _ _ _ _ _ (ows_arB e hk h1) h3
  exact ⟨z, hE.1 _ _ hz⟩⟩
theorem frs_set {ws ws' : va_W} {k a ci fi q : Nat} {v : Value} {fs fs' : List Value} (e : ws' = ws.set k (a, .inr (ci, fs'))) (hk : ows ws k a ci fs) (hs : fs' = fs.set fi v) (hv : v ≠ .ref q) (h : frs ws q) : frs ws' q := fun j b di gs i hj hi => by
  rcases fl_set e hk hs hj hi with ⟨g1, p1, p2⟩ | ⟨p1, p2, p3, p4⟩
  · exact h _ _ _ _ _ p1 p2
  · exact hv p4
theorem frs_ar {ws ws' : va_W} {k a q : Nat} {x x' : ClassId × vp_A} (e : ws' = ws.set k (a, .inl x')) (hk : ws[k]? = some (a, .inl x)) (h : frs ws q) : frs ws' q := fun _ _ _ _ _ hj => h _ _ _ _ _ (ows_arB e hk hj)
/-- every object that has the array has it in one of these fields -/
def hol (ws : va_W) (r : Nat) (C : List (Nat × Nat)) : Prop := ∀ (k b ci : Nat) (fs : List Value) (j : Nat), ows ws k b ci fs → fs[j]? = some (.ref r) → (ci, j) ∈ C
theorem hol_ar {ws ws' : va_W} {k a q : Nat} {C : List (Nat × Nat)} {x x' : ClassId × vp_A} (e : ws' = ws.set k (a, .inl x')) (hk : ws[k]? = some (a, .inl x)) (h : hol ws q C) : hol ws' q C := fun _ _ _ _ _ hj hi => h _ _ _ _ _ (ows_arB e hk hj) hi
theorem hol_f {ws : va_W} {q : Nat} {C : List (Nat × Nat)} (h : frs ws q) : hol ws q C := fun _ _ _ _ _ hj hi => absurd hi (h _ _ _ _ _ hj)
theorem hol_u {ws : va_W} {k a ci j r : Nat} {fs : List Value} {z : (ClassId × Nat × Nat)} (hU : gU ws) (hk : ows ws k a ci fs) (hj : fs[j]? = some (.ref r)) (hr : gS ws r (.inl z)) (hb : ¬ bd ci j) : hol ws r [(ci, j)] := fun k2 b2 c2 f2 j2 h2 h3 => by
  rcases hU.1 _ _ _ _ _ _ _ _ _ _ _ hk h2 hj h3 ⟨z, hr⟩ with ⟨rfl, rfl⟩ | ⟨w, -⟩
  · obtain ⟨-, rfl, -⟩ := ows_one hk h2
    exact List.mem_singleton.mpr rfl
  · exact absurd w hb
theorem hol_b {ws : va_W} {k a ci j r : Nat} {fs : List Value} {z : (ClassId × Nat × Nat)} (hU : gU ws) (hk : ows ws k a ci fs) (hj : fs[j]? = some (.ref r)) (hr : gS ws r (.inl z)) (hb : bd ci j) : hol ws r [(0, 0), (6, 0)] := fun k2 b2 c2 f2 j2 h2 h3 => by
  have key : ∀ c i : Nat, bd c i → (c, i) ∈ [(0, 0), (6, 0)] := by
    rintro c i ⟨rfl | rfl, rfl⟩
    · exact List.mem_cons_of_mem _ (List.mem_singleton.mpr rfl)
    · exact List.mem_cons_self
  rcases hU.1 _ _ _ _ _ _ _ _ _ _ _ hk h2 hj h3 ⟨z, hr⟩ with ⟨rfl, rfl⟩ | ⟨-, w⟩
  · obtain ⟨-, rfl, -⟩ := ows_one hk h2
    exact key _ _ hb
  · exact key _ _ w
theorem gset_self {ws ws' : va_W} {k : Nat} {x x' : Nat × va_E} (e : ws' = ws.set k x') (hk : ws[k]? = some x) : ws'[k]? = some x' := by
  subst e
  exact List.getElem?_set_self (List.getElem?_eq_some_iff.mp hk).1
theorem gset_ob {ws ws' : va_W} {k j a b ci di : Nat} {fs fs' gs : List Value} (e : ws' = ws.set k (a, .inr (ci, fs'))) (hk : ows ws k a ci fs) (hj : ows ws j b di gs) (hne : ci ≠ di) : ows ws' j b di gs := by
  subst e
  have : k ≠ j := by
    rintro rfl
    rw [ows, hk] at hj
    cases hj
    exact hne rfl
  rw [ows, List.getElem?_set_ne this]
  exact hj
theorem gset_obI {ws ws' : va_W} {k j a b ci : Nat} {fs fs' : List Value} {x : ClassId × vp_A} (e : ws' = ws.set k (a, .inr (ci, fs'))) (hk : ows ws k a ci fs) (hj : ws[j]? = some (b, .inl x)) : ws'[j]? = some (b, .inl x) := by
  subst e
  have : k ≠ j := by
    rintro rfl
    rw [ows, hj] at hk
    cases hk
  rw [List.getElem?_set_ne this]
  exact hj
theorem gset_arO {ws ws' : va_W} {k j a b di : Nat} {x x' : ClassId × vp_A} {gs : List Value} (e : ws' = ws.set k (a, .inl x')) (hk : ws[k]? = some (a, .inl x)) (hj : ows ws j b di gs) : ows ws' j b di gs := by
  subst e
  have : k ≠ j := by
    rintro rfl
    rw [ows, hk] at hj
    cases hj
  rw [ows, List.getElem?_set_ne this]
  exact hj
theorem gfree {A0 : Nat → Prop} {ws : va_W} {H0 H : Heap} {locs : List Loc} (hD : va_D A0 ws) (hS : va_S A0 H0 H locs) (hA : ∀ q, H0.size ≤ q → A0 q) : ∀ q, va_A ws H.size q → A0 q := by
  intro q h
  rcases h with ⟨k, x, h⟩ | h
  · exact hD.2 k (q, x) h
  · exact hA q (Nat.le_trans hS.1 h)
def sa (C n : String) (N : Nat) (B : Int) (h : Nat → Int32) (A : Nat → Prop) (U : State) (H : Heap) : Prop := ∃ t : Nat, va_Z C n "[I" (.ref t) A U H ∧ va_T .int t N (fun j => .int (h j)) A U H ∧ ∀ j : Nat, 0 ≤ (h j).toInt ∧ (h j).toInt ≤ B
theorem sa.pass {C n : String} {N : Nat} {B0 : Int} {f : Nat → Int32} {A B : Nat → Prop} {s U : State} {H : Heap} {locs : List Loc} (h : sa C n N B0 f A s s.heap) (hS : va_S A s.heap H locs) (hF : ∀ q, B q → A q) (hU : U.heap = H) (hW : s.WarmedH U.vm) : sa C n N B0 f B U U.heap := by
  rw [hU]
  obtain ⟨t, h1, h2, h3⟩ := h
  exact ⟨t, ((h1.kept hS.2.1).narrow hF).moved hW.alike, ((h2.kept hS.2.1).narrow hF).moved hW.alike, h3⟩
theorem sa.calling {C n : String} {N : Nat} {B0 : Int} {f : Nat → Int32} {A : Nat → Prop} {U : State} {g : JFrame} {mk : MethodId} {a : Array Value} (h : sa C n N B0 f A U U.heap) : sa C n N B0 f A (U.calling g mk a) (U.calling g mk a).heap := by
  obtain ⟨t, h1, h2, h3⟩ := h
  exact ⟨t, va_Z.moved (u := U) (Vm.Alike.refl U.vm) h1, va_T.moved (u := U) (Vm.Alike.refl U.vm) h2, h3⟩
def sr (g : Gm) (U : State) : Prop := vk_R RX7 218 "Code" (g.aK 0) U ∧ vk_R RX11 77 "Code" (g.aK 0) U ∧ vk_R RX11 117 "J" (g.aK 1) U ∧ vk_R RX6 51 "DivideError" (g.aK 2) U ∧ vk_R RX6 53 "NullError" (g.aK 3) U ∧ vk_R RX6 55 "IndexError" (g.aK 4) U ∧ vk_R RX6 57 "SizeError" (g.aK 5) U
def og (g : Gm) (A : Nat → Prop) (U : State) (H : Heap) : Prop := sa "CodeFoundry" "MAGIC" 8 255 g.tM A U H ∧ sa RX6 "LENGTH_OF" 202 6 g.tL A U H ∧ sa RX6 "TAKES_OF" 202 65535 g.tT A U H ∧ sa RX6 "GIVES_OF" 202 65535 g.tG A U H ∧ va_Z "java/lang/String" "COMPACT_STRINGS" "Z" (.int 1) A U H ∧ (∃ r : Nat, va_Z "jdk/internal/util/Preconditions" "SIOOBE_FORMATTER" "Ljava/util/function/BiFunction;" (.ref r) A U H) ∧ vk_S 6 sL sB g.aK g.aV A U H ∧ sr g U
theorem og.pass {g : Gm} {A B : Nat → Prop} {s U : State} {H : Heap} {locs : List Loc} (h : og g A s s.heap) (hS : va_S A s.heap H locs) (hF : ∀ q, B q → A q) (hU : U.heap = H) (hW : s.WarmedH U.vm) : og g B U U.heap := by
  obtain ⟨h1, h2, h3, h4, h5, ⟨r, h6⟩, h7, r1, r2, r3, r4, r5, r6, r7⟩ := h
  refine ⟨h1.pass hS hF hU hW, h2.pass hS hF hU hW, h3.pass hS hF hU hW, h4.pass hS hF hU hW, ?_, ⟨r, ?_⟩, ?_, r1.warm hW, r2.warm hW, r3.warm hW, r4.warm hW, r5.warm hW, r6.warm hW, r7.warm hW⟩
  · rw [hU]; exact ((h5.kept hS.2.1).narrow hF).moved hW.alike
  · rw [hU]; exact ((h6.kept hS.2.1).narrow hF).moved hW.alike
  · rw [hU]; exact ((h7.kept hS.2.1).narrow hF).moved hW.alike
theorem og.calling {g : Gm} {A : Nat → Prop} {U : State} {f : JFrame} {mk : MethodId} {a : Array Value} (h : og g A U U.heap) : og g A (U.calling f mk a) (U.calling f mk a).heap := by
  obtain ⟨h1, h2, h3, h4, h5, ⟨r, h6⟩, h7, r1, r2, r3, r4, r5, r6, r7⟩ := h
  exact ⟨h1.calling, h2.calling, h3.calling, h4.calling, va_Z.moved (u := U) (Vm.Alike.refl U.vm) h5, ⟨r, va_Z.moved (u := U) (Vm.Alike.refl U.vm) h6⟩, vk_S.moved (u := U) (Vm.Alike.refl U.vm) h7, vk_R.same (u := U) rfl r1, vk_R.same (u := U) rfl r2, vk_R.same (u := U) rfl r3, vk_R.same (u := U) rfl r4, vk_R.same (u := U) rfl r5, vk_R.same (u := U) rfl r6, vk_R.same (u := U) rfl r7⟩
def st_G (g : Gm) (sz : Nat) (ws : va_W) (U : State) : Prop := U.heap.size = sz ∧ va_P (gD g) cl0 ws U.heap ∧ va_K (gD g) cl0 (tyL g) U ∧ va_D (fun _ => True) ws ∧ ex U ∧ og g (va_A ws sz) U U.heap
theorem gblind {av : List Value} {g : Gm} {sz : Nat} {ws : va_W} : FrameBlind (va_Pc av (st_G g sz ws)) := fun a U f mk q => by
  obtain ⟨q0, q1, qP, qK, qD, qE, qO⟩ := q
  exact ⟨q0, q1, qP, va_K.moved (u := U) (U := U.calling f mk a) (Vm.Alike.refl U.vm) qK, qD, ex_same (u := U) rfl qE, qO.calling⟩
theorem gmk {av : List Value} {g : Gm} {ws : va_W} {s U : State} {H : Heap} {A : Nat → Prop} {locs : List Loc} (hU : U.heap = H) (hW : s.WarmedH U.vm) (hP : va_P (gD g) cl0 ws H) (hK : va_K (gD g) cl0 (tyL g) s) (hD : va_D A ws) (hex : ex s) (hE : og g A s s.heap) (hS : va_S A s.heap H locs) (hF : ∀ q, va_A ws H.size q → A q) : va_Pc av (st_G g H.size ws) av.toArray U :=
  ⟨rfl, by rw [hU], by rw [hU]; exact hP, va_K.moved hW.alike hK, hD.weaken (fun _ _ _ _ => trivial), ex_warm hW hex, hE.pass hS hF hU hW⟩
/-- numbers -/
theorem i_lt {x y : Int32} (h : x < y) : x.toInt < y.toInt := Int32.lt_iff_toInt_lt.mp h
theorem i_nlt {x y : Int32} (h : ¬ x < y) : y.toInt ≤ x.toInt := by rw [Int32.lt_iff_toInt_lt] at h; omega
theorem i_le {x y : Int32} (h : x ≤ y) : x.toInt ≤ y.toInt := Int32.le_iff_toInt_le.mp h
theorem i_nle {x y : Int32} (h : ¬ x ≤ y) : y.toInt < x.toInt := by rw [Int32.le_iff_toInt_le] at h; omega
theorem i_eq {x y : Int32} (h : x = y) : x.toInt = y.toInt := by rw [h]
theorem i_ne {x y : Int32} (h : ¬ x = y) : x.toInt ≠ y.toInt := fun q => h (Int32.toInt_inj.mp q)
theorem i_rg (x : Int32) : -2147483648 ≤ x.toInt ∧ x.toInt ≤ 2147483647 := by
  have h1 := Int32.toInt_lt x
  have h2 := Int32.le_toInt x
  omega
theorem i_add {z x y : Int32} (h : z = x + y) : ∃ q : Int, z.toInt = x.toInt + y.toInt + 4294967296 * q := by
  rw [h, Int32.toInt_add]
  exact ⟨-((x.toInt + y.toInt + 2147483648) / 4294967296), by unfold Int.bmod; simp only []; split <;> omega⟩
theorem i_sub {z x y : Int32} (h : z = x - y) : ∃ q : Int, z.toInt = x.toInt - y.toInt + 4294967296 * q := by
  rw [h, Int32.toInt_sub]
  exact ⟨-((x.toInt - y.toInt + 2147483648) / 4294967296), by unfold Int.bmod; simp only []; split <;> omega⟩
theorem i_mul {z x y : Int32} (h : z = x * y) : ∃ q : Int, z.toInt = x.toInt * y.toInt + 4294967296 * q := by
  rw [h, Int32.toInt_mul]
  generalize x.toInt * y.toInt = w
  exact ⟨-((w + 2147483648) / 4294967296), by unfold Int.bmod; simp only []; split <;> omega⟩
theorem i_inc {x : Int32} {n : Int} {c : Int32} (hc : Int32.ofInt n = c) : ∃ q : Int, (x + Int32.ofInt n).toInt = x.toInt + c.toInt + 4294967296 * q := by rw [hc]; exact i_add rfl
theorem i_len {z : Int32} {n : Nat} (h : Int32.ofNat n = z) (hn : n < 2147483648) : z.toInt = n := by rw [← h]; exact nI_toInt (by omega)
theorem i_in {i : Int32} {n : Nat} (h1 : 0 ≤ i.toInt) (h2 : i.toInt < n) : vp_in i n := by
  unfold vp_in
  rintro (h | h)
  · have := i_lt h
    have e0 : (0 : Int32).toInt = 0 := rfl
    omega
  · have : i.toNatClampNeg = i.toInt.toNat := rfl
    omega
theorem i_iz {x z : Int32} {n : Int} (h : x + Int32.ofInt n = z) (h1 : -2147483648 ≤ n) (h2 : n ≤ 2147483647) : ∃ q : Int, z.toInt = x.toInt + n + 4294967296 * q := by
  obtain ⟨q, hq⟩ := i_add h.symm
  rw [Int32.toInt_ofInt_of_le (by omega) (by omega)] at hq
  exact ⟨q, hq⟩
theorem i_and {z x m : Int32} {k b : Nat} (h : z = x &&& m) (hm : m.toBitVec.toNat = 2 ^ k - 1) (hk : k ≤ 30) (hb : 2 ^ k = b) : 0 ≤ z.toInt ∧ z.toInt < b := by
  obtain ⟨j, hj, e⟩ := pk_andE x k hm
  have h2 : 2 ^ k ≤ 2 ^ 30 := Nat.pow_le_pow_right (by decide) hk
  have h3 : (2 : Nat) ^ 30 < 2 ^ 31 := by decide
  rw [h, e, nI_toInt (by omega)]
  omega
theorem i_shr {z x y : Int32} {k : Nat} {b : Int} (h : z = x >>> (y &&& 31)) (hs : ((y &&& 31).toBitVec.smod 32).toNat = k) (hb : ((2 ^ k : Nat) : Int) = b) : z.toInt = x.toInt / b := by
  rw [h, pk_shr _ _ k hs, Int.shiftRight_eq_div_pow, hb]
theorem i_neq {x y : Int32} (h : ¬ ¬ x = y) : x.toInt = y.toInt := by rw [Classical.not_not.mp h]
theorem bit_and {z x y : Int32} (h : z = x &&& y) (hx : x = 0 ∨ x = 1) (hy : y = 0 ∨ y = 1) : z = 0 ∨ z = 1 := by
  rcases hx with rfl | rfl <;> rcases hy with rfl | rfl <;> subst h <;> decide
theorem bit_or {z x y : Int32} (h : z = x ||| y) (hx : x = 0 ∨ x = 1) (hy : y = 0 ∨ y = 1) : z = 0 ∨ z = 1 := by
  rcases hx with rfl | rfl <;> rcases hy with rfl | rfl <;> subst h <;> decide
theorem bit_xor {z x y : Int32} (h : z = x ^^^ y) (hx : x = 0 ∨ x = 1) (hy : y = 0 ∨ y = 1) : z = 0 ∨ z = 1 := by
  rcases hx with rfl | rfl <;> rcases hy with rfl | rfl <;> subst h <;> decide
theorem l_ne {z : Int32} {x : Int64} (h : z = lg_cmp x 0) (hc : ¬ z = 0) : ¬ x = 0 := by
  rintro rfl
  exact hc (h.trans (by decide))
theorem i_max {z x y : Int32} (h : z = if x < y then y else x) : x.toInt ≤ z.toInt ∧ y.toInt ≤ z.toInt ∧ (z.toInt = x.toInt ∨ z.toInt = y.toInt) := by
  split at h
  · rename_i q; have := i_lt q; subst h; omega
  · rename_i q; have := i_nlt q; subst h; omega
theorem i_min {z x y : Int32} (h : z = if y < x then y else x) : z.toInt ≤ x.toInt ∧ z.toInt ≤ y.toInt ∧ (z.toInt = x.toInt ∨ z.toInt = y.toInt) := by
  split at h
  · rename_i q; have := i_lt q; subst h; omega
  · rename_i q; have := i_nlt q; subst h; omega
theorem lk_nil {d x : Int} : Op.lookupswitch.offset [] d x = d := rfl
theorem lk_cons {k o d x : Int} {l : List (Int × Int)} (h : ¬ x = k) (hr : Op.lookupswitch.offset l d x = d) : Op.lookupswitch.offset ((k, o) :: l) d x = d := by
  rw [Op.lookupswitch.offset_cons, if_neg (fun e => h e.symm)]
  exact hr
/-! what growing rows may still grow by -/
def gln : va_E → Nat
  | .inl (_, n, _) => n
  | .inr _ => 0
def glen : va_W → Nat → Nat
  | [], _ => 0
  | (b, x) :: t, r => if b = r then gln x else glen t r
theorem glen_set {a : Nat} {x x' : va_E} (hx : gln x' = gln x) (r : Nat) : ∀ {ws : va_W} {k : Nat}, ws[k]? = some (a, x) → glen (ws.set k (a, x')) r = glen ws r
  | [], k, h => by cases h
  | (b, y) :: t, 0, h => by
      have h : some (b, y) = some (a, x) := h
      cases h
      show (if a = r then gln x' else glen t r) = (if a = r then gln x else glen t r)
      rw [hx]
  | (b, y) :: t, k + 1, h => by
      show (if b = r then gln y else glen (t.set k (a, x')) r) = (if b = r then gln y else glen t r)
      rw [glen_set hx r (ws := t) (k := k) h]
theorem glen_push {ws : va_W} {q r : Nat} {x : va_E} : glen ws r ≤ glen (ws ++ [(q, x)]) r := by
  induction ws with
  | nil => exact Nat.zero_le _
  | cons y t ih =>
    obtain ⟨b, y⟩ := y
    show (if b = r then gln y else glen t r) ≤ (if b = r then gln y else glen (t ++ [(q, x)]) r)
    split
    · exact Nat.le_refl _
    · exact ih
theorem glen_at {r : Nat} {x : va_E} : ∀ {ws : va_W} {k : Nat}, (∀ (i j : Nat) (y z : Nat × va_E), ws[i]? = some y → ws[j]? = some z → y.1 = z.1 → i = j) → ws[k]? = some (r, x) → glen ws r = gln x
  | [], k, _, h => by cases h
  | (b, y) :: t, 0, _, h => by
      have h : some (b, y) = some (r, x) := h
      cases h
      show (if r = r then gln x else glen t r) = gln x
      rw [if_pos rfl]
  | (b, y) :: t, k + 1, hu, h => by
      have hb : b ≠ r := fun e => absurd (hu 0 (k + 1) (b, y) (r, x) rfl h e) (by omega)
      show (if b = r then gln y else glen t r) = gln x
      rw [if_neg hb]
      exact glen_at (fun i j y z h1 h2 h3 => by have := hu (i + 1) (j + 1) y z h1 h2 h3; omega) h
def one (ws : va_W) (ci j cap sc : Nat) (x : Nat × va_E) : Nat := match x.2 with
  | .inl _ => 0
  | .inr (di, fs) => if di = ci then (match fs[j]? with | some (.ref r) => (cap - glen ws r) / sc | some (.int c) => (cap - c.toInt.toNat) / sc | _ => 0) else 0
def P1 (ws : va_W) (ci j cap sc : Nat) : Nat := (ws.map (one ws ci j cap sc)).sum
def pK : List (Nat × Nat) := [(0, 0), (4, 0), (1, 2), (10, 17), (5, 9), (5, 2), (5, 4), (3, 3), (3, 13), (3, 9), (3, 5), (3, 7)]
def pM (ws ws' : va_W) : Prop := ∀ ci j cap sc : Nat, (ci, j) ∈ pK → P1 ws' ci j cap sc ≤ P1 ws ci j cap sc
theorem pM.rf {ws : va_W} : pM ws ws := fun _ _ _ _ _ => Nat.le_refl _
theorem pM.tr {u v w : va_W} (h : pM u v) (h' : pM v w) : pM u w := fun ci j cap sc q => Nat.le_trans (h' ci j cap sc q) (h ci j cap sc q)
theorem sum_set {α : Type} {f : α → Nat} {x y : α} : ∀ {l : List α} {k : Nat}, l[k]? = some x → ((l.set k y).map f).sum + f x = (l.map f).sum + f y
  | [], k, h => by cases h
  | a :: t, 0, h => by
      have h : some a = some x := h
      have h := Option.some.inj h
      subst h
      show (f y + (t.map f).sum) + f a = (f a + (t.map f).sum) + f y
      omega
  | a :: t, k + 1, h => by
      have := sum_set (f := f) (y := y) (l := t) (k := k) h
      show (f a + ((t.set k y).map f).sum) + f x = (f a + (t.map f).sum) + f y
      omega
theorem one_eq {ws ws' : va_W} (h : ∀ r, glen ws' r = glen ws r) (ci j cap sc : Nat) : one ws' ci j cap sc = one ws ci j cap sc := by
  funext x
  unfold one
  simp only [h]
theorem P1_set {ws ws' : va_W} {k a ci : Nat} {fs fs' : List Value} (e : ws' = ws.set k (a, .inr (ci, fs'))) (hk : ows ws k a ci fs) (di j cap sc : Nat) : P1 ws' di j cap sc + one ws di j cap sc (a, .inr (ci, fs)) = P1 ws di j cap sc + one ws di j cap sc (a, .inr (ci, fs')) := by
  have hg : ∀ r, glen ws' r = glen ws r := fun r => by rw [e]; exact glen_set (x := .inr (ci, fs)) (x' := .inr (ci, fs')) rfl r hk
  unfold P1
  rw [one_eq hg, e]
  exact sum_set hk
theorem one_other {ws : va_W} {a ci fi di j cap sc : Nat} {v : Value} {fs fs' : List Value} (hs : fs' = fs.set fi v) (hn : (di, j) ≠ (ci, fi)) : one ws di j cap sc (a, .inr (ci, fs')) = one ws di j cap sc (a, .inr (ci, fs)) := by
  unfold one
  by_cases hd : ci = di
  · have hj : fi ≠ j := fun e => hn (by rw [hd, e])
    simp only [hs, List.getElem?_set_ne hj]
  · simp only [if_neg hd]
theorem pM_put {ws ws' : va_W} {k a ci fi : Nat} {v : Value} {fs fs' : List Value} (e : ws' = ws.set k (a, .inr (ci, fs'))) (hk : ows ws k a ci fs) (hs : fs' = fs.set fi v) (hn : (ci, fi) ∉ pK) : pM ws ws' := fun di j cap sc hq => by
  have h := P1_set e hk di j cap sc
  rw [one_other hs (fun z => hn (by rw [← z]; exact hq))] at h
  omega
theorem pM_grow {ws ws' : va_W} {k a ci fi : Nat} {v : Value} {fs fs' : List Value} (e : ws' = ws.set k (a, .inr (ci, fs'))) (hk : ows ws k a ci fs) (hs : fs' = fs.set fi v) (hn : ∀ cap sc, one ws ci fi cap sc (a, .inr (ci, fs')) ≤ one ws ci fi cap sc (a, .inr (ci, fs))) : pM ws ws' := fun di j cap sc hq => by
  have h := P1_set e hk di j cap sc
  by_cases z : (di, j) = (ci, fi)
  · cases z
    have := hn cap sc
    omega
  · rw [one_other hs z] at h
    omega
theorem pM_ar {ws ws' : va_W} {k a : Nat} {x x' : ClassId × vp_A} (e : ws' = ws.set k (a, .inl x')) (hk : ws[k]? = some (a, .inl x)) (hl : x'.2.1 = x.2.1) : pM ws ws' := fun di j cap sc _ => by
  have hg : ∀ r, glen ws' r = glen ws r := fun r => by rw [e]; exact glen_set (x := .inl x) (x' := .inl x') hl r hk
  unfold P1
  rw [one_eq hg, e]
  have h := sum_set (f := one ws di j cap sc) (y := (a, .inl x')) hk
  have z1 : one ws di j cap sc (a, .inl x) = 0 := rfl
  have z2 : one ws di j cap sc (a, .inl x') = 0 := rfl
  omega
theorem P1_push {ws : va_W} {q : Nat} {x : va_E} (ci j cap sc : Nat) : P1 (ws ++ [(q, x)]) ci j cap sc ≤ P1 ws ci j cap sc + one (ws ++ [(q, x)]) ci j cap sc (q, x) := by
  unfold P1
  rw [List.map_append, List.sum_append]
  have : ∀ l : va_W, (l.map (one (ws ++ [(q, x)]) ci j cap sc)).sum ≤ (l.map (one ws ci j cap sc)).sum := by
    intro l
    induction l with
    | nil => exact Nat.le_refl _
    | cons y t ih =>
      simp only [List.map_cons, List.sum_cons]
      have hy : one (ws ++ [(q, x)]) ci j cap sc y ≤ one ws ci j cap sc y := by
        unfold one
        obtain ⟨b, y | ⟨di, fs⟩⟩ := y
        · exact Nat.le_refl _
        · simp only []
          split
          · split
            · rename_i r _
              exact Nat.div_le_div_right (Nat.sub_le_sub_left glen_push _)
            · exact Nat.le_refl _
            · exact Nat.le_refl _
          · exact Nat.le_refl _
      omega
  have h := this ws
  simp only [List.map_cons, List.map_nil, List.sum_cons, List.sum_nil]
  omega
theorem pM_push {ws : va_W} {q : Nat} {x : va_E} (hx : ∀ ci j cap sc, (ci, j) ∈ pK → one (ws ++ [(q, x)]) ci j cap sc (q, x) = 0) : pM ws (ws ++ [(q, x)]) := fun ci j cap sc hq => by
  have h := P1_push (ws := ws) (q := q) (x := x) ci j cap sc
  rw [hx ci j cap sc hq] at h
  exact h
/-- what stays: the fields that are not in F (all fields of all objects but S, if there is an S); what stands in the arrays that are fields, but those of F and C; and no growing row has more to grow by -/
def gF (F C : List (Nat × Nat)) (S : Option Nat) (ws ws' : va_W) : Prop := (∀ (k a ci : Nat) (fs : List Value), ows ws k a ci fs → ∃ fs' : List Value, ows ws' k a ci fs' ∧ (∀ j : Nat, (ci, j) ∉ F → fs'[j]? = fs[j]?) ∧ ∀ h, S = some h → a ≠ h → fs' = fs) ∧ pM ws ws' ∧ ∀ (k a ci : Nat) (fs : List Value) (j r kk : Nat) (x : ClassId × vp_A), ows ws k a ci fs → (((ci, j) ∉ F ∧ (ci, j) ∉ C) ∨ (¬ bd ci j ∧ ∃ h, S = some h ∧ a ≠ h)) → fs[j]? = some (.ref r) → ws[kk]? = some (r, .inl x) → ws'[kk]? = some (r, .inl x)
theorem gF.rf {F C : List (Nat × Nat)} {S : Option Nat} {ws : va_W} : gF F C S ws ws := ⟨fun _ _ _ fs h => ⟨fs, h, fun _ _ => rfl, fun _ _ _ => rfl⟩, pM.rf, fun _ _ _ _ _ _ _ _ _ _ _ h => h⟩
theorem gF.mo {F F' C C' : List (Nat × Nat)} {S S' : Option Nat} {u v : va_W} (h : gF F C S u v) (hs : ∀ x ∈ F, x ∈ F') (hc : ∀ x ∈ C, x ∈ C') (hS : S' = none ∨ S' = S) : gF F' C' S' u v := ⟨fun k a ci fs q => by
  obtain ⟨fs', h1, h2, h3⟩ := h.1 k a ci fs q
  refine ⟨fs', h1, fun j hj => h2 j (fun z => hj (hs _ z)), fun b hb => ?_⟩
  rcases hS with e | e
  · rw [e] at hb; cases hb
  · exact h3 b (e ▸ hb), h.2.1, fun k a ci fs j r kk x q hF => h.2.2 k a ci fs j r kk x q (by
  rcases hF with ⟨hF, hC⟩ | ⟨hb, b, hb1, hb2⟩
  · exact Or.inl ⟨fun z => hF (hs _ z), fun z => hC (hc _ z)⟩
  · right
    rcases hS with e | e
    · rw [e] at hb1; cases hb1
    · exact ⟨hb, b, e ▸ hb1, hb2⟩)⟩
theorem gF.tr {F C : List (Nat × Nat)} {S : Option Nat} {u v w : va_W} (h : gF F C S u v) (h' : gF F C S v w) : gF F C S u w := ⟨fun k a ci fs q => by
  obtain ⟨fs1, h1, h2, h5⟩ := h.1 k a ci fs q
  obtain ⟨fs2, h3, h4, h6⟩ := h'.1 k a ci fs1 h1
  exact ⟨fs2, h3, fun j hj => (h4 j hj).trans (h2 j hj), fun b hb hn => (h6 b hb hn).trans (h5 b hb hn)⟩, h.2.1.tr h'.2.1, fun k a ci fs j r kk x q hF hr hx => by
  obtain ⟨fs1, h1, h2, h5⟩ := h.1 k a ci fs q
  refine h'.2.2 k a ci fs1 j r kk x h1 hF ?_ (h.2.2 k a ci fs j r kk x q hF hr hx)
  rcases hF with ⟨hF, -⟩ | ⟨-, b, hb1, hb2⟩
  · exact (h2 j hF).trans hr
  · rw [h5 b hb1 hb2]; exact hr⟩
/-- of one object -/
def gA (F : List (Nat × Nat)) (a : Nat) (ws ws' : va_W) : Prop := ∀ (k ci : Nat) (fs : List Value), ows ws k a ci fs → ∃ fs' : List Value, ows ws' k a ci fs' ∧ ∀ j : Nat, (ci, j) ∉ F → fs'[j]? = fs[j]?
theorem gF.a {F F' C : List (Nat × Nat)} {S : Option Nat} {a : Nat} {u v : va_W} (h : gF F C S u v) (hs : ∀ x ∈ F, x ∈ F') : gA F' a u v := fun k ci fs q => by
  obtain ⟨fs', h1, h2, -⟩ := h.1 k a ci fs q
  exact ⟨fs', h1, fun j hj => h2 j (fun z => hj (hs _ z))⟩
theorem gF.s {F F' C : List (Nat × Nat)} {b a : Nat} {u v : va_W} (h : gF F C (some b) u v) (hn : a ≠ b) : gA F' a u v := fun k ci fs q => by
  obtain ⟨fs', h1, -, h3⟩ := h.1 k a ci fs q
  exact ⟨fs', h1, fun j _ => by rw [h3 b rfl hn]⟩
theorem gA.tr {F : List (Nat × Nat)} {a : Nat} {u v w : va_W} (h : gA F a u v) (h' : gA F a v w) : gA F a u w := fun k ci fs q => by
  obtain ⟨fs1, h1, h2⟩ := h k ci fs q
  obtain ⟨fs2, h3, h4⟩ := h' k ci fs1 h1
  exact ⟨fs2, h3, fun j hj => (h4 j hj).trans (h2 j hj)⟩
theorem gA.rf {F : List (Nat × Nat)} {a : Nat} {u : va_W} : gA F a u u := fun _ _ fs q => ⟨fs, q, fun _ _ => rfl⟩
theorem gF_put0 {ws ws' : va_W} {k a ci fi : Nat} {v : Value} {fs fs' : List Value} (e : ws' = ws.set k (a, .inr (ci, fs'))) (hk : ows ws k a ci fs) (hs : fs' = fs.set fi v) (hp : pM ws ws') : gF [(ci, fi)] [] (some a) ws ws' := by
  refine ⟨?_, hp, fun _ _ _ _ _ _ _ _ _ _ _ h => gset_obI e hk h⟩
  intro j b di gs h
  by_cases hj : j = k
  · subst hj
    rw [ows, hk] at h
    cases h
    refine ⟨fs', gset_self e hk, fun i hi => ?_, fun h he hn => ?_⟩
    · rw [hs, List.getElem?_set_ne]
      rintro rfl
      exact hi (List.mem_singleton.mpr rfl)
    · cases he
      exact absurd rfl hn
  · refine ⟨gs, ?_, fun _ _ => rfl, fun _ _ _ => rfl⟩
    subst e
    rw [ows, List.getElem?_set_ne (Ne.symm hj)]
    exact h
theorem gF_put {ws ws' : va_W} {k a ci fi : Nat} {v : Value} {fs fs' : List Value} (e : ws' = ws.set k (a, .inr (ci, fs'))) (hk : ows ws k a ci fs) (hs : fs' = fs.set fi v) (hn : (ci, fi) ∉ pK) : gF [(ci, fi)] [] (some a) ws ws' := gF_put0 e hk hs (pM_put e hk hs hn)
/-- every object that has the array is that one -/
def holS (ws : va_W) (r : Nat) (S : Option Nat) : Prop := ∀ h, S = some h → ∀ (k b ci : Nat) (fs : List Value) (j : Nat), ows ws k b ci fs → fs[j]? = some (.ref r) → ¬ bd ci j → b = h
theorem holS_n {ws : va_W} {r : Nat} : holS ws r none := fun _ h => by cases h
theorem holS_f {ws : va_W} {r : Nat} {S : Option Nat} (h : frs ws r) : holS ws r S := fun _ _ _ _ _ _ _ hj hi => absurd hi (h _ _ _ _ _ hj)
theorem holS_u {ws : va_W} {k a ci j r : Nat} {fs : List Value} {z : (ClassId × Nat × Nat)} (hU : gU ws) (hk : ows ws k a ci fs) (hj : fs[j]? = some (.ref r)) (hr : gS ws r (.inl z)) : holS ws r (some a) := fun h he k2 b2 c2 f2 j2 h2 h3 hb => by
  cases he
  rcases hU.1 _ _ _ _ _ _ _ _ _ _ _ hk h2 hj h3 ⟨z, hr⟩ with ⟨rfl, rfl⟩ | ⟨-, w⟩
  · exact (ows_one hk h2).1.symm
  · exact absurd w hb
theorem gF_ar {ws ws' : va_W} {k a : Nat} {C : List (Nat × Nat)} {S : Option Nat} {x x' : ClassId × vp_A} (e : ws' = ws.set k (a, .inl x')) (hk : ws[k]? = some (a, .inl x)) (hl : x'.2.1 = x.2.1) (hC : hol ws a C) (hS : holS ws a S) : gF [] C S ws ws' := ⟨fun _ _ _ fs h => ⟨fs, gset_arO e hk h, fun _ _ => rfl, fun _ _ _ => rfl⟩, pM_ar e hk hl, fun kk b ci fs j r k2 y h1 hj hr hy => by
  by_cases hz : k2 = k
  · subst hz
    rw [hk] at hy
    cases hy
    rcases hj with ⟨-, hj⟩ | ⟨hb, h, hh, hn⟩
    · exact absurd (hC _ _ _ _ _ h1 hr) hj
    · exact absurd (hS h hh _ _ _ _ _ h1 hr hb) hn
  · rw [e, List.getElem?_set_ne (Ne.symm hz)]
    exact hy⟩
theorem fe_i {x y : Int32} (h : some (Value.int x) = some (Value.int y)) : y = x := by cases h; rfl
theorem fe_l {x y : Int64} (h : some (Value.long x) = some (Value.long y)) : y = x := by cases h; rfl
theorem fe_r {x y : Nat} (h : some (Value.ref x) = some (Value.ref y)) : y = x := by cases h; rfl
theorem fe_q {x y : Option Nat} (h : some (va_rf x) = some (va_rf y)) : y = x := by
  rcases x with _ | x <;> rcases y with _ | y
  · rfl
  · exact absurd h (by intro h; cases h)
  · exact absurd h (by intro h; cases h)
  · have h : some (Value.ref x) = some (Value.ref y) := h
    cases h
    rfl
theorem fe_qr {x : Option Nat} {y : Nat} (h : some (va_rf x) = some (Value.ref y)) : x = some y := fe_q (x := some y) (y := x) h.symm
theorem fe_qn {x : Option Nat} (h : some (va_rf x) = some Value.null) : x = none := fe_q (x := none) (y := x) h.symm
theorem gI_n {A : Nat → Prop} {ws : va_W} {a n n' t t' : Nat} {c c' : ClassId} (hD : va_D A ws) (h : gS ws a (.inl (c, n, t))) (h' : gS ws a (.inl (c', n', t'))) : n = n' := by
  obtain ⟨k, x, h1, h2⟩ := h
  obtain ⟨j, y, h3, h4⟩ := h'
  have e := hD.1 k j (a, x) (a, y) h1 h3 rfl
  subst e
  rw [h1] at h3
  cases h3
  rw [h2] at h4
  cases h4
  rfl
theorem i_in2 {i : Int32} {n : Nat} (h : 0 ≤ i.toInt ∧ i.toInt < n) : vp_in i n := i_in h.1 h.2
def gN (ws : va_W) (a j : Nat) : Prop := ∀ (k ci : Nat) (fs : List Value), ows ws k a ci fs → ∃ b : Nat, fs[j]? = some (Value.ref b)
theorem gN_of {A : Nat → Prop} {ws : va_W} {k a ci j b : Nat} {fs : List Value} (hD : va_D A ws) (hk : ows ws k a ci fs) (h : fs[j]? = some (Value.ref b)) : gN ws a j := fun k' ci' fs' hk' => by
  have e := hD.1 k k' _ _ hk hk' rfl
  subst e
  rw [ows, hk] at hk'
  cases hk'
  exact ⟨b, h⟩
def gP (ws : va_W) (a : Nat) (P : List Value → Prop) : Prop := ∀ (k ci : Nat) (fs : List Value), ows ws k a ci fs → P fs
theorem gP_of {A : Nat → Prop} {ws : va_W} {k a ci : Nat} {fs : List Value} {P : List Value → Prop} (hD : va_D A ws) (hk : ows ws k a ci fs) (h : P fs) : gP ws a P := fun k' ci' fs' hk' => by
  have e := hD.1 k k' _ _ hk hk' rfl
  subst e
  rw [ows, hk] at hk'
  cases hk'
  exact h
theorem i_bit {z : Int32} (h : z = 0 ∨ z = 1) : 0 ≤ z.toInt ∧ z.toInt ≤ 1 := by rcases h with rfl | rfl <;> decide
theorem i_or {z x y : Int32} {k b : Nat} (h : z = x ||| y) (hb : 2 ^ k = b) (hk : k ≤ 30) (hx : 0 ≤ x.toInt ∧ x.toInt < b) (hy : 0 ≤ y.toInt ∧ y.toInt < b) : 0 ≤ z.toInt ∧ z.toInt < b := by
  have h2 : 2 ^ k ≤ 2 ^ 30 := Nat.pow_le_pow_right (by decide) hk
  have h3 : (2 : Nat) ^ 30 < 2 ^ 31 := by decide
  have ex : x = nI x.toInt.toNat := by
    apply Int32.toInt_inj.mp
    rw [nI_toInt (by omega)]
    omega
  have ey : y = nI y.toInt.toNat := by
    apply Int32.toInt_inj.mp
    rw [nI_toInt (by omega)]
    omega
  have hn : x.toInt.toNat ||| y.toInt.toNat < 2 ^ k := Nat.or_lt_two_pow (by omega) (by omega)
  have ez : z = nI (x.toInt.toNat ||| y.toInt.toNat) := by
    apply Int32.toBitVec_inj.mp
    apply BitVec.eq_of_toNat_eq
    rw [h, Int32.toBitVec_or, BitVec.toNat_or, pk_tn (by omega)]
    conv => lhs; rw [ex, ey]
    rw [pk_tn (by omega), pk_tn (by omega)]
  rw [ez, nI_toInt (by omega)]
  omega
theorem i_shl {z x y : Int32} {k j b c : Nat} (h : z = x <<< (y &&& 31)) (hs : ((y &&& 31).toBitVec.smod 32).toNat = k) (hb : 2 ^ j = b) (hc : 2 ^ (j + k) = c) (hk : j + k ≤ 30) (hx : 0 ≤ x.toInt ∧ x.toInt < b) : 0 ≤ z.toInt ∧ z.toInt < c := by
  have h2 : 2 ^ (j + k) ≤ 2 ^ 30 := Nat.pow_le_pow_right (by decide) hk
  have h3 : (2 : Nat) ^ 30 < 2 ^ 31 := by decide
  have ex : x = nI x.toInt.toNat := by
    apply Int32.toInt_inj.mp
    have : (2 : Nat) ^ j ≤ 2 ^ (j + k) := Nat.pow_le_pow_right (by decide) (by omega)
    rw [nI_toInt (by omega)]
    omega
  have hm : x.toInt.toNat * 2 ^ k < 2 ^ (j + k) := by
    rw [Nat.pow_add]
    exact Nat.mul_lt_mul_of_pos_right (by omega) (Nat.two_pow_pos k)
  have ez : z = nI (x.toInt.toNat * 2 ^ k) := by
    rw [h]
    conv => lhs; rw [ex]
    exact pk_shlN _ k hs (by omega)
  rw [ez, nI_toInt (by omega)]
  omega
theorem i_wid {x : Int32} {b c : Nat} (h : 0 ≤ x.toInt ∧ x.toInt < b) (hc : b ≤ c) : 0 ≤ x.toInt ∧ x.toInt < c := ⟨h.1, by omega⟩
theorem i_nl0 {x : Int32} (h : 0 ≤ x.toInt) : ¬ x < 0 := fun q => by
  have h1 := i_lt q
  have e0 : (0 : Int32).toInt = 0 := rfl
  omega
theorem i_cp {x n : Int32} {k : Nat} (h : x.toInt.toNat + n.toInt.toNat ≤ k) : x.toNatClampNeg + n.toNatClampNeg ≤ k := h
theorem fz {z : Int32} (h : z = 0 ∨ z = 1) : fits .boolean (.int z) = true := by rcases h with rfl | rfl <;> rfl
theorem l_of {x : Int32} {z : Int64} (h : x.toInt64 = z) : z.toInt = x.toInt := by rw [← h]; exact Int32.toInt_toInt64 x
theorem l_2i {x : Int64} {z : Int32} (h : x.toInt32 = z) : z.toInt = x.toInt ∨ x.toInt < -2147483648 ∨ 2147483647 < x.toInt := by
  by_cases h1 : x.toInt < -2147483648
  · exact Or.inr (Or.inl h1)
  · by_cases h2 : 2147483647 < x.toInt
    · exact Or.inr (Or.inr h2)
    · left
      rw [← h, Int64.toInt_toInt32]
      apply Int.bmod_eq_of_le <;> omega
theorem l_cmp {z : Int32} {x y : Int64} (h : z = lg_cmp x y) : (z.toInt = 1 ∧ y.toInt < x.toInt) ∨ (z.toInt = 0 ∧ x.toInt = y.toInt) ∨ (z.toInt = -1 ∧ x.toInt < y.toInt) := by
  unfold lg_cmp at h
  split at h
  · rename_i q
    left
    subst h
    exact ⟨by decide, Int64.lt_iff_toInt_lt.mp q⟩
  · split at h
    · rename_i q1 q
      right; left
      subst h
      exact ⟨by decide, by rw [q]⟩
    · rename_i q1 q2
      right; right
      subst h
      refine ⟨by decide, ?_⟩
      rcases Int.lt_trichotomy x.toInt y.toInt with w | w | w
      · exact w
      · exact absurd (Int64.toInt_inj.mp w) q2
      · exact absurd (Int64.lt_iff_toInt_lt.mpr w) q1
theorem fit_b (x : Int32) : fits .byte (.int x.toInt8.toInt32) = true := by
  have h1 := Int8.toInt_lt x.toInt8
  have h2 := Int8.le_toInt x.toInt8
  have e : x.toInt8.toInt32.toInt = x.toInt8.toInt := Int8.toInt_toInt32 _
  have m1 : (-128 : Int32).toInt = -128 := (by decide)
  have m2 : (127 : Int32).toInt = 127 := (by decide)
  have a : (-128 : Int32) ≤ x.toInt8.toInt32 := Int32.le_iff_toInt_le.mpr (by rw [e, m1]; omega)
  have b : x.toInt8.toInt32 ≤ (127 : Int32) := Int32.le_iff_toInt_le.mpr (by rw [e, m2]; omega)
  simp [fits, a, b]
theorem gO_un {A : Nat → Prop} {ws : va_W} {k k' a ci ci' : Nat} {fs fs' : List Value} (hD : va_D A ws) (hk : ows ws k a ci fs) (hk' : ows ws k' a ci' fs') : fs = fs' := by
  have e := hD.1 k k' _ _ hk hk' rfl
  subst e
  rw [ows, hk] at hk'
  cases hk'
  rfl
theorem i_mulR {z x y : Int32} {c K : Int} (h : z = x * y) (hy : y.toInt = c) (hc : 0 < c) (hK : c * K ≤ 2147483647) (h0 : 0 ≤ K) : z.toInt = c * x.toInt ∨ x.toInt < -K ∨ K < x.toInt := by
  by_cases h1 : x.toInt < -K
  · exact Or.inr (Or.inl h1)
  · by_cases h2 : K < x.toInt
    · exact Or.inr (Or.inr h2)
    · left
      have a1 : c * x.toInt ≤ c * K := Int.mul_le_mul_of_nonneg_left (by omega) (by omega)
      have a2 : c * (-K) ≤ c * x.toInt := Int.mul_le_mul_of_nonneg_left (by omega) (by omega)
      rw [Int.mul_neg] at a2
      rw [h, Int32.toInt_mul, hy, Int.mul_comm]
      apply Int.bmod_eq_of_le <;> omega
theorem i_mulL {z x y : Int32} {c K : Int} (h : z = y * x) (hy : y.toInt = c) (hc : 0 < c) (hK : c * K ≤ 2147483647) (h0 : 0 ≤ K) : z.toInt = c * x.toInt ∨ x.toInt < -K ∨ K < x.toInt := i_mulR (h.trans (Int32.mul_comm y x)) hy hc hK h0
theorem i_addD {z x y : Int32} (h : z = x + y) : z.toInt = x.toInt + y.toInt ∨ (2147483647 < x.toInt + y.toInt ∧ z.toInt = x.toInt + y.toInt - 4294967296) ∨ (x.toInt + y.toInt < -2147483648 ∧ z.toInt = x.toInt + y.toInt + 4294967296) := by
  obtain ⟨q, hq⟩ := i_add h
  have h1 := i_rg x
  have h2 := i_rg y
  have h3 := i_rg z
  omega
theorem i_subD {z x y : Int32} (h : z = x - y) : z.toInt = x.toInt - y.toInt ∨ (2147483647 < x.toInt - y.toInt ∧ z.toInt = x.toInt - y.toInt - 4294967296) ∨ (x.toInt - y.toInt < -2147483648 ∧ z.toInt = x.toInt - y.toInt + 4294967296) := by
  obtain ⟨q, hq⟩ := i_sub h
  have h1 := i_rg x
  have h2 := i_rg y
  have h3 := i_rg z
  omega
theorem nc {x z : Int32} (e : (x.toUInt32 % 65536).toInt32 = z) : narrow .char (.int z) = .int z := by
  subst e
  have h : x.toUInt32 % 65536 % 65536 = x.toUInt32 % 65536 := by
    apply UInt32.toNat_inj.mp
    rw [UInt32.toNat_mod, UInt32.toNat_mod]
    exact Nat.mod_mod _ _
  simp [narrow, h]
theorem i_m4 {z x y : Int32} (h : z = x &&& y) (hy : y = -4) : x.toInt < 0 ∨ (x.toInt - 3 ≤ z.toInt ∧ z.toInt ≤ x.toInt) := by
  by_cases hx : x.toInt < 0
  · exact Or.inl hx
  · right
    obtain ⟨w, hw⟩ : ∃ w : Int32, w = x &&& 3 := ⟨_, rfl⟩
    have hb := i_and (k := 2) (b := 4) hw (by decide) (by decide) (by decide)
    have hs : x = w + z := by
      apply Int32.toBitVec_inj.mp
      rw [hw, h, hy, Int32.toBitVec_add, Int32.toBitVec_and, Int32.toBitVec_and]
      rw [BitVec.add_eq_or_of_and_eq_zero]
      · rw [← BitVec.and_or_distrib_left]
        have : (3 : Int32).toBitVec ||| (-4 : Int32).toBitVec = BitVec.allOnes 32 := by decide
        rw [this, BitVec.and_allOnes]
      · have e1 : (x.toBitVec &&& (3 : Int32).toBitVec) &&& (x.toBitVec &&& (-4 : Int32).toBitVec) = x.toBitVec &&& ((3 : Int32).toBitVec &&& (-4 : Int32).toBitVec) := by
          ext i hi
          simp only [BitVec.getElem_and]
          cases x.toBitVec[i] <;> simp
        rw [e1]
        have : (3 : Int32).toBitVec &&& (-4 : Int32).toBitVec = 0#32 := by decide
        rw [this, BitVec.and_zero]
    obtain ⟨q, hq⟩ := i_add hs
    have h1 := i_rg x
    have h2 := i_rg z
    omega
theorem gT_le {g : Gm} {b n : Nat} (h : gT g b n) : n ≤ 11 := by
  obtain ⟨i, h1, -, h3⟩ := h
  rw [h3]
  exact sL_le i h1
theorem gV_le {g : Gm} {b n : Nat} (h : gV g b n) : n ≤ 11 := by
  obtain ⟨i, h1, -, h3⟩ := h
  rw [h3]
  exact sL_le i h1
theorem i_shr0 {z x y : Int32} (h : z = x >>> (y &&& 31)) (hy : y.toInt = 0) : z.toInt = x.toInt := by
  have e : y = 0 := Int32.toInt_inj.mp (hy.trans rfl)
  subst e
  have := i_shr (k := 0) (b := 1) h (by decide) (by decide)
  omega
