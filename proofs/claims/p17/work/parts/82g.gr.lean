/-! Graph: what stands in its rows, beside the count -/
def aC (ws : va_W) (h j : Nat) (P : Int → Nat → (Nat → Int32) → Prop) : Prop := ∃ (k r kk n : Nat) (fs : List Value) (c : ClassId) (c1 : Int32) (f : Nat → Int32), ows ws k h 3 fs ∧ fs[1]? = some (.int c1) ∧ fs[j]? = some (.ref r) ∧ iws ws kk r c n f ∧ P c1.toInt n f
section AC
variable {A : Nat → Prop} {F C : List (Nat × Nat)} {S : Option Nat} {ws ws' : va_W} {h j k r kk n : Nat} {fs : List Value} {c : ClassId} {c1 : Int32} {f : Nat → Int32} {P Q : Int → Nat → (Nat → Int32) → Prop}
theorem aC_mo (hF : gF F C S ws ws') (f1 : (3, 1) ∉ F) (fj : (3, j) ∉ F) (cj : (3, j) ∉ C) (q : aC ws h j P) : aC ws' h j P := by
  obtain ⟨k, r, kk, n, fs, c, c1, f, p1, p2, p3, p4, p5⟩ := q
  obtain ⟨fs', q1, q2, -⟩ := hF.1 _ _ _ _ p1
  exact ⟨k, r, kk, n, fs', c, c1, f, q1, (q2 1 f1).trans p2, (q2 j fj).trans p3, hF.2.2 _ _ _ _ j _ _ _ p1 (Or.inl ⟨fj, cj⟩) p3 p4, p5⟩
theorem aC_of (hk : ows ws k h 3 fs) (h1 : fs[1]? = some (.int c1)) (hj : fs[j]? = some (.ref r)) (hf : iws ws kk r c n f) (hP : P c1.toInt n f) : aC ws h j P := ⟨k, r, kk, n, fs, c, c1, f, hk, h1, hj, hf, hP⟩
theorem aC_at (hD : va_D A ws) (hk : ows ws k h 3 fs) (h1 : fs[1]? = some (.int c1)) (hj : fs[j]? = some (.ref r)) (hf : iws ws kk r c n f) (q : aC ws h j P) : P c1.toInt n f := by
  obtain ⟨k', r', kk', n', fs', c', c1', f', p1, p2, p3, p4, p5⟩ := q
  obtain rfl := gO_un hD hk p1
  rw [h1] at p2
  cases p2
  rw [hj] at p3
  cases p3
  have e2 := hD.1 _ _ _ _ hf p4 rfl
  subst e2
  rw [iws, hf] at p4
  cases p4
  exact p5
theorem aC_st {i : Nat} {x : Int32} (ew : ws' = ws.set kk (r, .inl (c, n, .inl (upd f i x)))) (hk : ows ws k h 3 fs) (h1 : fs[1]? = some (.int c1)) (hj : fs[j]? = some (.ref r)) (hf : iws ws kk r c n f) (hQ : Q c1.toInt n (upd f i x)) : aC ws' h j Q := ⟨k, r, kk, n, fs, c, c1, _, gset_arO ew hf hk, h1, hj, gset_self ew hf, hQ⟩
theorem aC_cp {g : Nat → Int32} (ew : ws' = ws.set kk (r, .inl (c, n, .inl g))) (hk : ows ws k h 3 fs) (h1 : fs[1]? = some (.int c1)) (hj : fs[j]? = some (.ref r)) (hf : iws ws kk r c n f) (hQ : Q c1.toInt n g) : aC ws' h j Q := ⟨k, r, kk, n, fs, c, c1, _, gset_arO ew hf hk, h1, hj, gset_self ew hf, hQ⟩
theorem aC_im (q : aC ws h j P) (hi : ∀ c n f, P c n f → Q c n f) : aC ws h j Q := by
  obtain ⟨k, r, kk, n, fs, c, c1, f, p1, p2, p3, p4, p5⟩ := q
  exact ⟨k, r, kk, n, fs, c, c1, f, p1, p2, p3, p4, hi _ _ _ p5⟩
theorem aC_n {fs' : List Value} {x c0 : Int32} (ew : ws' = ws.set k (h, .inr (3, fs'))) (hD : va_D A ws) (hk : ows ws k h 3 fs) (hs : fs' = fs.set 1 (.int x)) (h1 : fs[1]? = some (.int c0)) (hj : 1 ≠ j) (q : aC ws h j P) (hPQ : ∀ n f, P c0.toInt n f → Q x.toInt n f) : aC ws' h j Q := by
  obtain ⟨k', r, kk, n, fs2, c, c1, f, p1, p2, p3, p4, p5⟩ := q
  have e1 := hD.1 _ _ _ _ hk p1 rfl
  subst e1
  obtain ⟨-, -, e2⟩ := ows_one hk p1
  subst e2
  rw [h1] at p2
  cases p2
  exact ⟨k, r, kk, n, fs', c, x, f, gset_self ew hk, by rw [hs, List.getElem?_set_self (List.getElem?_eq_some_iff.mp h1).1], by rw [hs, List.getElem?_set_ne hj]; exact p3, gset_obI ew hk p4, hPQ _ _ p5⟩
end AC
abbrev aC2 (ws : va_W) (h : Nat) (P : Int → Nat → (Nat → Int32) → Prop) : Prop := aC ws h 2 P
theorem aC2_mo {F C : List (Nat × Nat)} {S : Option Nat} {ws ws' : va_W} {h : Nat} {P : Int → Nat → (Nat → Int32) → Prop} (hF : gF F C S ws ws') (f1 : (3, 1) ∉ F) (fj : (3, 2) ∉ F) (cj : (3, 2) ∉ C) (q : aC2 ws h P) : aC2 ws' h P := aC_mo hF f1 fj cj q
abbrev aC3 (ws : va_W) (h : Nat) (P : Int → Nat → (Nat → Int32) → Prop) : Prop := aC ws h 3 P
theorem aC3_mo {F C : List (Nat × Nat)} {S : Option Nat} {ws ws' : va_W} {h : Nat} {P : Int → Nat → (Nat → Int32) → Prop} (hF : gF F C S ws ws') (f1 : (3, 1) ∉ F) (fj : (3, 3) ∉ F) (cj : (3, 3) ∉ C) (q : aC3 ws h P) : aC3 ws' h P := aC_mo hF f1 fj cj q
abbrev aC4 (ws : va_W) (h : Nat) (P : Int → Nat → (Nat → Int32) → Prop) : Prop := aC ws h 4 P
theorem aC4_mo {F C : List (Nat × Nat)} {S : Option Nat} {ws ws' : va_W} {h : Nat} {P : Int → Nat → (Nat → Int32) → Prop} (hF : gF F C S ws ws') (f1 : (3, 1) ∉ F) (fj : (3, 4) ∉ F) (cj : (3, 4) ∉ C) (q : aC4 ws h P) : aC4 ws' h P := aC_mo hF f1 fj cj q
abbrev aC5 (ws : va_W) (h : Nat) (P : Int → Nat → (Nat → Int32) → Prop) : Prop := aC ws h 5 P
theorem aC5_mo {F C : List (Nat × Nat)} {S : Option Nat} {ws ws' : va_W} {h : Nat} {P : Int → Nat → (Nat → Int32) → Prop} (hF : gF F C S ws ws') (f1 : (3, 1) ∉ F) (fj : (3, 5) ∉ F) (cj : (3, 5) ∉ C) (q : aC5 ws h P) : aC5 ws' h P := aC_mo hF f1 fj cj q
abbrev aC6 (ws : va_W) (h : Nat) (P : Int → Nat → (Nat → Int32) → Prop) : Prop := aC ws h 6 P
theorem aC6_mo {F C : List (Nat × Nat)} {S : Option Nat} {ws ws' : va_W} {h : Nat} {P : Int → Nat → (Nat → Int32) → Prop} (hF : gF F C S ws ws') (f1 : (3, 1) ∉ F) (fj : (3, 6) ∉ F) (cj : (3, 6) ∉ C) (q : aC6 ws h P) : aC6 ws' h P := aC_mo hF f1 fj cj q
abbrev aC7 (ws : va_W) (h : Nat) (P : Int → Nat → (Nat → Int32) → Prop) : Prop := aC ws h 7 P
theorem aC7_mo {F C : List (Nat × Nat)} {S : Option Nat} {ws ws' : va_W} {h : Nat} {P : Int → Nat → (Nat → Int32) → Prop} (hF : gF F C S ws ws') (f1 : (3, 1) ∉ F) (fj : (3, 7) ∉ F) (cj : (3, 7) ∉ C) (q : aC7 ws h P) : aC7 ws' h P := aC_mo hF f1 fj cj q
abbrev aC8 (ws : va_W) (h : Nat) (P : Int → Nat → (Nat → Int32) → Prop) : Prop := aC ws h 8 P
theorem aC8_mo {F C : List (Nat × Nat)} {S : Option Nat} {ws ws' : va_W} {h : Nat} {P : Int → Nat → (Nat → Int32) → Prop} (hF : gF F C S ws ws') (f1 : (3, 1) ∉ F) (fj : (3, 8) ∉ F) (cj : (3, 8) ∉ C) (q : aC8 ws h P) : aC8 ws' h P := aC_mo hF f1 fj cj q
abbrev aC14 (ws : va_W) (h : Nat) (P : Int → Nat → (Nat → Int32) → Prop) : Prop := aC ws h 14 P
theorem aC14_mo {F C : List (Nat × Nat)} {S : Option Nat} {ws ws' : va_W} {h : Nat} {P : Int → Nat → (Nat → Int32) → Prop} (hF : gF F C S ws ws') (f1 : (3, 1) ∉ F) (fj : (3, 14) ∉ F) (cj : (3, 14) ∉ C) (q : aC14 ws h P) : aC14 ws' h P := aC_mo hF f1 fj cj q
abbrev aC15 (ws : va_W) (h : Nat) (P : Int → Nat → (Nat → Int32) → Prop) : Prop := aC ws h 15 P
theorem aC15_mo {F C : List (Nat × Nat)} {S : Option Nat} {ws ws' : va_W} {h : Nat} {P : Int → Nat → (Nat → Int32) → Prop} (hF : gF F C S ws ws') (f1 : (3, 1) ∉ F) (fj : (3, 15) ∉ F) (cj : (3, 15) ∉ C) (q : aC15 ws h P) : aC15 ws' h P := aC_mo hF f1 fj cj q
def Hide (p : Prop) : Prop := p
theorem hide {p : Prop} (h : p) : Hide p := h
theorem Hide.out {p : Prop} (h : Hide p) : p := h
theorem cN (x : Int32) : x.toNatClampNeg = x.toInt.toNat := rfl
/-- numbers of blocks -/
def BK (m c : Int) (_n : Nat) (f : Nat → Int32) : Prop := ∀ i : Nat, (i : Int) < m → 0 ≤ (f i).toInt ∧ (f i).toInt < c
def B3 (m c : Int) (n : Nat) (f : Nat → Int32) : Prop := 1 ≤ c ∧ c ≤ m ∧ m ≤ n ∧ BK m c n f
def SI (m i : Int) (f : Nat → Int32) : Prop := (∀ j : Nat, (j : Int) < m → 0 ≤ (f j).toInt ∧ (f j).toInt < i) ∧ ∀ j k : Nat, j < k → (k : Int) < m → (f j).toInt < (f k).toInt
def S2 (m c : Int) (n : Nat) (f : Nat → Int32) : Prop := c ≤ n ∧ SI c m f
def SC0 (i c : Int) (_n : Nat) (f : Nat → Int32) : Prop := SI c i f
def SC1 (i c : Int) (_n : Nat) (f : Nat → Int32) : Prop := SI (c + 1) i f
def L3 (i c : Int) (n : Nat) (f : Nat → Int32) : Prop := (i = 0 → (f 0).toInt = 1 ∧ c = 0) ∧ (i ≤ 0 ∨ 1 ≤ c) ∧ 0 ≤ c ∧ c ≤ i ∧ BK i c n f
def K3 (i c : Int) (n : Nat) (f : Nat → Int32) : Prop := 1 ≤ c ∧ c ≤ i + 1 ∧ BK i c n f
def NZ (_c : Int) (_n : Nat) (f : Nat → Int32) : Prop := (f 0).toInt = 1
def EA (N c : Int) (_n : Nat) (f : Nat → Int32) : Prop := (f 0).toInt = 0 ∧ (f c.toNat).toInt = N ∧ ∀ i : Nat, (i : Int) < c → (f i).toInt ≤ (f (i + 1)).toInt
def EW (N c : Int) (_n : Nat) (f : Nat → Int32) : Prop := ∀ i : Nat, (i : Int) ≤ c → 0 ≤ (f i).toInt ∧ (f i).toInt ≤ N
def BN (N c : Int) (n : Nat) (f : Nat → Int32) : Prop := 0 ≤ N ∧ N ≤ n ∧ N ≤ 24528 ∧ n ≤ 49152 ∧ BK N c n f
/-- edgeAt, as far as b -/
def EP (b N c : Int) (_n : Nat) (f : Nat → Int32) : Prop := (b ≤ 0 → N = 0) ∧ (0 < b → (f 0).toInt = 0 ∧ (f (b - 1).toNat).toInt ≤ N) ∧ ∀ i : Nat, (i : Int) + 1 < b → (f i).toInt ≤ (f (i + 1)).toInt
theorem EA.w {N c : Int} {n : Nat} {f : Nat → Int32} (h : EA N c n f) (hc : 0 ≤ c) : EW N c n f := by
  obtain ⟨h0, h1, h2⟩ := h
  have up : ∀ k i : Nat, ((i + k : Nat) : Int) ≤ c → (f i).toInt ≤ (f (i + k)).toInt := by
    intro k
    induction k with
    | zero => intro i _; exact Int.le_refl _
    | succ k ih =>
      intro i hi
      have a1 := ih i (by omega)
      have a2 := h2 (i + k) (by omega)
      rw [Nat.add_assoc] at a2
      omega
  intro i hi
  have a1 := up i 0 (by omega)
  have a2 := up (c.toNat - i) i (by omega)
  rw [Nat.zero_add] at a1
  have e : i + (c.toNat - i) = c.toNat := by omega
  rw [e] at a2
  omega
section LD
variable {m c N : Int} {n : Nat} {f : Nat → Int32} {i v : Int32}
theorem BK_ld (h : BK m c n f) (e : v = f i.toNatClampNeg) : i.toInt < 0 ∨ m ≤ i.toInt ∨ (0 ≤ v.toInt ∧ v.toInt < c) := by
  rw [e, cN]
  rcases Int.lt_or_le i.toInt 0 with w | w
  · exact Or.inl w
  · rcases Int.lt_or_le i.toInt m with w2 | w2
    · exact Or.inr (Or.inr (h _ (by omega)))
    · exact Or.inr (Or.inl w2)
theorem B3_ld (h : B3 m c n f) (e : v = f i.toNatClampNeg) : i.toInt < 0 ∨ m ≤ i.toInt ∨ (0 ≤ v.toInt ∧ v.toInt < c) := BK_ld h.2.2.2 e
theorem EW_ld (h : EW N c n f) (e : v = f i.toNatClampNeg) : i.toInt < 0 ∨ c < i.toInt ∨ (0 ≤ v.toInt ∧ v.toInt ≤ N) := by
  rw [e, cN]
  rcases Int.lt_or_le i.toInt 0 with w | w
  · exact Or.inl w
  · rcases Int.lt_or_le c i.toInt with w2 | w2
    · exact Or.inr (Or.inl w2)
    · exact Or.inr (Or.inr (h _ (by omega)))
theorem EA_ld (h : EA N c n f) (e : v = f i.toNatClampNeg) : c < 0 ∨ i.toInt < 0 ∨ c < i.toInt ∨ (0 ≤ v.toInt ∧ v.toInt ≤ N) := by
  rcases Int.lt_or_le c 0 with w | w
  · exact Or.inl w
  · exact Or.inr (EW_ld (h.w w) e)
theorem S2_ld (h : S2 m c n f) (e : v = f i.toNatClampNeg) : i.toInt < 0 ∨ c ≤ i.toInt ∨ (0 ≤ v.toInt ∧ v.toInt < m) := by
  rw [e, cN]
  rcases Int.lt_or_le i.toInt 0 with w | w
  · exact Or.inl w
  · rcases Int.lt_or_le i.toInt c with w2 | w2
    · exact Or.inr (Or.inr (h.2.1 _ (by omega)))
    · exact Or.inr (Or.inl w2)
theorem L3_ld {w : Int} (h : L3 w c n f) (e : v = f i.toNatClampNeg) (hi : i.toInt = w) : w ≠ 0 ∨ v.toInt = 1 := by
  by_cases z : w = 0
  · right
    have : i.toNatClampNeg = 0 := by rw [cN]; omega
    rw [e, this]
    exact (h.1 z).1
  · exact Or.inl z
theorem BK_in (h : BK m c n f) (e : v = f i.toNatClampNeg) (hi : 0 ≤ i.toInt ∧ i.toInt < m) : 0 ≤ v.toInt ∧ v.toInt < c := by
  have := BK_ld h e
  omega
theorem B3_in (h : B3 m c n f) (e : v = f i.toNatClampNeg) (hi : 0 ≤ i.toInt ∧ i.toInt < m) : 0 ≤ v.toInt ∧ v.toInt < c := BK_in h.2.2.2 e hi
theorem BN_in (h : BN N c n f) (e : v = f i.toNatClampNeg) (hi : 0 ≤ i.toInt ∧ i.toInt < N) : 0 ≤ v.toInt ∧ v.toInt < c := BK_in h.2.2.2.2 e hi
theorem EW_in (h : EW N c n f) (e : v = f i.toNatClampNeg) (hi : 0 ≤ i.toInt ∧ i.toInt ≤ c) : 0 ≤ v.toInt ∧ v.toInt ≤ N := by
  have := EW_ld h e
  omega
theorem EA_in (h : EA N c n f) (e : v = f i.toNatClampNeg) (hi : 0 ≤ i.toInt ∧ i.toInt ≤ c) : 0 ≤ v.toInt ∧ v.toInt ≤ N := by
  have := EA_ld h e
  omega
theorem S2_in (h : S2 m c n f) (e : v = f i.toNatClampNeg) (hi : 0 ≤ i.toInt ∧ i.toInt < c) : 0 ≤ v.toInt ∧ v.toInt < m := by
  have := S2_ld h e
  omega
end LD
theorem B3_n {m c : Int} {n : Nat} {f : Nat → Int32} (h : B3 m c n f) : 1 ≤ c ∧ c ≤ m ∧ m ≤ n := ⟨h.1, h.2.1, h.2.2.1⟩
theorem S2_n {m c : Int} {n : Nat} {f : Nat → Int32} (h : S2 m c n f) : c ≤ n := h.1
theorem BN_n {m c : Int} {n : Nat} {f : Nat → Int32} (h : BN m c n f) : 0 ≤ m ∧ m ≤ n ∧ m ≤ 24528 ∧ n ≤ 49152 := ⟨h.1, h.2.1, h.2.2.1, h.2.2.2.1⟩
theorem L3_n {i c : Int} {n : Nat} {f : Nat → Int32} (h : L3 i c n f) : (i ≤ 0 ∨ 1 ≤ c) ∧ 0 ≤ c ∧ c ≤ i ∧ (i ≠ 0 ∨ c = 0) := ⟨h.2.1, h.2.2.1, h.2.2.2.1, by
  by_cases z : i = 0
  · exact Or.inr (h.1 z).2
  · exact Or.inl z⟩
theorem nz_st {c : Int} {n i : Nat} {f : Nat → Int32} (h : NZ c n f) : NZ c n (upd f i 1) := by
  unfold NZ upd
  by_cases z : (0 : Nat) = i
  · rw [if_pos z]; decide
  · rw [if_neg z]; exact h
theorem nz_0 {c : Int} {n i : Nat} {f : Nat → Int32} (hi : i = 0) : NZ c n (upd f i 1) := by
  unfold NZ upd
  rw [if_pos hi.symm]; decide
theorem BK.c {m c c' : Int} {n n' : Nat} {f : Nat → Int32} (h : BK m c n f) (hc : c ≤ c') : BK m c' n' f := fun i hi => ⟨(h i hi).1, by have := (h i hi).2; omega⟩
theorem BK.st {m m' c : Int} {n i : Nat} {f : Nat → Int32} {x : Int32} (h : BK m c n f) (hm : m' ≤ m ∨ ((i : Int) = m ∧ m' = m + 1)) (hx : 0 ≤ x.toInt ∧ x.toInt < c) : BK m' c n (upd f i x) := fun j hj => by
  unfold upd
  by_cases z : j = i
  · rw [if_pos z]; exact hx
  · rw [if_neg z]; exact h j (by omega)
theorem BK.nil {m c : Int} {n : Nat} {f : Nat → Int32} (h : m ≤ 0) : BK m c n f := fun i hi => by omega
theorem SI.st {m i : Int} {p : Nat} {f : Nat → Int32} {x : Int32} (h : SI m i f) (hp : (p : Int) = m) (h0 : 0 ≤ i) (hx : x.toInt = i) : SI (m + 1) (i + 1) (upd f p x) := by
  refine ⟨fun j hj => ?_, fun j k hjk hk => ?_⟩
  · unfold upd
    by_cases z : j = p
    · rw [if_pos z]; omega
    · rw [if_neg z]; have := h.1 j (by omega); omega
  · have zj : j ≠ p := by omega
    unfold upd
    rw [if_neg zj]
    by_cases z : k = p
    · rw [if_pos z, hx]; exact (h.1 j (by omega)).2
    · rw [if_neg z]; exact h.2 j k hjk (by omega)
theorem SI.le {m i i' : Int} {f : Nat → Int32} (h : SI m i f) (hi : i ≤ i') : SI m i' f := ⟨fun j hj => ⟨(h.1 j hj).1, by have := (h.1 j hj).2; omega⟩, h.2⟩
theorem EP.st {b N c : Int} {n p : Nat} {f : Nat → Int32} {x : Int32} (h : EP b N c n f) (hb : 0 ≤ b) (hp : (p : Int) = b) (hx : x.toInt = N) : EP (b + 1) N c n (upd f p x) := by
  obtain ⟨h1, h2, h3⟩ := h
  refine ⟨fun w => by omega, fun _ => ?_, fun i hi => ?_⟩
  · have e : (b + 1 - 1).toNat = p := by omega
    rw [e, upd_eq, hx]
    refine ⟨?_, Int.le_refl _⟩
    by_cases z : (0 : Nat) = p
    · rw [z, upd_eq, hx]; exact h1 (by omega)
    · rw [upd_ne z]; exact (h2 (by omega)).1
  · have zi : i ≠ p := by omega
    rw [upd_ne zi]
    by_cases z : i + 1 = p
    · rw [z, upd_eq, hx]
      have := (h2 (by omega)).2
      have e : (b - 1).toNat = i := by omega
      rw [e] at this
      exact this
    · rw [upd_ne z]; exact h3 i (by omega)
theorem EP.le {b N N' c : Int} {n : Nat} {f : Nat → Int32} (h : EP b N c n f) (hb : 0 < b) (hN : N ≤ N') : EP b N' c n f := ⟨fun w => by omega, fun w => ⟨(h.2.1 w).1, by have := (h.2.1 w).2; omega⟩, h.2.2⟩
theorem EP.fin {N c : Int} {n : Nat} {f : Nat → Int32} (h : EP (c + 1) N c n f) (hc : 0 ≤ c) (hN : (f c.toNat).toInt = N) : EA N c n f := ⟨(h.2.1 (by omega)).1, hN, fun i hi => h.2.2 i (by omega)⟩
/-- edges, and those back -/
def gE2 (ws : va_W) (h : Nat) : Prop := ∃ N : Int, aC4 ws h (EA N) ∧ aC5 ws h (BN N)
def gB2 (ws : va_W) (h : Nat) : Prop := ∃ N : Int, aC6 ws h (EW N) ∧ aC7 ws h (BN N)
theorem gE2_mo {F C : List (Nat × Nat)} {S : Option Nat} {ws ws' : va_W} {h : Nat} (hF : gF F C S ws ws') (f1 : (3, 1) ∉ F) (f4 : (3, 4) ∉ F) (c4 : (3, 4) ∉ C) (f5 : (3, 5) ∉ F) (c5 : (3, 5) ∉ C) (q : gE2 ws h) : gE2 ws' h := by
  obtain ⟨N, q1, q2⟩ := q
  exact ⟨N, aC_mo hF f1 f4 c4 q1, aC_mo hF f1 f5 c5 q2⟩
theorem gB2_mo {F C : List (Nat × Nat)} {S : Option Nat} {ws ws' : va_W} {h : Nat} (hF : gF F C S ws ws') (f1 : (3, 1) ∉ F) (f6 : (3, 6) ∉ F) (c6 : (3, 6) ∉ C) (f7 : (3, 7) ∉ F) (c7 : (3, 7) ∉ C) (q : gB2 ws h) : gB2 ws' h := by
  obtain ⟨N, q1, q2⟩ := q
  exact ⟨N, aC_mo hF f1 f6 c6 q1, aC_mo hF f1 f7 c7 q2⟩
/-! Arrays.fill, Arrays.copyOf: what they leave -/
def flQ (ws : va_W) (b : Nat) (x m : Int32) : Prop := ∃ (k n : Nat) (c : ClassId) (f : Nat → Int32), iws ws k b c n f ∧ ∀ i : Nat, (i : Int) < m.toInt → f i = x
def flA (ws : va_W) (b : Nat) (x : Int32) : Prop := ∃ (k n : Nat) (c : ClassId) (f : Nat → Int32), iws ws k b c n f ∧ ∀ i : Nat, i < n → f i = x
theorem iws_un {A : Nat → Prop} {ws : va_W} {k k' b n n' : Nat} {c c' : ClassId} {f f' : Nat → Int32} (hD : va_D A ws) (hf : iws ws k b c n f) (q : iws ws k' b c' n' f') : k' = k ∧ n' = n ∧ f' = f := by
  have e2 := hD.1 _ _ _ _ hf q rfl
  subst e2
  rw [iws, hf] at q
  cases q
  exact ⟨rfl, rfl, rfl⟩
theorem flQ_0 {ws : va_W} {k b n : Nat} {c : ClassId} {f : Nat → Int32} {x m : Int32} (hf : iws ws k b c n f) (hm : m.toInt ≤ 0) : flQ ws b x m := ⟨k, n, c, f, hf, fun i hi => by omega⟩
theorem flQ_s {A : Nat → Prop} {ws ws' : va_W} {k b n : Nat} {c : ClassId} {f : Nat → Int32} {x m z : Int32} (ew : ws' = ws.set k (b, .inl (c, n, .inl (upd f m.toNatClampNeg x)))) (hD : va_D A ws) (hf : iws ws k b c n f) (h0 : 0 ≤ m.toInt) (hz : z.toInt = m.toInt + 1) (q : flQ ws b x m) : flQ ws' b x z := by
  obtain ⟨k', n', c', f', p1, p2⟩ := q
  obtain ⟨rfl, rfl, rfl⟩ := iws_un hD hf p1
  refine ⟨_, _, _, _, gset_self ew hf, fun i hi => ?_⟩
  by_cases w : i = m.toNatClampNeg
  · rw [w, upd_eq]
  · rw [upd_ne w]; exact p2 i (by rw [cN] at w; omega)
theorem flA_Q {A : Nat → Prop} {ws : va_W} {k b n : Nat} {c : ClassId} {f : Nat → Int32} {x m : Int32} (hD : va_D A ws) (hf : iws ws k b c n f) (hm : (n : Int) ≤ m.toInt) (q : flQ ws b x m) : flA ws b x := by
  obtain ⟨k', n', c', f', p1, p2⟩ := q
  obtain ⟨rfl, rfl, rfl⟩ := iws_un hD hf p1
  exact ⟨_, _, _, _, p1, fun i hi => p2 i (by omega)⟩
theorem flA_at {A : Nat → Prop} {ws : va_W} {k b n : Nat} {c : ClassId} {f : Nat → Int32} {x : Int32} (hD : va_D A ws) (hf : iws ws k b c n f) (q : flA ws b x) : ∀ i : Nat, i < n → f i = x := by
  obtain ⟨k', n', c', f', p1, p2⟩ := q
  obtain ⟨rfl, rfl, rfl⟩ := iws_un hD hf p1
  exact p2
def cpP (ws u : va_W) (a b : Nat) : Prop := ∀ (k n : Nat) (c : ClassId) (f : Nat → Int32), iws ws k a c n f → ∃ (k' n' : Nat) (c' : ClassId) (f' : Nat → Int32), iws u k' b c' n' f' ∧ ∀ i : Nat, i < n → i < n' → f' i = f i
theorem cpP_at {A : Nat → Prop} {ws u : va_W} {a b k n k' n' : Nat} {c c' : ClassId} {f f' : Nat → Int32} (hD : va_D A u) (q : cpP ws u a b) (hf : iws ws k a c n f) (hf' : iws u k' b c' n' f') : ∀ i : Nat, i < n → i < n' → f' i = f i := by
  obtain ⟨k2, n2, c2, f2, p1, p2⟩ := q _ _ _ _ hf
  obtain ⟨rfl, rfl, rfl⟩ := iws_un hD hf' p1
  exact p2
theorem cpP_of {A : Nat → Prop} {ws ws1 ws2 : va_W} {a b ka kb na nb sp dp l : Nat} {c d : ClassId} {f g : Nat → Int32} (hD : va_D A ws1) (hm : ∀ (k n : Nat) (c : ClassId) (f : Nat → Int32), iws ws k a c n f → iws ws1 k a c n f) (ha : iws ws1 ka a c na f) (hb : iws ws1 kb b d nb g) (ew : ws2 = ws1.set kb (b, .inl (d, nb, .inl (va_cpy f g sp dp l)))) (hs : sp = 0) (hd : dp = 0) (hl : na ≤ l ∨ nb ≤ l) : cpP ws ws2 a b := fun k n c f' q => by
  obtain ⟨rfl, rfl, rfl⟩ := iws_un hD ha (hm _ _ _ _ q)
  refine ⟨_, _, _, _, gset_self ew hb, fun i h1 h2 => ?_⟩
  unfold va_cpy
  rw [hs, hd, if_pos ⟨Nat.zero_le _, by omega⟩]
  congr 1
  omega
theorem i_mulv {z x y : Int32} (h : z = x * y) (hx : 0 ≤ x.toInt ∧ x.toInt ≤ 65535) (hy : 0 ≤ y.toInt ∧ y.toInt ≤ 32767) : z.toInt = x.toInt * y.toInt := by
  obtain ⟨q, hq⟩ := i_mul h
  have h1 := i_rg z
  have h2 : 0 ≤ x.toInt * y.toInt := Int.mul_nonneg hx.1 hy.1
  have h3 : x.toInt * y.toInt ≤ 65535 * 32767 := Int.mul_le_mul hx.2 hy.2 hy.1 (by decide)
  omega
theorem i_divc {z x y : Int32} {c : Int} (h : z = x / y) (hy : y.toInt = c) (hc : 1 < c) (hx : 0 ≤ x.toInt) : z.toInt = x.toInt / c := by
  rw [h, Int32.toInt_div, hy, Int.tdiv_eq_ediv_of_nonneg hx]
  have h1 := i_rg x
  have h2 : 0 ≤ x.toInt / c := Int.ediv_nonneg hx (by omega)
  have h3 : x.toInt / c ≤ x.toInt := Int.ediv_le_self _ hx
  apply Int.bmod_eq_of_le <;> omega
/-- a word of a block -/
theorem ix_dom {c w n x k z m : Int} (h : c * w ≤ n) (hx : 0 ≤ x ∧ x < c) (hk : 0 ≤ k ∧ k < w) (hm : m = x * w) (hz : z = m + k) : 0 ≤ z ∧ z < n := by
  have h1 : (x + 1) * w ≤ c * w := Int.mul_le_mul_of_nonneg_right (by omega) (by omega)
  have h2 : 0 ≤ x * w := Int.mul_nonneg hx.1 (by omega)
  rw [Int.add_mul, Int.one_mul] at h1
  omega
theorem L3_0 {c i x : Int} {n n' : Nat} {f : Nat → Int32} (h : NZ c n f) (hi : i = 0) (hx : x = 0) : L3 i x n' f := ⟨fun _ => ⟨h, hx⟩, Or.inl (by omega), by omega, by omega, fun j hj => by omega⟩
theorem SI_0 {m i : Int} {f : Nat → Int32} (h : m ≤ 0) : SI m i f := ⟨fun j hj => by omega, fun j k _ hk => by omega⟩
theorem L3_s {i c : Int} {n p : Nat} {f : Nat → Int32} {x : Int32} (h : K3 i c n f) (h0 : 0 ≤ i) (hp : (p : Int) = i) (hx : x.toInt = c - 1) : L3 (i + 1) c n (upd f p x) := ⟨fun w => by omega, Or.inr h.1, by have := h.1; omega, h.2.1, h.2.2.st (Or.inr ⟨hp, rfl⟩) (by have := h.1; omega)⟩
theorem mulv_b {z x y : Int} (h : z = x * y) (hx : 0 ≤ x ∧ x ≤ 1296) (hy : 0 ≤ y ∧ y ≤ 21) : 0 ≤ z ∧ z ≤ 27216 := by
  have h2 : 0 ≤ x * y := Int.mul_nonneg hx.1 hy.1
  have h3 : x * y ≤ 1296 * 21 := Int.mul_le_mul hx.2 hy.2 hy.1 (by decide)
  omega
theorem cw_le {c w : Int} (hx : 0 ≤ c ∧ c ≤ 1296) (hy : 0 ≤ w ∧ w ≤ 21) : 0 ≤ c * w ∧ c * w ≤ 27216 := mulv_b rfl hx hy
theorem cw_ge {c w : Int} (hx : 1 ≤ c) (hy : 0 ≤ w) : w ≤ c * w := by
  have := Int.mul_le_mul_of_nonneg_right hx hy
  omega
theorem cpy_in {f g : Nat → Int32} {sp dp l i : Nat} (hs : sp = 0) (hd : dp = 0) (hi : i < l) : va_cpy f g sp dp l i = f i := by
  unfold va_cpy
  rw [hs, hd, if_pos ⟨Nat.zero_le _, by omega⟩]
  congr 1
  omega
theorem opn_X0 {G : Prop} {g : Gm} {ws : va_W} {k a : Nat} {fs : List Value} (hG : Good g ws) (hk : ows ws k a 0 fs) (kk : ∀ (r0 n0 : Nat) (c1 : Int32), fs = [.ref r0, .int c1] → gI ws r0 g.cB n0 → Hide (n0 < 2147483648) → Hide (0 ≤ c1.toInt) → Hide (c1.toInt ≤ n0) → Hide (64 ≤ n0) → Hide (n0 ≤ 262144) → G) : G := by
  obtain ⟨r0, n0, c1, e, z0, z1, z2, z3, z4, z5, -⟩ := (hG.1 _ _ _ _ hk).hX0 rfl
  exact kk r0 n0 c1 e z0 z1 z2 z3 z4 z5
theorem opn_X8 {G : Prop} {g : Gm} {ws : va_W} {k a : Nat} {fs : List Value} (hG : Good g ws) (hk : ows ws k a 7 fs) (kk : ∀ (r0 n0 : Nat) (r1 n1 : Nat) (c2 : Int32) (r3 n3 : Nat) (c4 : Int32) (r5 n5 : Nat) (r6 n6 : Nat) (r7 n7 : Nat) (r8 n8 : Nat) (c9 : Int32) (c10 : Int32) (c11 : Int32) (v12 : Option Nat) (v13 : Option Nat) (v14 : Option Nat), fs = [.ref r0, .ref r1, .int c2, .ref r3, .int c4, .ref r5, .ref r6, .ref r7, .ref r8, .int c9, .int c10, .int c11, va_rf v12, va_rf v13, va_rf v14] → gI ws r0 g.cI n0 → Hide (n0 < 2147483648) → gJ ws r1 g.cL n1 → Hide (n1 < 2147483648) → gI ws r3 g.cI n3 → Hide (n3 < 2147483648) → gI ws r5 g.cI n5 → Hide (n5 < 2147483648) → gI ws r6 g.cI n6 → Hide (n6 < 2147483648) → gI ws r7 g.cI n7 → Hide (n7 < 2147483648) → gI ws r8 g.cI n8 → Hide (n8 < 2147483648) → (∀ b, v12 = some b → ∃ n, gI ws b g.cB n ∧ n < 2147483648) → (∀ b, v13 = some b → ∃ n, gJ ws b g.cL n ∧ n < 2147483648) → (∀ b, v14 = some b → ∃ n, gJ ws b g.cL n ∧ n < 2147483648) → Hide (n1 = n0) → Hide (n0 ≤ 1296) → Hide (0 ≤ c2.toInt) → Hide (c2.toInt ≤ n0) → Hide (0 ≤ c4.toInt) → Hide (c4.toInt ≤ n3) → Hide (n6 = n5) → Hide (n7 = n5) → Hide (n8 = n5) → Hide (0 ≤ c9.toInt) → Hide (c9.toInt ≤ n5) → Hide (n3 ≤ 1200) → Hide (n5 ≤ 16) → G) : G := by
  obtain ⟨r0, n0, r1, n1, c2, r3, n3, c4, r5, n5, r6, n6, r7, n7, r8, n8, c9, c10, c11, v12, v13, v14, e, z0, z1, z2, z3, z4, z5, z6, z7, z8, z9, z10, z11, z12, z13, z14, z15, z16, z17, z18, z19, z20, z21, z22, z23, z24, z25, z26, z27, z28, z29, -⟩ := (hG.1 _ _ _ _ hk).hX8 rfl
  exact kk r0 n0 r1 n1 c2 r3 n3 c4 r5 n5 r6 n6 r7 n7 r8 n8 c9 c10 c11 v12 v13 v14 e z0 z1 z2 z3 z4 z5 z6 z7 z8 z9 z10 z11 z12 z13 z14 z15 z16 z17 z18 z19 z20 z21 z22 z23 z24 z25 z26 z27 z28 z29
theorem opn_X10 {G : Prop} {g : Gm} {ws : va_W} {k a : Nat} {fs : List Value} (hG : Good g ws) (hk : ows ws k a 9 fs) (kk : ∀ (r0 n0 : Nat) (c1 : Int32) (c2 : Int32) (c3 : Int32) (c4 : Int32) (r5 n5 : Nat) (r6 n6 : Nat) (r7 n7 : Nat) (c8 : Int32) (r9 n9 : Nat) (r10 n10 : Nat) (r11 n11 : Nat) (r12 n12 : Nat) (r13 n13 : Nat) (c14 : Int32) (c15 : Int32) (c16 : Int32) (c17 : Int32), fs = [.ref r0, .int c1, .int c2, .int c3, .int c4, .ref r5, .ref r6, .ref r7, .int c8, .ref r9, .ref r10, .ref r11, .ref r12, .ref r13, .int c14, .int c15, .int c16, .int c17] → gI ws r0 g.cB n0 → Hide (n0 < 2147483648) → gI ws r5 g.cI n5 → Hide (n5 < 2147483648) → gI ws r6 g.cI n6 → Hide (n6 < 2147483648) → gI ws r7 g.cI n7 → Hide (n7 < 2147483648) → gI ws r9 g.cI n9 → Hide (n9 < 2147483648) → gI ws r10 g.cI n10 → Hide (n10 < 2147483648) → gI ws r11 g.cI n11 → Hide (n11 < 2147483648) → gI ws r12 g.cI n12 → Hide (n12 < 2147483648) → gR ws r13 g.cR n13 → Hide (n13 < 2147483648) → (c15 = 0 ∨ c15 = 1) → Hide (c4.toInt = n5) → Hide (n6 = n5) → Hide (n7 = n5) → Hide (c8.toInt = n9) → Hide (n10 = n9) → Hide (n11 = n9) → Hide (n12 = n9) → Hide (n13 = n9) → Hide (n9 ≤ 24) → Hide (n5 ≤ 24) → G) : G := by
  obtain ⟨r0, n0, c1, c2, c3, c4, r5, n5, r6, n6, r7, n7, c8, r9, n9, r10, n10, r11, n11, r12, n12, r13, n13, c14, c15, c16, c17, e, z0, z1, z2, z3, z4, z5, z6, z7, z8, z9, z10, z11, z12, z13, z14, z15, z16, z17, z18, z19, z20, z21, z22, z23, z24, z25, z26, z27, z28, -⟩ := (hG.1 _ _ _ _ hk).hX10 rfl
  exact kk r0 n0 c1 c2 c3 c4 r5 n5 r6 n6 r7 n7 c8 r9 n9 r10 n10 r11 n11 r12 n12 r13 n13 c14 c15 c16 c17 e z0 z1 z2 z3 z4 z5 z6 z7 z8 z9 z10 z11 z12 z13 z14 z15 z16 z17 z18 z19 z20 z21 z22 z23 z24 z25 z26 z27 z28
theorem opn_X4 {G : Prop} {g : Gm} {ws : va_W} {k a : Nat} {fs : List Value} (hG : Good g ws) (hk : ows ws k a 4 fs) (kk : ∀ (r0 n0 : Nat) (r1 n1 : Nat) (r2 n2 : Nat) (v3 : Option Nat) (v4 : Option Nat) (c5 : Int32) (c6 : Int32) (c7 : Int32), fs = [.ref r0, .ref r1, .ref r2, va_rf v3, va_rf v4, .int c5, .int c6, .int c7] → gI ws r0 g.cI n0 → Hide (n0 < 2147483648) → gI ws r1 g.cI n1 → Hide (n1 < 2147483648) → gI ws r2 g.cZ n2 → Hide (n2 < 2147483648) → (∀ b, v3 = some b → gC ws b 9) → (∀ b, v4 = some b → gC ws b 7) → (c6 = 0 ∨ c6 = 1) → Hide (n1 = n0) → Hide (n2 = n0) → Hide (n0 ≤ 4000) → G) : G := by
  obtain ⟨r0, n0, r1, n1, r2, n2, v3, v4, c5, c6, c7, e, z0, z1, z2, z3, z4, z5, z6, z7, z8, z9, z10, z11, -⟩ := (hG.1 _ _ _ _ hk).hX4 rfl
  exact kk r0 n0 r1 n1 r2 n2 v3 v4 c5 c6 c7 e z0 z1 z2 z3 z4 z5 z6 z7 z8 z9 z10 z11
theorem opn_X1 {G : Prop} {g : Gm} {ws : va_W} {k a : Nat} {fs : List Value} (hG : Good g ws) (hk : ows ws k a 1 fs) (kk : ∀ (r0 : Nat) (r1 n1 : Nat) (r2 n2 : Nat) (r3 n3 : Nat) (r4 n4 : Nat) (c5 : Int32) (c6 : Int32) (c7 : Int32) (v8 : Option Nat) (v9 : Option Nat), fs = [.ref r0, .ref r1, .ref r2, .ref r3, .ref r4, .int c5, .int c6, .int c7, va_rf v8, va_rf v9] → gC ws r0 4 → gI ws r1 g.cB n1 → Hide (n1 < 2147483648) → gI ws r2 g.cZ n2 → Hide (n2 < 2147483648) → gI ws r3 g.cZ n3 → Hide (n3 < 2147483648) → gI ws r4 g.cB n4 → Hide (n4 < 2147483648) → (c6 = 0 ∨ c6 = 1) → (c7 = 0 ∨ c7 = 1) → (∀ b, v8 = some b → gC ws b 9) → (∀ b, v9 = some b → gC ws b 7) → Hide (n4 = 48) → Hide (n3 = n2) → Hide (n1 = 48 * n2) → Hide (n2 ≤ 4000) → G) : G := by
  obtain ⟨r0, r1, n1, r2, n2, r3, n3, r4, n4, c5, c6, c7, v8, v9, e, z0, z1, z2, z3, z4, z5, z6, z7, z8, z9, z10, z11, z12, z13, z14, z15, z16, -⟩ := (hG.1 _ _ _ _ hk).hX1 rfl
  exact kk r0 r1 n1 r2 n2 r3 n3 r4 n4 c5 c6 c7 v8 v9 e z0 z1 z2 z3 z4 z5 z6 z7 z8 z9 z10 z11 z12 z13 z14 z15 z16
theorem opn_X7 {G : Prop} {g : Gm} {ws : va_W} {k a : Nat} {fs : List Value} (hG : Good g ws) (hk : ows ws k a 6 fs) (kk : ∀ (r0 n0 : Nat) (c1 : Int32) (c2 : Int32) (c3 : Int32) (r4 n4 : Nat) (c5 : Int32) (c6 : Int32) (c7 : Int32) (c8 : Int32) (r9 n9 : Nat) (r10 n10 : Nat) (r11 n11 : Nat) (c12 : Int32) (c13 : Int32) (c14 : Int32) (c15 : Int32) (c16 : Int32), fs = [.ref r0, .int c1, .int c2, .int c3, .ref r4, .int c5, .int c6, .int c7, .int c8, .ref r9, .ref r10, .ref r11, .int c12, .int c13, .int c14, .int c15, .int c16] → gI ws r0 g.cB n0 → Hide (n0 < 2147483648) → gI ws r4 g.cI n4 → Hide (n4 < 2147483648) → gI ws r9 g.cI n9 → Hide (n9 < 2147483648) → gI ws r10 g.cI n10 → Hide (n10 < 2147483648) → gI ws r11 g.cI n11 → Hide (n11 < 2147483648) → Hide (0 ≤ c1.toInt) → Hide (n4 = 500) → Hide (n9 = 48) → Hide (n10 = 24) → Hide (n11 = 24) → G) : G := by
  obtain ⟨r0, n0, c1, c2, c3, r4, n4, c5, c6, c7, c8, r9, n9, r10, n10, r11, n11, c12, c13, c14, c15, c16, e, z0, z1, z2, z3, z4, z5, z6, z7, z8, z9, z10, z11, z12, z13, z14, -⟩ := (hG.1 _ _ _ _ hk).hX7 rfl
  exact kk r0 n0 c1 c2 c3 r4 n4 c5 c6 c7 c8 r9 n9 r10 n10 r11 n11 c12 c13 c14 c15 c16 e z0 z1 z2 z3 z4 z5 z6 z7 z8 z9 z10 z11 z12 z13 z14
theorem opn_X2 {G : Prop} {g : Gm} {ws : va_W} {k a : Nat} {fs : List Value} (hG : Good g ws) (hk : ows ws k a 2 fs) (kk : ∀ (r0 : Nat) (c1 : Int32) (c2 : Int32) (c3 : Int32) (c4 : Int32) (c5 : Int32) (c6 : Int32) (r7 n7 : Nat) (c8 : Int32) (c9 : Int32) (l10 : Int64) (c11 : Int32), fs = [.ref r0, .int c1, .int c2, .int c3, .int c4, .int c5, .int c6, .ref r7, .int c8, .int c9, .long l10, .int c11] → gC ws r0 6 → gI ws r7 g.cI n7 → Hide (n7 < 2147483648) → Hide (n7 = 1201) → Hide (c2.toInt ≤ 1200) → G) : G := by
  obtain ⟨r0, c1, c2, c3, c4, c5, c6, r7, n7, c8, c9, l10, c11, e, z0, z1, z2, z3, z4, -⟩ := (hG.1 _ _ _ _ hk).hX2 rfl
  exact kk r0 c1 c2 c3 c4 c5 c6 r7 n7 c8 c9 l10 c11 e z0 z1 z2 z3 z4
theorem opn_X12 {G : Prop} {g : Gm} {ws : va_W} {k a : Nat} {fs : List Value} (hG : Good g ws) (hk : ows ws k a 11 fs) (kk : ∀ (r0 : Nat) (r1 : Nat) (r2 : Nat) (r3 n3 : Nat) (r4 : Nat) (r5 : Nat) (r6 : Nat) (r7 : Nat) (r8 : Nat) (r9 : Nat) (c10 : Int32) (c11 : Int32) (c12 : Int32) (c13 : Int32) (c14 : Int32) (c15 : Int32) (c16 : Int32) (c17 : Int32), fs = [.ref r0, .ref r1, .ref r2, .ref r3, .ref r4, .ref r5, .ref r6, .ref r7, .ref r8, .ref r9, .int c10, .int c11, .int c12, .int c13, .int c14, .int c15, .int c16, .int c17] → gC ws r0 0 → gC ws r1 0 → gC ws r2 0 → gR ws r3 g.cU n3 → Hide (n3 < 2147483648) → gC ws r4 2 → gC ws r5 1 → gC ws r6 10 → gC ws r7 5 → gC ws r8 3 → gC ws r9 8 → Hide (n3 = 12) → Hide (0 ≤ c11.toInt) → Hide (c11.toInt ≤ 12) → Hide (0 ≤ c12.toInt) → Hide (c12.toInt ≤ 16) → Hide (0 ≤ c10.toInt) → Hide (c10.toInt ≤ 65536) → G) : G := by
  obtain ⟨r0, r1, r2, r3, n3, r4, r5, r6, r7, r8, r9, c10, c11, c12, c13, c14, c15, c16, c17, e, z0, z1, z2, z3, z4, z5, z6, z7, z8, z9, z10, z11, z12, z13, z14, z15, z16, z17, -⟩ := (hG.1 _ _ _ _ hk).hX12 rfl
  exact kk r0 r1 r2 r3 n3 r4 r5 r6 r7 r8 r9 c10 c11 c12 c13 c14 c15 c16 c17 e z0 z1 z2 z3 z4 z5 z6 z7 z8 z9 z10 z11 z12 z13 z14 z15 z16 z17
theorem opn_X3 {G : Prop} {g : Gm} {ws : va_W} {k a : Nat} {fs : List Value} (hG : Good g ws) (hk : ows ws k a 3 fs) (kk : ∀ (v0 : Option Nat) (c1 : Int32) (r2 n2 : Nat) (r3 n3 : Nat) (r4 n4 : Nat) (r5 n5 : Nat) (r6 n6 : Nat) (r7 n7 : Nat) (r8 n8 : Nat) (r9 n9 : Nat) (c10 : Int32) (r11 n11 : Nat) (r12 n12 : Nat) (r13 n13 : Nat) (r14 n14 : Nat) (r15 n15 : Nat), fs = [va_rf v0, .int c1, .ref r2, .ref r3, .ref r4, .ref r5, .ref r6, .ref r7, .ref r8, .ref r9, .int c10, .ref r11, .ref r12, .ref r13, .ref r14, .ref r15] → (∀ b, v0 = some b → gC ws b 7) → gI ws r2 g.cI n2 → Hide (n2 < 2147483648) → gI ws r3 g.cI n3 → Hide (n3 < 2147483648) → gI ws r4 g.cI n4 → Hide (n4 < 2147483648) → gI ws r5 g.cI n5 → Hide (n5 < 2147483648) → gI ws r6 g.cI n6 → Hide (n6 < 2147483648) → gI ws r7 g.cI n7 → Hide (n7 < 2147483648) → gI ws r8 g.cZ n8 → Hide (n8 < 2147483648) → gJ ws r9 g.cL n9 → Hide (n9 < 2147483648) → gI ws r11 g.cI n11 → Hide (n11 < 2147483648) → gI ws r12 g.cI n12 → Hide (n12 < 2147483648) → gI ws r13 g.cI n13 → Hide (n13 < 2147483648) → gI ws r14 g.cI n14 → Hide (n14 < 2147483648) → gI ws r15 g.cI n15 → Hide (n15 < 2147483648) → Hide (n2 = n3) → Hide (n6 = n4) → Hide ((n4 = n8 + 1 ∨ (n8 = 0 ∧ n4 = 0))) → Hide (n11 = n8) → Hide (n12 = n8) → Hide (n13 = n8) → Hide (n14 = n8) → Hide (n15 = n8) → Hide (16 ≤ n5) → Hide (n3 ≤ 2592) → Hide (n8 ≤ 2592) → Hide ((n7 = n5 ∨ 2 * n7 ≤ n5)) → Hide (n5 ≤ 60000) → Hide (n9 ≤ 60000) → G) : G := by
  obtain ⟨v0, c1, r2, n2, r3, n3, r4, n4, r5, n5, r6, n6, r7, n7, r8, n8, r9, n9, c10, r11, n11, r12, n12, r13, n13, r14, n14, r15, n15, e, z0, z1, z2, z3, z4, z5, z6, z7, z8, z9, z10, z11, z12, z13, z14, z15, z16, z17, z18, z19, z20, z21, z22, z23, z24, z25, z26, z27, z28, z29, z30, z31, z32, z33, z34, z35, z36, z37, z38, z39, z40, -⟩ := (hG.1 _ _ _ _ hk).hX3 rfl
  exact kk v0 c1 r2 n2 r3 n3 r4 n4 r5 n5 r6 n6 r7 n7 r8 n8 r9 n9 c10 r11 n11 r12 n12 r13 n13 r14 n14 r15 n15 e z0 z1 z2 z3 z4 z5 z6 z7 z8 z9 z10 z11 z12 z13 z14 z15 z16 z17 z18 z19 z20 z21 z22 z23 z24 z25 z26 z27 z28 z29 z30 z31 z32 z33 z34 z35 z36 z37 z38 z39 z40
theorem opn_X5 {G : Prop} {g : Gm} {ws : va_W} {k a : Nat} {fs : List Value} (hG : Good g ws) (hk : ows ws k a 5 fs) (kk : ∀ (v0 : Option Nat) (r1 n1 : Nat) (r2 n2 : Nat) (c3 : Int32) (r4 n4 : Nat) (c5 : Int32) (r6 n6 : Nat) (c7 : Int32) (r8 n8 : Nat) (r9 n9 : Nat) (r10 n10 : Nat) (c11 : Int32) (v12 : Option Nat) (c13 : Int32) (c14 : Int32) (c15 : Int32) (l16 : Int64) (c17 : Int32) (c18 : Int32) (c19 : Int32), fs = [va_rf v0, .ref r1, .ref r2, .int c3, .ref r4, .int c5, .ref r6, .int c7, .ref r8, .ref r9, .ref r10, .int c11, va_rf v12, .int c13, .int c14, .int c15, .long l16, .int c17, .int c18, .int c19] → (∀ b, v0 = some b → gC ws b 9) → (∀ b, v0 = some b → full ws b) → gJ ws r1 g.cL n1 → Hide (n1 < 2147483648) → gI ws r2 g.cI n2 → Hide (n2 < 2147483648) → gI ws r4 g.cI n4 → Hide (n4 < 2147483648) → gJ ws r6 g.cL n6 → Hide (n6 < 2147483648) → gJ ws r8 g.cL n8 → Hide (n8 < 2147483648) → gJ ws r9 g.cL n9 → Hide (n9 < 2147483648) → gI ws r10 g.cI n10 → Hide (n10 < 2147483648) → (∀ b, v12 = some b → gC ws b 7) → Hide (n1 = 24) → Hide (n6 = 8) → Hide (0 ≤ c7.toInt) → Hide (c7.toInt ≤ 8) → Hide (n10 = 180) → Hide (n8 = n9) → Hide (0 ≤ c11.toInt) → Hide (c11.toInt ≤ 59) → Hide (0 ≤ c3.toInt) → Hide (c3.toInt ≤ 20000) → Hide (n2 ≤ 20000) → Hide (0 ≤ c5.toInt) → Hide (c5.toInt ≤ 400) → Hide (1 ≤ n4) → Hide (n4 ≤ 1024) → G) : G := by
  obtain ⟨v0, r1, n1, r2, n2, c3, r4, n4, c5, r6, n6, c7, r8, n8, r9, n9, r10, n10, c11, v12, c13, c14, c15, l16, c17, c18, c19, e, z0, z1, z2, z3, z4, z5, z6, z7, z8, z9, z10, z11, z12, z13, z14, z15, z16, z17, z18, z19, z20, z21, z22, z23, z24, z25, z26, z27, z28, z29, z30, z31, -⟩ := (hG.1 _ _ _ _ hk).hX5 rfl
  exact kk v0 r1 n1 r2 n2 c3 r4 n4 c5 r6 n6 c7 r8 n8 r9 n9 r10 n10 c11 v12 c13 c14 c15 l16 c17 c18 c19 e z0 z1 z2 z3 z4 z5 z6 z7 z8 z9 z10 z11 z12 z13 z14 z15 z16 z17 z18 z19 z20 z21 z22 z23 z24 z25 z26 z27 z28 z29 z30 z31
theorem opn_X9 {G : Prop} {g : Gm} {ws : va_W} {k a : Nat} {fs : List Value} (hG : Good g ws) (hk : ows ws k a 8 fs) (kk : ∀ (r0 : Nat) (r1 n1 : Nat) (r2 n2 : Nat) (r3 n3 : Nat) (r4 n4 : Nat) (r5 n5 : Nat), fs = [.ref r0, .ref r1, .ref r2, .ref r3, .ref r4, .ref r5] → gC ws r0 7 → gI ws r1 g.cI n1 → Hide (n1 < 2147483648) → gI ws r2 g.cZ n2 → Hide (n2 < 2147483648) → gI ws r3 g.cZ n3 → Hide (n3 < 2147483648) → gI ws r4 g.cI n4 → Hide (n4 < 2147483648) → gI ws r5 g.cI n5 → Hide (n5 < 2147483648) → Hide (n1 = 12) → G) : G := by
  obtain ⟨r0, r1, n1, r2, n2, r3, n3, r4, n4, r5, n5, e, z0, z1, z2, z3, z4, z5, z6, z7, z8, z9, z10, z11, -⟩ := (hG.1 _ _ _ _ hk).hX9 rfl
  exact kk r0 r1 n1 r2 n2 r3 n3 r4 n4 r5 n5 e z0 z1 z2 z3 z4 z5 z6 z7 z8 z9 z10 z11
theorem opn_X11 {G : Prop} {g : Gm} {ws : va_W} {k a : Nat} {fs : List Value} (hG : Good g ws) (hk : ows ws k a 10 fs) (kk : ∀ (r0 : Nat) (r1 : Nat) (r2 : Nat) (r3 n3 : Nat) (r4 n4 : Nat) (c5 : Int32) (c6 : Int32) (v7 : Option Nat) (c8 : Int32) (c9 : Int32) (r10 n10 : Nat) (r11 n11 : Nat) (r12 n12 : Nat) (r13 n13 : Nat) (r14 : Nat) (v15 : Option Nat) (r16 n16 : Nat) (r17 n17 : Nat), fs = [.ref r0, .ref r1, .ref r2, .ref r3, .ref r4, .int c5, .int c6, va_rf v7, .int c8, .int c9, .ref r10, .ref r11, .ref r12, .ref r13, .ref r14, va_rf v15, .ref r16, .ref r17] → gC ws r0 0 → gC ws r1 0 → gC ws r2 0 → gI ws r3 g.cI n3 → Hide (n3 < 2147483648) → gI ws r4 g.cI n4 → Hide (n4 < 2147483648) → (c6 = 0 ∨ c6 = 1) → (∀ b, v7 = some b → gC ws b 9) → gI ws r10 g.cI n10 → Hide (n10 < 2147483648) → gI ws r11 g.cI n11 → Hide (n11 < 2147483648) → gI ws r12 g.cI n12 → Hide (n12 < 2147483648) → gI ws r13 g.cI n13 → Hide (n13 < 2147483648) → gC ws r14 4 → (∀ b, v15 = some b → gC ws b 7) → gI ws r16 g.cI n16 → Hide (n16 < 2147483648) → gI ws r17 g.cI n17 → Hide (n17 < 2147483648) → Hide (n3 = 500) → Hide (n4 = 500) → Hide (n10 = 24) → Hide (n11 = 24) → Hide (n12 = 24) → Hide (n13 = 24) → G) : G := by
  obtain ⟨r0, r1, r2, r3, n3, r4, n4, c5, c6, v7, c8, c9, r10, n10, r11, n11, r12, n12, r13, n13, r14, v15, r16, n16, r17, n17, e, z0, z1, z2, z3, z4, z5, z6, z7, z8, z9, z10, z11, z12, z13, z14, z15, z16, z17, z18, z19, z20, z21, z22, z23, z24, z25, z26, z27, z28, -⟩ := (hG.1 _ _ _ _ hk).hX11 rfl
  exact kk r0 r1 r2 r3 n3 r4 n4 c5 c6 v7 c8 c9 r10 n10 r11 n11 r12 n12 r13 n13 r14 v15 r16 n16 r17 n17 e z0 z1 z2 z3 z4 z5 z6 z7 z8 z9 z10 z11 z12 z13 z14 z15 z16 z17 z18 z19 z20 z21 z22 z23 z24 z25 z26 z27 z28
