/-! Graph: the edges, sorted by where they go -/
def cntE (g : Nat → Int32) : Nat → Int → Nat
  | 0, _ => 0
  | k + 1, e => cntE g k e + (if (g k).toInt = e then 1 else 0)
def sumC (g : Nat → Int32) (k : Nat) : Nat → Nat
  | 0 => 0
  | e + 1 => sumC g k e + cntE g k (e : Int)
theorem cntE_s (g : Nat → Int32) (k : Nat) (e : Int) : cntE g (k + 1) e = cntE g k e + (if (g k).toInt = e then 1 else 0) := rfl
theorem sumC_s (g : Nat → Int32) (k e : Nat) : sumC g k (e + 1) = sumC g k e + cntE g k (e : Int) := rfl
theorem cntE_up (g : Nat → Int32) (e : Int) (k d : Nat) : cntE g k e ≤ cntE g (k + d) e := by
  induction d with
  | zero => exact Nat.le_refl _
  | succ d ih =>
    rw [← Nat.add_assoc, cntE_s]
    omega
theorem cntE_k (g : Nat → Int32) (e : Int) (k : Nat) : cntE g k e ≤ k := by
  induction k with
  | zero => exact Nat.le_refl _
  | succ k ih =>
    rw [cntE_s]
    split <;> omega
theorem cntE_lt {g : Nat → Int32} {e : Int} {k N : Nat} (hk : k < N) (he : (g k).toInt = e) : cntE g k e < cntE g N e := by
  have h := cntE_up g e (k + 1) (N - (k + 1))
  have e1 : k + 1 + (N - (k + 1)) = N := by omega
  rw [e1, cntE_s, if_pos he] at h
  omega
theorem sumC_k (g : Nat → Int32) (k e : Nat) : sumC g (k + 1) e = sumC g k e + (if 0 ≤ (g k).toInt ∧ (g k).toInt < e then 1 else 0) := by
  induction e with
  | zero =>
    rw [if_neg (by omega)]
    rfl
  | succ e ih =>
    rw [sumC_s, sumC_s, ih, cntE_s]
    by_cases h1 : (g k).toInt = (e : Int)
    · rw [if_pos h1, if_neg (by omega), if_pos (by omega)]
      omega
    · rw [if_neg h1]
      by_cases h2 : 0 ≤ (g k).toInt ∧ (g k).toInt < (e : Int)
      · rw [if_pos h2, if_pos (by omega)]
        omega
      · rw [if_neg h2, if_neg (by omega)]
        omega
theorem sumC_0 (g : Nat → Int32) (e : Nat) : sumC g 0 e = 0 := by
  induction e with
  | zero => rfl
  | succ e ih => rw [sumC_s, ih]; rfl
theorem sumC_all {g : Nat → Int32} {c k : Nat} (h : ∀ i : Nat, i < k → 0 ≤ (g i).toInt ∧ (g i).toInt < (c : Int)) : sumC g k c = k := by
  induction k with
  | zero => exact sumC_0 g c
  | succ k ih =>
    rw [sumC_k, ih (fun i hi => h i (by omega)), if_pos (h k (by omega))]
theorem sumC_up (g : Nat → Int32) (k e d : Nat) : sumC g k e ≤ sumC g k (e + d) := by
  induction d with
  | zero => exact Nat.le_refl _
  | succ d ih =>
    rw [← Nat.add_assoc, sumC_s]
    omega
theorem sumC_le {g : Nat → Int32} {k e c : Nat} (h : e ≤ c) : sumC g k e ≤ sumC g k c := by
  have := sumC_up g k e (c - e)
  have e1 : e + (c - e) = c := by omega
  rw [e1] at this
  exact this
theorem sumC_in {g : Nat → Int32} {k p : Nat} {E : Nat} (h : p < sumC g k E) : ∃ e : Nat, e < E ∧ sumC g k e ≤ p ∧ p < sumC g k e + cntE g k (e : Int) := by
  induction E with
  | zero => exact absurd h (by show ¬ p < 0; omega)
  | succ E ih =>
    by_cases w : p < sumC g k E
    · obtain ⟨e, h1, h2⟩ := ih w
      exact ⟨e, by omega, h2⟩
    · rw [sumC_s] at h
      exact ⟨E, by omega, by omega, h⟩
/-- all edges lead to blocks -/
def RG (g : Nat → Int32) (N c : Int) : Prop := ∀ i : Nat, (i : Int) < N → 0 ≤ (g i).toInt ∧ (g i).toInt < c
theorem RG.sum {g : Nat → Int32} {N c : Int} (h : RG g N c) (hN : 0 ≤ N) (hc : 0 ≤ c) : ((sumC g N.toNat c.toNat : Nat) : Int) = N := by
  rw [sumC_all (fun i hi => by have := h i (by omega); omega)]
  omega
theorem RG.le {g : Nat → Int32} {N c : Int} (h : RG g N c) (hN : 0 ≤ N) (hc : 0 ≤ c) {e : Nat} (he : (e : Int) ≤ c) : ((sumC g N.toNat e : Nat) : Int) ≤ N := by
  have h1 := h.sum hN hc
  have h2 : sumC g N.toNat e ≤ sumC g N.toNat c.toNat := sumC_le (by omega)
  omega
def EQF (g : Nat → Int32) (_c : Int) (_n : Nat) (f : Nat → Int32) : Prop := f = g
def CB (g : Nat → Int32) (k c : Int) (_n : Nat) (f : Nat → Int32) : Prop := (f 0).toInt = 0 ∧ ∀ e : Nat, (e : Int) < c → (f (e + 1)).toInt = cntE g k.toNat (e : Int)
def CS (g : Nat → Int32) (N b c : Int) (_n : Nat) (f : Nat → Int32) : Prop := (∀ e : Nat, (e : Int) ≤ b → (f e).toInt = sumC g N.toNat e) ∧ ∀ e : Nat, b ≤ (e : Int) → (e : Int) < c → (f (e + 1)).toInt = cntE g N.toNat (e : Int)
def SN (g : Nat → Int32) (N k c : Int) (_n : Nat) (f : Nat → Int32) : Prop := ∀ e : Nat, (e : Int) < c → (f e).toInt = sumC g N.toNat e + cntE g k.toNat (e : Int)
def FB (g : Nat → Int32) (N k c : Int) (_n : Nat) (f : Nat → Int32) : Prop := ∀ e : Nat, (e : Int) < c → ∀ p : Nat, sumC g N.toNat e ≤ p → p < sumC g N.toNat e + cntE g k.toNat (e : Int) → 0 ≤ (f p).toInt ∧ (f p).toInt < c
section CNT
variable {g f f2 : Nat → Int32} {N k b c : Int} {n i : Nat} {v w x z : Int32}
theorem CB_0 (h : ∀ i : Nat, i < n → f i = 0) (hc : 0 ≤ c) (hn : c < n) (hk : k ≤ 0) : CB g k c n f := by
  refine ⟨by rw [h 0 (by omega)]; rfl, fun e he => ?_⟩
  rw [h (e + 1) (by omega)]
  have : k.toNat = 0 := by omega
  rw [this]
  rfl
theorem CB_v (h : CB g k c n f) (e : v = f z.toNatClampNeg) (hz : 1 ≤ z.toInt ∧ z.toInt ≤ c) (hk : 0 ≤ k) : 0 ≤ v.toInt ∧ v.toInt ≤ k := by
  obtain ⟨y, hy⟩ : ∃ y : Nat, (y : Int) + 1 = z.toInt := ⟨(z.toInt - 1).toNat, by omega⟩
  have e1 : z.toNatClampNeg = y + 1 := by rw [cN]; omega
  rw [e, e1, h.2 y (by omega)]
  have := cntE_k g (y : Int) k.toNat
  omega
theorem CB.st (h : CB g k c n f) (hk : 0 ≤ k) (e : v = f z.toNatClampNeg) (hz : z.toInt = (g k.toNat).toInt + 1) (hg : 0 ≤ (g k.toNat).toInt ∧ (g k.toNat).toInt < c) (hx : x.toInt = v.toInt + 1) : CB g (k + 1) c n (upd f z.toNatClampNeg x) := by
  obtain ⟨y, hy⟩ : ∃ y : Nat, (y : Int) = (g k.toNat).toInt := ⟨(g k.toNat).toInt.toNat, by omega⟩
  have e1 : z.toNatClampNeg = y + 1 := by rw [cN]; omega
  have ek : (k + 1).toNat = k.toNat + 1 := by omega
  rw [e1] at e ⊢
  refine ⟨by rw [upd_ne (by omega)]; exact h.1, fun q hq => ?_⟩
  rw [ek, cntE_s]
  by_cases w : q = y
  · rw [w, upd_eq, hx, e, h.2 y (by omega), if_pos (by omega)]
    omega
  · rw [upd_ne (by omega), h.2 q hq, if_neg (by omega)]
    omega
theorem CS_0 (h : CB g N c n f) (hb : b = 0) : CS g N b c n f := by
  subst hb
  refine ⟨fun e he => ?_, fun e _ hc => h.2 e hc⟩
  have : e = 0 := by omega
  rw [this, h.1]
  rfl
theorem CS_v (h : CS g N b c n f) (hr : RG g N c) (hN : 0 ≤ N) (hb : 0 ≤ b ∧ b < c) (e : v = f z.toNatClampNeg) (hz : z.toInt = b ∨ z.toInt = b + 1) : 0 ≤ v.toInt ∧ v.toInt ≤ N := by
  rcases hz with hz | hz
  · have e1 : z.toNatClampNeg = b.toNat := by rw [cN]; omega
    rw [e, e1, h.1 b.toNat (by omega)]
    have := hr.le hN (by omega) (e := b.toNat) (by omega)
    omega
  · have e1 : z.toNatClampNeg = b.toNat + 1 := by rw [cN]; omega
    rw [e, e1, h.2 b.toNat (by omega) (by omega)]
    have := cntE_k g ((b.toNat : Nat) : Int) N.toNat
    omega
theorem CS.st (h : CS g N b c n f) (hb : 0 ≤ b ∧ b < c) (e : v = f z.toNatClampNeg) (hz : z.toInt = b + 1) {y : Int32} (e2 : w = f y.toNatClampNeg) (hy : y.toInt = b) (hx : x.toInt = v.toInt + w.toInt) : CS g N (b + 1) c n (upd f z.toNatClampNeg x) := by
  have e1 : z.toNatClampNeg = b.toNat + 1 := by rw [cN]; omega
  have e3 : y.toNatClampNeg = b.toNat := by rw [cN]; omega
  rw [e1] at e ⊢
  rw [e3] at e2
  refine ⟨fun q hq => ?_, fun q h1 h2 => ?_⟩
  · by_cases u : q = b.toNat + 1
    · rw [u, upd_eq, hx, e, e2, h.1 b.toNat (by omega), h.2 b.toNat (by omega) (by omega), sumC_s]
      omega
    · rw [upd_ne u]
      exact h.1 q (by omega)
  · rw [upd_ne (by omega)]
    exact h.2 q (by omega) h2
theorem CS.ew (h : CS g N b c n f) (hb : c ≤ b) (hr : RG g N c) (hN : 0 ≤ N) (hc : 0 ≤ c) : EW N c n f := fun i hi => by
  rw [h.1 i (by omega)]
  have := hr.le hN hc (e := i) hi
  omega
theorem SN_0 (h : CS g N b c n f) (hb : c ≤ b) (hk : k ≤ 0) {n2 : Nat} (he : ∀ i : Nat, (i : Int) < c → f2 i = f i) : SN g N k c n2 f2 := fun e hc => by
  rw [he e hc, h.1 e (by omega)]
  have : k.toNat = 0 := by omega
  rw [this]
  show _ = _ + ((0 : Nat) : Int)
  omega
theorem SN_v (h : SN g N k c n f) (hr : RG g N c) (hN : 0 ≤ N) (hk : 0 ≤ k ∧ k < N) (hc : 0 ≤ c) (e : v = f z.toNatClampNeg) (hz : z.toInt = (g k.toNat).toInt) : 0 ≤ v.toInt ∧ v.toInt < N := by
  have r1 := hr k.toNat (by omega)
  obtain ⟨y, hy⟩ : ∃ y : Nat, (y : Int) = (g k.toNat).toInt := ⟨(g k.toNat).toInt.toNat, by omega⟩
  have e1 : z.toNatClampNeg = y := by rw [cN]; omega
  rw [e, e1, h y (by omega)]
  have h1 : cntE g k.toNat (y : Int) < cntE g N.toNat (y : Int) := cntE_lt (by omega) hy.symm
  have h2 := hr.le hN hc (e := y + 1) (by omega)
  rw [sumC_s] at h2
  omega
theorem SN.st (h : SN g N k c n f) (hk : 0 ≤ k) (e : v = f z.toNatClampNeg) (hz : z.toInt = (g k.toNat).toInt) (hg : 0 ≤ (g k.toNat).toInt) (hx : x.toInt = v.toInt + 1) : SN g N (k + 1) c n (upd f z.toNatClampNeg x) := fun q hq => by
  obtain ⟨y, hy⟩ : ∃ y : Nat, (y : Int) = (g k.toNat).toInt := ⟨(g k.toNat).toInt.toNat, by omega⟩
  have e1 : z.toNatClampNeg = y := by rw [cN]; omega
  have ek : (k + 1).toNat = k.toNat + 1 := by omega
  rw [e1] at e ⊢
  rw [ek, cntE_s]
  by_cases u : q = y
  · rw [u] at hq ⊢
    rw [upd_eq, hx, e, h y hq, if_pos (by omega)]
    omega
  · rw [upd_ne u, h q hq, if_neg (by omega)]
    omega
theorem FB_0 (hk : k ≤ 0) : FB g N k c n f := fun e _ p h1 h2 => by
  have : k.toNat = 0 := by omega
  rw [this] at h2
  have : cntE g 0 (e : Int) = 0 := rfl
  omega
theorem FB.st {s : Nat → Int32} {ns : Nat} (h : FB g N k c n f) (hs : SN g N k c ns s) (hk : 0 ≤ k) {y : Int32} (e : v = s z.toNatClampNeg) (hz : z.toInt = (g k.toNat).toInt) (hg : 0 ≤ (g k.toNat).toInt ∧ (g k.toNat).toInt < c) (hy : y.toInt = v.toInt) (hx : 0 ≤ x.toInt ∧ x.toInt < c) : FB g N (k + 1) c n (upd f y.toNatClampNeg x) := fun q hq p h1 h2 => by
  obtain ⟨u, hu⟩ : ∃ u : Nat, (u : Int) = (g k.toNat).toInt := ⟨(g k.toNat).toInt.toNat, by omega⟩
  have e1 : z.toNatClampNeg = u := by rw [cN]; omega
  have e2 := hs u (by omega)
  rw [e1] at e
  rw [← e] at e2
  have ek : (k + 1).toNat = k.toNat + 1 := by omega
  rw [ek, cntE_s] at h2
  by_cases w : p = y.toNatClampNeg
  · rw [w, upd_eq]; exact hx
  · rw [upd_ne w]
    refine h q hq p h1 ?_
    rw [cN] at w
    by_cases e3 : (g k.toNat).toInt = (q : Int)
    · rw [if_pos e3] at h2
      have : q = u := by omega
      subst this
      omega
    · rw [if_neg e3] at h2
      omega
theorem FB.fin (h : FB g N N c n f) (hr : RG g N c) (hN : 0 ≤ N) (hc : 0 ≤ c) : BK N c n f := fun p hp => by
  have h1 := hr.sum hN hc
  obtain ⟨e, a1, a2, a3⟩ := sumC_in (g := g) (k := N.toNat) (p := p) (E := c.toNat) (by omega)
  exact h e (by omega) p a2 a3
end CNT
/-! how many blocks are reached -/
def cntR (f : Nat → Int32) : Nat → Nat
  | 0 => 0
  | k + 1 => cntR f k + (if (f k).toInt = 0 then 0 else 1)
theorem cntR_s (f : Nat → Int32) (k : Nat) : cntR f (k + 1) = cntR f k + (if (f k).toInt = 0 then 0 else 1) := rfl
theorem cntR_lt {f : Nat → Int32} {e k : Nat} (he : e < k) (h0 : (f e).toInt = 0) : cntR f k < k := by
  have up : ∀ j, cntR f j ≤ j := by
    intro j
    induction j with
    | zero => exact Nat.le_refl _
    | succ j ih => rw [cntR_s]; split <;> omega
  induction k with
  | zero => omega
  | succ k ih =>
    rw [cntR_s]
    by_cases w : e = k
    · subst w
      rw [if_pos h0]
      have := up e
      omega
    · have := ih (by omega)
      split <;> omega
theorem cntR_st {f : Nat → Int32} {e : Nat} {x : Int32} (h0 : (f e).toInt = 0) (hx : x.toInt ≠ 0) (k : Nat) : cntR (upd f e x) k = cntR f k + (if e < k then 1 else 0) := by
  induction k with
  | zero => rfl
  | succ k ih =>
    rw [cntR_s, cntR_s, ih]
    by_cases w : k = e
    · subst w
      rw [upd_eq, if_neg hx, if_neg (Nat.lt_irrefl _), if_pos h0, if_pos (Nat.lt_succ_self _)]
    · rw [upd_ne w]
      by_cases u : e < k
      · rw [if_pos u, if_pos (show e < k + 1 by omega)]
        omega
      · rw [if_neg u, if_neg (show ¬ e < k + 1 by omega)]
        omega
theorem cntR_1 {f : Nat → Int32} {k : Nat} (hk : 1 ≤ k) (h : (f 0).toInt = 1) : 1 ≤ cntR f k := by
  induction k with
  | zero => omega
  | succ k ih =>
    rw [cntR_s]
    by_cases w : k = 0
    · subst w
      rw [if_neg (by omega)]
      omega
    · have := ih (by omega)
      omega
def RI (i c : Int) (_n : Nat) (f : Nat → Int32) : Prop := i ≤ 0 ∨ (f 0).toInt = 1
def RC (m c : Int) (_n : Nat) (f : Nat → Int32) : Prop := m ≤ cntR f c.toNat
theorem RC_0 {i m c : Int} {n : Nat} {f : Nat → Int32} (h : RI i c n f) (hi : 0 < i) (hc : 1 ≤ c) (hm : m ≤ 1) : RC m c n f := by
  unfold RC
  have := cntR_1 (f := f) (k := c.toNat) (by omega) (h.resolve_left (by omega))
  omega
theorem RI.st {i c : Int} {n p : Nat} {f : Nat → Int32} {x : Int32} (h : RI i c n f) (hp : (p : Int) = i) (hx : p ≠ 0 ∨ x.toInt = 1) (h0 : 0 ≤ i) : RI (i + 1) c n (upd f p x) := by
  right
  by_cases w : (0 : Nat) = p
  · rw [w, upd_eq]
    exact hx.resolve_left (fun u => u w.symm)
  · rw [upd_ne w]
    exact h.resolve_left (by omega)
theorem RC_lt {m c : Int} {n : Nat} {f : Nat → Int32} {e v : Int32} (h : RC m c n f) (hv : v = f e.toNatClampNeg) (h0 : v.toInt = 0) (he : 0 ≤ e.toInt ∧ e.toInt < c) : m < c := by
  unfold RC at h
  have := cntR_lt (f := f) (e := e.toNatClampNeg) (k := c.toNat) (by rw [cN]; omega) (by rw [← hv]; exact h0)
  omega
theorem RC.st {m c : Int} {n : Nat} {f : Nat → Int32} {e v x e2 : Int32} (h : RC m c n f) (hv : v = f e.toNatClampNeg) (h0 : v.toInt = 0) (he : 0 ≤ e.toInt ∧ e.toInt < c) (hx : x.toInt ≠ 0) (h2 : e2.toInt = e.toInt) : RC (m + 1) c n (upd f e2.toNatClampNeg x) := by
  unfold RC at h ⊢
  have e3 : e2 = e := Int32.toInt_inj.mp h2
  rw [e3, cntR_st (by rw [← hv]; exact h0) hx, if_pos (by rw [cN]; omega)]
  omega
theorem RC.le {m m' c : Int} {n : Nat} {f : Nat → Int32} (h : RC m c n f) (hm : m' ≤ m) : RC m' c n f := by
  unfold RC at h ⊢
  omega
