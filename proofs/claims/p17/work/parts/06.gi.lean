/-! a typed world: every cell of the class's side in one list, its kinds told by one predicate -/
def Gm : Type := (Nat → ClassId) × (Nat → Nat → Nat) × (ClassId) × (ClassId) × (ClassId) × (ClassId) × (ClassId) × (ClassId) × (Nat → Nat → Option Value)
def Gm.dC (g : Gm) : Nat → ClassId := g.1
def Gm.dI (g : Gm) : Nat → Nat → Nat := g.2.1
def Gm.cB (g : Gm) : ClassId := g.2.2.1
def Gm.cI (g : Gm) : ClassId := g.2.2.2.1
def Gm.cZ (g : Gm) : ClassId := g.2.2.2.2.1
def Gm.cL (g : Gm) : ClassId := g.2.2.2.2.2.1
def Gm.cU (g : Gm) : ClassId := g.2.2.2.2.2.2.1
def Gm.cR (g : Gm) : ClassId := g.2.2.2.2.2.2.2.1
def Gm.k (g : Gm) : Nat → Nat → Option Value := g.2.2.2.2.2.2.2.2
def tyL (g : Gm) : List (ClassId × FieldType) := [(g.cB, .byte), (g.cI, .int), (g.cZ, .boolean), (g.cL, .long), (g.cU, .object RX10), (g.cR, .object RX8)]
abbrev gD (g : Gm) : va_G := (g.dC, g.dI)
def shp : va_E → (ClassId × Nat × Nat) ⊕ Nat
  | .inl (c, n, .inl _) => .inl (c, n, 0)
  | .inl (c, n, .inr (.inl _)) => .inl (c, n, 1)
  | .inl (c, n, .inr (.inr (.inl _))) => .inl (c, n, 2)
  | .inl (c, n, .inr (.inr (.inr (.inl _)))) => .inl (c, n, 3)
  | .inl (c, n, .inr (.inr (.inr (.inr _)))) => .inl (c, n, 4)
  | .inr (ci, _) => .inr ci
def gS (ws : va_W) (a : Nat) (z : (ClassId × Nat × Nat) ⊕ Nat) : Prop := ∃ (k : Nat) (x : va_E), ws[k]? = some (a, x) ∧ shp x = z
abbrev gC (ws : va_W) (a ci : Nat) : Prop := gS ws a (.inr ci)
abbrev gI (ws : va_W) (a : Nat) (c : ClassId) (n : Nat) : Prop := gS ws a (.inl (c, n, 0))
abbrev gJ (ws : va_W) (a : Nat) (c : ClassId) (n : Nat) : Prop := gS ws a (.inl (c, n, 1))
abbrev gR (ws : va_W) (a : Nat) (c : ClassId) (n : Nat) : Prop := gS ws a (.inl (c, n, 4))
abbrev ows (ws : va_W) (k a ci : Nat) (fs : List Value) : Prop := ws[k]? = some (a, .inr (ci, fs))
abbrev iws (ws : va_W) (k a : Nat) (c : ClassId) (n : Nat) (f : Nat → Int32) : Prop := ws[k]? = some (a, .inl (c, n, .inl f))
abbrev jws (ws : va_W) (k a : Nat) (c : ClassId) (n : Nat) (f : Nat → Int64) : Prop := ws[k]? = some (a, .inl (c, n, .inr (.inl f)))
abbrev rws (ws : va_W) (k a : Nat) (c : ClassId) (n : Nat) (f : Nat → Option Nat) : Prop := ws[k]? = some (a, .inl (c, n, .inr (.inr (.inr (.inr f)))))
theorem gC_of {ws : va_W} {a ci : Nat} (h : gC ws a ci) : ∃ (k : Nat) (fs : List Value), ows ws k a ci fs := by
  obtain ⟨k, x, h1, h2⟩ := h
  rcases x with ⟨c, n, f | f | f | f | f⟩ | ⟨c, fs⟩ <;> simp [shp] at h2
  subst h2
  exact ⟨k, fs, h1⟩
theorem gI_of {ws : va_W} {a n : Nat} {c : ClassId} (h : gI ws a c n) : ∃ (k : Nat) (f : Nat → Int32), iws ws k a c n f := by
  obtain ⟨k, x, h1, h2⟩ := h
  rcases x with ⟨c, n, f | f | f | f | f⟩ | ⟨c, fs⟩ <;> simp [shp] at h2
  obtain ⟨rfl, rfl⟩ := h2
  exact ⟨k, f, h1⟩
theorem gJ_of {ws : va_W} {a n : Nat} {c : ClassId} (h : gJ ws a c n) : ∃ (k : Nat) (f : Nat → Int64), jws ws k a c n f := by
  obtain ⟨k, x, h1, h2⟩ := h
  rcases x with ⟨c, n, f | f | f | f | f⟩ | ⟨c, fs⟩ <;> simp [shp] at h2
  obtain ⟨rfl, rfl⟩ := h2
  exact ⟨k, f, h1⟩
theorem gR_of {ws : va_W} {a n : Nat} {c : ClassId} (h : gR ws a c n) : ∃ (k : Nat) (f : Nat → Option Nat), rws ws k a c n f := by
  obtain ⟨k, x, h1, h2⟩ := h
  rcases x with ⟨c, n, f | f | f | f | f⟩ | ⟨c, fs⟩ <;> simp [shp] at h2
  obtain ⟨rfl, rfl⟩ := h2
  exact ⟨k, f, h1⟩
def gE (ws ws' : va_W) : Prop := ∀ a z, gS ws a z → gS ws' a z
theorem gE.rf {ws : va_W} : gE ws ws := fun _ _ h => h
theorem gE.tr {u v w : va_W} (h : gE u v) (h' : gE v w) : gE u w := fun a z q => h' a z (h a z q)
theorem gE_set {ws ws' : va_W} {k a : Nat} {x x' : va_E} (e : ws' = ws.set k (a, x')) (hk : ws[k]? = some (a, x)) (hs : shp x' = shp x) : gE ws ws' := by
  subst e
  intro b z ⟨j, y, h1, h2⟩
  have hl := (List.getElem?_eq_some_iff.mp hk).1
  by_cases hj : j = k
  · subst hj
    rw [hk] at h1
    cases h1
    exact ⟨j, x', by rw [List.getElem?_set_self hl], hs.trans h2⟩
  · exact ⟨j, y, by rw [List.getElem?_set_ne (Ne.symm hj)]; exact h1, h2⟩
theorem gset_self {ws ws' : va_W} {k : Nat} {x x' : Nat × va_E} (e : ws' = ws.set k x') (hk : ws[k]? = some x) : ws'[k]? = some x' := by
  subst e
  exact List.getElem?_set_self (List.getElem?_eq_some_iff.mp hk).1
theorem gset_ob {ws ws' : va_W} {k j a b ci di : Nat} {fs fs' gs : List Value} (e : ws' = ws.set k (a, .inr (ci, fs'))) (hk : ows ws k a ci fs) (hj : ows ws j b di gs) (hne : ci ≠ di) : ows ws' j b di gs := by
  subst e
  have : k ≠ j := by
    rintro rfl
    rw [ows, hk] at hj
    cases hj
    exact hne rfl
  rw [ows, List.getElem?_set_ne this]
  exact hj
theorem gset_obI {ws ws' : va_W} {k j a b ci : Nat} {fs fs' : List Value} {x : ClassId × vp_A} (e : ws' = ws.set k (a, .inr (ci, fs'))) (hk : ows ws k a ci fs) (hj : ws[j]? = some (b, .inl x)) : ws'[j]? = some (b, .inl x) := by
  subst e
  have : k ≠ j := by
    rintro rfl
    rw [ows, hj] at hk
    cases hk
  rw [List.getElem?_set_ne this]
  exact hj
theorem gset_arO {ws ws' : va_W} {k j a b di : Nat} {x x' : ClassId × vp_A} {gs : List Value} (e : ws' = ws.set k (a, .inl x')) (hk : ws[k]? = some (a, .inl x)) (hj : ows ws j b di gs) : ows ws' j b di gs := by
  subst e
  have : k ≠ j := by
    rintro rfl
    rw [ows, hk] at hj
    cases hj
  rw [ows, List.getElem?_set_ne this]
  exact hj
theorem gfree {A0 : Nat → Prop} {ws : va_W} {H0 H : Heap} {locs : List Loc} (hD : va_D A0 ws) (hS : va_S A0 H0 H locs) (hA : ∀ q, H0.size ≤ q → A0 q) : ∀ q, va_A ws H.size q → A0 q := by
  intro q h
  rcases h with ⟨k, x, h⟩ | h
  · exact hD.2 k (q, x) h
  · exact hA q (Nat.le_trans hS.1 h)
def sa (C n : String) (N : Nat) (A : Nat → Prop) (U : State) (H : Heap) : Prop := ∃ (t : Nat) (h : Nat → Int32), va_Z C n "[I" (.ref t) A U H ∧ va_T .int t N (fun j => .int (h j)) A U H
theorem sa.pass {C n : String} {N : Nat} {A B : Nat → Prop} {s U : State} {H : Heap} {locs : List Loc} (h : sa C n N A s s.heap) (hS : va_S A s.heap H locs) (hF : ∀ q, B q → A q) (hU : U.heap = H) (hW : s.WarmedH U.vm) : sa C n N B U U.heap := by
  rw [hU]
  obtain ⟨t, f, h1, h2⟩ := h
  exact ⟨t, f, ((h1.kept hS.2.1).narrow hF).moved hW.alike, ((h2.kept hS.2.1).narrow hF).moved hW.alike⟩
theorem sa.calling {C n : String} {N : Nat} {A : Nat → Prop} {U : State} {g : JFrame} {mk : MethodId} {a : Array Value} (h : sa C n N A U U.heap) : sa C n N A (U.calling g mk a) (U.calling g mk a).heap := by
  obtain ⟨t, f, h1, h2⟩ := h
  exact ⟨t, f, va_Z.moved (u := U) (Vm.Alike.refl U.vm) h1, va_T.moved (u := U) (Vm.Alike.refl U.vm) h2⟩
def og (A : Nat → Prop) (U : State) (H : Heap) : Prop := sa "CodeFoundry" "MAGIC" 8 A U H ∧ sa RX6 "LENGTH_OF" 202 A U H ∧ sa RX6 "TAKES_OF" 202 A U H ∧ sa RX6 "GIVES_OF" 202 A U H
theorem og.pass {A B : Nat → Prop} {s U : State} {H : Heap} {locs : List Loc} (h : og A s s.heap) (hS : va_S A s.heap H locs) (hF : ∀ q, B q → A q) (hU : U.heap = H) (hW : s.WarmedH U.vm) : og B U U.heap := ⟨h.1.pass hS hF hU hW, h.2.1.pass hS hF hU hW, h.2.2.1.pass hS hF hU hW, h.2.2.2.pass hS hF hU hW⟩
def st_G (g : Gm) (sz : Nat) (ws : va_W) (U : State) : Prop := U.heap.size = sz ∧ va_P (gD g) cl0 ws U.heap ∧ va_K (gD g) cl0 (tyL g) U ∧ va_D (fun _ => True) ws ∧ ex U ∧ og (va_A ws sz) U U.heap
theorem gblind {av : List Value} {g : Gm} {sz : Nat} {ws : va_W} : FrameBlind (va_Pc av (st_G g sz ws)) := fun a U f mk q => by
  obtain ⟨q0, q1, qP, qK, qD, qE, q1', q2', q3', q4'⟩ := q
  exact ⟨q0, q1, qP, va_K.moved (u := U) (U := U.calling f mk a) (Vm.Alike.refl U.vm) qK, qD, ex_same (u := U) rfl qE, q1'.calling, q2'.calling, q3'.calling, q4'.calling⟩
theorem gmk {av : List Value} {g : Gm} {ws : va_W} {s U : State} {H : Heap} {A : Nat → Prop} {locs : List Loc} (hU : U.heap = H) (hW : s.WarmedH U.vm) (hP : va_P (gD g) cl0 ws H) (hK : va_K (gD g) cl0 (tyL g) s) (hD : va_D A ws) (hex : ex s) (hE : og A s s.heap) (hS : va_S A s.heap H locs) (hF : ∀ q, va_A ws H.size q → A q) : va_Pc av (st_G g H.size ws) av.toArray U :=
  ⟨rfl, by rw [hU], by rw [hU]; exact hP, va_K.moved hW.alike hK, hD.weaken (fun _ _ _ _ => trivial), ex_warm hW hex, hE.pass hS hF hU hW⟩
/-- numbers -/
theorem i_lt {x y : Int32} (h : x < y) : x.toInt < y.toInt := Int32.lt_iff_toInt_lt.mp h
theorem i_nlt {x y : Int32} (h : ¬ x < y) : y.toInt ≤ x.toInt := by rw [Int32.lt_iff_toInt_lt] at h; omega
theorem i_le {x y : Int32} (h : x ≤ y) : x.toInt ≤ y.toInt := Int32.le_iff_toInt_le.mp h
theorem i_nle {x y : Int32} (h : ¬ x ≤ y) : y.toInt < x.toInt := by rw [Int32.le_iff_toInt_le] at h; omega
theorem i_eq {x y : Int32} (h : x = y) : x.toInt = y.toInt := by rw [h]
theorem i_ne {x y : Int32} (h : ¬ x = y) : x.toInt ≠ y.toInt := fun q => h (Int32.toInt_inj.mp q)
theorem i_rg (x : Int32) : -2147483648 ≤ x.toInt ∧ x.toInt ≤ 2147483647 := by
  have h1 := Int32.toInt_lt x
  have h2 := Int32.le_toInt x
  omega
theorem i_add {z x y : Int32} (h : z = x + y) : ∃ q : Int, z.toInt = x.toInt + y.toInt + 4294967296 * q := by
  rw [h, Int32.toInt_add]
  exact ⟨-((x.toInt + y.toInt + 2147483648) / 4294967296), by unfold Int.bmod; simp only []; split <;> omega⟩
theorem i_sub {z x y : Int32} (h : z = x - y) : ∃ q : Int, z.toInt = x.toInt - y.toInt + 4294967296 * q := by
  rw [h, Int32.toInt_sub]
  exact ⟨-((x.toInt - y.toInt + 2147483648) / 4294967296), by unfold Int.bmod; simp only []; split <;> omega⟩
theorem i_mul {z x y : Int32} (h : z = x * y) : ∃ q : Int, z.toInt = x.toInt * y.toInt + 4294967296 * q := by
  rw [h, Int32.toInt_mul]
  generalize x.toInt * y.toInt = w
  exact ⟨-((w + 2147483648) / 4294967296), by unfold Int.bmod; simp only []; split <;> omega⟩
theorem i_inc {x : Int32} {n : Int} {c : Int32} (hc : Int32.ofInt n = c) : ∃ q : Int, (x + Int32.ofInt n).toInt = x.toInt + c.toInt + 4294967296 * q := by rw [hc]; exact i_add rfl
theorem i_len {z : Int32} {n : Nat} (h : Int32.ofNat n = z) (hn : n < 2147483648) : z.toInt = n := by rw [← h]; exact nI_toInt (by omega)
theorem i_in {i : Int32} {n : Nat} (h1 : 0 ≤ i.toInt) (h2 : i.toInt < n) : vp_in i n := by
  unfold vp_in
  rintro (h | h)
  · have := i_lt h
    have e0 : (0 : Int32).toInt = 0 := rfl
    omega
  · have : i.toNatClampNeg = i.toInt.toNat := rfl
    omega
theorem i_iz {x z : Int32} {n : Int} (h : x + Int32.ofInt n = z) (h1 : -2147483648 ≤ n) (h2 : n ≤ 2147483647) : ∃ q : Int, z.toInt = x.toInt + n + 4294967296 * q := by
  obtain ⟨q, hq⟩ := i_add h.symm
  rw [Int32.toInt_ofInt_of_le (by omega) (by omega)] at hq
  exact ⟨q, hq⟩
theorem i_and {z x m : Int32} {k b : Nat} (h : z = x &&& m) (hm : m.toBitVec.toNat = 2 ^ k - 1) (hk : k ≤ 30) (hb : 2 ^ k = b) : 0 ≤ z.toInt ∧ z.toInt < b := by
  obtain ⟨j, hj, e⟩ := pk_andE x k hm
  have h2 : 2 ^ k ≤ 2 ^ 30 := Nat.pow_le_pow_right (by decide) hk
  have h3 : (2 : Nat) ^ 30 < 2 ^ 31 := by decide
  rw [h, e, nI_toInt (by omega)]
  omega
theorem i_shr {z x y : Int32} {k : Nat} {b : Int} (h : z = x >>> (y &&& 31)) (hs : ((y &&& 31).toBitVec.smod 32).toNat = k) (hb : ((2 ^ k : Nat) : Int) = b) : z.toInt = x.toInt / b := by
  rw [h, pk_shr _ _ k hs, Int.shiftRight_eq_div_pow, hb]
theorem i_neq {x y : Int32} (h : ¬ ¬ x = y) : x.toInt = y.toInt := by rw [Classical.not_not.mp h]
theorem bit_and {z x y : Int32} (h : z = x &&& y) (hx : x = 0 ∨ x = 1) (hy : y = 0 ∨ y = 1) : z = 0 ∨ z = 1 := by
  rcases hx with rfl | rfl <;> rcases hy with rfl | rfl <;> subst h <;> decide
theorem bit_or {z x y : Int32} (h : z = x ||| y) (hx : x = 0 ∨ x = 1) (hy : y = 0 ∨ y = 1) : z = 0 ∨ z = 1 := by
  rcases hx with rfl | rfl <;> rcases hy with rfl | rfl <;> subst h <;> decide
theorem bit_xor {z x y : Int32} (h : z = x ^^^ y) (hx : x = 0 ∨ x = 1) (hy : y = 0 ∨ y = 1) : z = 0 ∨ z = 1 := by
  rcases hx with rfl | rfl <;> rcases hy with rfl | rfl <;> subst h <;> decide
theorem l_ne {z : Int32} {x : Int64} (h : z = lg_cmp x 0) (hc : ¬ z = 0) : ¬ x = 0 := by
  rintro rfl
  exact hc (h.trans (by decide))
theorem i_max {z x y : Int32} (h : z = if x < y then y else x) : x.toInt ≤ z.toInt ∧ y.toInt ≤ z.toInt ∧ (z.toInt = x.toInt ∨ z.toInt = y.toInt) := by
  split at h
  · rename_i q; have := i_lt q; subst h; omega
  · rename_i q; have := i_nlt q; subst h; omega
theorem i_min {z x y : Int32} (h : z = if y < x then y else x) : z.toInt ≤ x.toInt ∧ z.toInt ≤ y.toInt ∧ (z.toInt = x.toInt ∨ z.toInt = y.toInt) := by
  split at h
  · rename_i q; have := i_lt q; subst h; omega
  · rename_i q; have := i_nlt q; subst h; omega
theorem lk_nil {d x : Int} : Op.lookupswitch.offset [] d x = d := rfl
theorem lk_cons {k o d x : Int} {l : List (Int × Int)} (h : ¬ x = k) (hr : Op.lookupswitch.offset l d x = d) : Op.lookupswitch.offset ((k, o) :: l) d x = d := by
  rw [Op.lookupswitch.offset_cons, if_neg (fun e => h e.symm)]
  exact hr
/-- what stays: the fields that are not in F -/
def gF (F : List (Nat × Nat)) (ws ws' : va_W) : Prop := ∀ (k a ci : Nat) (fs : List Value), ows ws k a ci fs → ∃ fs' : List Value, ows ws' k a ci fs' ∧ ∀ j : Nat, (ci, j) ∉ F → fs'[j]? = fs[j]?
theorem gF.rf {F : List (Nat × Nat)} {ws : va_W} : gF F ws ws := fun _ _ _ fs h => ⟨fs, h, fun _ _ => rfl⟩
theorem gF.mo {F F' : List (Nat × Nat)} {u v : va_W} (h : gF F u v) (hs : ∀ x ∈ F, x ∈ F') : gF F' u v := fun k a ci fs q => by
  obtain ⟨fs', h1, h2⟩ := h k a ci fs q
  exact ⟨fs', h1, fun j hj => h2 j (fun z => hj (hs _ z))⟩
theorem gF.tr {F : List (Nat × Nat)} {u v w : va_W} (h : gF F u v) (h' : gF F v w) : gF F u w := fun k a ci fs q => by
  obtain ⟨fs1, h1, h2⟩ := h k a ci fs q
  obtain ⟨fs2, h3, h4⟩ := h' k a ci fs1 h1
  exact ⟨fs2, h3, fun j hj => (h4 j hj).trans (h2 j hj)⟩
theorem gF_put {ws ws' : va_W} {k a ci fi : Nat} {v : Value} {fs fs' : List Value} (e : ws' = ws.set k (a, .inr (ci, fs'))) (hk : ows ws k a ci fs) (hs : fs' = fs.set fi v) : gF [(ci, fi)] ws ws' := by
  intro j b di gs h
  by_cases hj : j = k
  · subst hj
    rw [ows, hk] at h
    cases h
    refine ⟨fs', gset_self e hk, fun i hi => ?_⟩
    rw [hs, List.getElem?_set_ne]
    rintro rfl
    exact hi (List.mem_singleton.mpr rfl)
  · refine ⟨gs, ?_, fun _ _ => rfl⟩
    subst e
    rw [ows, List.getElem?_set_ne (Ne.symm hj)]
    exact h
theorem gF_ar {ws ws' : va_W} {k a : Nat} {x x' : ClassId × vp_A} (e : ws' = ws.set k (a, .inl x')) (hk : ws[k]? = some (a, .inl x)) : gF [] ws ws' := fun _ _ _ fs h => ⟨fs, gset_arO e hk h, fun _ _ => rfl⟩
theorem fe_i {x y : Int32} (h : some (Value.int x) = some (Value.int y)) : y = x := by cases h; rfl
theorem fe_l {x y : Int64} (h : some (Value.long x) = some (Value.long y)) : y = x := by cases h; rfl
theorem fe_r {x y : Nat} (h : some (Value.ref x) = some (Value.ref y)) : y = x := by cases h; rfl
theorem fe_q {x y : Option Nat} (h : some (va_rf x) = some (va_rf y)) : y = x := by
  rcases x with _ | x <;> rcases y with _ | y
  · rfl
  · exact absurd h (by intro h; cases h)
  · exact absurd h (by intro h; cases h)
  · have h : some (Value.ref x) = some (Value.ref y) := h
    cases h
    rfl
theorem fe_qr {x : Option Nat} {y : Nat} (h : some (va_rf x) = some (Value.ref y)) : x = some y := fe_q (x := some y) (y := x) h.symm
theorem fe_qn {x : Option Nat} (h : some (va_rf x) = some Value.null) : x = none := fe_q (x := none) (y := x) h.symm
theorem gI_n {A : Nat → Prop} {ws : va_W} {a n n' t t' : Nat} {c c' : ClassId} (hD : va_D A ws) (h : gS ws a (.inl (c, n, t))) (h' : gS ws a (.inl (c', n', t'))) : n = n' := by
  obtain ⟨k, x, h1, h2⟩ := h
  obtain ⟨j, y, h3, h4⟩ := h'
  have e := hD.1 k j (a, x) (a, y) h1 h3 rfl
  subst e
  rw [h1] at h3
  cases h3
  rw [h2] at h4
  cases h4
  rfl
theorem i_in2 {i : Int32} {n : Nat} (h : 0 ≤ i.toInt ∧ i.toInt < n) : vp_in i n := i_in h.1 h.2
def gN (ws : va_W) (a j : Nat) : Prop := ∀ (k ci : Nat) (fs : List Value), ows ws k a ci fs → ∃ b : Nat, fs[j]? = some (Value.ref b)
theorem gN_of {A : Nat → Prop} {ws : va_W} {k a ci j b : Nat} {fs : List Value} (hD : va_D A ws) (hk : ows ws k a ci fs) (h : fs[j]? = some (Value.ref b)) : gN ws a j := fun k' ci' fs' hk' => by
  have e := hD.1 k k' _ _ hk hk' rfl
  subst e
  rw [ows, hk] at hk'
  cases hk'
  exact ⟨b, h⟩
def gP (ws : va_W) (a : Nat) (P : List Value → Prop) : Prop := ∀ (k ci : Nat) (fs : List Value), ows ws k a ci fs → P fs
theorem gP_of {A : Nat → Prop} {ws : va_W} {k a ci : Nat} {fs : List Value} {P : List Value → Prop} (hD : va_D A ws) (hk : ows ws k a ci fs) (h : P fs) : gP ws a P := fun k' ci' fs' hk' => by
  have e := hD.1 k k' _ _ hk hk' rfl
  subst e
  rw [ows, hk] at hk'
  cases hk'
  exact h
theorem i_bit {z : Int32} (h : z = 0 ∨ z = 1) : 0 ≤ z.toInt ∧ z.toInt ≤ 1 := by rcases h with rfl | rfl <;> decide
theorem i_or {z x y : Int32} {k b : Nat} (h : z = x ||| y) (hb : 2 ^ k = b) (hk : k ≤ 30) (hx : 0 ≤ x.toInt ∧ x.toInt < b) (hy : 0 ≤ y.toInt ∧ y.toInt < b) : 0 ≤ z.toInt ∧ z.toInt < b := by
  have h2 : 2 ^ k ≤ 2 ^ 30 := Nat.pow_le_pow_right (by decide) hk
  have h3 : (2 : Nat) ^ 30 < 2 ^ 31 := by decide
  have ex : x = nI x.toInt.toNat := by
    apply Int32.toInt_inj.mp
    rw [nI_toInt (by omega)]
    omega
  have ey : y = nI y.toInt.toNat := by
    apply Int32.toInt_inj.mp
    rw [nI_toInt (by omega)]
    omega
  have hn : x.toInt.toNat ||| y.toInt.toNat < 2 ^ k := Nat.or_lt_two_pow (by omega) (by omega)
  have ez : z = nI (x.toInt.toNat ||| y.toInt.toNat) := by
    apply Int32.toBitVec_inj.mp
    apply BitVec.eq_of_toNat_eq
    rw [h, Int32.toBitVec_or, BitVec.toNat_or, pk_tn (by omega)]
    conv => lhs; rw [ex, ey]
    rw [pk_tn (by omega), pk_tn (by omega)]
  rw [ez, nI_toInt (by omega)]
  omega
theorem i_shl {z x y : Int32} {k j b c : Nat} (h : z = x <<< (y &&& 31)) (hs : ((y &&& 31).toBitVec.smod 32).toNat = k) (hb : 2 ^ j = b) (hc : 2 ^ (j + k) = c) (hk : j + k ≤ 30) (hx : 0 ≤ x.toInt ∧ x.toInt < b) : 0 ≤ z.toInt ∧ z.toInt < c := by
  have h2 : 2 ^ (j + k) ≤ 2 ^ 30 := Nat.pow_le_pow_right (by decide) hk
  have h3 : (2 : Nat) ^ 30 < 2 ^ 31 := by decide
  have ex : x = nI x.toInt.toNat := by
    apply Int32.toInt_inj.mp
    have : (2 : Nat) ^ j ≤ 2 ^ (j + k) := Nat.pow_le_pow_right (by decide) (by omega)
    rw [nI_toInt (by omega)]
    omega
  have hm : x.toInt.toNat * 2 ^ k < 2 ^ (j + k) := by
    rw [Nat.pow_add]
    exact Nat.mul_lt_mul_of_pos_right (by omega) (Nat.two_pow_pos k)
  have ez : z = nI (x.toInt.toNat * 2 ^ k) := by
    rw [h]
    conv => lhs; rw [ex]
    exact pk_shlN _ k hs (by omega)
  rw [ez, nI_toInt (by omega)]
  omega
theorem i_wid {x : Int32} {b c : Nat} (h : 0 ≤ x.toInt ∧ x.toInt < b) (hc : b ≤ c) : 0 ≤ x.toInt ∧ x.toInt < c := ⟨h.1, by omega⟩
theorem i_nl0 {x : Int32} (h : 0 ≤ x.toInt) : ¬ x < 0 := fun q => by
  have h1 := i_lt q
  have e0 : (0 : Int32).toInt = 0 := rfl
  omega
theorem i_cp {x n : Int32} {k : Nat} (h : x.toInt.toNat + n.toInt.toNat ≤ k) : x.toNatClampNeg + n.toNatClampNeg ≤ k := h
theorem fz {z : Int32} (h : z = 0 ∨ z = 1) : fits .boolean (.int z) = true := by rcases h with rfl | rfl <;> rfl
theorem l_of {x : Int32} {z : Int64} (h : x.toInt64 = z) : z.toInt = x.toInt := by rw [← h]; exact Int32.toInt_toInt64 x
theorem l_2i {x : Int64} {z : Int32} (h : x.toInt32 = z) : z.toInt = x.toInt ∨ x.toInt < -2147483648 ∨ 2147483647 < x.toInt := by
  by_cases h1 : x.toInt < -2147483648
  · exact Or.inr (Or.inl h1)
  · by_cases h2 : 2147483647 < x.toInt
    · exact Or.inr (Or.inr h2)
    · left
      rw [← h, Int64.toInt_toInt32]
      apply Int.bmod_eq_of_le <;> omega
theorem l_cmp {z : Int32} {x y : Int64} (h : z = lg_cmp x y) : (z.toInt = 1 ∧ y.toInt < x.toInt) ∨ (z.toInt = 0 ∧ x.toInt = y.toInt) ∨ (z.toInt = -1 ∧ x.toInt < y.toInt) := by
  unfold lg_cmp at h
  split at h
  · rename_i q
    left
    subst h
    exact ⟨by decide, Int64.lt_iff_toInt_lt.mp q⟩
  · split at h
    · rename_i q1 q
      right; left
      subst h
      exact ⟨by decide, by rw [q]⟩
    · rename_i q1 q2
      right; right
      subst h
      refine ⟨by decide, ?_⟩
      rcases Int.lt_trichotomy x.toInt y.toInt with w | w | w
      · exact w
      · exact absurd (Int64.toInt_inj.mp w) q2
      · exact absurd (Int64.lt_iff_toInt_lt.mpr w) q1
theorem fit_b (x : Int32) : fits .byte (.int x.toInt8.toInt32) = true := by
  have h1 := Int8.toInt_lt x.toInt8
  have h2 := Int8.le_toInt x.toInt8
  have e : x.toInt8.toInt32.toInt = x.toInt8.toInt := Int8.toInt_toInt32 _
  have m1 : (-128 : Int32).toInt = -128 := (by decide)
  have m2 : (127 : Int32).toInt = 127 := (by decide)
  have a : (-128 : Int32) ≤ x.toInt8.toInt32 := Int32.le_iff_toInt_le.mpr (by rw [e, m1]; omega)
  have b : x.toInt8.toInt32 ≤ (127 : Int32) := Int32.le_iff_toInt_le.mpr (by rw [e, m2]; omega)
  simp [fits, a, b]
theorem gO_un {A : Nat → Prop} {ws : va_W} {k k' a ci ci' : Nat} {fs fs' : List Value} (hD : va_D A ws) (hk : ows ws k a ci fs) (hk' : ows ws k' a ci' fs') : fs = fs' := by
  have e := hD.1 k k' _ _ hk hk' rfl
  subst e
  rw [ows, hk] at hk'
  cases hk'
  rfl
theorem i_mulR {z x y : Int32} {c K : Int} (h : z = x * y) (hy : y.toInt = c) (hc : 0 < c) (hK : c * K ≤ 2147483647) (h0 : 0 ≤ K) : z.toInt = c * x.toInt ∨ x.toInt < -K ∨ K < x.toInt := by
  by_cases h1 : x.toInt < -K
  · exact Or.inr (Or.inl h1)
  · by_cases h2 : K < x.toInt
    · exact Or.inr (Or.inr h2)
    · left
      have a1 : c * x.toInt ≤ c * K := Int.mul_le_mul_of_nonneg_left (by omega) (by omega)
      have a2 : c * (-K) ≤ c * x.toInt := Int.mul_le_mul_of_nonneg_left (by omega) (by omega)
      rw [Int.mul_neg] at a2
      rw [h, Int32.toInt_mul, hy, Int.mul_comm]
      apply Int.bmod_eq_of_le <;> omega
theorem i_mulL {z x y : Int32} {c K : Int} (h : z = y * x) (hy : y.toInt = c) (hc : 0 < c) (hK : c * K ≤ 2147483647) (h0 : 0 ≤ K) : z.toInt = c * x.toInt ∨ x.toInt < -K ∨ K < x.toInt := i_mulR (h.trans (Int32.mul_comm y x)) hy hc hK h0
theorem i_addD {z x y : Int32} (h : z = x + y) : z.toInt = x.toInt + y.toInt ∨ (2147483647 < x.toInt + y.toInt ∧ z.toInt = x.toInt + y.toInt - 4294967296) ∨ (x.toInt + y.toInt < -2147483648 ∧ z.toInt = x.toInt + y.toInt + 4294967296) := by
  obtain ⟨q, hq⟩ := i_add h
  have h1 := i_rg x
  have h2 := i_rg y
  have h3 := i_rg z
  omega
theorem i_subD {z x y : Int32} (h : z = x - y) : z.toInt = x.toInt - y.toInt ∨ (2147483647 < x.toInt - y.toInt ∧ z.toInt = x.toInt - y.toInt - 4294967296) ∨ (x.toInt - y.toInt < -2147483648 ∧ z.toInt = x.toInt - y.toInt + 4294967296) := by
  obtain ⟨q, hq⟩ := i_sub h
  have h1 := i_rg x
  have h2 := i_rg y
  have h3 := i_rg z
  omega
