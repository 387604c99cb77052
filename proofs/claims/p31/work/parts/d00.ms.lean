def MS : Type := (Nat → Nat → Int32) × (Nat → Nat → Int64) × (Nat → Nat → Option Nat) × (Nat → Nat) × (Nat → Nat) × Nat × Nat
def qI (S : MS) : Nat → Nat → Int32 := S.1
def qJ (S : MS) : Nat → Nat → Int64 := S.2.1
def qR (S : MS) : Nat → Nat → Option Nat := S.2.2.1
def qT (S : MS) : Nat → Nat := S.2.2.2.1
def qN (S : MS) : Nat → Nat := S.2.2.2.2.1
def qn (S : MS) : Nat := S.2.2.2.2.2.1
def qu (S : MS) : Nat := S.2.2.2.2.2.2
/-- the handle that stands there -/
def qO (S : MS) (h i : Nat) : Nat := (qR S h i).getD 0
def wI (S : MS) (h i : Nat) (v : Int32) : MS := (fun a => if a = h then upd (qI S h) i v else qI S a, S.2)
def wJ (S : MS) (h i : Nat) (v : Int64) : MS := (S.1, fun a => if a = h then vp_updL (qJ S h) i v else qJ S a, S.2.2)
def wR (S : MS) (h i : Nat) (v : Option Nat) : MS := (S.1, S.2.1, fun a => if a = h then va_up (qR S h) i v else qR S a, S.2.2.2)
/-- a whole row is new -/
def wC (S : MS) (h : Nat) (f : Nat → Int32) : MS := (fun a => if a = h then f else qI S a, S.2)
/-- another kind -/
def wT (S : MS) (h t : Nat) : MS := (S.1, S.2.1, S.2.2.1, fun a => if a = h then t else qT S a, S.2.2.2.2)
/-- a new cell, of kind t with n places -/
def wN (S : MS) (t n k : Nat) : MS := (fun a => if a = qn S then fun _ => 0 else qI S a, fun a => if a = qn S then fun _ => 0 else qJ S a, fun a => if a = qn S then fun _ => none else qR S a, fun a => if a = qn S then t else qT S a, fun a => if a = qn S then n else qN S a, qn S + 1, qu S + k)
def Gr : Type := (Nat → ClassId) × (Nat → Nat → Nat) × ClassId × ClassId × ClassId × ClassId × ClassId × ClassId
def Gr.cB (g : Gr) : ClassId := g.2.2.1
def Gr.cI (g : Gr) : ClassId := g.2.2.2.1
def Gr.cZ (g : Gr) : ClassId := g.2.2.2.2.1
def Gr.cL (g : Gr) : ClassId := g.2.2.2.2.2.1
def Gr.cS (g : Gr) : ClassId := g.2.2.2.2.2.2.1
def Gr.cF (g : Gr) : ClassId := g.2.2.2.2.2.2.2
abbrev rD (g : Gr) : va_G := (g.1, g.2.1)
def TXB : Nat := 10000000
def vf (ad : Nat → Nat) (r : Option Nat) : Value := va_rf (r.map ad)
section
variable {g : Gr} {ad : Nat → Nat} {S S' : MS} {h a i : Nat}
theorem qI_wI {v : Int32} {j : Nat} : qI (wI S h i v) a j = if a = h ∧ j = i then v else qI S a j := by
  show (if a = h then upd (qI S h) i v else qI S a) j = _
  by_cases e : a = h
  · subst e; rw [if_pos rfl]; unfold upd; by_cases e2 : j = i
    · rw [if_pos e2, if_pos ⟨rfl, e2⟩]
    · rw [if_neg e2, if_neg (fun q => e2 q.2)]
  · rw [if_neg e, if_neg (fun q => e q.1)]
end
section
variable {g : Gr} {ad : Nat → Nat} {S S' : MS} {h a i : Nat}
theorem qJ_wJ {v : Int64} {j : Nat} : qJ (wJ S h i v) a j = if a = h ∧ j = i then v else qJ S a j := by
  show (if a = h then vp_updL (qJ S h) i v else qJ S a) j = _
  by_cases e : a = h
  · subst e; rw [if_pos rfl]; unfold vp_updL; by_cases e2 : j = i
    · rw [if_pos e2, if_pos ⟨rfl, e2⟩]
    · rw [if_neg e2, if_neg (fun q => e2 q.2)]
  · rw [if_neg e, if_neg (fun q => e q.1)]
end
section
variable {g : Gr} {ad : Nat → Nat} {S S' : MS} {h a i : Nat}
theorem qR_wR {v : Option Nat} {j : Nat} : qR (wR S h i v) a j = if a = h ∧ j = i then v else qR S a j := by
  show (if a = h then va_up (qR S h) i v else qR S a) j = _
  by_cases e : a = h
  · subst e; rw [if_pos rfl]; unfold va_up; by_cases e2 : j = i
    · rw [if_pos e2, if_pos ⟨rfl, e2⟩]
    · rw [if_neg e2, if_neg (fun q => e2 q.2)]
  · rw [if_neg e, if_neg (fun q => e q.1)]
end
section
variable {g : Gr} {ad : Nat → Nat} {S S' : MS} {h a i : Nat}
theorem qI_self {v : Int32} : qI (wI S h i v) h = upd (qI S h) i v := if_pos rfl
end
section
variable {g : Gr} {ad : Nat → Nat} {S S' : MS} {h a i : Nat}
theorem qJ_self {v : Int64} : qJ (wJ S h i v) h = vp_updL (qJ S h) i v := if_pos rfl
end
section
variable {g : Gr} {ad : Nat → Nat} {S S' : MS} {h a i : Nat}
theorem qR_self {v : Option Nat} : qR (wR S h i v) h = va_up (qR S h) i v := if_pos rfl
end
section
variable {g : Gr} {ad : Nat → Nat} {A : Nat → Prop} {s : State} {S S' : MS} {H H1 : Heap} {locs locs1 : List Loc} {h : Nat}
theorem up_map {ad : Nat → Nat} {f : Nat → Option Nat} {i b : Nat} : (fun k => (va_up f i (some b) k).map ad) = va_up (fun k => (f k).map ad) i (some (ad b)) := by
  funext k
  unfold va_up
  by_cases e : k = i
  · rw [if_pos e, if_pos e]; rfl
  · rw [if_neg e, if_neg e]
end
/-- kinds and lengths stay; cells are only added -/
def shx (S u : MS) : Prop := (∀ b : Nat, qT S b ≠ 0 → qT u b = qT S b ∧ qN u b = qN S b) ∧ qn S ≤ qn u
theorem shx.rf {S : MS} : shx S S := ⟨fun _ _ => ⟨rfl, rfl⟩, Nat.le_refl _⟩
theorem shx.tr {S u v : MS} (h : shx S u) (h' : shx u v) : shx S v := ⟨fun b hb => by
  obtain ⟨e1, e2⟩ := h.1 b hb
  obtain ⟨e3, e4⟩ := h'.1 b (by rw [e1]; exact hb)
  exact ⟨e3.trans e1, e4.trans e2⟩, Nat.le_trans h.2 h'.2⟩
theorem shx.T {S u : MS} {b t : Nat} (h : shx S u) (e : qT S b = t) (h0 : t ≠ 0) : qT u b = t := by rw [(h.1 b (by omega)).1, e]
/-- a text in the heap -/
def tx1 (b v n : Nat) (f : Nat → Int32) (A : Nat → Prop) (U : State) (H : Heap) : Prop := va_O "java/lang/String" b A U H ∧ va_OF "java/lang/String" "coder" "B" (.int 0) b A U H ∧ va_OF "java/lang/String" "value" "[B" (.ref v) b A U H ∧ va_T .byte v n (fun j => .int (f j)) A U H
theorem tx1.moved {b v n : Nat} {f : Nat → Int32} {A : Nat → Prop} {u U : State} {H : Heap} (hvm : u.vm.Alike U.vm) (h : tx1 b v n f A u H) : tx1 b v n f A U H := ⟨va_O.moved hvm h.1, va_OF.moved hvm h.2.1, va_OF.moved hvm h.2.2.1, va_T.moved hvm h.2.2.2⟩
theorem tx1.kept {b v n : Nat} {f : Nat → Int32} {A : Nat → Prop} {U : State} {H H1 : Heap} (h : tx1 b v n f A U H) (hq : ∀ a : Nat, a < H.size → ¬ A a → H1[a]? = H[a]?) : tx1 b v n f A U H1 := ⟨va_O.kept h.1 hq, va_OF.kept h.2.1 hq, va_OF.kept h.2.2.1 hq, va_T.kept h.2.2.2 hq⟩
theorem tx1.narrow {b v n : Nat} {f : Nat → Int32} {A B : Nat → Prop} {U : State} {H : Heap} (h : tx1 b v n f A U H) (hAB : ∀ q, B q → A q) : tx1 b v n f B U H := ⟨va_O.narrow h.1 hAB, va_OF.narrow h.2.1 hAB, va_OF.narrow h.2.2.1 hAB, va_T.narrow h.2.2.2 hAB⟩
/-- the digits of the numbers below a hundred -/
def dgO (j : Nat) : Int32 := Int32.ofNat (48 + j % 10)
def dgT (j : Nat) : Int32 := Int32.ofNat (48 + j / 10)
def dgE (n : String) (f : Nat → Int32) (A : Nat → Prop) (U : State) (H : Heap) : Prop := ∃ r : Nat, va_Z "java/lang/Integer" n "[B" (.ref r) A U H ∧ va_T .byte r 100 (fun j => .int (f j)) A U H
def jE (A : Nat → Prop) (U : State) (H : Heap) : Prop := va_Z "java/lang/String" "COMPACT_STRINGS" "Z" (.int 1) A U H ∧ va_Zq "jdk/internal/util/Preconditions" "SIOOBE_FORMATTER" "Ljava/util/function/BiFunction;" A U H ∧ dgE "DigitOnes" dgO A U H ∧ dgE "DigitTens" dgT A U H
theorem dgE.moved {n : String} {f : Nat → Int32} {A : Nat → Prop} {u U : State} {H : Heap} (hvm : u.vm.Alike U.vm) (h : dgE n f A u H) : dgE n f A U H := h.imp (fun _ q => ⟨va_Z.moved hvm q.1, va_T.moved hvm q.2⟩)
theorem dgE.kept {n : String} {f : Nat → Int32} {A : Nat → Prop} {U : State} {H H1 : Heap} (h : dgE n f A U H) (hq : ∀ a : Nat, a < H.size → ¬ A a → H1[a]? = H[a]?) : dgE n f A U H1 := h.imp (fun _ q => ⟨va_Z.kept q.1 hq, va_T.kept q.2 hq⟩)
theorem dgE.narrow {n : String} {f : Nat → Int32} {A B : Nat → Prop} {U : State} {H : Heap} (h : dgE n f A U H) (hAB : ∀ q, B q → A q) : dgE n f B U H := h.imp (fun _ q => ⟨va_Z.narrow q.1 hAB, va_T.narrow q.2 hAB⟩)
theorem jE.moved {A : Nat → Prop} {u U : State} {H : Heap} (hvm : u.vm.Alike U.vm) (h : jE A u H) : jE A U H := ⟨va_Z.moved hvm h.1, va_Zq.moved hvm h.2.1, h.2.2.1.moved hvm, h.2.2.2.moved hvm⟩
theorem jE.kept {A : Nat → Prop} {U : State} {H H1 : Heap} (h : jE A U H) (hq : ∀ a : Nat, a < H.size → ¬ A a → H1[a]? = H[a]?) : jE A U H1 := ⟨va_Z.kept h.1 hq, va_Zq.kept h.2.1 hq, h.2.2.1.kept hq, h.2.2.2.kept hq⟩
theorem jE.narrow {A B : Nat → Prop} {U : State} {H : Heap} (h : jE A U H) (hAB : ∀ q, B q → A q) : jE B U H := ⟨va_Z.narrow h.1 hAB, va_Zq.narrow h.2.1 hAB, h.2.2.1.narrow hAB, h.2.2.2.narrow hAB⟩
/-- numbers -/
theorem n_lt {x y : Int32} : x < y ↔ x.toInt < y.toInt := Int32.lt_iff_toInt_lt
theorem n_le {x y : Int32} : x ≤ y ↔ x.toInt ≤ y.toInt := Int32.le_iff_toInt_le
theorem n_in {i : Int32} {n : Nat} (h : 0 ≤ i.toInt ∧ i.toInt < n) : vp_in i n := by
  unfold vp_in
  have e0 : (0 : Int32).toInt = 0 := rfl
  rintro (h1 | h1)
  · rw [Int32.lt_iff_toInt_lt] at h1; omega
  · have : i.toNatClampNeg = i.toInt.toNat := rfl
    omega
theorem n_ne0 {y : Int32} (h : y.toInt ≠ 0) : ¬ y = 0 := fun e => h (by rw [e]; rfl)
theorem k_eq {x y : Int32} {a b : Int} (ha : x.toInt = a) (hb : y.toInt = b) (h : x = y) : a = b := by rw [← ha, ← hb, h]
theorem k_ne {x y : Int32} {a b : Int} (ha : x.toInt = a) (hb : y.toInt = b) (h : ¬ x = y) : ¬ a = b := fun q => h (Int32.toInt_inj.mp (by rw [ha, hb, q]))
theorem k_lt {x y : Int32} {a b : Int} (ha : x.toInt = a) (hb : y.toInt = b) (h : x < y) : a < b := by rw [← ha, ← hb]; exact n_lt.mp h
theorem k_nlt {x y : Int32} {a b : Int} (ha : x.toInt = a) (hb : y.toInt = b) (h : ¬ x < y) : ¬ a < b := by rw [← ha, ← hb]; exact fun q => h (n_lt.mpr q)
theorem k_le {x y : Int32} {a b : Int} (ha : x.toInt = a) (hb : y.toInt = b) (h : x ≤ y) : a ≤ b := by rw [← ha, ← hb]; exact n_le.mp h
theorem k_nle {x y : Int32} {a b : Int} (ha : x.toInt = a) (hb : y.toInt = b) (h : ¬ x ≤ y) : ¬ a ≤ b := by rw [← ha, ← hb]; exact fun q => h (n_le.mpr q)
theorem k_ix {x : Int32} {a : Int} {n : Nat} (ha : x.toInt = a) (h : 0 ≤ a ∧ a < n) : vp_in x n := n_in (by rw [ha]; exact h)
theorem k_ixN {x : Int32} {n m : Nat} (h : vp_in x n) (e : m = n) : vp_in x m := by rw [e]; exact h
theorem fz2 {r : Int32} (h : r = 0 ∨ r = 1) : fits .boolean (.int r) = true := by rcases h with rfl | rfl <;> rfl
theorem nb8 {x : Int32} : narrow .byte (.int (x.toInt8.toInt32)) = .int (x.toInt8.toInt32) := by
  show Value.int ((x.toInt8.toInt32).toInt8.toInt32) = _
  rw [Int8.toInt8_toInt32]
def Ns (sz : Nat) : Nat → Prop := fun q => sz ≤ q
/-- a world's object as single facts -/
theorem of_world {D : va_G} {cl : List vw_C} {tys : List (ClassId × FieldType)} {ws : va_W} {s : State} {H : Heap} {k a ci N : Nat} {fs : List Value} {C : String} {T : u_T} (hK : va_K D cl tys s) (hP : va_P D cl ws H) (hk : ws[k]? = some (a, .inr (ci, fs))) (hc : cl[ci]? = some (C, T, N)) : va_O C a (Ns H.size) s H ∧ ∀ (j : Nat) (v : Value), j < N → fs[j]? = some v → (∀ f : Field, ∀ cf kf fi, s.fieldFound? (T j).1 (T j).2.1 (T j).2.2.1 = some (cf, kf, fi, f) → f.isStatic = false) → va_OF (T j).1 (T j).2.1 (T j).2.2.1 v a (Ns H.size) s H := by
  obtain ⟨r, hr, cell, h1, h2, h3, h4⟩ := hP k _ hk
  rw [hc] at hr
  cases hr
  obtain ⟨hs, hcl⟩ := hK.1 ci _ hc
  have hlt : ¬ Ns H.size a := fun q => absurd (Array.getElem?_eq_some_iff.mp h1).1 (Nat.not_lt.mpr q)
  refine ⟨⟨cell, h1, by rw [h3]; rfl, by rw [h2]; exact hcl.1, hlt⟩, fun j v hj hv hst => ?_⟩
  obtain ⟨cf, kf, fi, fd, g1, g2⟩ := hs j hj
  refine ⟨cf, kf, fi, fd, cell, g1, hst _ _ _ _ g1, h1, by rw [h3]; exact fun q => (by cases q), ?_, hlt⟩
  rw [g2, h4 j hj]
  unfold vp_V
  rw [List.getD_eq_getElem?_getD, hv]
  rfl
theorem arr_world {D : va_G} {cl : List vw_C} {tys : List (ClassId × FieldType)} {ws : va_W} {s : State} {H : Heap} {k a t0 n : Nat} {cA : ClassId} {f : Nat → Int32} (hK : va_K D cl tys s) (hP : va_P D cl ws H) (hk : ws[k]? = some (a, .inl (cA, n, .inl f))) (ht : tys[t0]? = some (cA, .byte)) : va_T .byte a n (fun j => .int (f j)) (Ns H.size) s H := by
  have h1 := hP k _ hk
  refine ⟨_, h1, (hK.2 t0 _ ht).1 n (fun j => .int (f j)), fun q => (by cases q), ?_, ?_, fun j hj => ?_, fun q => absurd (Array.getElem?_eq_some_iff.mp h1).1 (Nat.not_lt.mpr q)⟩
  · show n ≤ (arrV _ _ _).slots.size
    rw [arrV_size]
    exact Nat.le_refl _
  · show (arrV _ _ _).slots.size.toInt32 = _
    rw [arrV_size]
    try rfl
  · exact arrV_read _ _ hj
theorem lays_ns {C O n d : String} {args : Array Value} {s : State} (h : (Cond.laysFinal C O n d).before args s = true) : ∀ f : Field, ∀ cf kf fi, s.fieldFound? O n d = some (cf, kf, fi, f) → f.isStatic = false := by
  intro f cf kf fi e
  simp only [Cond.before, Cond.holds, Cond.value, e] at h
  cases hc : s.vm.findClass C with
  | none => rw [hc] at h; simp at h
  | some c =>
    rw [hc] at h
    cases hk : s.vm.classes[c]? with
    | none => simp [hk] at h
    | some k =>
      simp [hk] at h
      exact h.1.1.1.1.1
theorem va_ldcSW {p : Program} {l : Launch} {e : Env} {R : Room} {s : State} {m : MethodId} {args : Array Value} {below : List Frame} {meth : Method} {c : Code} {H : Heap} {locs : List Loc} {cells slots : Nat} {Q : State → Prop} {cc : ByteArray} {pc : Nat} {ls : Array Slot} {rest : List Value} (hexec : p.tables.exec = Jvm.exec) (hb : c.code = cc) {own tx : String} {index q : Nat} (hown : s.vm.findClass own = some m.cls) (hZ : vk_R own index tx q s) (hdg : decode cc pc = .ok (.ldc_w index, 3))
    (k : W p l e R s m args below meth c H locs cells slots Q (F0 m (pc + 3) ls (.ref q :: rest))) : W p l e R s m args below meth c H locs cells slots Q (F0 m pc ls rest) := by
  intro T hT X
  obtain ⟨t, a1, b1⟩ := k T hT X
  exact ⟨t, X.ldcStringW hexec (own := own) hown (text := tx) (a := q) hZ.1 hZ.2 (g := F0 m pc ls rest) rfl (by rw [hb]; exact hdg) t a1, b1⟩
def stT (sz : Nat) (P : (Nat → Prop) → State → Heap → Prop) (U : State) : Prop := U.heap.size = sz ∧ P (Ns sz) U U.heap ∧ jE (Ns sz) U U.heap
theorem tblind {av : List Value} {sz : Nat} {P : (Nat → Prop) → State → Heap → Prop} (hP : ∀ (A : Nat → Prop) (u U : State) (H : Heap), u.vm.Alike U.vm → P A u H → P A U H) : FrameBlind (va_Pc av (stT sz P)) := fun a U f mk q => by
  obtain ⟨q0, q1, q2, q3⟩ := q
  exact ⟨q0, q1, hP _ U _ _ (Vm.Alike.refl U.vm) q2, jE.moved (u := U) (Vm.Alike.refl U.vm) q3⟩
/-- texts in the state -/
def cAt (S : MS) (b : Nat) (i : Int32) : Int32 := ((qI S (b + 1) i.toInt.toNat &&& 255).toUInt32 % 65536).toInt32
theorem lx_cons {k o d x : Int} {l : List (Int × Int)} (h : ¬ x = k) (hr : Op.lookupswitch.offset l d x = d) : Op.lookupswitch.offset ((k, o) :: l) d x = d := by
  rw [Op.lookupswitch.offset_cons, if_neg (fun e => h e.symm)]
  exact hr
theorem lx_nil {d x : Int} : Op.lookupswitch.offset [] d x = d := rfl
/-- .. and no cell is new -/
def shy (S u : MS) : Prop := shx S u ∧ qn u = qn S ∧ qu u = qu S
theorem shy.rf {S : MS} : shy S S := ⟨shx.rf, rfl, rfl⟩
theorem shy.tr {S u v : MS} (h : shy S u) (h' : shy u v) : shy S v := ⟨h.1.tr h'.1, h'.2.1.trans h.2.1, h'.2.2.trans h.2.2⟩
theorem shy.T {S u : MS} {b t : Nat} (h : shy S u) (e : qT S b = t) (h0 : t ≠ 0) : qT u b = t := h.1.T e h0

def nsl2 (n : Nat) (H : Heap) : Nat := ((H.toList.drop n).map (·.slots.size)).sum
/-- from H0 to H: so many cells of so many slots are new; the old ones keep their sizes -/
def Led2 (H0 H : Heap) (cells slots : Nat) : Prop := H.size ≤ H0.size + cells ∧ nsl2 H0.size H ≤ slots ∧ H0.size ≤ H.size ∧ ∀ (a : Nat) (c : Cell), H0[a]? = some c → ∃ c' : Cell, H[a]? = some c' ∧ c'.slots.size = c.slots.size
section
variable {p : Program} {l : Launch} {e : Env} {R : Room} {s : State} {m : MethodId} {args : Array Value} {below : List Frame} {meth : Method} {c : Code} {H : Heap} {locs : List Loc} {cells slots : Nat} {Q : State → Prop} {g : JFrame}
theorem W_tight2 {cells' slots' : Nat} (hc : H.size ≤ s.heap.size + cells') (hs : nsl2 s.heap.size H ≤ slots') (k : W p l e R s m args below meth c H locs cells' slots' Q g) : W p l e R s m args below meth c H locs cells slots Q g := by
  intro T hT X
  obtain ⟨h1, h2, h3, h4, h5, h6⟩ := X.same
  refine k T hT ⟨X.admits, X.cas, X.clock, X.frames, X.room, X.hears, X.method, X.code, X.here, X.tail, X.warmed, X.limits, X.bytes, h1, h2, ?_, h4, ?_, h6⟩
  · show T.heap.size ≤ _
    rw [hT]
    exact hc
  · show nsl2 s.heap.size T.heap ≤ _
    rw [hT]
    exact hs
end
section
variable {p : Program} {l : Launch} {e : Env} {R : Room} {s : State} {m : MethodId} {args : Array Value} {below : List Frame} {meth : Method} {c : Code} {H : Heap} {locs : List Loc} {cells slots : Nat} {Q : State → Prop} {g : JFrame}
theorem W_led2 (k : Led2 s.heap H cells slots → W p l e R s m args below meth c H locs cells slots Q g) : W p l e R s m args below meth c H locs cells slots Q g := by
  intro T hT X
  obtain ⟨h1, h2, h3, h4, h5, h6⟩ := X.same
  refine k ⟨?_, ?_, ?_, fun a cc ha => ?_⟩ T hT X
  · rw [← hT]; exact h3
  · rw [← hT]; exact h5
  · rw [← hT]; exact h2
  · obtain ⟨c', q1, q2, q3, q4⟩ := h6 a cc ha
    exact ⟨c', by rw [← hT]; exact q1, q3⟩
end
theorem nsl2_split {n k : Nat} {H : Heap} (h : n ≤ k) : nsl2 n H = (((H.toList.drop n).take (k - n)).map (·.slots.size)).sum + nsl2 k H := by
  unfold nsl2
  rw [← List.sum_append, ← List.map_append]
  congr 2
  have : H.toList.drop k = (H.toList.drop n).drop (k - n) := by rw [List.drop_drop]; congr 1; omega
  rw [this, List.take_append_drop]
/-- one way behind another -/
theorem Led2.tr {H0 H H1 : Heap} {a b x y : Nat} (h : Led2 H0 H a b) (h' : Led2 H H1 x y) : Led2 H0 H1 (a + x) (b + y) := by
  obtain ⟨p1, p2, p3, p4⟩ := h
  obtain ⟨q1, q2, q3, q4⟩ := h'
  refine ⟨by omega, ?_, by omega, fun i c hi => ?_⟩
  · rw [nsl2_split (k := H.size) p3]
    have e : (((H1.toList.drop H0.size).take (H.size - H0.size)).map (·.slots.size)) = ((H.toList.drop H0.size).map (·.slots.size)) := by
      apply List.ext_getElem?
      intro j
      rw [List.getElem?_map, List.getElem?_map, List.getElem?_take, List.getElem?_drop, List.getElem?_drop]
      by_cases hj : j < H.size - H0.size
      · rw [if_pos hj]
        have hl : H0.size + j < H.size := by omega
        obtain ⟨c', r1, r2⟩ := q4 (H0.size + j) H[H0.size + j] (Array.getElem?_eq_getElem hl)
        have r1' : H1.toList[H0.size + j]? = some c' := by rw [Array.getElem?_toList]; exact r1
        have r0 : H.toList[H0.size + j]? = some H[H0.size + j] := by rw [Array.getElem?_toList]; exact Array.getElem?_eq_getElem hl
        rw [r1', r0]
        simp [r2]
      · rw [if_neg hj]
        have r0 : H.toList[H0.size + j]? = none := by
          rw [Array.getElem?_toList]
          exact Array.getElem?_eq_none (by omega)
        rw [r0]
    rw [e]
    show nsl2 H0.size H + _ ≤ _
    omega
  · obtain ⟨c1, r1, r2⟩ := p4 i c hi
    obtain ⟨c2, r3, r4⟩ := q4 i c1 r1
    exact ⟨c2, r3, r4.trans r2⟩

def adx (ad : Nat → Nat) (h q : Nat) : Nat → Nat := fun k => if k = h then q else ad k
/-- the map of addresses is as it was for all that was there -/
def adk (ad ad' : Nat → Nat) (S : MS) : Prop := ∀ h : Nat, h < qn S ∨ TXB ≤ h → ad' h = ad h
theorem adk.rf {ad : Nat → Nat} {S : MS} : adk ad ad S := fun _ _ => rfl
theorem adk.tr {ad ad' ad'' : Nat → Nat} {S U : MS} (h : adk ad ad' S) (h' : adk ad' ad'' U) (hn : qn S ≤ qn U) : adk ad ad'' S := fun a ha => (h' a (ha.imp (fun q => Nat.lt_of_lt_of_le q hn) id)).trans (h a ha)
theorem adk.new {ad : Nat → Nat} {S U : MS} {ad' : Nat → Nat} {q : Nat} (h : adk ad ad' S) (hn : qn S ≤ qn U) (hT : qn U < TXB) : adk ad (adx ad' (qn U) q) S := fun a ha => by
  unfold adx
  rw [if_neg (fun e => by rcases ha with ha | ha <;> omega)]
  exact h a ha
/-- all the bytes of a row are bytes -/
def byt (S : MS) (h : Nat) : Prop := ∀ i : Nat, fits .byte (.int (qI S h i)) = true
section
variable {p : Program} {l : Launch} {e : Env} {R : Room} {s : State} {m : MethodId} {args : Array Value} {below : List Frame} {meth : Method} {c : Code} {H : Heap} {locs : List Loc} {cells slots : Nat} {Q : State → Prop}
variable {cc : ByteArray} {pc : Nat} {ls : Array Slot} {rest : List Value} {D : va_G} {cl : List vw_C} {A : Nat → Prop} {a : Nat} {tys : List (ClassId × FieldType)} {ws : va_W}
theorem nn32 {z : Int32} (hz : ¬ z < 0) : z.toInt = (z.toNatClampNeg : Int) := by
  have h0 : (0 : Int) ≤ z.toInt := by simpa using Int32.le_iff_toInt_le.mp (Int32.not_lt.mp hz)
  show z.toInt = ((z.toInt.toNat : Nat) : Int)
  omega
end
theorem sh0 (x : Int32) : x >>> ((0 : Int32) &&& 31) = x := by
  have e : ((0 : Int32) &&& 31) = 0 := by decide
  rw [e]
  exact Int32.shiftRight_zero
theorem inc1 {i : Int32} (h : i.toInt < 2147483647) : (i + Int32.ofInt 1).toInt = i.toInt + 1 := by
  have e1 : (Int32.ofInt 1).toInt = 1 := by decide
  have h2 := Int32.le_toInt i
  rw [Int32.toInt_add, e1]
  apply Int.bmod_eq_of_le <;> omega
theorem nc16 {x : UInt32} : narrow .char (.int ((x % 65536).toInt32)) = .int ((x % 65536).toInt32) := by
  show Value.int (((((x % 65536).toInt32).toUInt32) % 65536).toInt32) = _
  rw [UInt32.toUInt32_toInt32]
  congr 2
  apply UInt32.toNat_inj.mp
  simp [UInt32.toNat_mod]
