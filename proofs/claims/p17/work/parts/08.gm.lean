/-! the book of new cells -/
def nsl (n : Nat) (H : Heap) : Nat := ((H.toList.drop n).map (·.slots.size)).sum
/-- from H0 to H: so many cells of so many slots are new; the old ones keep their sizes -/
def Led (H0 H : Heap) (cells slots : Nat) : Prop := H.size ≤ H0.size + cells ∧ nsl H0.size H ≤ slots ∧ H0.size ≤ H.size ∧ ∀ (a : Nat) (c : Cell), H0[a]? = some c → ∃ c' : Cell, H[a]? = some c' ∧ c'.slots.size = c.slots.size
section BOOK
variable {p : Program} {l : Launch} {e : Env} {R : Room} {s : State} {m : MethodId} {args : Array Value} {below : List Frame} {meth : Method} {c : Code} {H : Heap} {locs : List Loc} {cells slots : Nat} {Q : State → Prop} {g : JFrame}
theorem W_tight {cells' slots' : Nat} (hc : H.size ≤ s.heap.size + cells') (hs : nsl s.heap.size H ≤ slots') (k : W p l e R s m args below meth c H locs cells' slots' Q g) : W p l e R s m args below meth c H locs cells slots Q g := by
  intro T hT X
  obtain ⟨h1, h2, h3, h4, h5, h6⟩ := X.same
  refine k T hT ⟨X.admits, X.cas, X.clock, X.frames, X.room, X.hears, X.method, X.code, X.here, X.tail, X.warmed, X.limits, X.bytes, h1, h2, ?_, h4, ?_, h6⟩
  · show T.heap.size ≤ _
    rw [hT]
    exact hc
  · show nsl s.heap.size T.heap ≤ _
    rw [hT]
    exact hs
theorem W_led (k : Led s.heap H cells slots → W p l e R s m args below meth c H locs cells slots Q g) : W p l e R s m args below meth c H locs cells slots Q g := by
  intro T hT X
  obtain ⟨h1, h2, h3, h4, h5, h6⟩ := X.same
  refine k ⟨?_, ?_, ?_, fun a cc ha => ?_⟩ T hT X
  · rw [← hT]; exact h3
  · rw [← hT]; exact h5
  · rw [← hT]; exact h2
  · obtain ⟨c', q1, q2, q3, q4⟩ := h6 a cc ha
    exact ⟨c', by rw [← hT]; exact q1, q3⟩
end BOOK
theorem nsl_split {n k : Nat} {H : Heap} (h : n ≤ k) : nsl n H = (((H.toList.drop n).take (k - n)).map (·.slots.size)).sum + nsl k H := by
  unfold nsl
  rw [← List.sum_append, ← List.map_append]
  congr 2
  have : H.toList.drop k = (H.toList.drop n).drop (k - n) := by rw [List.drop_drop]; congr 1; omega
  rw [this, List.take_append_drop]
/-- one way behind another -/
theorem Led.tr {H0 H H1 : Heap} {a b x y : Nat} (h : Led H0 H a b) (h' : Led H H1 x y) : Led H0 H1 (a + x) (b + y) := by
  obtain ⟨p1, p2, p3, p4⟩ := h
  obtain ⟨q1, q2, q3, q4⟩ := h'
  refine ⟨by omega, ?_, by omega, fun i c hi => ?_⟩
  · rw [nsl_split (k := H.size) p3]
    have e : (((H1.toList.drop H0.size).take (H.size - H0.size)).map (·.slots.size)) = ((H.toList.drop H0.size).map (·.slots.size)) := by
      apply List.ext_getElem?
      intro j
      rw [List.getElem?_map, List.getElem?_map, List.getElem?_take, List.getElem?_drop, List.getElem?_drop]
      by_cases hj : j < H.size - H0.size
      · rw [if_pos hj]
        have hl : H0.size + j < H.size := by omega
        obtain ⟨c', r1, r2⟩ := q4 (H0.size + j) H[H0.size + j] (Array.getElem?_eq_getElem hl)
        have r1' : H1.toList[H0.size + j]? = some c' := by rw [Array.getElem?_toList]; exact r1
        have r0 : H.toList[H0.size + j]? = some H[H0.size + j] := by rw [Array.getElem?_toList]; exact Array.getElem?_eq_getElem hl
        rw [r1', r0]
        simp [r2]
      · rw [if_neg hj]
        have r0 : H.toList[H0.size + j]? = none := by
          rw [Array.getElem?_toList]
          exact Array.getElem?_eq_none (by omega)
        rw [r0]
    rw [e]
    show nsl H0.size H + _ ≤ _
    omega
  · obtain ⟨c1, r1, r2⟩ := p4 i c hi
    obtain ⟨c2, r3, r4⟩ := q4 i c1 r1
    exact ⟨c2, r3, r4.trans r2⟩
/-! a cell more -/
theorem get_push {ws : va_W} {x y : Nat × va_E} {k : Nat} (h : (ws ++ [x])[k]? = some y) : ws[k]? = some y ∨ y = x := by
  by_cases hl : k < ws.length
  · rw [List.getElem?_append_left hl] at h
    exact Or.inl h
  · rw [List.getElem?_append_right (by omega)] at h
    have hz : k - ws.length < 1 := (List.getElem?_eq_some_iff.mp h).1
    rw [show k - ws.length = 0 by omega] at h
    cases h
    exact Or.inr rfl
theorem get_old {ws : va_W} {x y : Nat × va_E} {k : Nat} (h : ws[k]? = some y) : (ws ++ [x])[k]? = some y := by
  rw [List.getElem?_append_left (List.getElem?_eq_some_iff.mp h).1]
  exact h
theorem gE_push {ws : va_W} {x : Nat × va_E} : gE ws (ws ++ [x]) := fun _ _ ⟨k, y, h1, h2⟩ => ⟨k, y, get_old h1, h2⟩
theorem gF_push {ws : va_W} {x : Nat × va_E} : gF [] ws (ws ++ [x]) := fun _ _ _ fs h => ⟨fs, get_old h, fun _ _ => rfl⟩
theorem gS_new {ws : va_W} {q : Nat} {x : va_E} : gS (ws ++ [(q, x)]) q (shp x) := ⟨ws.length, x, by rw [List.getElem?_append_right (Nat.le_refl _), Nat.sub_self]; rfl, rfl⟩
theorem Good_push {g : Gm} {ws : va_W} {q : Nat} {x : ClassId × vp_A} (hG : Good g ws) (hr : ∀ c n f, x = (c, n, .inr (.inr (.inr (.inr f)))) → rin g ws c f) (hy : ∀ n f, x = (g.cB, n, .inl f) → ∀ i, fits .byte (.int (f i)) = true) : Good g (ws ++ [(q, .inl x)]) := by
  have E : gE ws (ws ++ [(q, .inl x)]) := gE_push
  refine ⟨fun j b di gs h => ?_, fun j b c n f h => ?_, fun j b n f h => ?_, hG.2.2.2⟩
  · rcases get_push h with h | h
    · exact (hG.1 j b di gs h).mo E
    · cases h
  · rcases get_push h with h | h
    · exact (hG.2.1 j b c n f h).mo E
    · cases h
      exact (hr _ _ _ rfl).mo E
  · rcases get_push h with h | h
    · exact hG.2.2.1 j b n f h
    · cases h
      exact hy _ _ rfl
theorem Good_pushI {g : Gm} {ws : va_W} {q n : Nat} {c : ClassId} (hG : Good g ws) : Good g (ws ++ [(q, .inl (c, n, .inl (fun _ => 0)))]) := Good_push hG (fun _ _ _ h => by cases h) (fun _ _ h => by cases h; exact fun _ => rfl)
theorem Good_pushJ {g : Gm} {ws : va_W} {q n : Nat} {c : ClassId} (hG : Good g ws) : Good g (ws ++ [(q, .inl (c, n, .inr (.inl (fun _ => 0))))]) := Good_push hG (fun _ _ _ h => by cases h) (fun _ _ h => by cases h)
theorem Good_pushR {g : Gm} {ws : va_W} {q n : Nat} {c : ClassId} (hG : Good g ws) : Good g (ws ++ [(q, .inl (c, n, .inr (.inr (.inr (.inr (fun _ => none))))))]) := Good_push hG (fun _ _ _ h => by cases h; exact ⟨fun _ _ _ h => (nomatch h), fun _ _ _ h => (nomatch h)⟩) (fun _ _ h => by cases h)
/-- the class of a new array is the one that g names -/
theorem cls_new {g : Gm} {s : State} {cA cB : ClassId} {ty : FieldType} {k : Nat} (hK : va_K (gD g) cl0 (tyL g) s) (hK' : va_K (gD g) cl0 (tyL g ++ [(cA, ty)]) s) (hk : (tyL g)[k]? = some (cB, ty)) (hp : ∀ C, ty ≠ .object C) : cB = cA := by
  have h1 := (hK.2 k _ hk).2
  have h2 := (hK'.2 6 (cA, ty) rfl).2
  cases ty with
  | object C => exact absurd rfl (hp C)
  | _ => exact Option.some.inj (h1.symm.trans h2)
/-- an object whose fields are set one after another: all but the one at k are as they must be -/
def GoodX (g : Gm) (k0 : Nat) (ws : va_W) : Prop := (∀ (k a ci : Nat) (fs : List Value), k ≠ k0 → ows ws k a ci fs → inv g ws a ci fs) ∧ (∀ (k a : Nat) (c : ClassId) (n : Nat) (f : Nat → Option Nat), rws ws k a c n f → rin g ws c f) ∧ (∀ (k a n : Nat) (f : Nat → Int32), iws ws k a g.cB n f → ∀ i, fits .byte (.int (f i)) = true) ∧ g.cI ≠ g.cB ∧ g.cZ ≠ g.cB
theorem Good.x {g : Gm} {ws : va_W} (h : Good g ws) (k0 : Nat) : GoodX g k0 ws := ⟨fun k a ci fs _ q => h.1 k a ci fs q, h.2⟩
theorem GoodX.full {g : Gm} {ws : va_W} {k0 a ci : Nat} {fs : List Value} (h : GoodX g k0 ws) (hk : ows ws k0 a ci fs) (hi : inv g ws a ci fs) : Good g ws := ⟨fun k b di gs q => by
  by_cases e : k = k0
  · subst e
    rw [ows, hk] at q
    cases q
    exact hi
  · exact h.1 k b di gs e q, h.2⟩
theorem GoodX.set {g : Gm} {ws ws' : va_W} {k a ci : Nat} {fs fs' : List Value} (e : ws' = ws.set k (a, .inr (ci, fs'))) (hk : ows ws k a ci fs) (hG : GoodX g k ws) : GoodX g k ws' := by
  have E : gE ws ws' := gE_set e hk rfl
  have hl := (List.getElem?_eq_some_iff.mp hk).1
  subst e
  refine ⟨fun j b di gs hj h => ?_, fun j b c n f h => ?_, fun j b n f h => ?_, hG.2.2.2⟩
  · rw [ows, List.getElem?_set_ne (Ne.symm hj)] at h
    exact (hG.1 j b di gs hj h).mo E
  · by_cases hj : j = k
    · subst hj
      rw [rws, List.getElem?_set_self hl] at h
      cases h
    · rw [rws, List.getElem?_set_ne (Ne.symm hj)] at h
      exact (hG.2.1 j b c n f h).mo E
  · by_cases hj : j = k
    · subst hj
      rw [iws, List.getElem?_set_self hl] at h
      cases h
    · rw [iws, List.getElem?_set_ne (Ne.symm hj)] at h
      exact hG.2.2.1 j b n f h
theorem i_cl {z : Int32} {n b : Nat} (e : z.toNatClampNeg = n) (h : z.toInt ≤ b) : n ≤ b := by
  have : z.toNatClampNeg = z.toInt.toNat := rfl
  omega
theorem i_nn {z : Int32} {n : Nat} (e : z.toNatClampNeg = n) (h : 0 ≤ z.toInt) : (n : Int) = z.toInt := by
  have : z.toNatClampNeg = z.toInt.toNat := rfl
  omega
theorem i_by {n b k : Nat} (h : n ≤ b) (hk : b * k ≤ 536870912) : n * k ≤ 536870912 := Nat.le_trans (Nat.mul_le_mul_right _ h) hk
theorem i_sl {n b x y : Nat} (h : n ≤ b) (hk : x + b ≤ y) : x + n ≤ y := by omega
theorem get_oldE {ws ws' : va_W} {x y : Nat × va_E} {k : Nat} (e : ws' = ws ++ [x]) (h : ws[k]? = some y) : ws'[k]? = some y := by rw [e]; exact get_old h
