/-! the method that is looked at, the draft too: laid by dup.py out of r338 .. r343 (behind sp_findHeights, McI) -/
def MtD (R T C : Nat → Int32) (rn ts cn L F M : Int) (fst len cf cc : Int32) : Prop := 0 ≤ fst.toInt ∧ (1 ≤ len.toInt ∧ len.toInt ≤ 1296) ∧ fst.toInt + len.toInt ≤ rn ∧ (∀ i : Nat, (i : Int) < len.toInt → rOK R T ts len.toInt L F M (fst.toInt.toNat + i)) ∧ wtS R fst.toInt.toNat len.toInt.toNat ≤ 3900 ∧ 0 ≤ cf.toInt ∧ (0 ≤ cc.toInt ∧ cc.toInt ≤ 16) ∧ cf.toInt + cc.toInt ≤ cn ∧ ∀ c : Nat, (c : Int) < cc.toInt → cOK C len.toInt (cf.toInt.toNat + c)
theorem MtI.d {R T C : Nat → Int32} {rn ts cn L F M : Int} {fst len cf cc : Int32} (h : MtI R T C rn ts cn L F M fst len cf cc) : MtD R T C rn ts cn L F M fst len cf cc := ⟨h.1, ⟨h.2.1.1, by have := h.2.1.2; omega⟩, h.2.2.1, h.2.2.2.1, by have := h.2.2.2.2.1; omega, h.2.2.2.2.2⟩
def okD (S : MS) (a : Nat) : Prop := (92 < a ∨ 60 ≤ a ∧ a ≤ 76) ∧ qT S a ≠ 0 ∧ qT S a ≠ 11
def okE (S : MS) (f : Nat) : Prop := ((92 < f ∨ f = 60) ∧ qT S f = 11) ∧ okD S (f + 3) ∧ okD S (f + 6) ∧ okD S (f + 7)
def lOD (S : MS) (s : Nat) (p : Int) : Prop := (okD S (s + 1) ∧ qN S (s + 1) ≤ 8) ∧ (∀ i : Nat, i < qN S (s + 1) → (qI S (s + 1) i).toInt = 73 ∨ (qI S (s + 1) i).toInt = 74 ∨ (qI S (s + 1) i).toInt = 65) ∧ plS S s ≤ p
def LkD (S : MS) : Prop := ((okE S (qO S 0 47) ∧ okD S (qO S 0 48) ∧ okD S (qO S 0 49) ∧ okD S (qO S 0 50)) ∧ qR S 0 47 = some (qO S 0 47) ∧ qR S 0 48 = some (qO S 0 48) ∧ qR S 0 49 = some (qO S 0 49) ∧ qR S 0 50 = some (qO S 0 50)) ∧ ∃ (L F M : Int) (nc ts cn : Nat), (qN S (qO S 0 48) = 3 * nc ∧ qN S (qO S 0 49) = ts ∧ qN S (qO S 0 50) = 4 * cn) ∧ (nc ≤ 40000 ∧ ts ≤ 40000 ∧ cn ≤ 384) ∧ ((0 ≤ L ∧ L ≤ 24) ∧ F ≤ 24 ∧ M ≤ 24) ∧ MtD (qI S (qO S 0 48)) (qI S (qO S 0 49)) (qI S (qO S 0 50)) nc ts cn L F M (qI S 0 51) (qI S 0 52) (qI S 0 53) (qI S 0 54) ∧ (qR S (qO S 0 47) 7 = some (qO S 0 47 + 3) ∧ qR S (qO S 0 47) 10 = some (qO S 0 47 + 6) ∧ qR S (qO S 0 47) 11 = some (qO S 0 47 + 7)) ∧ (qN S (qO S 0 47 + 3) = 24 ∧ qN S (qO S 0 47 + 6) = 24 ∧ qN S (qO S 0 47 + 7) = 24) ∧ (∀ i : Nat, (i : Int) < F → ∃ s : Nat, qR S (qO S 0 47 + 3) i = some s ∧ lOD S s 2) ∧ (∀ m : Nat, (m : Int) < M → (∃ s : Nat, qR S (qO S 0 47 + 6) m = some s ∧ lOD S s 8) ∧ ∃ s : Nat, qR S (qO S 0 47 + 7) m = some s ∧ lOD S s 2)
/-- the same method is looked at -/
def smD (S u : MS) : Prop := ((∀ a : Nat, okD S a → sm5 S u a) ∧ ∀ a : Nat, (92 < a ∨ a = 60) → qT S a = 11 → sm7 S u a) ∧ ∀ j : Nat, 47 ≤ j → j ≤ 54 → qI u 0 j = qI S 0 j ∧ qR u 0 j = qR S 0 j
theorem okD.mv {S u : MS} {a : Nat} (k : okD S a) (h : smD S u) : okD u a := ⟨k.1, by rw [(h.1.1 a k).2.2.2.1]; exact k.2⟩
theorem smD.rf {S : MS} : smD S S := ⟨⟨fun _ _ => sm5.rf, fun _ _ _ => sm5.rf.s7⟩, fun _ _ _ => ⟨rfl, rfl⟩⟩
theorem smD.tr {S u v : MS} (h : smD S u) (k : smD u v) : smD S v := ⟨⟨fun a ha => (h.1.1 a ha).tr (k.1.1 a (ha.mv h)), fun a ha hb => (h.1.2 a ha hb).tr (k.1.2 a ha (by rw [(h.1.2 a ha hb).2.2.1]; exact hb))⟩, fun j a b => ⟨(k.2 j a b).1.trans (h.2 j a b).1, (k.2 j a b).2.trans (h.2 j a b).2⟩⟩
theorem smD.fm {S u : MS} {W J : List Nat} (f : frm W J S u) (hW : ∀ w ∈ W, w < 60 ∨ 76 < w ∧ w ≤ 92) (hJ : ∀ j ∈ J, j < 47 ∨ 54 < j) : smD S u := by
  have z5 : ∀ a : Nat, (92 < a ∨ 60 ≤ a ∧ a ≤ 76) → sm5 S u a := fun a ha => by
    have z := f.2.2.2.2.1 a (by omega) (fun q => by have := hW a q; omega)
    exact ⟨z.1, z.2.1, z.2.2, by rw [f.1], by rw [f.2.1]⟩
  refine ⟨⟨fun a ha => z5 a ha.1, fun a ha _ => (z5 a (by omega)).s7⟩, fun j a b => ?_⟩
  have z := f.2.2.2.2.2 j (fun q => by have := hJ j q; omega)
  exact ⟨z.1, z.2.2⟩
theorem smD.qo {S u : MS} (h : smD S u) {j : Nat} (h0 : 47 ≤ j) (h1 : j ≤ 54) : qO u 0 j = qO S 0 j := by unfold qO; rw [(h.2 j h0 h1).2]
theorem smD.pl {S u : MS} (h : smD S u) {s : Nat} (hs : okD S (s + 1)) : plS u s = plS S s := by
  unfold plS
  rw [(h.1.1 (s + 1) hs).1, (h.1.1 (s + 1) hs).2.2.2.2]
theorem smD.lo {S u : MS} (h : smD S u) {s : Nat} {p : Int} (k : lOD S s p) : lOD u s p := by
  have z := h.1.1 (s + 1) k.1.1
  have k1 := k.1.1.mv h
  unfold lOD
  rw [h.pl k.1.1, z.1, z.2.2.2.2]
  exact ⟨⟨k1, k.1.2⟩, k.2⟩
theorem LkD.mv {S u : MS} (k : LkD S) (h : smD S u) : LkD u := by
  obtain ⟨⟨⟨n1, n2, n3, n4⟩, r1, r2, r3, r4⟩, L, F, M, nc, ts, cn, a, b, c, d, e, f, g, i⟩ := k
  unfold LkD
  rw [h.qo (j := 47) (by decide) (by decide), h.qo (j := 48) (by decide) (by decide), h.qo (j := 49) (by decide) (by decide), h.qo (j := 50) (by decide) (by decide), (h.2 47 (by decide) (by decide)).2, (h.2 48 (by decide) (by decide)).2, (h.2 49 (by decide) (by decide)).2, (h.2 50 (by decide) (by decide)).2, (h.2 51 (by decide) (by decide)).1, (h.2 52 (by decide) (by decide)).1, (h.2 53 (by decide) (by decide)).1, (h.2 54 (by decide) (by decide)).1, (h.1.1 _ n2).1, (h.1.1 _ n3).1, (h.1.1 _ n4).1, (h.1.1 _ n2).2.2.2.2, (h.1.1 _ n3).2.2.2.2, (h.1.1 _ n4).2.2.2.2]
  have zf := h.1.2 _ n1.1.1 n1.1.2
  rw [zf.2.1 7 (by decide), zf.2.1 10 (by decide), zf.2.1 11 (by decide)]
  have z3 := h.1.1 (qO S 0 47 + 3) n1.2.1
  have z6 := h.1.1 (qO S 0 47 + 6) n1.2.2.1
  have z7 := h.1.1 (qO S 0 47 + 7) n1.2.2.2
  refine ⟨⟨⟨⟨⟨n1.1.1, by rw [zf.2.2.1]; exact n1.1.2⟩, n1.2.1.mv h, n1.2.2.1.mv h, n1.2.2.2.mv h⟩, n2.mv h, n3.mv h, n4.mv h⟩, r1, r2, r3, r4⟩, L, F, M, nc, ts, cn, a, b, c, d, e, ?_, fun j hj => ?_, fun m hm => ⟨?_, ?_⟩⟩
  · rw [z3.2.2.2.2, z6.2.2.2.2, z7.2.2.2.2]; exact f
  · obtain ⟨s, s1, s2⟩ := g j hj
    exact ⟨s, by rw [z3.2.2.1]; exact s1, h.lo s2⟩
  · obtain ⟨s, s1, s2⟩ := (i m hm).1
    exact ⟨s, by rw [z6.2.2.1]; exact s1, h.lo s2⟩
  · obtain ⟨s, s1, s2⟩ := (i m hm).2
    exact ⟨s, by rw [z7.2.2.1]; exact s1, h.lo s2⟩
theorem LkD.cnt {S : MS} (h : LkD S) : (1 ≤ (qI S 0 52).toInt ∧ (qI S 0 52).toInt ≤ 1296) ∧ (0 ≤ (qI S 0 54).toInt ∧ (qI S 0 54).toInt ≤ 16) ∧ (0 ≤ (qI S 0 51).toInt ∧ (qI S 0 51).toInt ≤ 40000) ∧ (0 ≤ (qI S 0 53).toInt ∧ (qI S 0 53).toInt ≤ 384) := by
  obtain ⟨-, L, F, M, nc, ts, cn, a, b, c, d, -⟩ := h
  obtain ⟨d1, d2, d3, d4, d5, d6, d7, d8, d9⟩ := d
  exact ⟨d2, d7, by omega, by omega⟩
section
variable {S : MS} {x : Int32}
theorem lk_ix_d (h : LkD S) (hx : 0 ≤ x.toInt ∧ x.toInt < (qI S 0 52).toInt) : ((3 : Int32) * (qI S 0 51 + x)).toInt = 3 * ((qI S 0 51).toInt + x.toInt) ∧ ((3 : Int32) * (qI S 0 51 + x) + 1).toInt = 3 * ((qI S 0 51).toInt + x.toInt) + 1 ∧ ((3 : Int32) * (qI S 0 51 + x) + 2).toInt = 3 * ((qI S 0 51).toInt + x.toInt) + 2 := by
  have k := h.cnt
  have e : (qI S 0 51 + x).toInt = (qI S 0 51).toInt + x.toInt := t_add (by omega)
  have e3 : ((3 : Int32) * (qI S 0 51 + x)).toInt = 3 * ((qI S 0 51).toInt + x.toInt) := by rw [t_mul (by rw [li_3, e]; omega), li_3, e]
  exact ⟨e3, by rw [t_add (by rw [li_1, e3]; omega), li_1, e3], by rw [t_add (by rw [li_2, e3]; omega), li_2, e3]⟩
end
section
variable {S : MS} {x : Int32}
theorem LkD.dop (h : LkD S) (hx : 0 ≤ x.toInt ∧ x.toInt < (qI S 0 52).toInt) : d_op S x ∧ d_first S x ∧ d_second S x := by
  obtain ⟨e1, e2, e3⟩ := lk_ix_d h hx
  have k := h.cnt
  obtain ⟨⟨-, r1, r2, r3, r4⟩, L, F, M, nc, ts, cn, a, b, c, d, -⟩ := h
  have d3 := d.2.2.1
  exact ⟨⟨r2, ⟨by omega, by rw [a.1]; omega⟩, trivial⟩, ⟨r2, ⟨by omega, by rw [a.1]; omega⟩, trivial⟩, ⟨r2, ⟨by omega, by rw [a.1]; omega⟩, trivial⟩⟩
end
section
variable {S : MS} {x : Int32}
/-- what is known of the row at x -/
theorem LkD.rv (h : LkD S) (hx : 0 ≤ x.toInt ∧ x.toInt < (qI S 0 52).toInt) : ∃ (L F M : Int) (ts : Nat), ((0 ≤ L ∧ L ≤ 24) ∧ F ≤ 24 ∧ M ≤ 24) ∧ (qN S (qO S 0 49) = ts ∧ ts ≤ 40000) ∧ rV (qI S (qO S 0 49)) ts (qI S 0 52).toInt L F M (f_op S x) (f_first S x) (f_second S x) ∧ (∀ i : Nat, (i : Int) < F → ∃ s : Nat, qR S (qO S 0 47 + 3) i = some s ∧ lOD S s 2) ∧ (∀ m : Nat, (m : Int) < M → (∃ s : Nat, qR S (qO S 0 47 + 6) m = some s ∧ lOD S s 8) ∧ ∃ s : Nat, qR S (qO S 0 47 + 7) m = some s ∧ lOD S s 2) := by
  obtain ⟨e1, e2, e3⟩ := lk_ix_d h hx
  have k := h.cnt
  obtain ⟨-, L, F, M, nc, ts, cn, a, b, c, d, e, f, g, i⟩ := h
  refine ⟨L, F, M, ts, c, ⟨a.2.1, b.2.1⟩, ?_, g, i⟩
  have q := d.2.2.2.1 x.toInt.toNat (by omega)
  unfold rOK at q
  unfold f_op f_first f_second
  rw [e1, e2, e3, show (3 * ((qI S 0 51).toInt + x.toInt)).toNat = 3 * ((qI S 0 51).toInt.toNat + x.toInt.toNat) by omega, show (3 * ((qI S 0 51).toInt + x.toInt) + 1).toNat = 3 * ((qI S 0 51).toInt.toNat + x.toInt.toNat) + 1 by omega, show (3 * ((qI S 0 51).toInt + x.toInt) + 2).toNat = 3 * ((qI S 0 51).toInt.toNat + x.toInt.toNat) + 2 by omega]
  exact q
end
section
variable {S : MS} {x : Int32}
theorem LkD.dcw (h : LkD S) {c k : Int32} (hc : 0 ≤ c.toInt ∧ c.toInt < (qI S 0 54).toInt) (hk : 0 ≤ k.toInt ∧ k.toInt ≤ 3) : d_catchWord S c k := by
  have kk := h.cnt
  obtain ⟨⟨-, r1, r2, r3, r4⟩, L, F, M, nc, ts, cn, a, b, c', d, -⟩ := h
  have d8 := d.2.2.2.2.2.2.2.1
  have e : (qI S 0 53 + c).toInt = (qI S 0 53).toInt + c.toInt := t_add (by omega)
  have e4 : ((4 : Int32) * (qI S 0 53 + c)).toInt = 4 * ((qI S 0 53).toInt + c.toInt) := by rw [t_mul (by rw [li_4, e]; omega), li_4, e]
  have e5 : ((4 : Int32) * (qI S 0 53 + c) + k).toInt = 4 * ((qI S 0 53).toInt + c.toInt) + k.toInt := by rw [t_add (by rw [e4]; omega), e4]
  exact ⟨r4, ⟨by omega, by rw [a.2.2]; omega⟩, trivial⟩
end
section
variable {S : MS} {x : Int32}
theorem LkD.cw (h : LkD S) {c : Int32} (hc : 0 ≤ c.toInt ∧ c.toInt < (qI S 0 54).toInt) : (0 ≤ (f_catchWord S c 0).toInt ∧ (f_catchWord S c 0).toInt < (qI S 0 52).toInt) ∧ (0 ≤ (f_catchWord S c 1).toInt ∧ (f_catchWord S c 1).toInt ≤ (qI S 0 52).toInt) ∧ (0 ≤ (f_catchWord S c 2).toInt ∧ (f_catchWord S c 2).toInt < (qI S 0 52).toInt) ∧ -1 ≤ (f_catchWord S c 3).toInt ∧ (f_catchWord S c 3).toInt ≤ 3 := by
  have kk := h.cnt
  obtain ⟨-, L, F, M, nc, ts, cn, a, b, c', d, -⟩ := h
  have q := d.2.2.2.2.2.2.2.2 c.toInt.toNat (by omega)
  have e : (qI S 0 53 + c).toInt = (qI S 0 53).toInt + c.toInt := t_add (by omega)
  have e4 : ((4 : Int32) * (qI S 0 53 + c)).toInt = 4 * ((qI S 0 53).toInt + c.toInt) := by rw [t_mul (by rw [li_4, e]; omega), li_4, e]
  have e5 : ∀ k : Int32, 0 ≤ k.toInt → k.toInt ≤ 3 → ((4 : Int32) * (qI S 0 53 + c) + k).toInt.toNat = 4 * ((qI S 0 53).toInt.toNat + c.toInt.toNat) + k.toInt.toNat := fun k k0 k1 => by rw [t_add (by rw [e4]; omega), e4]; omega
  unfold f_catchWord
  rw [e5 0 (by decide) (by decide), e5 1 (by decide) (by decide), e5 2 (by decide) (by decide), e5 3 (by decide) (by decide)]
  exact q
end
section
variable {S : MS} {x : Int32}
theorem LkD.dic (h : LkD S) {c : Int32} (hc : 0 ≤ c.toInt ∧ c.toInt < (qI S 0 54).toInt) : d_isCaught S x c := by
  unfold d_isCaught d_isCaught_J24
  refine ⟨h.dcw hc (by decide), ?_⟩
  by_cases c1 : x.toInt < (f_catchWord S c 0).toInt
  · rw [if_pos c1]; trivial
  · rw [if_neg c1, ite_self]
    exact ⟨h.dcw hc (by decide), trivial⟩
end
def tkD (S : MS) (s : Nat) : Prop := okD S (s + 1) ∧ qN S (s + 1) ≤ 8 ∧ (∀ i : Nat, i < qN S (s + 1) → (qI S (s + 1) i).toInt = 73 ∨ (qI S (s + 1) i).toInt = 74 ∨ (qI S (s + 1) i).toInt = 65 ∨ (qI S (s + 1) i).toInt = 69 ∨ (qI S (s + 1) i).toInt = 82) ∧ 0 ≤ plS S s ∧ plS S s ≤ 8
def gvD (S : MS) (s : Nat) : Prop := okD S (s + 1) ∧ qN S (s + 1) ≤ 8 ∧ (∀ i : Nat, i < qN S (s + 1) → (qI S (s + 1) i).toInt = 73 ∨ (qI S (s + 1) i).toInt = 74 ∨ (qI S (s + 1) i).toInt = 65 ∨ (qI S (s + 1) i).toInt = 78 ∨ (qI S (s + 1) i).toInt = 82) ∧ 0 ≤ plS S s ∧ plS S s ≤ 8
theorem tx_tk_d {S : MS} (h : TxI S) {i s : Nat} (h0 : 5 ≤ i) (h1 : i ≤ 16) (e : s = TXB + 2 * i) : tkD S s := by
  obtain ⟨a, b, c⟩ := h i (by rw [show NTX = 19 from rfl]; omega)
  have k := txd1 h0 h1
  have ef : qI S (TXB + 2 * i + 1) = fun k => (sBr.getD i []).getD k 0 := funext c
  subst e
  unfold tkD plS
  rw [b, ef]
  exact ⟨⟨by rw [show TXB = 10000000 from rfl]; omega, by rw [a]; decide⟩, k.1, k.2.1, k.2.2.1, k.2.2.2⟩
theorem tx_gv_d {S : MS} (h : TxI S) {i s : Nat} (h0 : i = 8 ∨ i = 11 ∨ i = 12 ∨ i = 14 ∨ i = 16 ∨ i = 17) (e : s = TXB + 2 * i) : gvD S s := by
  obtain ⟨a, b, c⟩ := h i (by rw [show NTX = 19 from rfl]; omega)
  have k := txd2 h0
  have ef : qI S (TXB + 2 * i + 1) = fun k => (sBr.getD i []).getD k 0 := funext c
  subst e
  unfold gvD plS
  rw [b, ef]
  exact ⟨⟨by rw [show TXB = 10000000 from rfl]; omega, by rw [a]; decide⟩, k.1, k.2.1, k.2.2.1, k.2.2.2⟩
theorem lOD.tk {S : MS} {s : Nat} {p : Int} (h : lOD S s p) (hp : p ≤ 8) : tkD S s := ⟨h.1.1, h.1.2, fun i hi => by have := h.2.1 i hi; omega, pl_nn, by have := h.2.2; omega⟩
theorem lOD.gv {S : MS} {s : Nat} {p : Int} (h : lOD S s p) (hp : p ≤ 8) : gvD S s := ⟨h.1.1, h.1.2, fun i hi => by have := h.2.1 i hi; omega, pl_nn, by have := h.2.2; omega⟩
section
variable {S : MS} {x : Int32}
theorem own_fl_d (h : LkD S) (hx : 0 ≤ x.toInt ∧ x.toInt < (qI S 0 52).toInt) (ho : (f_op S x).toInt = 178 ∨ (f_op S x).toInt = 179) : (qO S (qO S 0 47) 7 = qO S 0 47 + 3 ∧ qR S (qO S 0 47) 7 = some (qO S (qO S 0 47) 7)) ∧ ((0 : Int) ≤ (f_first S x).toInt ∧ (f_first S x).toInt < (qN S (qO S (qO S 0 47) 7) : Int)) ∧ qR S (qO S (qO S 0 47) 7) (f_first S x).toInt.toNat = some (qO S (qO S (qO S 0 47) 7) (f_first S x).toInt.toNat) ∧ lOD S (qO S (qO S (qO S 0 47) 7) (f_first S x).toInt.toNat) 2 := by
  obtain ⟨L, F, M, ts, a, b, c, d, e⟩ := h.rv hx
  obtain ⟨-, L', F', M', nc, ts', cn, -, -, -, -, g, g2, -⟩ := h
  have k := c.2.2.2.2.2.1 ho
  have q7 : qO S (qO S 0 47) 7 = qO S 0 47 + 3 := by
    show (qR S (qO S 0 47) 7).getD 0 = _
    rw [g.1]; rfl
  obtain ⟨s, s1, s2⟩ := d (f_first S x).toInt.toNat (by omega)
  have qs : qO S (qO S (qO S 0 47) 7) (f_first S x).toInt.toNat = s := by
    rw [q7]
    show (qR S (qO S 0 47 + 3) (f_first S x).toInt.toNat).getD 0 = _
    rw [s1]; rfl
  rw [qs, q7]
  exact ⟨⟨rfl, g.1⟩, ⟨k.1, by rw [g2.1]; omega⟩, s1, s2⟩
end
section
variable {S : MS} {x : Int32}
theorem own_tk_d (h : LkD S) (hx : 0 ≤ x.toInt ∧ x.toInt < (qI S 0 52).toInt) (ho : (f_op S x).toInt = 184) : ((qO S (qO S 0 47) 10 = qO S 0 47 + 6 ∧ qR S (qO S 0 47) 10 = some (qO S (qO S 0 47) 10)) ∧ ((0 : Int) ≤ (f_first S x).toInt ∧ (f_first S x).toInt < (qN S (qO S (qO S 0 47) 10) : Int)) ∧ qR S (qO S (qO S 0 47) 10) (f_first S x).toInt.toNat = some (qO S (qO S (qO S 0 47) 10) (f_first S x).toInt.toNat) ∧ lOD S (qO S (qO S (qO S 0 47) 10) (f_first S x).toInt.toNat) 8) ∧ (qO S (qO S 0 47) 11 = qO S 0 47 + 7 ∧ qR S (qO S 0 47) 11 = some (qO S (qO S 0 47) 11)) ∧ ((0 : Int) ≤ (f_first S x).toInt ∧ (f_first S x).toInt < (qN S (qO S (qO S 0 47) 11) : Int)) ∧ qR S (qO S (qO S 0 47) 11) (f_first S x).toInt.toNat = some (qO S (qO S (qO S 0 47) 11) (f_first S x).toInt.toNat) ∧ lOD S (qO S (qO S (qO S 0 47) 11) (f_first S x).toInt.toNat) 2 := by
  obtain ⟨L, F, M, ts, a, b, c, d, e⟩ := h.rv hx
  obtain ⟨-, L', F', M', nc, ts', cn, -, -, -, -, g, g2, -⟩ := h
  have k := c.2.2.2.2.2.2 ho
  have q10 : qO S (qO S 0 47) 10 = qO S 0 47 + 6 := by
    show (qR S (qO S 0 47) 10).getD 0 = _
    rw [g.2.1]; rfl
  have q11 : qO S (qO S 0 47) 11 = qO S 0 47 + 7 := by
    show (qR S (qO S 0 47) 11).getD 0 = _
    rw [g.2.2]; rfl
  obtain ⟨⟨s, s1, s2⟩, t, t1, t2⟩ := e (f_first S x).toInt.toNat (by omega)
  have qs : qO S (qO S (qO S 0 47) 10) (f_first S x).toInt.toNat = s := by
    rw [q10]
    show (qR S (qO S 0 47 + 6) (f_first S x).toInt.toNat).getD 0 = _
    rw [s1]; rfl
  have qt : qO S (qO S (qO S 0 47) 11) (f_first S x).toInt.toNat = t := by
    rw [q11]
    show (qR S (qO S 0 47 + 7) (f_first S x).toInt.toNat).getD 0 = _
    rw [t1]; rfl
  rw [qs, qt, q10, q11]
  exact ⟨⟨⟨rfl, g.2.1⟩, ⟨k.1, by rw [g2.2.1]; omega⟩, s1, s2⟩, ⟨rfl, g.2.2⟩, ⟨k.1, by rw [g2.2.2]; omega⟩, t1, t2⟩
end
section
variable {S : MS} {x : Int32}
theorem LkD.dtk (h : LkD S) (hx : 0 ≤ x.toInt ∧ x.toInt < (qI S 0 52).toInt) : d_takesOf S x := by
  have r47 := h.1.2.1
  have df := (h.dop hx).2.1
  have k179 : (f_op S x).toInt = 179 → ((qR S 0 47 = some (qO S 0 47)) ∧ ((qR S (qO S 0 47) 7 = some (qO S (qO S 0 47) 7)) ∧ (d_first S x ∧ (((0 : Int) ≤ (f_first S x).toInt ∧ (f_first S x).toInt < (qN S (qO S (qO S 0 47) 7) : Int)) ∧ ((qR S (qO S (qO S 0 47) 7) (((f_first S x).toInt).toNat) = some (qO S (qO S (qO S 0 47) 7) (((f_first S x).toInt).toNat))) ∧ True))))) := fun q => by
    have k := own_fl_d h hx (Or.inr q)
    exact ⟨r47, k.1.2, df, k.2.1, k.2.2.1, trivial⟩
  have k184 : (f_op S x).toInt = 184 → ((qR S 0 47 = some (qO S 0 47)) ∧ ((qR S (qO S 0 47) 10 = some (qO S (qO S 0 47) 10)) ∧ (d_first S x ∧ (((0 : Int) ≤ (f_first S x).toInt ∧ (f_first S x).toInt < (qN S (qO S (qO S 0 47) 10) : Int)) ∧ ((qR S (qO S (qO S 0 47) 10) (((f_first S x).toInt).toNat) = some (qO S (qO S (qO S 0 47) 10) (((f_first S x).toInt).toNat))) ∧ True))))) := fun q => by
    have k := (own_tk_d h hx q).1
    exact ⟨r47, k.1.2, df, k.2.1, k.2.2.1, trivial⟩
  refine ⟨(h.dop hx).1, ?_⟩
  generalize f_op S x = op at k179 k184 ⊢
  unfold d_takesOf_J18 d_takesOf_J31 d_takesOf_J47 d_takesOf_J75 d_takesOf_J93
  have j111 : d_takesOf_J111 S x op := by
    unfold d_takesOf_J111
    by_cases c46 : op.toInt = 46
    · rw [if_pos c46]; trivial
    rw [if_neg c46]
    by_cases c54 : op.toInt = 54
    · rw [if_pos c54]; trivial
    rw [if_neg c54]
    by_cases c55 : op.toInt = 55
    · rw [if_pos c55]; trivial
    rw [if_neg c55]
    by_cases c58 : op.toInt = 58
    · rw [if_pos c58]; trivial
    rw [if_neg c58]
    by_cases c79 : op.toInt = 79
    · rw [if_pos c79]; trivial
    rw [if_neg c79]
    by_cases c116 : op.toInt = 116
    · rw [if_pos c116]; trivial
    rw [if_neg c116]
    by_cases c117 : op.toInt = 117
    · rw [if_pos c117]; trivial
    rw [if_neg c117]
    by_cases c133 : op.toInt = 133
    · rw [if_pos c133]; trivial
    rw [if_neg c133]
    by_cases c136 : op.toInt = 136
    · rw [if_pos c136]; trivial
    rw [if_neg c136]
    by_cases c145 : op.toInt = 145
    · rw [if_pos c145]; trivial
    rw [if_neg c145]
    by_cases c146 : op.toInt = 146
    · rw [if_pos c146]; trivial
    rw [if_neg c146]
    by_cases c147 : op.toInt = 147
    · rw [if_pos c147]; trivial
    rw [if_neg c147]
    by_cases c148 : op.toInt = 148
    · rw [if_pos c148]; trivial
    rw [if_neg c148]
    by_cases c165 : op.toInt = 165
    · rw [if_pos c165]; trivial
    rw [if_neg c165]
    by_cases c166 : op.toInt = 166
    · rw [if_pos c166]; trivial
    rw [if_neg c166]
    by_cases c170 : op.toInt = 170
    · rw [if_pos c170]; trivial
    rw [if_neg c170]
    by_cases c171 : op.toInt = 171
    · rw [if_pos c171]; trivial
    rw [if_neg c171]
    by_cases c172 : op.toInt = 172
    · rw [if_pos c172]; trivial
    rw [if_neg c172]
    by_cases c173 : op.toInt = 173
    · rw [if_pos c173]; trivial
    rw [if_neg c173]
    by_cases c176 : op.toInt = 176
    · rw [if_pos c176]; trivial
    rw [if_neg c176]
    by_cases c179 : op.toInt = 179
    · rw [if_pos c179]; exact k179 c179
    rw [if_neg c179]
    by_cases c184 : op.toInt = 184
    · rw [if_pos c184]; exact k184 c184
    rw [if_neg c184]
    trivial
  repeat' split
  all_goals first | trivial | exact j111
end
section
variable {S : MS} {x : Int32}
theorem LkD.tk (h : LkD S) (hx : 0 ≤ x.toInt ∧ x.toInt < (qI S 0 52).toInt) (ht : TxI S) : tkD S (f_takesOf S x) := by
  have t5 : tkD S 10000010 := tx_tk_d ht (i := 5) (by decide) (by decide) rfl
  have t6 : tkD S 10000012 := tx_tk_d ht (i := 6) (by decide) (by decide) rfl
  have t7 : tkD S 10000014 := tx_tk_d ht (i := 7) (by decide) (by decide) rfl
  have t8 : tkD S 10000016 := tx_tk_d ht (i := 8) (by decide) (by decide) rfl
  have t9 : tkD S 10000018 := tx_tk_d ht (i := 9) (by decide) (by decide) rfl
  have t10 : tkD S 10000020 := tx_tk_d ht (i := 10) (by decide) (by decide) rfl
  have t11 : tkD S 10000022 := tx_tk_d ht (i := 11) (by decide) (by decide) rfl
  have t12 : tkD S 10000024 := tx_tk_d ht (i := 12) (by decide) (by decide) rfl
  have t13 : tkD S 10000026 := tx_tk_d ht (i := 13) (by decide) (by decide) rfl
  have t14 : tkD S 10000028 := tx_tk_d ht (i := 14) (by decide) (by decide) rfl
  have t15 : tkD S 10000030 := tx_tk_d ht (i := 15) (by decide) (by decide) rfl
  have t16 : tkD S 10000032 := tx_tk_d ht (i := 16) (by decide) (by decide) rfl
  have k179 : (f_op S x).toInt = 179 → tkD S (qO S (qO S (qO S 0 47) 7) (f_first S x).toInt.toNat) := fun q => (own_fl_d h hx (Or.inr q)).2.2.2.tk (by decide)
  have k184 : (f_op S x).toInt = 184 → tkD S (qO S (qO S (qO S 0 47) 10) (f_first S x).toInt.toNat) := fun q => (own_tk_d h hx q).1.2.2.2.tk (by decide)
  unfold f_takesOf
  generalize f_op S x = op at k179 k184 ⊢
  have j31 : tkD S (f_takesOf_J31 S op) := by unfold f_takesOf_J31; split <;> assumption
  have j111 : tkD S (f_takesOf_J111 S x op) := by
    unfold f_takesOf_J111
    by_cases c46 : op.toInt = 46
    · rw [if_pos c46]; assumption
    rw [if_neg c46]
    by_cases c54 : op.toInt = 54
    · rw [if_pos c54]; assumption
    rw [if_neg c54]
    by_cases c55 : op.toInt = 55
    · rw [if_pos c55]; assumption
    rw [if_neg c55]
    by_cases c58 : op.toInt = 58
    · rw [if_pos c58]; assumption
    rw [if_neg c58]
    by_cases c79 : op.toInt = 79
    · rw [if_pos c79]; assumption
    rw [if_neg c79]
    by_cases c116 : op.toInt = 116
    · rw [if_pos c116]; assumption
    rw [if_neg c116]
    by_cases c117 : op.toInt = 117
    · rw [if_pos c117]; assumption
    rw [if_neg c117]
    by_cases c133 : op.toInt = 133
    · rw [if_pos c133]; assumption
    rw [if_neg c133]
    by_cases c136 : op.toInt = 136
    · rw [if_pos c136]; assumption
    rw [if_neg c136]
    by_cases c145 : op.toInt = 145
    · rw [if_pos c145]; assumption
    rw [if_neg c145]
    by_cases c146 : op.toInt = 146
    · rw [if_pos c146]; assumption
    rw [if_neg c146]
    by_cases c147 : op.toInt = 147
    · rw [if_pos c147]; assumption
    rw [if_neg c147]
    by_cases c148 : op.toInt = 148
    · rw [if_pos c148]; assumption
    rw [if_neg c148]
    by_cases c165 : op.toInt = 165
    · rw [if_pos c165]; assumption
    rw [if_neg c165]
    by_cases c166 : op.toInt = 166
    · rw [if_pos c166]; assumption
    rw [if_neg c166]
    by_cases c170 : op.toInt = 170
    · rw [if_pos c170]; assumption
    rw [if_neg c170]
    by_cases c171 : op.toInt = 171
    · rw [if_pos c171]; assumption
    rw [if_neg c171]
    by_cases c172 : op.toInt = 172
    · rw [if_pos c172]; assumption
    rw [if_neg c172]
    by_cases c173 : op.toInt = 173
    · rw [if_pos c173]; assumption
    rw [if_neg c173]
    by_cases c176 : op.toInt = 176
    · rw [if_pos c176]; assumption
    rw [if_neg c176]
    by_cases c179 : op.toInt = 179
    · rw [if_pos c179]; exact k179 c179
    rw [if_neg c179]
    by_cases c184 : op.toInt = 184
    · rw [if_pos c184]; exact k184 c184
    rw [if_neg c184]
    by_cases c188 : op.toInt = 188
    · rw [if_pos c188]; assumption
    rw [if_neg c188]
    by_cases c190 : op.toInt = 190
    · rw [if_pos c190]; assumption
    rw [if_neg c190]
    by_cases c191 : op.toInt = 191
    · rw [if_pos c191]; assumption
    rw [if_neg c191]
    by_cases c198 : op.toInt = 198
    · rw [if_pos c198]; assumption
    rw [if_neg c198]
    by_cases c199 : op.toInt = 199
    · rw [if_pos c199]; assumption
    rw [if_neg c199]
    assumption
  unfold f_takesOf_J18 f_takesOf_J47 f_takesOf_J75 f_takesOf_J93
  repeat' split
  all_goals assumption
end
section
variable {S : MS} {x : Int32}
theorem LkD.dgv (h : LkD S) (hx : 0 ≤ x.toInt ∧ x.toInt < (qI S 0 52).toInt) : d_givesOf S x := by
  have r47 := h.1.2.1
  have df := (h.dop hx).2.1
  have k178 : (f_op S x).toInt = 178 → ((qR S 0 47 = some (qO S 0 47)) ∧ ((qR S (qO S 0 47) 7 = some (qO S (qO S 0 47) 7)) ∧ (d_first S x ∧ (((0 : Int) ≤ (f_first S x).toInt ∧ (f_first S x).toInt < (qN S (qO S (qO S 0 47) 7) : Int)) ∧ ((qR S (qO S (qO S 0 47) 7) (((f_first S x).toInt).toNat) = some (qO S (qO S (qO S 0 47) 7) (((f_first S x).toInt).toNat))) ∧ True))))) := fun q => by
    have k := own_fl_d h hx (Or.inl q)
    exact ⟨r47, k.1.2, df, k.2.1, k.2.2.1, trivial⟩
  have k184 : (f_op S x).toInt = 184 → ((qR S 0 47 = some (qO S 0 47)) ∧ ((qR S (qO S 0 47) 11 = some (qO S (qO S 0 47) 11)) ∧ (d_first S x ∧ (((0 : Int) ≤ (f_first S x).toInt ∧ (f_first S x).toInt < (qN S (qO S (qO S 0 47) 11) : Int)) ∧ ((qR S (qO S (qO S 0 47) 11) (((f_first S x).toInt).toNat) = some (qO S (qO S (qO S 0 47) 11) (((f_first S x).toInt).toNat))) ∧ True))))) := fun q => by
    have k := (own_tk_d h hx q).2
    exact ⟨r47, k.1.2, df, k.2.1, k.2.2.1, trivial⟩
  refine ⟨(h.dop hx).1, ?_⟩
  generalize f_op S x = op at k178 k184 ⊢
  unfold d_givesOf_J18 d_givesOf_J31
  have j47 : d_givesOf_J47 S x op := by
    unfold d_givesOf_J47
    by_cases c1 : op.toInt = 1
    · rw [if_pos c1]; trivial
    rw [if_neg c1]
    by_cases c18 : op.toInt = 18
    · rw [if_pos c18]; trivial
    rw [if_neg c18]
    by_cases c20 : op.toInt = 20
    · rw [if_pos c20]; trivial
    rw [if_neg c20]
    by_cases c21 : op.toInt = 21
    · rw [if_pos c21]; trivial
    rw [if_neg c21]
    by_cases c22 : op.toInt = 22
    · rw [if_pos c22]; trivial
    rw [if_neg c22]
    by_cases c25 : op.toInt = 25
    · rw [if_pos c25]; trivial
    rw [if_neg c25]
    by_cases c46 : op.toInt = 46
    · rw [if_pos c46]; trivial
    rw [if_neg c46]
    by_cases c133 : op.toInt = 133
    · rw [if_pos c133]; trivial
    rw [if_neg c133]
    by_cases c136 : op.toInt = 136
    · rw [if_pos c136]; trivial
    rw [if_neg c136]
    by_cases c145 : op.toInt = 145
    · rw [if_pos c145]; trivial
    rw [if_neg c145]
    by_cases c146 : op.toInt = 146
    · rw [if_pos c146]; trivial
    rw [if_neg c146]
    by_cases c147 : op.toInt = 147
    · rw [if_pos c147]; trivial
    rw [if_neg c147]
    by_cases c148 : op.toInt = 148
    · rw [if_pos c148]; trivial
    rw [if_neg c148]
    by_cases c178 : op.toInt = 178
    · rw [if_pos c178]; exact k178 c178
    rw [if_neg c178]
    by_cases c184 : op.toInt = 184
    · rw [if_pos c184]; exact k184 c184
    rw [if_neg c184]
    trivial
  repeat' split
  all_goals first | trivial | exact j47
end
section
variable {S : MS} {x : Int32}
theorem LkD.gv (h : LkD S) (hx : 0 ≤ x.toInt ∧ x.toInt < (qI S 0 52).toInt) (ht : TxI S) : gvD S (f_givesOf S x) := by
  have t8 : gvD S 10000016 := tx_gv_d ht (i := 8) (by decide) rfl
  have t11 : gvD S 10000022 := tx_gv_d ht (i := 11) (by decide) rfl
  have t12 : gvD S 10000024 := tx_gv_d ht (i := 12) (by decide) rfl
  have t14 : gvD S 10000028 := tx_gv_d ht (i := 14) (by decide) rfl
  have t16 : gvD S 10000032 := tx_gv_d ht (i := 16) (by decide) rfl
  have t17 : gvD S 10000034 := tx_gv_d ht (i := 17) (by decide) rfl
  have k178 : (f_op S x).toInt = 178 → gvD S (qO S (qO S (qO S 0 47) 7) (f_first S x).toInt.toNat) := fun q => (own_fl_d h hx (Or.inl q)).2.2.2.gv (by decide)
  have k184 : (f_op S x).toInt = 184 → gvD S (qO S (qO S (qO S 0 47) 11) (f_first S x).toInt.toNat) := fun q => (own_tk_d h hx q).2.2.2.2.gv (by decide)
  unfold f_givesOf
  generalize f_op S x = op at k178 k184 ⊢
  have j31 : gvD S (f_givesOf_J31 S op) := by unfold f_givesOf_J31; split <;> assumption
  have j47 : gvD S (f_givesOf_J47 S x op) := by
    unfold f_givesOf_J47
    by_cases c1 : op.toInt = 1
    · rw [if_pos c1]; assumption
    rw [if_neg c1]
    by_cases c18 : op.toInt = 18
    · rw [if_pos c18]; assumption
    rw [if_neg c18]
    by_cases c20 : op.toInt = 20
    · rw [if_pos c20]; assumption
    rw [if_neg c20]
    by_cases c21 : op.toInt = 21
    · rw [if_pos c21]; assumption
    rw [if_neg c21]
    by_cases c22 : op.toInt = 22
    · rw [if_pos c22]; assumption
    rw [if_neg c22]
    by_cases c25 : op.toInt = 25
    · rw [if_pos c25]; assumption
    rw [if_neg c25]
    by_cases c46 : op.toInt = 46
    · rw [if_pos c46]; assumption
    rw [if_neg c46]
    by_cases c133 : op.toInt = 133
    · rw [if_pos c133]; assumption
    rw [if_neg c133]
    by_cases c136 : op.toInt = 136
    · rw [if_pos c136]; assumption
    rw [if_neg c136]
    by_cases c145 : op.toInt = 145
    · rw [if_pos c145]; assumption
    rw [if_neg c145]
    by_cases c146 : op.toInt = 146
    · rw [if_pos c146]; assumption
    rw [if_neg c146]
    by_cases c147 : op.toInt = 147
    · rw [if_pos c147]; assumption
    rw [if_neg c147]
    by_cases c148 : op.toInt = 148
    · rw [if_pos c148]; assumption
    rw [if_neg c148]
    by_cases c178 : op.toInt = 178
    · rw [if_pos c178]; exact k178 c178
    rw [if_neg c178]
    by_cases c184 : op.toInt = 184
    · rw [if_pos c184]; exact k184 c184
    rw [if_neg c184]
    by_cases c188 : op.toInt = 188
    · rw [if_pos c188]; assumption
    rw [if_neg c188]
    by_cases c190 : op.toInt = 190
    · rw [if_pos c190]; assumption
    rw [if_neg c190]
    assumption
  unfold f_givesOf_J18
  repeat' split
  all_goals assumption
end
section
variable {S : MS} {x : Int32}
theorem b_tg_d (h : LkD S) (hx : 0 ≤ x.toInt ∧ x.toInt < (qI S 0 52).toInt) (ht : TxI S) : (0 ≤ tkV S x ∧ tkV S x ≤ 8) ∧ 0 ≤ gvV S x ∧ gvV S x ≤ 8 := by
  have k := h.tk hx ht
  have g := h.gv hx ht
  obtain ⟨m1, m2, m3, m4, -, -⟩ := b_mv (S := S) (op := f_op S x)
  unfold tkV gvV
  obtain ⟨-, -, -, k1, k2⟩ := k
  obtain ⟨-, -, -, g1, g2⟩ := g
  refine ⟨⟨?_, ?_⟩, ?_, ?_⟩ <;> split <;> omega
end
section
variable {S : MS} {x : Int32}
theorem fn_hb_d {y : Int32} (h : LkD S) (hx : 0 ≤ x.toInt ∧ x.toInt < (qI S 0 52).toInt) (ht : TxI S) (hy : 0 ≤ y.toInt ∧ y.toInt ≤ 40) : w_heightBehind S x y (fun r u => u = S ∧ r.toInt = hbV S x y.toInt) := by
  obtain ⟨m1, m2, m3, m4, m5, m6⟩ := b_mv (S := S) (op := f_op S x)
  have k := h.tk hx ht
  have g := h.gv hx ht
  have bt := b_tg_d h hx ht
  have d := h.dop hx
  have st : ∀ t : Int32, t.toInt = tkV S x → w_heightBehind_J28 (fun r u => u = S ∧ r.toInt = hbV S x y.toInt) S t x y (f_op S x) := fun t et => by
    unfold w_heightBehind_J28
    have e1 : (y - t).toInt = y.toInt - t.toInt := t_sub (by omega)
    refine ⟨fun c => ⟨m5, fun c2 => ⟨h.dgv hx, _, fn_places (by have := g.2.1; omega) (fun i hi => by have := g.2.2.1 i hi; omega), ?_⟩, fun c2 => ⟨m6, rfl, ?_⟩⟩, fun c => ⟨rfl, ?_⟩⟩
    · rintro r u ⟨rfl, er⟩
      have eg : gvV u x = r.toInt := by unfold gvV; rw [if_neg (by omega), er]
      refine ⟨rfl, ?_⟩
      unfold hbV
      rw [if_pos (by omega), t_add (by omega), e1, et, eg]
    · have eg : gvV S x = (f_left S (f_op S x)).toInt := by unfold gvV; rw [if_pos (by omega)]
      unfold hbV
      rw [if_pos (by omega), t_add (by omega), e1, et, eg]
    · unfold hbV
      rw [if_neg (by omega)]
      rfl
  unfold w_heightBehind
  refine ⟨d.1, fun a ea => ?_⟩
  subst ea
  refine ⟨m5, fun c => ⟨h.dtk hx, _, fn_places (by have := k.2.1; omega) (fun i hi => by have := k.2.2.1 i hi; omega), ?_⟩, fun c => ⟨m5, st _ (by unfold tkV; rw [if_pos (by omega)])⟩⟩
  rintro r u ⟨rfl, er⟩
  exact st r (by unfold tkV; rw [if_neg (by omega), er])

end
theorem smD.op {S u : MS} (h : smD S u) (k : LkD S) (x : Int32) : f_op u x = f_op S x ∧ f_first u x = f_first S x ∧ f_second u x = f_second S x := by
  unfold f_op f_first f_second
  rw [h.qo (j := 48) (by decide) (by decide), (h.2 51 (by decide) (by decide)).1, (h.1.1 _ k.1.1.2.1).1]
  exact ⟨rfl, rfl, rfl⟩
theorem smD.cw {S u : MS} (h : smD S u) (k : LkD S) (c w : Int32) : f_catchWord u c w = f_catchWord S c w := by
  unfold f_catchWord
  rw [h.qo (j := 50) (by decide) (by decide), (h.2 53 (by decide) (by decide)).1, (h.1.1 _ k.1.1.2.2.2).1]
theorem smD.ic {S u : MS} (h : smD S u) (k : LkD S) (x c : Int32) : f_isCaught u x c = f_isCaught S x c := by
  unfold f_isCaught f_isCaught_J24
  rw [h.cw k, h.cw k]
theorem smD.wy {S u : MS} (h : smD S u) (k : LkD S) (x c : Int32) : f_ways u x = f_ways S x ∧ f_way u x c = f_way S x c := by
  unfold f_ways f_way
  rw [(h.op k x).1, (h.op k x).2.1, (h.op k x).2.2, h.qo (j := 49) (by decide) (by decide), (h.1.1 _ k.1.1.2.2.1).1]
  exact ⟨rfl, rfl⟩
theorem smD.own {S u : MS} (h : smD S u) (k : LkD S) : (∀ j : Nat, qO u (qO u (qO u 0 47) 7) j = qO S (qO S (qO S 0 47) 7) j) ∧ (∀ j : Nat, qO u (qO u (qO u 0 47) 10) j = qO S (qO S (qO S 0 47) 10) j) ∧ ∀ j : Nat, qO u (qO u (qO u 0 47) 11) j = qO S (qO S (qO S 0 47) 11) j := by
  obtain ⟨⟨⟨n1, -⟩, -⟩, L, F, M, nc, ts, cn, -, -, -, -, g, -⟩ := k
  have e : qO u 0 47 = qO S 0 47 := h.qo (by decide) (by decide)
  have z : ∀ i : Nat, i ≠ 22 → qO u (qO S 0 47) i = qO S (qO S 0 47) i := fun i hi => by
    show (qR u (qO S 0 47) i).getD 0 = (qR S (qO S 0 47) i).getD 0
    rw [(h.1.2 _ n1.1.1 n1.1.2).2.1 i hi]
  have q7 : qO S (qO S 0 47) 7 = qO S 0 47 + 3 := by show (qR S (qO S 0 47) 7).getD 0 = _; rw [g.1]; rfl
  have q10 : qO S (qO S 0 47) 10 = qO S 0 47 + 6 := by show (qR S (qO S 0 47) 10).getD 0 = _; rw [g.2.1]; rfl
  have q11 : qO S (qO S 0 47) 11 = qO S 0 47 + 7 := by show (qR S (qO S 0 47) 11).getD 0 = _; rw [g.2.2]; rfl
  rw [e, z 7 (by decide), z 10 (by decide), z 11 (by decide), q7, q10, q11]
  refine ⟨fun j => ?_, fun j => ?_, fun j => ?_⟩
  · show (qR u (qO S 0 47 + 3) j).getD 0 = (qR S (qO S 0 47 + 3) j).getD 0
    rw [(h.1.1 (qO S 0 47 + 3) n1.2.1).2.2.1]
  · show (qR u (qO S 0 47 + 6) j).getD 0 = (qR S (qO S 0 47 + 6) j).getD 0
    rw [(h.1.1 (qO S 0 47 + 6) n1.2.2.1).2.2.1]
  · show (qR u (qO S 0 47 + 7) j).getD 0 = (qR S (qO S 0 47 + 7) j).getD 0
    rw [(h.1.1 (qO S 0 47 + 7) n1.2.2.2).2.2.1]
theorem smD.tg {S u : MS} (h : smD S u) (k : LkD S) (x : Int32) : f_takesOf u x = f_takesOf S x ∧ f_givesOf u x = f_givesOf S x := by
  obtain ⟨o1, o2, o3⟩ := h.own k
  have e1 := (h.op k x).1
  have e2 := (h.op k x).2.1
  constructor
  · unfold f_takesOf
    rw [e1]
    generalize f_op S x = op
    have j : f_takesOf_J111 u x op = f_takesOf_J111 S x op := by unfold f_takesOf_J111; rw [e2, o1, o2]
    unfold f_takesOf_J18 f_takesOf_J31 f_takesOf_J47 f_takesOf_J75 f_takesOf_J93
    rw [j]
  · unfold f_givesOf
    rw [e1]
    generalize f_op S x = op
    have j : f_givesOf_J47 u x op = f_givesOf_J47 S x op := by unfold f_givesOf_J47; rw [e2, o1, o3]
    unfold f_givesOf_J18 f_givesOf_J31
    rw [j]
theorem smD.tx {S u : MS} (h : smD S u) (k : TxI S) : TxI u := fun i hi => by
  obtain ⟨a, b, c⟩ := k i hi
  have z := h.1.1 (TXB + 2 * i + 1) ⟨by rw [show TXB = 10000000 from rfl]; omega, by rw [a]; decide⟩
  exact ⟨z.2.2.2.1.trans a, z.2.2.2.2.trans b, fun j => by rw [z.1]; exact c j⟩
theorem smD.tv {S u : MS} (h : smD S u) (k : LkD S) (t : TxI S) {x : Int32} (hx : 0 ≤ x.toInt ∧ x.toInt < (qI S 0 52).toInt) : tkV u x = tkV S x ∧ gvV u x = gvV S x ∧ ∀ y : Int, hbV u x y = hbV S x y := by
  have e1 := (h.op k x).1
  have a := (h.tg k x).1
  have b := (h.tg k x).2
  have m1 : tkV u x = tkV S x := by
    unfold tkV
    rw [e1, a, h.pl (k.tk hx t).1]
    rfl
  have m2 : gvV u x = gvV S x := by
    unfold gvV
    rw [e1, b, h.pl (k.gv hx t).1]
    rfl
  refine ⟨m1, m2, fun y => ?_⟩
  unfold hbV
  rw [m1, m2]
theorem smD.hc {S u : MS} (h : smD S u) (k : LkD S) (x : Int32) : hcV u x ↔ hcV S x := by
  unfold hcV
  rw [(h.2 54 (by decide) (by decide)).1]
  constructor
  · rintro ⟨c, a, b⟩; exact ⟨c, a, by rw [← h.ic k]; exact b⟩
  · rintro ⟨c, a, b⟩; exact ⟨c, a, by rw [h.ic k]; exact b⟩
theorem smD.rg {S u : MS} (h : smD S u) (k : LkD S) (t : TxI S) (e : qI u 0 56 = qI S 0 56) {x : Int32} (hx : 0 ≤ x.toInt ∧ x.toInt < (qI S 0 52).toInt) {y : Int} : rgV u x y ↔ rgV S x y := by
  unfold rgV
  rw [(h.tv k t hx).2.2, e, h.hc k, (h.op k x).1, (h.2 52 (by decide) (by decide)).1]
  exact Iff.rfl
theorem fn_hasCatch_d {S : MS} {x : Int32} (h : LkD S) : w_hasCatch S x (fun r u => u = S ∧ (r.toInt ≠ 0 ↔ hcV S x)) := by
  have kc := h.cnt
  have L : ∀ (m : Nat) (c : Int32), (0 ≤ c.toInt ∧ c.toInt ≤ (qI S 0 54).toInt) → (∀ c' : Int32, 0 ≤ c'.toInt → c'.toInt < c.toInt → (f_isCaught S x c').toInt = 0) → (16 - c.toInt).toNat < m → w_hasCatch_L2 (fun r u => u = S ∧ (r.toInt ≠ 0 ↔ hcV S x)) m S x c := by
    intro m
    induction m with
    | zero => intro c _ _ h9; exact absurd h9 (Nat.not_lt_zero _)
    | succ m ih =>
      intro c hc hb hm
      have ec : (c + Int32.ofInt 1).toInt = c.toInt + 1 := by rw [t_add (by rw [lo_1]; omega), lo_1]
      unfold w_hasCatch_L2
      refine ⟨fun q => ⟨rfl, ⟨fun z => absurd rfl z, fun ⟨c', a, b⟩ => absurd (hb c' a.1 (by omega)) b⟩⟩, fun q => ⟨h.dic ⟨hc.1, by omega⟩, fun z a ea => ?_, fun z => ⟨rfl, ⟨fun _ => ⟨c, ⟨hc.1, by omega⟩, z⟩, fun _ => by decide⟩⟩⟩⟩
      subst ea
      refine ih _ ⟨by omega, by omega⟩ (fun c' a b => ?_) (by omega)
      by_cases w : c'.toInt < c.toInt
      · exact hb c' a w
      · have : c' = c := Int32.toInt_inj.mp (by omega)
        rw [this]; exact z
  unfold w_hasCatch
  exact ⟨_, L _ 0 ⟨by decide, by rw [li_0]; omega⟩ (fun c' a b => by rw [li_0] at b; omega) (Nat.lt_succ_self _)⟩
theorem fn_rg_d {S : MS} {x y : Int32} (h : LkD S) (hx : 0 ≤ x.toInt ∧ x.toInt < (qI S 0 52).toInt) (ht : TxI S) (hy : 0 ≤ y.toInt ∧ y.toInt ≤ 40) : w_isRightHeight S x y (fun r u => u = S ∧ (r.toInt ≠ 0 ↔ rgV S x y.toInt)) := by
  have kc := h.cnt
  have e1 : (qI S 0 52 - (1 : Int32)).toInt = (qI S 0 52).toInt - 1 := by rw [t_sub (by rw [li_1]; omega), li_1]
  unfold w_isRightHeight
  refine ⟨_, fn_hb_d h hx ht hy, ?_⟩
  rintro r u ⟨rfl, er⟩
  have no : ¬ rgV u x y.toInt → w_isRightHeight_J59 (fun r S => S = u ∧ (r.toInt ≠ 0 ↔ rgV u x y.toInt)) u := fun q => ⟨rfl, ⟨fun z => absurd rfl z, fun z => absurd z q⟩⟩
  have st : 0 ≤ r.toInt → r.toInt ≤ (qI u 0 56).toInt → (0 < (qI u 0 56).toInt ∨ ¬ hcV u x) → w_isRightHeight_J34 (fun r S => S = u ∧ (r.toInt ≠ 0 ↔ rgV u x y.toInt)) u x := fun a b c => by
    unfold w_isRightHeight_J34 w_isRightHeight_J55
    rw [e1]
    refine ⟨(h.dop hx).1, d_gO, fun q => ⟨rfl, ⟨fun _ => ⟨by omega, by omega, c, Or.inl q⟩, fun _ => by decide⟩⟩, fun q => ⟨fun q2 => no (fun z => ?_), fun q2 => ⟨rfl, ⟨fun _ => ⟨by omega, by omega, c, Or.inr q2⟩, fun _ => by decide⟩⟩⟩⟩
    rcases z.2.2.2 with w | w
    · exact q w
    · exact w q2
  refine ⟨fun c => no (fun z => by have := z.1; omega), fun c => ⟨fun c2 => no (fun z => by have := z.2.1; omega), fun c2 => ⟨fun c3 => st (by omega) (by omega) (Or.inl c3), fun c3 => ⟨_, fn_hasCatch_d h, ?_⟩⟩⟩⟩
  rintro r2 u2 ⟨rfl, e2⟩
  refine ⟨fun q => st (by omega) (by omega) (Or.inr (fun z => e2.mpr z q)), fun q => no (fun z => ?_)⟩
  rcases z.2.2.1 with w | w
  · exact c3 w
  · exact w (e2.mp q)
theorem HtS.sL_d {S u : MS} (h : HtS S u) : smD S u := smD.fm h.1 (by decide) (by decide)
theorem sp_come_d {S : MS} {x y : Int32} (hc : (qI S 0 52).toInt ≤ 1296) (hx : 0 ≤ x.toInt ∧ x.toInt < (qI S 0 52).toInt) (hy : 0 ≤ y.toInt ∧ y.toInt ≤ 31) : w_come S x y (fun u => HtS S u ∧ bt (qI u 22 x.toInt.toNat) y.toInt.toNat = true ∧ ∀ i k : Nat, bt (qI u 22 i) k = true → bt (qI S 22 i) k = true ∨ k = y.toInt.toNat) := by
  have grow : ∀ k : Nat, bt (qI S 22 x.toInt.toNat) k = true → bt (qI S 22 x.toInt.toNat ||| ((1 : Int32) <<< (y &&& 31))) k = true := fun k q => by
    by_cases z : k < 32
    · rw [bt_or hy.1 hy.2 z, q]; rfl
    · rw [bt_hi (by omega)] at q; exact absurd q (by decide)
  -- the end, with t the new mark
  have st : ∀ t : Int32, (t.toInt = 0 → (qI S 0 57).toInt = 0 ∧ (qI S 22 x.toInt.toNat ||| ((1 : Int32) <<< (y &&& 31))) = qI S 22 x.toInt.toNat) → ((qI S 0 57).toInt = 0 → t.toInt ≠ 0 → (qI S 22 x.toInt.toNat ||| ((1 : Int32) <<< (y &&& 31))) ≠ qI S 22 x.toInt.toNat) → w_come_J34 (fun u => HtS S u ∧ bt (qI u 22 x.toInt.toNat) y.toInt.toNat = true ∧ ∀ i k : Nat, bt (qI u 22 i) k = true → bt (qI S 22 i) k = true ∨ k = y.toInt.toNat) S t x (qI S 22 x.toInt.toNat ||| ((1 : Int32) <<< (y &&& 31))) := fun t ht ht2 => by
    unfold w_come_J34
    refine fun A eA => ⟨⟨hx.1, by omega⟩, fun B eB => ?_⟩
    have fB : frm [22] [57] S B := by
      have f1 : frm [22] [57] S A := by rw [eA]; exact frm.pI0 (by decide)
      have f2 : frm [22] [57] A B := by rw [eB]; exact frm.pI (by decide)
      exact f1.tr f2
    have b57 : qI B 0 57 = t := by rw [eB, rdH (by decide), eA, qI_wI, if_pos ⟨rfl, rfl⟩]
    have b52 : qI B 0 52 = qI S 0 52 := (fB.2.2.2.2.2 52 (by decide)).1
    have b22 : ∀ j : Nat, qI B 22 j = if j = x.toInt.toNat then (qI S 22 x.toInt.toNat ||| ((1 : Int32) <<< (y &&& 31))) else qI S 22 j := fun j => by
      rw [eB, qI_wI]
      by_cases z : j = x.toInt.toNat
      · rw [if_pos ⟨rfl, z⟩, if_pos z]
      · rw [if_neg (fun q => z q.2), if_neg z, eA, rdH (by decide)]
    have hup := sumN_upd (g := fun i => cnt0 (qI S 22 i) 32) (g' := fun i => cnt0 (qI B 22 i) 32) (i := x.toInt.toNat) (fun j hj => by show cnt0 (qI B 22 j) 32 = _; rw [b22, if_neg hj]) (qI S 0 52).toInt.toNat (by omega)
    have ex : qI B 22 x.toInt.toNat = (qI S 22 x.toInt.toNat ||| ((1 : Int32) <<< (y &&& 31))) := by rw [b22, if_pos rfl]
    have hle : cnt0 (qI B 22 x.toInt.toNat) 32 ≤ cnt0 (qI S 22 x.toInt.toNat) 32 := by rw [ex]; exact cnt0_le grow 32
    refine ⟨⟨fB, fun i k q => ?_, fun q => ?_, ?_, fun p q => ?_⟩, ?_, fun i k q => ?_⟩
    · rw [b22]
      by_cases z : i = x.toInt.toNat
      · rw [if_pos z]; rw [z] at q; exact grow k q
      · rw [if_neg z]; exact q
    · rw [b57] at q
      refine ⟨(ht q).1, funext (fun j => ?_)⟩
      rw [b22]
      by_cases z : j = x.toInt.toNat
      · rw [if_pos z, (ht q).2, z]
      · rw [if_neg z]
    · unfold Mh
      rw [b52]
      omega
    · rw [b57] at q
      have ne := ht2 p q
      have lt : cnt0 (qI B 22 x.toInt.toNat) 32 < cnt0 (qI S 22 x.toInt.toNat) 32 := by
        rw [ex]
        by_cases w : ∃ k : Nat, k < 32 ∧ bt (qI S 22 x.toInt.toNat ||| ((1 : Int32) <<< (y &&& 31))) k = true ∧ ¬ bt (qI S 22 x.toInt.toNat) k = true
        · obtain ⟨k, k0, k1, k2⟩ := w
          exact cnt0_lt grow k1 k2 32 k0
        · exact absurd (bt_ext (fun k hk => by
            by_cases a : bt (qI S 22 x.toInt.toNat) k = true
            · rw [a, grow k a]
            · by_cases b : bt (qI S 22 x.toInt.toNat ||| ((1 : Int32) <<< (y &&& 31))) k = true
              · exact absurd ⟨k, hk, b, a⟩ w
              · rw [Bool.eq_false_iff.mpr a, Bool.eq_false_iff.mpr b])) ne
      unfold Mh
      rw [b52]
      omega
    · rw [ex, bt_or hy.1 hy.2 (by omega)]
      simp
    · rw [b22] at q
      by_cases z : i = x.toInt.toNat
      · rw [if_pos z] at q
        by_cases w : k < 32
        · rw [bt_or hy.1 hy.2 w] at q
          rw [Bool.or_eq_true, decide_eq_true_eq] at q
          rw [z]
          exact q
        · rw [bt_hi (by omega)] at q; exact absurd q (by decide)
      · rw [if_neg z] at q; exact Or.inl q
  unfold w_come
  refine ⟨⟨hx.1, by omega⟩, fun a ea => ?_⟩
  subst ea
  refine ⟨fun c => ⟨⟨hx.1, by omega⟩, fun q => st 0 (fun _ => ⟨c, Int32.toInt_inj.mp q⟩) (fun _ z => absurd rfl z), fun q => ?_⟩, fun c => ?_⟩
  · unfold w_come_J29
    exact st 1 (fun z => absurd z (by decide)) (fun _ _ z => q (by rw [z]))
  · unfold w_come_J29
    exact st 1 (fun z => absurd z (by decide)) (fun z _ => absurd z c)

theorem LkD.ways {S : MS} {x : Int32} (h : LkD S) (hx : 0 ≤ x.toInt ∧ x.toInt < (qI S 0 52).toInt) : d_ways S x ∧ (0 ≤ (f_ways S x).toInt ∧ (f_ways S x).toInt ≤ 202) ∧ ∀ k : Int32, 0 ≤ k.toInt → k.toInt < (f_ways S x).toInt → d_way S x k ∧ 0 ≤ (f_way S x k).toInt ∧ (f_way S x k).toInt < (qI S 0 52).toInt := by
  obtain ⟨d1, d2, d3⟩ := h.dop hx
  obtain ⟨L, F, M, ts, a, b, c, -, -⟩ := h.rv hx
  have r49 := h.1.2.2.2.1
  obtain ⟨v1, v2, v3, -⟩ := c
  have dj : d_isJump S (f_op S x) := by
    unfold d_isJump d_isJump_J14 d_isJump_J28
    simp only [ite_self]
  have dw : d_isSwitch S (f_op S x) := by
    unfold d_isSwitch d_isSwitch_J14
    simp only [ite_self]
  have fj : (f_isJump S (f_op S x)).toInt ≠ 0 → (153 ≤ (f_op S x).toInt ∧ (f_op S x).toInt ≤ 167) ∨ (f_op S x).toInt = 198 ∨ (f_op S x).toInt = 199 := fun q => by
    unfold f_isJump f_isJump_J14 f_isJump_J28 at q
    by_cases c1 : (f_op S x).toInt < 153
    · rw [if_pos c1] at q
      by_cases c2 : (f_op S x).toInt = 198
      · exact Or.inr (Or.inl c2)
      · rw [if_neg c2] at q
        by_cases c3 : (f_op S x).toInt = 199
        · exact Or.inr (Or.inr c3)
        · rw [if_neg c3] at q; exact absurd rfl q
    · rw [if_neg c1] at q
      by_cases c2 : (f_op S x).toInt ≤ 167
      · exact Or.inl ⟨by omega, c2⟩
      · rw [if_neg c2] at q
        by_cases c3 : (f_op S x).toInt = 198
        · exact Or.inr (Or.inl c3)
        · rw [if_neg c3] at q
          by_cases c4 : (f_op S x).toInt = 199
          · exact Or.inr (Or.inr c4)
          · rw [if_neg c4] at q; exact absurd rfl q
  have fw : (f_isSwitch S (f_op S x)).toInt ≠ 0 → (f_op S x).toInt = 170 ∨ (f_op S x).toInt = 171 := fun q => by
    unfold f_isSwitch f_isSwitch_J14 at q
    by_cases c1 : (f_op S x).toInt = 170
    · exact Or.inl c1
    · rw [if_neg c1] at q
      by_cases c2 : (f_op S x).toInt = 171
      · exact Or.inr c2
      · rw [if_neg c2] at q; exact absurd rfl q
  by_cases q1 : (f_isJump S (f_op S x)).toInt = 0
  · by_cases q2 : (f_isSwitch S (f_op S x)).toInt = 0
    · have ew : f_ways S x = 0 := by unfold f_ways; rw [if_pos q1, if_pos q2]
      refine ⟨?_, by rw [ew]; decide, fun k k0 k1 => by rw [ew, li_0] at k1; omega⟩
      unfold d_ways
      rw [if_pos q1, if_pos q2]
      exact ⟨d1, dj, d1, dw, trivial⟩
    · have w := v3 (fw q2)
      have ew : (f_ways S x).toInt = (f_second S x).toInt + 1 := by unfold f_ways; rw [if_pos q1, if_neg q2, t_add (by rw [li_1]; omega), li_1]
      refine ⟨?_, by omega, fun k k0 k1 => ?_⟩
      · unfold d_ways
        rw [if_pos q1, if_neg q2]
        exact ⟨d1, dj, d1, dw, d3, trivial⟩
      · have e2 : ((2 : Int32) * k).toInt = 2 * k.toInt := by rw [t_mul (by rw [li_2]; omega), li_2]
        have e3 : (f_first S x + (2 : Int32) * k).toInt = (f_first S x).toInt + 2 * k.toInt := by rw [t_add (by omega), e2]
        unfold d_way f_way
        rw [if_pos q1, if_pos q1, e3]
        refine ⟨⟨d1, dj, r49, d2, ⟨by omega, by rw [b.1]; omega⟩, trivial⟩, ?_⟩
        have z := w.2.2.2.2.1 k.toInt.toNat (by omega)
        rw [show ((f_first S x).toInt + 2 * k.toInt).toNat = (f_first S x).toInt.toNat + 2 * k.toInt.toNat by omega]
        exact z
  · have w := v2 (fj q1)
    have ew : f_ways S x = 1 := by unfold f_ways; rw [if_neg q1]
    refine ⟨?_, by rw [ew]; decide, fun k k0 k1 => ?_⟩
    · unfold d_ways
      rw [if_neg q1]
      exact ⟨d1, dj, trivial⟩
    · unfold d_way f_way
      rw [if_neg q1, if_neg q1]
      exact ⟨⟨d1, dj, d2, trivial⟩, w⟩
theorem sp_spread_d {S : MS} {x y : Int32} (h : LkD S) (ht : TxI S) (hx : 0 ≤ x.toInt ∧ x.toInt < (qI S 0 52).toInt) (hy : 0 ≤ y.toInt ∧ y.toInt ≤ 31) (hm : (qI S 0 56).toInt ≤ 28) (hr : rgV S x y.toInt) : w_spread S x y (fun u => HtS S u ∧ ClH S u x y.toInt ∧ ∀ i k : Nat, bt (qI u 22 i) k = true → bt (qI S 22 i) k = true ∨ (k : Int) ≤ (qI S 0 56).toInt) := by
  have kc := h.cnt
  have kw := h.ways hx
  obtain ⟨g1, g2, g3, g4⟩ := hr
  have P : MS → Prop := fun _ => True
  -- the catches
  have L60 : ∀ (m : Nat) (U : MS) (c : Int32), HtS S U → (0 ≤ c.toInt ∧ c.toInt ≤ (qI S 0 54).toInt) → (∀ i k : Nat, bt (qI U 22 i) k = true → bt (qI S 22 i) k = true ∨ (k : Int) ≤ (qI S 0 56).toInt) → ((f_goesOn S (f_op S x)).toInt ≠ 0 → bt (qI U 22 (x.toInt.toNat + 1)) (hbV S x y.toInt).toNat = true) → (∀ k : Int32, 0 ≤ k.toInt → k.toInt < (f_ways S x).toInt → bt (qI U 22 (f_way S x k).toInt.toNat) (hbV S x y.toInt).toNat = true) → (∀ c' : Int32, 0 ≤ c'.toInt → c'.toInt < c.toInt → (f_isCaught S x c').toInt ≠ 0 → bt (qI U 22 (f_catchWord S c' 2).toInt.toNat) 1 = true) → (16 - c.toInt).toNat < m → w_spread_L60 (fun u => HtS S u ∧ ClH S u x y.toInt ∧ ∀ i k : Nat, bt (qI u 22 i) k = true → bt (qI S 22 i) k = true ∨ (k : Int) ≤ (qI S 0 56).toInt) m U x c := by
    intro m
    induction m with
    | zero => intro U c _ _ _ _ _ _ h9; exact absurd h9 (Nat.not_lt_zero _)
    | succ m ih =>
      intro U c hU hc hb k1 k2 k3 hm'
      have sL := hU.sL_d
      have KU := h.mv sL
      have e54 : qI U 0 54 = qI S 0 54 := (sL.2 54 (by decide) (by decide)).1
      have e52 : qI U 0 52 = qI S 0 52 := (sL.2 52 (by decide) (by decide)).1
      have ec : (c + Int32.ofInt 1).toInt = c.toInt + 1 := by rw [t_add (by rw [lo_1]; omega), lo_1]
      unfold w_spread_L60
      rw [e54, sL.ic h, sL.cw h]
      refine ⟨fun q => ⟨hU, ⟨k1, k2, fun c' a b d => k3 c' a (by omega) d⟩, hb⟩, fun q => ⟨KU.dic ⟨hc.1, by rw [e54]; omega⟩, fun z => ?_, fun z => ?_⟩⟩
      · unfold w_spread_J91
        intro a ea
        subst ea
        refine ih U _ hU ⟨by omega, by omega⟩ hb k1 k2 (fun c' a b d => ?_) (by omega)
        by_cases w : c'.toInt < c.toInt
        · exact k3 c' a w d
        · have : c' = c := Int32.toInt_inj.mp (by omega)
          rw [this] at d; exact absurd z d
      · have cw := (h.cw (c := c) ⟨hc.1, by omega⟩).2.2.1
        have m1 : 0 < (qI S 0 56).toInt := by
          rcases g3 with w | w
          · exact w
          · exact absurd ⟨c, ⟨hc.1, by omega⟩, z⟩ w
        refine ⟨KU.dcw ⟨hc.1, by rw [e54]; omega⟩ (by decide), _, sp_come_d (by rw [e52]; exact kc.1.2) (by rw [e52]; exact cw) (by decide), ?_⟩
        rintro V ⟨v1, v2, v3⟩
        have v2' : bt (qI V 22 (f_catchWord S c 2).toInt.toNat) 1 = true := v2
        have v3' : ∀ i k : Nat, bt (qI V 22 i) k = true → bt (qI U 22 i) k = true ∨ k = 1 := v3
        unfold w_spread_J91
        intro a ea
        subst ea
        refine ih V _ (hU.tr v1) ⟨by omega, by omega⟩ (fun i k q => ?_) (fun q => v1.2.1 _ _ (k1 q)) (fun k a b => v1.2.1 _ _ (k2 k a b)) (fun c' a b d => ?_) (by omega)
        · rcases v3' i k q with w | w
          · exact hb i k w
          · exact Or.inr (by omega)
        · by_cases w : c'.toInt < c.toInt
          · exact v1.2.1 _ _ (k3 c' a w d)
          · have : c' = c := Int32.toInt_inj.mp (by omega)
            rw [this]; exact v2'
  -- the ways
  have L29 : ∀ (m : Nat) (U : MS) (r k : Int32), r.toInt = hbV S x y.toInt → HtS S U → (0 ≤ k.toInt ∧ k.toInt ≤ (f_ways S x).toInt) → (∀ i k : Nat, bt (qI U 22 i) k = true → bt (qI S 22 i) k = true ∨ (k : Int) ≤ (qI S 0 56).toInt) → ((f_goesOn S (f_op S x)).toInt ≠ 0 → bt (qI U 22 (x.toInt.toNat + 1)) (hbV S x y.toInt).toNat = true) → (∀ k' : Int32, 0 ≤ k'.toInt → k'.toInt < k.toInt → bt (qI U 22 (f_way S x k').toInt.toNat) (hbV S x y.toInt).toNat = true) → (202 - k.toInt).toNat < m → w_spread_L29 (fun u => HtS S u ∧ ClH S u x y.toInt ∧ ∀ i k : Nat, bt (qI u 22 i) k = true → bt (qI S 22 i) k = true ∨ (k : Int) ≤ (qI S 0 56).toInt) m U x r k := by
    intro m
    induction m with
    | zero => intro U r k _ _ _ _ _ _ h9; exact absurd h9 (Nat.not_lt_zero _)
    | succ m ih =>
      intro U r k er hU hk hb k1 k2 hm'
      have sL := hU.sL_d
      have KU := h.mv sL
      have e52 : qI U 0 52 = qI S 0 52 := (sL.2 52 (by decide) (by decide)).1
      have kwU := KU.ways (x := x) (by rw [e52]; exact hx)
      have ek : (k + Int32.ofInt 1).toInt = k.toInt + 1 := by rw [t_add (by rw [lo_1]; omega), lo_1]
      unfold w_spread_L29
      refine ⟨kwU.1, ?_⟩
      rw [(sL.wy h x k).1] at kwU
      rw [(sL.wy h x k).1, (sL.wy h x k).2]
      refine ⟨fun q => ⟨_, L60 _ U 0 hU ⟨by decide, by rw [li_0]; omega⟩ hb k1 (fun k' a b => k2 k' a (by omega)) (fun c' a b => by rw [li_0] at b; omega) (Nat.lt_succ_self _)⟩, fun q => ⟨(kwU.2.2 k hk.1 (by omega)).1, _, sp_come_d (by rw [e52]; exact kc.1.2) (by rw [e52]; exact (kw.2.2 k hk.1 (by omega)).2) ⟨by omega, by omega⟩, ?_⟩⟩
      rintro V ⟨v1, v2, v3⟩ a ea
      subst ea
      rw [er] at v2 v3
      refine ih V r _ er (hU.tr v1) ⟨by omega, by omega⟩ (fun i k q => ?_) (fun q => v1.2.1 _ _ (k1 q)) (fun k' a b => ?_) (by omega)
      · rcases v3 i k q with w | w
        · exact hb i k w
        · exact Or.inr (by omega)
      · by_cases w : k'.toInt < k.toInt
        · exact v1.2.1 _ _ (k2 k' a w)
        · have : k' = k := Int32.toInt_inj.mp (by omega)
          rw [this]; exact v2
  unfold w_spread
  refine ⟨_, fn_hb_d h hx ht ⟨hy.1, by omega⟩, ?_⟩
  rintro r u ⟨rfl, er⟩
  have e1 : (x + (1 : Int32)).toInt = x.toInt + 1 := by rw [t_add (by rw [li_1]; omega), li_1]
  refine ⟨(h.dop hx).1, d_gO, fun q => ?_, fun q => ?_⟩
  · unfold w_spread_J26
    exact ⟨_, L29 _ u r 0 er HtS.rf ⟨by decide, by rw [li_0]; omega⟩ (fun i k w => Or.inl w) (fun z => absurd q z) (fun k' a b => by rw [li_0] at b; omega) (Nat.lt_succ_self _)⟩
  · have xl : x.toInt + 1 < (qI u 0 52).toInt := by
      rcases g4 with w | w
      · exact absurd w q
      · omega
    refine ⟨_, sp_come_d kc.1.2 (by omega) ⟨by omega, by omega⟩, ?_⟩
    rintro V ⟨v1, v2, v3⟩
    rw [er, e1, show (x.toInt + 1).toNat = x.toInt.toNat + 1 by omega] at v2
    rw [er] at v3
    unfold w_spread_J26
    refine ⟨_, L29 _ V r 0 er v1 ⟨by decide, by rw [li_0]; omega⟩ (fun i k w => ?_) (fun _ => v2) (fun k' a b => by rw [li_0] at b; omega) (Nat.lt_succ_self _)⟩
    rcases v3 i k w with z | z
    · exact Or.inl z
    · exact Or.inr (by omega)

theorem ClH.mv_d {S u v w : MS} {x : Int32} {y : Int} (h : ClH S v x y) (sL : smD S u) (k : LkD S) (t : TxI S) (hx : 0 ≤ x.toInt ∧ x.toInt < (qI S 0 52).toInt) (e : qI w 22 = qI v 22) : ClH u w x y := by
  unfold ClH
  rw [(sL.op k x).1, (sL.tv k t hx).2.2, (sL.wy k x 0).1, (sL.2 54 (by decide) (by decide)).1, e]
  exact ⟨h.1, fun c a b => by rw [(sL.wy k x c).2]; exact h.2.1 c a b, fun c a b d => by rw [sL.cw k]; exact h.2.2 c a b (by rw [sL.ic k] at d; exact d)⟩
theorem sp_fh_L64_d {A : MS} {Q : MS → Prop} {k54 : MS → Int32 → Int32 → Prop} {most i : Int32} (h : LkD A) (ht : TxI A) (hA : qI A 0 56 = most) (hm : 0 ≤ most.toInt ∧ most.toInt ≤ 28) (hi : 0 ≤ i.toInt ∧ i.toInt < (qI A 0 52).toInt) (hk : ∀ V : MS, PsH A V (i.toInt + 1) 0 → k54 V most (i + Int32.ofInt 1)) :
    ∀ (m : Nat) (U : MS) (y : Int32), (0 ≤ y.toInt ∧ y.toInt ≤ most.toInt + 1) → PsH A U i.toInt y.toInt → (30 - y.toInt).toNat < m → w_findHeights_L64 Q k54 m U most i y := by
  have kc := h.cnt
  intro m
  induction m with
  | zero => intro U y _ _ h9; exact absurd h9 (Nat.not_lt_zero _)
  | succ m ih =>
    rintro U y hy ⟨p1, p2, p3⟩ hm'
    have sL := p1.sL_d
    have KU := h.mv sL
    have TU := sL.tx ht
    have e52 : qI U 0 52 = qI A 0 52 := (sL.2 52 (by decide) (by decide)).1
    have e56 : qI U 0 56 = qI A 0 56 := (p1.1.2.2.2.2.2 56 (by decide)).1
    have ey : (y + Int32.ofInt 1).toInt = y.toInt + 1 := by rw [t_add (by rw [lo_1]; omega), lo_1]
    have ei : (i + Int32.ofInt 1).toInt = i.toInt + 1 := by rw [t_add (by rw [lo_1]; omega), lo_1]
    have hx : 0 ≤ i.toInt ∧ i.toInt < (qI U 0 52).toInt := by rw [e52]; exact hi
    unfold w_findHeights_L64
    refine ⟨fun c a ea => ?_, fun c => ⟨⟨hi.1, by omega⟩, fun q => ?_, fun q => ?_⟩⟩
    · subst ea
      refine hk U ⟨p1, p2, fun z x y' a b d e f => p3 z x y' a b ?_ e f⟩
      have := p2 x.toInt.toNat y' (by omega) e
      rw [hA] at this
      omega
    · have q' := (bt_test (v := qI U 22 i.toInt.toNat) hy.1 (by omega)).mp q
      refine ⟨_, fn_rg_d KU hx TU ⟨hy.1, by omega⟩, ?_⟩
      rintro r W ⟨rfl, er⟩
      have er2 : r.toInt ≠ 0 ↔ rgV A i y.toInt := er.trans (sL.rg h ht e56 hi)
      refine ⟨fun z => ?_, fun z => ⟨_, sp_spread_d KU TU hx ⟨hy.1, by omega⟩ (by rw [e56, hA]; exact hm.2) (er.mp z), ?_⟩⟩
      · unfold w_findHeights_J98
        intro a ea
        subst ea
        refine ih W _ ⟨by omega, by omega⟩ ⟨p1, p2, fun z2 x y' a b d e f => ?_⟩ (by omega)
        by_cases w : x.toInt < i.toInt ∨ (x.toInt = i.toInt ∧ (y' : Int) < y.toInt)
        · exact p3 z2 x y' a b w e f
        · have exx : x = i := Int32.toInt_inj.mp (by omega)
          have eyy : (y' : Int) = y.toInt := by omega
          rw [exx, eyy] at f
          exact absurd z (er2.mpr f)
      · rintro V ⟨v1, v2, v3⟩
        unfold w_findHeights_J98
        intro a ea
        subst ea
        have cl : ClH A V i y.toInt := by
          have z2 : ClH W V i y.toInt := v2
          unfold ClH at z2 ⊢
          rw [(sL.op h i).1, (sL.tv h ht hi).2.2, (sL.wy h i 0).1, (sL.2 54 (by decide) (by decide)).1] at z2
          exact ⟨z2.1, fun c a b => by have := z2.2.1 c a b; rw [(sL.wy h i c).2] at this; exact this, fun c a b d => by have := z2.2.2 c a b (by rw [sL.ic h]; exact d); rw [sL.cw h] at this; exact this⟩
        refine ih V _ ⟨by omega, by omega⟩ ⟨p1.tr v1, fun j k a b => ?_, fun z2 x y' a b d e f => ?_⟩ (by omega)
        · rcases v3 j k b with w | w
          · exact p2 j k a w
          · rw [e56] at w; exact w
        · have z3 := v1.2.2.1 z2
          by_cases w : x.toInt < i.toInt ∨ (x.toInt = i.toInt ∧ (y' : Int) < y.toInt)
          · rw [z3.2] at e
            exact (p3 z3.1 x y' a b w e f).up v1.2.1
          · have exx : x = i := Int32.toInt_inj.mp (by omega)
            have eyy : (y' : Int) = y.toInt := by omega
            rw [exx, eyy]
            exact cl
    · have q' : ¬ bt (qI U 22 i.toInt.toNat) y.toInt.toNat = true := fun z => q ((bt_test hy.1 (by omega)).mpr z)
      unfold w_findHeights_J98
      intro a ea
      subst ea
      refine ih U _ ⟨by omega, by omega⟩ ⟨p1, p2, fun z2 x y' a b d e f => ?_⟩ (by omega)
      by_cases w : x.toInt < i.toInt ∨ (x.toInt = i.toInt ∧ (y' : Int) < y.toInt)
      · exact p3 z2 x y' a b w e f
      · have exx : x = i := Int32.toInt_inj.mp (by omega)
        have eyy : y' = y.toInt.toNat := by omega
        rw [exx, eyy] at e
        exact absurd e q'
theorem sp_fh_L54_d {A : MS} {Q : MS → Prop} {k40 : MS → Int32 → Prop} {most : Int32} (h : LkD A) (ht : TxI A) (hA : qI A 0 56 = most) (hm : 0 ≤ most.toInt ∧ most.toInt ≤ 28) (hk : ∀ V : MS, PsH A V (qI A 0 52).toInt 0 → k40 V most) :
    ∀ (m : Nat) (U : MS) (i : Int32), (0 ≤ i.toInt ∧ i.toInt ≤ (qI A 0 52).toInt) → PsH A U i.toInt 0 → (1296 - i.toInt).toNat < m → w_findHeights_L54 Q k40 m U most i := by
  have kc := h.cnt
  intro m
  induction m with
  | zero => intro U i _ _ h9; exact absurd h9 (Nat.not_lt_zero _)
  | succ m ih =>
    intro U i hi hP hm'
    have e52 : qI U 0 52 = qI A 0 52 := (hP.1.sL.2 52 (by decide) (by decide)).1
    have ei : (i + Int32.ofInt 1).toInt = i.toInt + 1 := by rw [t_add (by rw [lo_1]; omega), lo_1]
    unfold w_findHeights_L54
    rw [e52]
    refine ⟨fun c => hk U (by rw [show (qI A 0 52).toInt = i.toInt by omega]; exact hP), fun c => ⟨_, sp_fh_L64_d h ht hA hm ⟨hi.1, by omega⟩ (fun V hV => ih V _ ⟨by omega, by omega⟩ (by rw [ei]; exact hV) (by omega)) _ U 0 ⟨by decide, by rw [li_0]; omega⟩ (by rw [li_0]; exact hP) (Nat.lt_succ_self _)⟩⟩
theorem sp_fh_L40_d {S : MS} {Q : MS → Prop} {most : Int32} (h : LkD S) (ht : TxI S) (hm : 0 ≤ most.toInt ∧ most.toInt ≤ 28) (hQ : ∀ u : MS, frm [22] [56, 57] S u → qI u 0 56 = most → HtI u → Q u) :
    ∀ (m : Nat) (U : MS), frm [22] [56, 57] S U → qI U 0 56 = most → (∀ i k : Nat, (i : Int) < (qI S 0 52).toInt → bt (qI U 22 i) k = true → (k : Int) ≤ most.toInt) → bt (qI U 22 0) 0 = true → ((qI U 0 57).toInt = 0 → HtI U) → (Mh U + 1 < m ∨ ((qI U 0 57).toInt = 0 ∧ Mh U < m)) → w_findHeights_L40 Q m U most := by
  intro m
  induction m with
  | zero => intro U _ _ _ _ _ h9; omega
  | succ m ih =>
    intro U fU h56 hb h0 hz hm'
    unfold w_findHeights_L40
    refine ⟨fun c => hQ U fU h56 (hz c), fun c A eA => ?_⟩
    have sLU : smD S U := smD.fm fU (by decide) (by decide)
    have fA : frm [22] [56, 57] U A := by rw [eA]; exact frm.pI0 (by decide)
    have sLA : smD U A := smD.fm fA (by decide) (by decide)
    have sL := sLU.tr sLA
    have KA := h.mv sL
    have TA := sL.tx ht
    have a22 : qI A 22 = qI U 22 := by rw [eA, rdH (by decide)]
    have a56 : qI A 0 56 = most := by rw [eA, qI_wI, if_neg (by decide), h56]
    have a57 : (qI A 0 57).toInt = 0 := by rw [eA, qI_wI, if_pos ⟨rfl, rfl⟩]; rfl
    have a52 : qI A 0 52 = qI S 0 52 := (sL.2 52 (by decide) (by decide)).1
    have u52 : qI U 0 52 = qI S 0 52 := (sLU.2 52 (by decide) (by decide)).1
    have mA : Mh A = Mh U := by unfold Mh; rw [a22, a52, u52]
    have kc := KA.cnt
    refine ⟨_, sp_fh_L54_d KA TA a56 hm (fun V hV => ?_) _ A 0 ⟨by decide, by rw [li_0]; omega⟩ ⟨HtS.rf, fun j k a b => by rw [a52] at a; rw [a22] at b; rw [a56]; exact hb j k a b, fun _ x y a b d => by rw [li_0] at d; omega⟩ (Nat.lt_succ_self _)⟩
    obtain ⟨v1, v2, v3⟩ := hV
    have sLV := v1.sL_d
    have v56 : qI V 0 56 = most := by rw [(v1.1.2.2.2.2.2 56 (by decide)).1, a56]
    have v52 : qI V 0 52 = qI A 0 52 := (sLV.2 52 (by decide) (by decide)).1
    have fV : frm [22] [56, 57] S V := (fU.tr fA).tr (v1.1.mo (by decide) (by decide))
    have vb : ∀ i k : Nat, (i : Int) < (qI S 0 52).toInt → bt (qI V 22 i) k = true → (k : Int) ≤ most.toInt := fun i k a b => by
      have := v2 i k (by rw [a52]; exact a) b
      rw [a56] at this
      exact this
    have v0 : bt (qI V 22 0) 0 = true := v1.2.1 0 0 (by rw [a22]; exact h0)
    have hzV : (qI V 0 57).toInt = 0 → HtI V := fun z => by
      refine ⟨fun i k a b => by rw [v56]; exact vb i k (by rw [v52, a52] at a; exact a) b, v0, fun x y a b d e => ?_⟩
      rw [v52] at b
      have e' : rgV A x y := (sLV.rg KA TA (v56.trans a56.symm) ⟨a, b⟩).mp e
      have cl := v3 z x y a b (Or.inl b) d e'
      exact cl.mv_d sLV KA TA ⟨a, b⟩ rfl
    by_cases z : (qI V 0 57).toInt = 0
    · exact ih V fV v56 vb v0 hzV (Or.inr ⟨z, by have := v1.2.2.2.1; omega⟩)
    · have lt := v1.2.2.2.2 a57 z
      exact ih V fV v56 vb v0 hzV (Or.inl (by omega))
theorem sp_findHeights_d {S : MS} {most : Int32} (h : LkD S) (ht : TxI S) (hm : 0 ≤ most.toInt ∧ most.toInt ≤ 28) : w_findHeights S most (fun u => frm [22] [56, 57] S u ∧ qI u 0 56 = most ∧ HtI u) := by
  have kc := h.cnt
  unfold w_findHeights
  intro A eA
  have fA : frm [22] [56, 57] S A := by rw [eA]; exact frm.pI0 (by decide)
  have a56 : qI A 0 56 = most := by rw [eA, qI_wI, if_pos ⟨rfl, rfl⟩]
  have L : ∀ (m : Nat) (U : MS) (i : Int32), (0 ≤ i.toInt ∧ i.toInt ≤ (qI S 0 52).toInt) → frm [22] [56, 57] S U → qI U 0 56 = most → (∀ j : Nat, (j : Int) < i.toInt → qI U 22 j = 0) → (1296 - i.toInt).toNat < m → w_findHeights_L7 (fun u => frm [22] [56, 57] S u ∧ qI u 0 56 = most ∧ HtI u) m U most i := by
    intro m
    induction m with
    | zero => intro U i _ _ _ _ h9; exact absurd h9 (Nat.not_lt_zero _)
    | succ m ih =>
      intro U i hi fU h56 hz hm'
      have e52 : qI U 0 52 = qI S 0 52 := (fU.2.2.2.2.2 52 (by decide)).1
      have ei : (i + Int32.ofInt 1).toInt = i.toInt + 1 := by rw [t_add (by rw [lo_1]; omega), lo_1]
      unfold w_findHeights_L7
      rw [e52]
      refine ⟨fun c B eB C eC => ?_, fun c => ⟨⟨hi.1, by omega⟩, fun B eB a ea => ?_⟩⟩
      · have fC : frm [22] [56, 57] S C := by
          have f1 : frm [22] [56, 57] U B := by rw [eB]; exact frm.pI (by decide)
          have f2 : frm [22] [56, 57] B C := by rw [eC]; exact frm.pI0 (by decide)
          exact (fU.tr f1).tr f2
        have c22 : ∀ j : Nat, qI C 22 j = if j = 0 then 1 else qI U 22 j := fun j => by
          rw [eC, rdH (by decide), eB, qI_wI]
          by_cases z : j = 0
          · rw [if_pos ⟨rfl, z⟩, if_pos z]
          · rw [if_neg (fun q => z q.2), if_neg z]
        have c56 : qI C 0 56 = most := by rw [eC, qI_wI, if_neg (by decide), eB, rdH (by decide), h56]
        have b1 : ∀ k : Nat, bt (1 : Int32) k = true → k = 0 := fun k q => by
          unfold bt at q
          rw [show (1 : Int32).toBitVec = 1#32 from rfl, BitVec.getLsbD_one] at q
          simp at q
          exact q
        have b0 : ∀ k : Nat, ¬ bt (0 : Int32) k = true := fun k q => by
          unfold bt at q
          rw [show (0 : Int32).toBitVec = 0#32 from rfl, BitVec.getLsbD_zero] at q
          exact absurd q (by decide)
        refine ⟨_, sp_fh_L40_d h ht hm (fun u a b d => ⟨a, b, d⟩) _ C fC c56 (fun j k a b => ?_) ?_ (fun z => ?_) (Or.inl (Nat.lt_succ_self _))⟩
        · rw [c22] at b
          by_cases z : j = 0
          · rw [if_pos z] at b
            have := b1 k b
            omega
          · rw [if_neg z, hz j (by omega)] at b
            exact absurd b (b0 k)
        · rw [c22, if_pos rfl]; decide
        · rw [eC, qI_wI, if_pos ⟨rfl, rfl⟩] at z; exact absurd z (by decide)
      · subst ea
        refine ih B _ ⟨by omega, by omega⟩ (fU.tr (by rw [eB]; exact frm.pI (by decide))) (by rw [eB, rdH (by decide)]; exact h56) (fun j hj => ?_) (by omega)
        rw [eB, qI_wI]
        by_cases z : j = i.toInt.toNat
        · rw [if_pos ⟨rfl, z⟩]
        · rw [if_neg (fun q => z q.2)]; exact hz j (by omega)
  exact ⟨_, L _ A 0 ⟨by decide, by rw [li_0]; omega⟩ fA a56 (fun j hj => by rw [li_0] at hj; omega) (Nat.lt_succ_self _)⟩
