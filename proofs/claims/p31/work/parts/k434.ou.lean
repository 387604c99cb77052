/-! bytes are written (behind frm, byt) -/
def oS (S : MS) : Int := (qI S 0 77).toInt
def wH (S : MS) : Nat := qO S 0 75
def OuI (S : MS) : Prop := ((qO S 0 75 = 34 ∧ qO S 0 76 = 35 ∨ qO S 0 75 = 35 ∧ qO S 0 76 = 34) ∧ qR S 0 75 = some (qO S 0 75) ∧ qR S 0 76 = some (qO S 0 76)) ∧ (qN S 34 = 131072 ∧ qN S 35 = 131072) ∧ (byt S 34 ∧ byt S 35) ∧ 0 ≤ oS S ∧ oS S ≤ 131072
def oc (g : Nat → Int32) (j : Nat) : Int := (g j).toInt % 256
def tw (g : Nat → Int32) (j : Nat) : Int := 256 * oc g j + oc g (j + 1)
def fo (g : Nat → Int32) (j : Nat) : Int := 65536 * tw g j + tw g (j + 2)
theorem OuI.wh {S : MS} (h : OuI S) : wH S = 34 ∨ wH S = 35 := by
  unfold wH
  have := h.1.1
  omega
theorem OuI.fm {S u : MS} {W J : List Nat} (h : OuI S) (k : frm W J S u) (h1 : 34 ∉ W) (h2 : 35 ∉ W) (h3 : 75 ∉ J) (h4 : 76 ∉ J) (h5 : 77 ∉ J) : OuI u ∧ oS u = oS S ∧ wH u = wH S := by
  have o5 : qO u 0 75 = qO S 0 75 := by unfold qO; rw [(k.2.2.2.2.2 75 h3).2.2]
  have o6 : qO u 0 76 = qO S 0 76 := by unfold qO; rw [(k.2.2.2.2.2 76 h4).2.2]
  have e : oS u = oS S := by unfold oS; rw [(k.2.2.2.2.2 77 h5).1]
  refine ⟨⟨by rw [o5, o6, (k.2.2.2.2.2 75 h3).2.2, (k.2.2.2.2.2 76 h4).2.2]; exact h.1, by rw [k.2.1]; exact h.2.1, ⟨fun i => by rw [(k.2.2.2.2.1 34 (by decide) h1).1]; exact h.2.2.1.1 i, fun i => by rw [(k.2.2.2.2.1 35 (by decide) h2).1]; exact h.2.2.1.2 i⟩, by rw [e]; exact h.2.2.2⟩, e, by unfold wH; exact o5⟩
def ByO (S : MS) : Prop := byt S 34 ∧ byt S 35
theorem ByO.fm {S u : MS} {W J : List Nat} (h : ByO S) (k : frm W J S u) (h1 : 34 ∉ W) (h2 : 35 ∉ W) : ByO u := ⟨fun i => by rw [(k.2.2.2.2.1 34 (by decide) h1).1]; exact h.1 i, fun i => by rw [(k.2.2.2.2.1 35 (by decide) h2).1]; exact h.2 i⟩
/-- what stands between two writings -/
def OuJ (S : MS) : Prop := ((qO S 0 75 = 34 ∧ qO S 0 76 = 35 ∨ qO S 0 75 = 35 ∧ qO S 0 76 = 34) ∧ qR S 0 75 = some (qO S 0 75) ∧ qR S 0 76 = some (qO S 0 76)) ∧ (qN S 34 = 131072 ∧ qN S 35 = 131072) ∧ ByO S
theorem OuI.j {S : MS} (h : OuI S) : OuJ S := ⟨h.1, h.2.1, h.2.2.1⟩
theorem OuJ.fb {S u : MS} {W J : List Nat} (h : OuJ S) (b : ByO u) (k : frm W J S u) (h3 : 75 ∉ J) (h4 : 76 ∉ J) : OuJ u := by
  have o5 : qO u 0 75 = qO S 0 75 := by unfold qO; rw [(k.2.2.2.2.2 75 h3).2.2]
  have o6 : qO u 0 76 = qO S 0 76 := by unfold qO; rw [(k.2.2.2.2.2 76 h4).2.2]
  exact ⟨by rw [o5, o6, (k.2.2.2.2.2 75 h3).2.2, (k.2.2.2.2.2 76 h4).2.2]; exact h.1, by rw [k.2.1]; exact h.2.1, b⟩
theorem OuJ.fm {S u : MS} {W J : List Nat} (h : OuJ S) (k : frm W J S u) (h1 : 34 ∉ W) (h2 : 35 ∉ W) (h3 : 75 ∉ J) (h4 : 76 ∉ J) : OuJ u := h.fb (h.2.2.fm k h1 h2) k h3 h4
def WA : List Nat := [22, 28, 29, 30, 31, 32, 33, 34, 35, 36]
def JM : List Nat := [7, 8, 47, 48, 49, 50, 51, 52, 53, 54, 56, 57, 73, 74, 77]
/-- how writing can fail -/
def eK (kp : Prop) (S u : MS) : Prop := ¬ kp ∧ ByO u ∧ frm WA JM S u
/-- n bytes more -/
def Wo (S : MS) (n : Int) (u : MS) : Prop := frm [34, 35] [77] S u ∧ OuI u ∧ oS u = oS S + n ∧ wH u = wH S ∧ ∀ j : Nat, (j : Int) < oS S → qI u (wH S) j = qI S (wH S) j
theorem by8 {x : Int32} : (vp_nar .byte (x.toInt8.toInt32)).toInt % 256 = x.toInt % 256 := by
  rw [vp_nar_byte]
  have e : (x.toInt8.toInt32).toInt8 = x.toInt8 := Int8.toInt8_toInt32 _
  rw [e, Int8.toInt_toInt32, Int32.toInt_toInt8, Int.bmod_def]
  split <;> omega
theorem by64 {y : Int64} : y.toInt32.toInt % 256 = y.toInt % 256 := by
  rw [Int64.toInt_toInt32, Int.bmod_def]
  split <;> omega
theorem shr_c {v s : Int64} {n : Nat} (h : s.toBitVec.smod 64 = BitVec.ofNat 64 n) (hn : n < 64) : (v >>> s).toInt = v.toInt / 2 ^ n := by
  show (v >>> s).toBitVec.toInt = _
  rw [Int64.toBitVec_shiftRight, h]
  show (v.toBitVec.sshiftRight (BitVec.ofNat 64 n).toNat).toInt = _
  rw [BitVec.toInt_sshiftRight, BitVec.toNat_ofNat, Nat.mod_eq_of_lt (Nat.lt_trans hn (by decide)), Int.shiftRight_eq_div_pow]
  rfl
theorem sh8 {v : Int64} {k : Int32} (h : 0 ≤ k.toInt ∧ k.toInt ≤ 7) : (v >>> (((8 : Int32) * k).toInt64 &&& 63)).toInt = v.toInt / 2 ^ (8 * k.toInt.toNat) := by
  have q : k.toInt = 0 ∨ k.toInt = 1 ∨ k.toInt = 2 ∨ k.toInt = 3 ∨ k.toInt = 4 ∨ k.toInt = 5 ∨ k.toInt = 6 ∨ k.toInt = 7 := by omega
  rcases q with q | q | q | q | q | q | q | q
  · have : k = 0 := Int32.toInt_inj.mp (by rw [q]; decide)
    subst this; exact shr_c (n := 0) (by decide) (by decide)
  · have : k = 1 := Int32.toInt_inj.mp (by rw [q]; decide)
    subst this; exact shr_c (n := 8) (by decide) (by decide)
  · have : k = 2 := Int32.toInt_inj.mp (by rw [q]; decide)
    subst this; exact shr_c (n := 16) (by decide) (by decide)
  · have : k = 3 := Int32.toInt_inj.mp (by rw [q]; decide)
    subst this; exact shr_c (n := 24) (by decide) (by decide)
  · have : k = 4 := Int32.toInt_inj.mp (by rw [q]; decide)
    subst this; exact shr_c (n := 32) (by decide) (by decide)
  · have : k = 5 := Int32.toInt_inj.mp (by rw [q]; decide)
    subst this; exact shr_c (n := 40) (by decide) (by decide)
  · have : k = 6 := Int32.toInt_inj.mp (by rw [q]; decide)
    subst this; exact shr_c (n := 48) (by decide) (by decide)
  · have : k = 7 := Int32.toInt_inj.mp (by rw [q]; decide)
    subst this; exact shr_c (n := 56) (by decide) (by decide)
theorem sp_out {S : MS} {v : Int64} {n : Int32} (h : OuI S) (hn : 0 ≤ n.toInt ∧ n.toInt ≤ 8) (hr : oS S + n.toInt ≤ 131072) : w_out S v n (fun u => Wo S n.toInt u ∧ ∀ i : Nat, (i : Int) < n.toInt → oc (qI u (wH S)) ((oS S).toNat + i) = (v.toInt / 2 ^ (8 * (n.toInt.toNat - 1 - i))) % 256) := by
  have wh := h.wh
  have o0 := h.2.2.2.1
  have lm : (Int32.ofInt (-1)).toInt = -1 := by decide
  have L : ∀ (c : Nat) (U : MS) (k : Int32), (-1 ≤ k.toInt ∧ k.toInt < n.toInt) → Wo S (n.toInt - 1 - k.toInt) U → (∀ i : Nat, (i : Int) < n.toInt - 1 - k.toInt → oc (qI U (wH S)) ((oS S).toNat + i) = (v.toInt / 2 ^ (8 * (n.toInt.toNat - 1 - i))) % 256) → (k.toInt + 1).toNat < c → w_out_L5 (fun u => Wo S n.toInt u ∧ ∀ i : Nat, (i : Int) < n.toInt → oc (qI u (wH S)) ((oS S).toNat + i) = (v.toInt / 2 ^ (8 * (n.toInt.toNat - 1 - i))) % 256) c U v k := by
    intro c
    induction c with
    | zero => intro U k _ _ _ h9; exact absurd h9 (Nat.not_lt_zero _)
    | succ c ih =>
      intro U k k0 hU hb hc
      obtain ⟨fU, oU, eU, wU, old⟩ := hU
      have oW : qO U 0 75 = wH S := wU
      have e77 : (qI U 0 77).toInt = oS S + (n.toInt - 1 - k.toInt) := eU
      unfold w_out_L5
      refine ⟨fun c1 => ?_, fun c1 => ?_⟩
      · have ek : n.toInt - 1 - k.toInt = n.toInt := by omega
        rw [ek] at eU hb
        exact ⟨⟨fU, oU, eU, wU, old⟩, hb⟩
      · have nW : qN U (wH S) = 131072 := by
          rcases wh with q | q
          · rw [q]; exact oU.2.1.1
          · rw [q]; exact oU.2.1.2
        rw [oW]
        refine ⟨by rw [← oW]; exact oU.1.2.1, ⟨by omega, by rw [nW]; omega⟩, fun A eA B eB a ea => ?_⟩
        have ek : a.toInt = k.toInt - 1 := by rw [ea, t_add (by rw [lm]; omega), lm]; omega
        clear ea
        have w0 : wH S ≠ 0 := by omega
        have a0 : qI A 0 = qI U 0 := by rw [eA, rdH w0.symm]
        have fA : frm [34, 35] [77] U A := by
          rw [eA]
          refine frm.pI ⟨?_, w0⟩
          rcases wh with q | q <;> rw [q] <;> decide
        have fB : frm [34, 35] [77] A B := by rw [eB]; exact frm.pI0 (by decide)
        have b77 : oS B = oS S + (n.toInt - 1 - k.toInt) + 1 := by
          show (qI B 0 77).toInt = _
          rw [eB, qI_wI, if_pos ⟨rfl, rfl⟩, a0, t_add (by rw [li_1]; omega), li_1]
          omega
        have bI : ∀ x j : Nat, x ≠ 0 → qI B x j = if x = wH S ∧ j = (qI U 0 77).toInt.toNat then vp_nar .byte (((v >>> (((8 : Int32) * k).toInt64 &&& 63)).toInt32).toInt8.toInt32) else qI U x j := fun x j hx => by rw [eB, rdH hx, eA, qI_wI]
        have fUB := fA.tr fB
        have o5 : qO B 0 75 = qO U 0 75 ∧ qO B 0 76 = qO U 0 76 ∧ qR B 0 75 = qR U 0 75 ∧ qR B 0 76 = qR U 0 76 := by
          have r5 := (fUB.2.2.2.2.2 75 (by decide)).2.2
          have r6 := (fUB.2.2.2.2.2 76 (by decide)).2.2
          exact ⟨by unfold qO; rw [r5], by unfold qO; rw [r6], r5, r6⟩
        have byB : ∀ x : Nat, (x = 34 ∨ x = 35) → byt B x := fun x hx i => by
          rw [bI x i (by omega)]
          by_cases q : x = wH S ∧ i = (qI U 0 77).toInt.toNat
          · rw [if_pos q]; exact fitB _
          · rw [if_neg q]
            rcases hx with y | y
            · rw [y]; exact oU.2.2.1.1 i
            · rw [y]; exact oU.2.2.1.2 i
        have ed : n.toInt - 1 - a.toInt = n.toInt - 1 - k.toInt + 1 := by omega
        refine ih B a (by omega) ⟨fU.tr fUB, ⟨by rw [o5.1, o5.2.1, o5.2.2.1, o5.2.2.2]; exact oU.1, by rw [fUB.2.1]; exact oU.2.1, ⟨byB 34 (Or.inl rfl), byB 35 (Or.inr rfl)⟩, by omega, by omega⟩, by rw [ed]; omega, by show qO B 0 75 = _; rw [o5.1]; exact oW, fun j hj => ?_⟩ (fun i hi => ?_) (by omega)
        · rw [bI _ j w0, if_neg (fun q => by have := q.2; omega)]
          exact old j hj
        · rw [ed] at hi
          unfold oc
          rw [bI _ _ w0]
          by_cases q : (i : Int) = n.toInt - 1 - k.toInt
          · rw [if_pos ⟨rfl, by omega⟩, by8, by64, sh8 ⟨by omega, by omega⟩, show n.toInt.toNat - 1 - i = k.toInt.toNat by omega]
          · rw [if_neg (fun z => by have := z.2; omega)]
            exact hb i (by omega)
  unfold w_out
  intro a ea
  have e : a.toInt = n.toInt - 1 := by rw [ea, t_sub (by rw [li_1]; omega), li_1]
  refine ⟨_, L _ S a (by omega) ⟨frm.rf, h, by omega, rfl, fun _ _ => rfl⟩ (fun i hi => by omega) (Nat.lt_succ_self _)⟩
theorem Wo.rf {S : MS} (h : OuI S) : Wo S 0 S := ⟨frm.rf, h, by omega, rfl, fun _ _ => rfl⟩
theorem Wo.tr {S u v : MS} {a b : Int} (h : Wo S a u) (k : Wo u b v) (ha : 0 ≤ a) : Wo S (a + b) v := ⟨h.1.tr k.1, k.2.1, by have := h.2.2.1; have := k.2.2.1; omega, k.2.2.2.1.trans h.2.2.2.1, fun j hj => by
  have := k.2.2.2.2 j (by have := h.2.2.1; omega)
  rw [h.2.2.2.1] at this
  rw [this]
  exact h.2.2.2.2 j hj⟩
/-- one, two, four bytes of a small number -/
theorem wo_mo {S : MS} {v : Int64} {n : Int32} {Q Q' : MS → Prop} (h : w_out S v n Q) (hq : ∀ u, Q u → Q' u) : w_out S v n Q' := by
  have m : ∀ (c : Nat) (U : MS) (k : Int32), w_out_L5 Q c U v k → w_out_L5 Q' c U v k := by
    intro c
    induction c with
    | zero => intro U k g; unfold w_out_L5 at g; exact g.elim
    | succ c ih =>
      intro U k g
      unfold w_out_L5 at g ⊢
      refine ⟨fun z => hq _ (g.1 z), fun z => ?_⟩
      obtain ⟨g1, g2, g3⟩ := g.2 z
      exact ⟨g1, g2, fun A eA B eB a ea => ih B a (g3 A eA B eB a ea)⟩
  unfold w_out at h ⊢
  intro a ea
  obtain ⟨c, g⟩ := h a ea
  exact ⟨c, m c S a g⟩
theorem sp_out1 {S : MS} {v : Int64} (h : OuI S) (hr : oS S + 1 ≤ 131072) (hv : 0 ≤ v.toInt ∧ v.toInt ≤ 255) : w_out S v (1 : Int32) (fun u => Wo S 1 u ∧ oc (qI u (wH S)) (oS S).toNat = v.toInt) := by
  refine wo_mo (sp_out (S := S) (v := v) (n := 1) h (by decide) (by rw [li_1]; exact hr)) (fun u hu => ?_)
  obtain ⟨a, b⟩ := hu
  rw [li_1] at a b
  refine ⟨a, ?_⟩
  have b0 := b 0 (by decide)
  rw [Nat.add_zero] at b0
  rw [b0]
  show v.toInt / 1 % 256 = v.toInt
  omega
theorem sp_out2 {S : MS} {v : Int64} (h : OuI S) (hr : oS S + 2 ≤ 131072) (hv : 0 ≤ v.toInt ∧ v.toInt ≤ 65535) : w_out S v (2 : Int32) (fun u => Wo S 2 u ∧ tw (qI u (wH S)) (oS S).toNat = v.toInt) := by
  refine wo_mo (sp_out (S := S) (v := v) (n := 2) h (by decide) (by rw [li_2]; exact hr)) (fun u hu => ?_)
  obtain ⟨a, b⟩ := hu
  rw [li_2] at a b
  refine ⟨a, ?_⟩
  have b0 := b 0 (by decide)
  have b1 := b 1 (by decide)
  unfold tw
  rw [Nat.add_zero] at b0
  rw [b0, b1]
  show 256 * (v.toInt / 256 % 256) + v.toInt / 1 % 256 = v.toInt
  omega
theorem sp_out4 {S : MS} {v : Int64} (h : OuI S) (hr : oS S + 4 ≤ 131072) (hv : 0 ≤ v.toInt ∧ v.toInt ≤ 2147483647) : w_out S v (4 : Int32) (fun u => Wo S 4 u ∧ fo (qI u (wH S)) (oS S).toNat = v.toInt) := by
  refine wo_mo (sp_out (S := S) (v := v) (n := 4) h (by decide) (by rw [li_4]; exact hr)) (fun u hu => ?_)
  obtain ⟨a, b⟩ := hu
  rw [li_4] at a b
  refine ⟨a, ?_⟩
  have b0 := b 0 (by decide)
  have b1 := b 1 (by decide)
  have b2 := b 2 (by decide)
  have b3 := b 3 (by decide)
  unfold fo tw
  rw [Nat.add_zero] at b0
  rw [show (oS S).toNat + 2 + 1 = (oS S).toNat + 3 by omega, b0, b1, b2, b3]
  show 65536 * (256 * (v.toInt / 16777216 % 256) + v.toInt / 65536 % 256) + (256 * (v.toInt / 256 % 256) + v.toInt / 1 % 256) = v.toInt
  omega
/-- n bytes, whatever they are -/
theorem sp_outN {S : MS} {v : Int64} {n : Int32} {m : Int} (h : OuI S) (e : n.toInt = m) (hn : 0 ≤ m ∧ m ≤ 8) (hr : oS S + m ≤ 131072) : w_out S v n (Wo S m) := wo_mo (sp_out h (by omega) (by omega)) (fun u hu => by have := hu.1; rw [e] at this; exact this)
/-! how long a row is when written (behind sp_nO, loV) -/
def pLn (U : MS) (a : Int32) (n : Int) : Prop := ((-1 ≤ a.toInt ∧ a.toInt ≤ 5) ∧ n = 1) ∨ (¬ (-1 ≤ a.toInt ∧ a.toInt ≤ 5) ∧ (-128 ≤ a.toInt ∧ a.toInt ≤ 127) ∧ n = 2) ∨ (¬ (-128 ≤ a.toInt ∧ a.toInt ≤ 127) ∧ (-32768 ≤ a.toInt ∧ a.toInt ≤ 32767) ∧ n = 3) ∨ (¬ (-32768 ≤ a.toInt ∧ a.toInt ≤ 32767) ∧ ∃ r : Int32, NuK U 3 0 0 a.toInt64 10000032 r ∧ (r.toInt ≤ 255 ∧ n = 2 ∨ 255 < r.toInt ∧ n = 3))
def LnV (U : MS) (op a b : Int32) (o n : Int) : Prop := (op.toInt = 18 → pLn U a n) ∧ (op.toInt = 20 → ((lg_cmp (loV a b) 0).toInt = 0 ∨ (lg_cmp (loV a b) 1).toInt = 0) ∧ n = 1 ∨ (¬ (lg_cmp (loV a b) 0).toInt = 0 ∧ ¬ (lg_cmp (loV a b) 1).toInt = 0) ∧ n = 3) ∧ ((op.toInt = 21 ∨ op.toInt = 22 ∨ op.toInt = 25 ∨ op.toInt = 54 ∨ op.toInt = 55 ∨ op.toInt = 58) → a.toInt < 4 ∧ n = 1 ∨ 4 ≤ a.toInt ∧ n = 2) ∧ (op.toInt = 132 → (-128 ≤ b.toInt ∧ b.toInt ≤ 127) ∧ n = 3 ∨ ¬ (-128 ≤ b.toInt ∧ b.toInt ≤ 127) ∧ n = 6) ∧ (op.toInt = 170 → n = 16 - o % 4 + 4 * b.toInt) ∧ (op.toInt = 171 → n = 12 - o % 4 + 8 * b.toInt) ∧ ((op.toInt = 178 ∨ op.toInt = 179 ∨ op.toInt = 184) → n = 3) ∧ (op.toInt = 188 → n = 2) ∧ (((153 ≤ op.toInt ∧ op.toInt ≤ 167) ∨ op.toInt = 198 ∨ op.toInt = 199) → n = 3) ∧ (¬ (op.toInt = 18 ∨ op.toInt = 20 ∨ (op.toInt = 21 ∨ op.toInt = 22 ∨ op.toInt = 25 ∨ op.toInt = 54 ∨ op.toInt = 55 ∨ op.toInt = 58) ∨ op.toInt = 132 ∨ op.toInt = 170 ∨ op.toInt = 171 ∨ (op.toInt = 178 ∨ op.toInt = 179 ∨ op.toInt = 184) ∨ op.toInt = 188 ∨ ((153 ≤ op.toInt ∧ op.toInt ≤ 167) ∨ op.toInt = 198 ∨ op.toInt = 199)) → n = 1)
theorem LnV.c18 {U : MS} {op a b : Int32} {o n : Int} (h : op.toInt = 18) (c : pLn U a n) : LnV U op a b o n := ⟨fun _ => c, fun z => absurd z (by omega), fun z => absurd z (by omega), fun z => absurd z (by omega), fun z => absurd z (by omega), fun z => absurd z (by omega), fun z => absurd z (by omega), fun z => absurd z (by omega), fun z => absurd z (by omega), fun z => absurd z (by omega)⟩
theorem LnV.o18 {U : MS} {op a b : Int32} {o n : Int} (h : LnV U op a b o n) (q : op.toInt = 18) : pLn U a n := h.1 q
theorem LnV.c20 {U : MS} {op a b : Int32} {o n : Int} (h : op.toInt = 20) (c : ((lg_cmp (loV a b) 0).toInt = 0 ∨ (lg_cmp (loV a b) 1).toInt = 0) ∧ n = 1 ∨ (¬ (lg_cmp (loV a b) 0).toInt = 0 ∧ ¬ (lg_cmp (loV a b) 1).toInt = 0) ∧ n = 3) : LnV U op a b o n := ⟨fun z => absurd z (by omega), fun _ => c, fun z => absurd z (by omega), fun z => absurd z (by omega), fun z => absurd z (by omega), fun z => absurd z (by omega), fun z => absurd z (by omega), fun z => absurd z (by omega), fun z => absurd z (by omega), fun z => absurd z (by omega)⟩
theorem LnV.o20 {U : MS} {op a b : Int32} {o n : Int} (h : LnV U op a b o n) (q : op.toInt = 20) : ((lg_cmp (loV a b) 0).toInt = 0 ∨ (lg_cmp (loV a b) 1).toInt = 0) ∧ n = 1 ∨ (¬ (lg_cmp (loV a b) 0).toInt = 0 ∧ ¬ (lg_cmp (loV a b) 1).toInt = 0) ∧ n = 3 := h.2.1 q
theorem LnV.cL {U : MS} {op a b : Int32} {o n : Int} (h : (op.toInt = 21 ∨ op.toInt = 22 ∨ op.toInt = 25 ∨ op.toInt = 54 ∨ op.toInt = 55 ∨ op.toInt = 58)) (c : a.toInt < 4 ∧ n = 1 ∨ 4 ≤ a.toInt ∧ n = 2) : LnV U op a b o n := ⟨fun z => absurd z (by omega), fun z => absurd z (by omega), fun _ => c, fun z => absurd z (by omega), fun z => absurd z (by omega), fun z => absurd z (by omega), fun z => absurd z (by omega), fun z => absurd z (by omega), fun z => absurd z (by omega), fun z => absurd z (by omega)⟩
theorem LnV.oL {U : MS} {op a b : Int32} {o n : Int} (h : LnV U op a b o n) (q : (op.toInt = 21 ∨ op.toInt = 22 ∨ op.toInt = 25 ∨ op.toInt = 54 ∨ op.toInt = 55 ∨ op.toInt = 58)) : a.toInt < 4 ∧ n = 1 ∨ 4 ≤ a.toInt ∧ n = 2 := h.2.2.1 q
theorem LnV.c132 {U : MS} {op a b : Int32} {o n : Int} (h : op.toInt = 132) (c : (-128 ≤ b.toInt ∧ b.toInt ≤ 127) ∧ n = 3 ∨ ¬ (-128 ≤ b.toInt ∧ b.toInt ≤ 127) ∧ n = 6) : LnV U op a b o n := ⟨fun z => absurd z (by omega), fun z => absurd z (by omega), fun z => absurd z (by omega), fun _ => c, fun z => absurd z (by omega), fun z => absurd z (by omega), fun z => absurd z (by omega), fun z => absurd z (by omega), fun z => absurd z (by omega), fun z => absurd z (by omega)⟩
theorem LnV.o132 {U : MS} {op a b : Int32} {o n : Int} (h : LnV U op a b o n) (q : op.toInt = 132) : (-128 ≤ b.toInt ∧ b.toInt ≤ 127) ∧ n = 3 ∨ ¬ (-128 ≤ b.toInt ∧ b.toInt ≤ 127) ∧ n = 6 := h.2.2.2.1 q
theorem LnV.c170 {U : MS} {op a b : Int32} {o n : Int} (h : op.toInt = 170) (c : n = 16 - o % 4 + 4 * b.toInt) : LnV U op a b o n := ⟨fun z => absurd z (by omega), fun z => absurd z (by omega), fun z => absurd z (by omega), fun z => absurd z (by omega), fun _ => c, fun z => absurd z (by omega), fun z => absurd z (by omega), fun z => absurd z (by omega), fun z => absurd z (by omega), fun z => absurd z (by omega)⟩
theorem LnV.o170 {U : MS} {op a b : Int32} {o n : Int} (h : LnV U op a b o n) (q : op.toInt = 170) : n = 16 - o % 4 + 4 * b.toInt := h.2.2.2.2.1 q
theorem LnV.c171 {U : MS} {op a b : Int32} {o n : Int} (h : op.toInt = 171) (c : n = 12 - o % 4 + 8 * b.toInt) : LnV U op a b o n := ⟨fun z => absurd z (by omega), fun z => absurd z (by omega), fun z => absurd z (by omega), fun z => absurd z (by omega), fun z => absurd z (by omega), fun _ => c, fun z => absurd z (by omega), fun z => absurd z (by omega), fun z => absurd z (by omega), fun z => absurd z (by omega)⟩
theorem LnV.o171 {U : MS} {op a b : Int32} {o n : Int} (h : LnV U op a b o n) (q : op.toInt = 171) : n = 12 - o % 4 + 8 * b.toInt := h.2.2.2.2.2.1 q
theorem LnV.cM {U : MS} {op a b : Int32} {o n : Int} (h : (op.toInt = 178 ∨ op.toInt = 179 ∨ op.toInt = 184)) (c : n = 3) : LnV U op a b o n := ⟨fun z => absurd z (by omega), fun z => absurd z (by omega), fun z => absurd z (by omega), fun z => absurd z (by omega), fun z => absurd z (by omega), fun z => absurd z (by omega), fun _ => c, fun z => absurd z (by omega), fun z => absurd z (by omega), fun z => absurd z (by omega)⟩
theorem LnV.oM {U : MS} {op a b : Int32} {o n : Int} (h : LnV U op a b o n) (q : (op.toInt = 178 ∨ op.toInt = 179 ∨ op.toInt = 184)) : n = 3 := h.2.2.2.2.2.2.1 q
theorem LnV.c188 {U : MS} {op a b : Int32} {o n : Int} (h : op.toInt = 188) (c : n = 2) : LnV U op a b o n := ⟨fun z => absurd z (by omega), fun z => absurd z (by omega), fun z => absurd z (by omega), fun z => absurd z (by omega), fun z => absurd z (by omega), fun z => absurd z (by omega), fun z => absurd z (by omega), fun _ => c, fun z => absurd z (by omega), fun z => absurd z (by omega)⟩
theorem LnV.o188 {U : MS} {op a b : Int32} {o n : Int} (h : LnV U op a b o n) (q : op.toInt = 188) : n = 2 := h.2.2.2.2.2.2.2.1 q
theorem LnV.cJ {U : MS} {op a b : Int32} {o n : Int} (h : ((153 ≤ op.toInt ∧ op.toInt ≤ 167) ∨ op.toInt = 198 ∨ op.toInt = 199)) (c : n = 3) : LnV U op a b o n := ⟨fun z => absurd z (by omega), fun z => absurd z (by omega), fun z => absurd z (by omega), fun z => absurd z (by omega), fun z => absurd z (by omega), fun z => absurd z (by omega), fun z => absurd z (by omega), fun z => absurd z (by omega), fun _ => c, fun z => absurd z (by omega)⟩
theorem LnV.oJ {U : MS} {op a b : Int32} {o n : Int} (h : LnV U op a b o n) (q : ((153 ≤ op.toInt ∧ op.toInt ≤ 167) ∨ op.toInt = 198 ∨ op.toInt = 199)) : n = 3 := h.2.2.2.2.2.2.2.2.1 q
theorem LnV.cO {U : MS} {op a b : Int32} {o n : Int} (h : ¬ (op.toInt = 18 ∨ op.toInt = 20 ∨ (op.toInt = 21 ∨ op.toInt = 22 ∨ op.toInt = 25 ∨ op.toInt = 54 ∨ op.toInt = 55 ∨ op.toInt = 58) ∨ op.toInt = 132 ∨ op.toInt = 170 ∨ op.toInt = 171 ∨ (op.toInt = 178 ∨ op.toInt = 179 ∨ op.toInt = 184) ∨ op.toInt = 188 ∨ ((153 ≤ op.toInt ∧ op.toInt ≤ 167) ∨ op.toInt = 198 ∨ op.toInt = 199))) (c : n = 1) : LnV U op a b o n := ⟨fun z => absurd z (by omega), fun z => absurd z (by omega), fun z => absurd z (by omega), fun z => absurd z (by omega), fun z => absurd z (by omega), fun z => absurd z (by omega), fun z => absurd z (by omega), fun z => absurd z (by omega), fun z => absurd z (by omega), fun _ => c⟩
theorem LnV.oO {U : MS} {op a b : Int32} {o n : Int} (h : LnV U op a b o n) (q : ¬ (op.toInt = 18 ∨ op.toInt = 20 ∨ (op.toInt = 21 ∨ op.toInt = 22 ∨ op.toInt = 25 ∨ op.toInt = 54 ∨ op.toInt = 55 ∨ op.toInt = 58) ∨ op.toInt = 132 ∨ op.toInt = 170 ∨ op.toInt = 171 ∨ (op.toInt = 178 ∨ op.toInt = 179 ∨ op.toInt = 184) ∨ op.toInt = 188 ∨ ((153 ≤ op.toInt ∧ op.toInt ≤ 167) ∨ op.toInt = 198 ∨ op.toInt = 199))) : n = 1 := h.2.2.2.2.2.2.2.2.2 q
theorem LnV.my {U V : MS} {op a b : Int32} {o n : Int} (h : LnV U op a b o n) (y : BkY U V) (hB : BkI U) : LnV V op a b o n := by
  refine ⟨fun q => ?_, h.2⟩
  rcases h.1 q with z | z | z | ⟨z, r, z1, z2⟩
  · exact Or.inl z
  · exact Or.inr (Or.inl z)
  · exact Or.inr (Or.inr (Or.inl z))
  · exact Or.inr (Or.inr (Or.inr ⟨z, r, z1.my y hB (by decide), z2⟩))
theorem LnV.wt {U : MS} {op a b : Int32} {o n : Int} (h : LnV U op a b o n) (hb : op.toInt = 170 ∨ op.toInt = 171 → 0 ≤ b.toInt) (ho : 0 ≤ o) : 1 ≤ n ∧ n ≤ wtV op.toInt b.toInt := by
  by_cases c1 : op.toInt = 132
  · have := h.o132 c1
    unfold wtV
    rw [if_pos c1]
    omega
  · by_cases c2 : op.toInt = 170
    · have e := h.o170 c2
      have := hb (Or.inl c2)
      unfold wtV
      rw [if_neg c1, if_pos (Or.inl c2)]
      omega
    · by_cases c3 : op.toInt = 171
      · have e := h.o171 c3
        have := hb (Or.inr c3)
        unfold wtV
        rw [if_neg c1, if_pos (Or.inr c3)]
        omega
      · have e3 : wtV op.toInt b.toInt = 3 := by unfold wtV; rw [if_neg c1, if_neg (by omega)]
        rw [e3]
        by_cases c4 : op.toInt = 18
        · rcases h.o18 c4 with z | z | z | ⟨_, r, _, z⟩
          · omega
          · omega
          · omega
          · omega
        · by_cases c5 : op.toInt = 20
          · rcases h.o20 c5 with z | z
            · have := z.2; omega
            · have := z.2; omega
          · by_cases c6 : (op.toInt = 21 ∨ op.toInt = 22 ∨ op.toInt = 25 ∨ op.toInt = 54 ∨ op.toInt = 55 ∨ op.toInt = 58)
            · have := h.oL c6; omega
            · by_cases c7 : (op.toInt = 178 ∨ op.toInt = 179 ∨ op.toInt = 184)
              · have := h.oM c7; omega
              · by_cases c8 : op.toInt = 188
                · have := h.o188 c8; omega
                · by_cases c9 : ((153 ≤ op.toInt ∧ op.toInt ≤ 167) ∨ op.toInt = 198 ∨ op.toInt = 199)
                  · have := h.oJ c9; omega
                  · have := h.oO (fun z => by
                      rcases z with z | z | z | z | z | z | z | z | z
                      · exact c4 z
                      · exact c5 z
                      · exact c6 z
                      · exact c1 z
                      · exact c2 z
                      · exact c3 z
                      · exact c7 z
                      · exact c8 z
                      · exact c9 z)
                    omega
def LnP (U : MS) (x : Int32) (o n : Int) : Prop := LnV U (f_op U x) (f_first U x) (f_second U x) o n
section LNX
variable {NL : List Nat} {kp : Prop} {AL : List (MS → Prop)}
def ByP (NL : List Nat) (kp : Prop) (AL : List (MS → Prop)) (S : MS) (x : Int32) (o : Int) (r : Int32) (u : MS) : Prop := WrI NL kp AL u ∧ BkX S u ∧ LnP u x o r.toInt
theorem sp_by {p : Nat} {S : MS} {x o : Int32} (cf : CfI NL kp AL p S) (h : WrI NL kp AL S) (k : LkF kp AL p S) (hx : 0 ≤ x.toInt ∧ x.toInt < (qI S 0 52).toInt) (ho : 0 ≤ o.toInt ∧ o.toInt ≤ 100000) : w_bytesOf S x o (ByP NL kp AL S x o.toInt) (fun _ => ¬ kp) := by
  have p60 : 60 ≤ p := by have := cf.2.1.1; omega
  obtain ⟨dop, dfi, dse⟩ := k.1.dop hx
  obtain ⟨L, F, M, ts, rb, rt, rv, -, -⟩ := k.1.rv hx
  have l1 : (1 : Int32).toInt = 1 := by decide
  have l2 : (2 : Int32).toInt = 2 := by decide
  have l3 : (3 : Int32).toInt = 3 := by decide
  have l6 : (6 : Int32).toInt = 6 := by decide
  have own : ∀ r : Int32, LnV S (f_op S x) (f_first S x) (f_second S x) o.toInt r.toInt → ByP NL kp AL S x o.toInt r S := fun r hr => ⟨h, BkX.rf, hr⟩
  have lo : f_longOf S x = loV (f_first S x) (f_second S x) := rfl
  have sf := f_swF (S := S) ho.1 ho.2
  have js : ∀ a : Int32, (f_isJump S a).toInt = 0 → ¬ ((153 ≤ a.toInt ∧ a.toInt ≤ 167) ∨ a.toInt = 198 ∨ a.toInt = 199) := fun a q z => by
    unfold f_isJump f_isJump_J14 f_isJump_J28 at q
    rcases z with z | z | z
    · rw [if_neg (by omega), if_pos (by omega)] at q; exact absurd q (by decide)
    · rw [if_neg (by omega), if_neg (by omega), if_pos (by omega)] at q; exact absurd q (by decide)
    · rw [if_neg (by omega), if_neg (by omega), if_neg (by omega), if_pos (by omega)] at q; exact absurd q (by decide)
  have dj : ∀ a : Int32, d_isJump S a := fun a => by
    unfold d_isJump d_isJump_J14 d_isJump_J28
    simp only [ite_self]
  unfold w_bytesOf
  refine ⟨dop, fun op eo => ⟨dfi, fun a ea => ?_⟩⟩
  subst eo
  subst ea
  have loc : ((f_op S x).toInt = 21 ∨ (f_op S x).toInt = 22 ∨ (f_op S x).toInt = 25 ∨ (f_op S x).toInt = 54 ∨ (f_op S x).toInt = 55 ∨ (f_op S x).toInt = 58) → ((4 ≤ (f_first S x).toInt → ByP NL kp AL S x o.toInt 2 S) ∧ (¬ 4 ≤ (f_first S x).toInt → ByP NL kp AL S x o.toInt 1 S)) := fun q => ⟨fun z => own 2 (LnV.cL q (Or.inr ⟨z, l2⟩)), fun z => own 1 (LnV.cL q (Or.inl ⟨by omega, l1⟩))⟩
  have m3 : ((f_op S x).toInt = 178 ∨ (f_op S x).toInt = 179 ∨ (f_op S x).toInt = 184) → ByP NL kp AL S x o.toInt 3 S := fun q => own 3 (LnV.cM q l3)
  refine ⟨fun e => ?_, fun e1 => ⟨fun e => ?_, fun e2 => ⟨fun e => loc (by omega), fun e3 => ⟨fun e => loc (by omega), fun e4 => ⟨fun e => loc (by omega), fun e5 => ⟨fun e => loc (by omega), fun e6 => ⟨fun e => loc (by omega), fun e7 => ⟨fun e => loc (by omega), fun e8 => ⟨fun e => ⟨dse, by_rg2.2, fun z => own 6 (LnV.c132 e (Or.inr ⟨by_rg2.1.mp z, l6⟩)), fun z => own 3 (LnV.c132 e (Or.inl ⟨?_, l3⟩))⟩, fun e9 => ⟨fun e => ⟨trivial, dse, ?_⟩, fun e10 => ⟨fun e => ⟨trivial, dse, ?_⟩, fun e11 => ⟨fun e => m3 (by omega), fun e12 => ⟨fun e => m3 (by omega), fun e13 => ⟨fun e => m3 (by omega), fun e14 => ⟨fun e => own 2 (LnV.c188 e l2), fun e15 => ⟨dj _, fun z => ?_, fun z => own 3 (LnV.cJ (jp_op z) l3)⟩⟩⟩⟩⟩⟩⟩⟩⟩⟩⟩⟩⟩⟩⟩⟩
  · have j160 : ¬ (-1 ≤ (f_first S x).toInt ∧ (f_first S x).toInt ≤ 5) → w_bytesOf_J160 (ByP NL kp AL S x o.toInt) (fun _ => ¬ kp) S x (f_first S x) := fun ns => by
      unfold w_bytesOf_J160
      refine ⟨by_rg2.2, fun z1 => ⟨sh_rg.2, fun z2 => ?_, fun z2 => ?_⟩, fun z1 => ?_⟩
      · have nsh := sh_rg.1.mp z2
        refine ⟨_, _, sp_nO cf h k hx, ?_, fun u q => q⟩
        rintro r u ⟨u1, u2, u3, u4⟩
        have nk := u4 e nsh
        have s := smD.fm u2.1 (by decide) (by decide)
        have so := s.op k.1 x
        have mk : ∀ m : Int32, (r.toInt ≤ 255 ∧ m.toInt = 2 ∨ 255 < r.toInt ∧ m.toInt = 3) → ByP NL kp AL S x o.toInt m u := fun m hm => ⟨u1, u2, by
          unfold LnP
          rw [so.1, so.2.1, so.2.2]
          exact LnV.c18 e (Or.inr (Or.inr (Or.inr ⟨nsh, r, nk, hm⟩)))⟩
        exact ⟨fun z => mk 2 (Or.inl ⟨z, l2⟩), fun z => mk 3 (Or.inr ⟨by omega, l3⟩)⟩
      · have sh : -32768 ≤ (f_first S x).toInt ∧ (f_first S x).toInt ≤ 32767 := Classical.byContradiction (fun q => z2 (sh_rg.1.mpr q))
        exact own 3 (LnV.c18 e (Or.inr (Or.inr (Or.inl ⟨by_rg2.1.mp z1, sh, l3⟩))))
      · have bb : -128 ≤ (f_first S x).toInt ∧ (f_first S x).toInt ≤ 127 := Classical.byContradiction (fun q => z1 (by_rg2.1.mpr q))
        exact own 2 (LnV.c18 e (Or.inr (Or.inl ⟨ns, bb, l2⟩)))
    exact ⟨fun z => j160 (by omega), fun z => ⟨fun z2 => j160 (by omega), fun z2 => own 1 (LnV.c18 e (Or.inl ⟨by omega, l1⟩))⟩⟩
  · have dl : d_longOf S x := ⟨dfi, dse, trivial⟩
    rw [lo]
    exact ⟨dl, fun z => own 1 (LnV.c20 e (Or.inl ⟨Or.inl z, l1⟩)), fun z0 => ⟨dl, fun z => own 1 (LnV.c20 e (Or.inl ⟨Or.inr z, l1⟩)), fun z1 => own 3 (LnV.c20 e (Or.inr ⟨⟨z0, z1⟩, l3⟩))⟩⟩
  · exact Classical.byContradiction (fun q => z (by_rg2.1.mpr q))
  · have b := rv.2.2.1 (Or.inl e)
    have b12 : (12 : Int32).toInt = 12 := by decide
    have t1 : (f_switchFrom S o - o).toInt = 4 - o.toInt % 4 := by rw [t_sub (by omega), sf]; omega
    have t2 : (f_switchFrom S o - o + (12 : Int32)).toInt = 16 - o.toInt % 4 := by rw [t_add (by rw [t1, b12]; omega), t1, b12]; omega
    have t3 : ((4 : Int32) * f_second S x).toInt = 4 * (f_second S x).toInt := by rw [t_mul (by rw [li_4]; omega), li_4]
    exact own _ (LnV.c170 e (by rw [t_add (by rw [t2, t3]; omega), t2, t3]))
  · have b := rv.2.2.1 (Or.inr e)
    have b8 : (8 : Int32).toInt = 8 := by decide
    have t1 : (f_switchFrom S o - o).toInt = 4 - o.toInt % 4 := by rw [t_sub (by omega), sf]; omega
    have t2 : (f_switchFrom S o - o + (8 : Int32)).toInt = 12 - o.toInt % 4 := by rw [t_add (by rw [t1, b8]; omega), t1, b8]; omega
    have t3 : ((8 : Int32) * f_second S x).toInt = 8 * (f_second S x).toInt := by rw [t_mul (by rw [b8]; omega), b8]
    exact own _ (LnV.c171 e (by rw [t_add (by rw [t2, t3]; omega), t2, t3]))
  · have nj := js _ z
    exact own 1 (LnV.cO (fun q => by
      rcases q with q | q | q | q | q | q | q | q | q
      · exact e1 q
      · exact e2 q
      · omega
      · exact e9 q
      · exact e10 q
      · exact e11 q
      · omega
      · exact e15 q
      · exact nj q) l1)
end LNX
/-! how writing fails, with the bytes (behind sp_nO, sp_by, eK) -/
theorem eb_nO {kp : Prop} {S : MS} {x : Int32} {Q K : Int32 → MS → Prop} (h : w_needOf S x Q (fun _ => ¬ kp)) (b : ByO S) {S0 : MS} (f : frm WA JM S0 S) (k : ∀ (r : Int32) (u : MS), Q r u → K r u) : ∃ Q9 E9, w_needOf S x Q9 E9 ∧ (∀ (r : Int32) (u : MS), Q9 r u → K r u) ∧ ∀ u : MS, E9 u → eK kp S0 u := ⟨_, _, fr_needOf h, fun r u z => k r u z.1, fun u z => ⟨z.1, b.fm z.2 (by decide) (by decide), f.tr (z.2.mo (by decide) (by decide))⟩⟩
theorem eb_nm {kp : Prop} {S : MS} {p : Nat} {Q K : Int32 → MS → Prop} (h : w_nameNumber S p Q (fun _ => ¬ kp)) (b : ByO S) {S0 : MS} (f : frm WA JM S0 S) (k : ∀ (r : Int32) (u : MS), Q r u → K r u) : ∃ Q9 E9, w_nameNumber S p Q9 E9 ∧ (∀ (r : Int32) (u : MS), Q9 r u → K r u) ∧ ∀ u : MS, E9 u → eK kp S0 u := ⟨_, _, fr_nameNumber h, fun r u z => k r u z.1, fun u z => ⟨z.1, b.fm z.2 (by decide) (by decide), f.tr (z.2.mo (by decide) (by decide))⟩⟩
theorem eb_cls {kp : Prop} {S : MS} {p : Nat} {Q K : Int32 → MS → Prop} (h : w_classNumber S p Q (fun _ => ¬ kp)) (b : ByO S) {S0 : MS} (f : frm WA JM S0 S) (k : ∀ (r : Int32) (u : MS), Q r u → K r u) : ∃ Q9 E9, w_classNumber S p Q9 E9 ∧ (∀ (r : Int32) (u : MS), Q9 r u → K r u) ∧ ∀ u : MS, E9 u → eK kp S0 u := ⟨_, _, fr_classNumber h, fun r u z => k r u z.1, fun u z => ⟨z.1, b.fm z.2 (by decide) (by decide), f.tr (z.2.mo (by decide) (by decide))⟩⟩
theorem eb_by {kp : Prop} {S : MS} {x o : Int32} {Q K : Int32 → MS → Prop} (h : w_bytesOf S x o Q (fun _ => ¬ kp)) (b : ByO S) {S0 : MS} (f : frm WA JM S0 S) (k : ∀ (r : Int32) (u : MS), Q r u → K r u) : ∃ Q9 E9, w_bytesOf S x o Q9 E9 ∧ (∀ (r : Int32) (u : MS), Q9 r u → K r u) ∧ ∀ u : MS, E9 u → eK kp S0 u := ⟨_, _, fr_bytesOf h, fun r u z => k r u z.1, fun u z => ⟨z.1, b.fm z.2 (by decide) (by decide), f.tr (z.2.mo (by decide) (by decide))⟩⟩
theorem eb_co {kp : Prop} {S : MS} {p : Nat} {Q K : MS → Prop} (h : w_collect S p Q (fun _ => ¬ kp)) (b : ByO S) {S0 : MS} (f : frm WA JM S0 S) (k : ∀ u : MS, Q u → K u) : ∃ Q9 E9, w_collect S p Q9 E9 ∧ (∀ u : MS, Q9 u → K u) ∧ ∀ u : MS, E9 u → eK kp S0 u := ⟨_, _, fr_collect h, fun u z => k u z.1, fun u z => ⟨z.1, b.fm z.2 (by decide) (by decide), f.tr (z.2.mo (by decide) (by decide))⟩⟩
