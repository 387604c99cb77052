/-! a method's instructions and catches are taken up (behind sp_instruction, sp_caught) -/
def frp (W : Nat → Prop) (J : List Nat) (S u : MS) : Prop := qT u = qT S ∧ qN u = qN S ∧ qn u = qn S ∧ qu u = qu S ∧ (∀ h : Nat, h ≠ 0 → ¬ W h → qI u h = qI S h ∧ qJ u h = qJ S h ∧ qR u h = qR S h) ∧ ∀ j : Nat, j ∉ J → qI u 0 j = qI S 0 j ∧ qJ u 0 j = qJ S 0 j ∧ qR u 0 j = qR S 0 j
theorem frp.rf {W : Nat → Prop} {J : List Nat} {S : MS} : frp W J S S := ⟨rfl, rfl, rfl, rfl, fun _ _ _ => ⟨rfl, rfl, rfl⟩, fun _ _ => ⟨rfl, rfl, rfl⟩⟩
theorem frp.tr {W : Nat → Prop} {J : List Nat} {S u v : MS} (h : frp W J S u) (k : frp W J u v) : frp W J S v := ⟨k.1.trans h.1, k.2.1.trans h.2.1, k.2.2.1.trans h.2.2.1, k.2.2.2.1.trans h.2.2.2.1, fun a h0 hn => ⟨(k.2.2.2.2.1 a h0 hn).1.trans (h.2.2.2.2.1 a h0 hn).1, (k.2.2.2.2.1 a h0 hn).2.1.trans (h.2.2.2.2.1 a h0 hn).2.1, (k.2.2.2.2.1 a h0 hn).2.2.trans (h.2.2.2.2.1 a h0 hn).2.2⟩, fun j hj => ⟨(k.2.2.2.2.2 j hj).1.trans (h.2.2.2.2.2 j hj).1, (k.2.2.2.2.2 j hj).2.1.trans (h.2.2.2.2.2 j hj).2.1, (k.2.2.2.2.2 j hj).2.2.trans (h.2.2.2.2.2 j hj).2.2⟩⟩
theorem frp.of {W : Nat → Prop} {L J J' : List Nat} {S u : MS} (h : frm L J S u) (hW : ∀ a : Nat, a ∈ L → W a) (hJ : ∀ j : Nat, j ∈ J → j ∈ J') : frp W J' S u := ⟨h.1, h.2.1, h.2.2.1, h.2.2.2.1, fun a a0 an => h.2.2.2.2.1 a a0 (fun q => an (hW a q)), fun j jn => h.2.2.2.2.2 j (fun q => jn (hJ j q))⟩
theorem frp.pI {W : Nat → Prop} {J : List Nat} {S : MS} {h i : Nat} {v : Int32} (hm : W h) (h0 : h ≠ 0) : frp W J S (wI S h i v) := ⟨rfl, rfl, rfl, rfl, fun a _ hn => ⟨if_neg (fun (q : a = h) => hn (by rw [q]; exact hm)), rfl, rfl⟩, fun j hj => ⟨by rw [qI_wI, if_neg (fun q => h0 q.1.symm)], rfl, rfl⟩⟩
theorem frp.pI0 {W : Nat → Prop} {J : List Nat} {S : MS} {i : Nat} {v : Int32} (hm : i ∈ J) : frp W J S (wI S 0 i v) := ⟨rfl, rfl, rfl, rfl, fun a h0 hn => ⟨if_neg h0, rfl, rfl⟩, fun j hj => ⟨by rw [qI_wI, if_neg (fun q => hj (by rw [q.2]; exact hm))], rfl, rfl⟩⟩
/-- the sum of what rows cost -/
def wtS (R : Nat → Int32) (a : Nat) : Nat → Int
  | 0 => 0
  | n + 1 => wtS R a n + wtR R (a + n)
theorem wtS_eq {R R' : Nat → Int32} {a : Nat} : ∀ (n : Nat), (∀ j : Nat, 3 * a ≤ j → j < 3 * (a + n) → R' j = R j) → wtS R' a n = wtS R a n := by
  intro n
  induction n with
  | zero => intro _; rfl
  | succ n ih =>
    intro h
    unfold wtS wtR
    rw [ih (fun j j0 j1 => h j j0 (by omega)), h _ (by omega) (by omega), h _ (by omega) (by omega)]
/-- a method: its rows, its catches -/
def MtI (R T C : Nat → Int32) (rn ts cn L F M : Int) (fst len cf cc : Int32) : Prop := 0 ≤ fst.toInt ∧ (1 ≤ len.toInt ∧ len.toInt ≤ 1200) ∧ fst.toInt + len.toInt ≤ rn ∧ (∀ i : Nat, (i : Int) < len.toInt → rOK R T ts len.toInt L F M (fst.toInt.toNat + i)) ∧ wtS R fst.toInt.toNat len.toInt.toNat ≤ 3600 ∧ 0 ≤ cf.toInt ∧ (0 ≤ cc.toInt ∧ cc.toInt ≤ 16) ∧ cf.toInt + cc.toInt ≤ cn ∧ ∀ c : Nat, (c : Int) < cc.toInt → cOK C len.toInt (cf.toInt.toNat + c)
theorem rOK.mv {R R' T T' : Nat → Int32} {ts ts' N L F M : Int} {i : Nat} (h : rOK R T ts N L F M i) (hR : ∀ j : Nat, j < 3 * i + 3 → R' j = R j) (hts : ts ≤ ts') (hT : ∀ j : Nat, (j : Int) < ts → T' j = T j) : rOK R' T' ts' N L F M i := by
  unfold rOK
  rw [hR _ (by omega), hR _ (by omega), hR _ (by omega)]
  exact rV.mv h hts hT
theorem cOK.mv {C C' : Nat → Int32} {N : Int} {c : Nat} (h : cOK C N c) (hC : ∀ j : Nat, j < 4 * c + 4 → C' j = C j) : cOK C' N c := by
  unfold cOK
  rw [hC _ (by omega), hC _ (by omega), hC _ (by omega), hC _ (by omega)]
  exact h
theorem MtI.mv {R R' T T' C C' : Nat → Int32} {rn ts cn rn' ts' cn' L F M : Int} {fst len cf cc : Int32} (h : MtI R T C rn ts cn L F M fst len cf cc) (h1 : rn ≤ rn') (h2 : ts ≤ ts') (h3 : cn ≤ cn') (hR : ∀ j : Nat, (j : Int) < 3 * rn → R' j = R j) (hT : ∀ j : Nat, (j : Int) < ts → T' j = T j) (hC : ∀ j : Nat, (j : Int) < 4 * cn → C' j = C j) : MtI R' T' C' rn' ts' cn' L F M fst len cf cc := by
  obtain ⟨a, b, c, d, e, f, g, i, k⟩ := h
  refine ⟨a, b, by omega, fun j hj => (d j hj).mv (fun x hx => hR x (by omega)) h2 hT, ?_, f, g, by omega, fun j hj => (k j hj).mv (fun x hx => hC x (by omega))⟩
  rw [wtS_eq _ (fun x _ x1 => hR x (by omega))]
  exact e
/-- the loop over the code: rows from b on, tables from t on -/
def PtL (S U : MS) (o : Int32) (e : Nat) : Prop := frm [19, 20] [7, 8, 41, 43] S U ∧ (0 ≤ o.toInt ∧ o.toInt ≤ e) ∧ (e : Int) ≤ (qI S 0 37).toInt ∧ 0 ≤ (qI S 18 e).toInt ∧ (∀ j : Nat, o.toInt ≤ j → j < e → (qI S 18 j).toInt < 0) ∧ (qI U 0 41).toInt = (qI S 0 41).toInt + (qI S 18 e).toInt ∧ ((qI S 0 43).toInt ≤ (qI U 0 43).toInt ∧ (qI U 0 43).toInt ≤ (qI S 0 43).toInt + e ∧ 3 * (qI S 18 e).toInt + (qI U 0 43).toInt - (qI S 0 43).toInt ≤ 3 * (e : Int)) ∧ (∀ j : Nat, (j : Int) < 3 * (qI S 0 41).toInt → qI U 19 j = qI S 19 j) ∧ (∀ j : Nat, (j : Int) < (qI S 0 43).toInt → qI U 20 j = qI S 20 j) ∧ (∀ i : Nat, (i : Int) < (qI S 18 e).toInt → rOK (qI U 19) (qI U 20) (qI U 0 43).toInt (qI S 0 39).toInt (qI S 0 46).toInt (qI S 0 22).toInt ((qI S 0 21).toInt - (qI S 0 22).toInt) ((qI S 0 41).toInt.toNat + i)) ∧ wtS (qI U 19) (qI S 0 41).toInt.toNat (qI S 18 e).toInt.toNat ≤ 3 * e
theorem PtL.skip {S U : MS} {o o' : Int32} {e : Nat} (h : PtL S U o e) (hN : NbI S) (ho : o.toInt < (qI S 0 37).toInt) (hn : (qI S 18 o.toInt.toNat).toInt < 0) (eo : o'.toInt = o.toInt + 1) : PtL S U o' e := by
  obtain ⟨a, b, c, d, f, g⟩ := h
  have ne : (e : Int) ≠ o.toInt := fun q => by
    have : e = o.toInt.toNat := by omega
    rw [this] at d
    omega
  exact ⟨a, by omega, c, d, fun j j0 j1 => f j (by omega) j1, g⟩
theorem PtL.step {S U V : MS} {o o' : Int32} {e : Nat} (h : PtL S U o e) (hC : CoI S) (hN : NbI S) (h41 : 0 ≤ (qI S 0 41).toInt ∧ (qI S 0 41).toInt ≤ 27600) (ho : o.toInt < (qI S 0 37).toInt) (hn : 0 ≤ (qI S 18 o.toInt.toNat).toInt) (eo : o'.toInt = o.toInt + 1) {n : Nat} (hV : IRp U n V) (hf : frm [19, 20] [7, 8, 41, 43] U V) (hS : SpR S o n) (hnx : (qI S 18 (o.toInt.toNat + n)).toInt = (qI S 18 o.toInt.toNat).toInt + 1) (hgap : ∀ i : Nat, o.toInt.toNat < i → i < o.toInt.toNat + n → (qI S 18 i).toInt = -1) : PtL S V o' (o.toInt.toNat + n) := by
  obtain ⟨a, b, c, d, f, g1, g2, g3, g4, g5, g6⟩ := h
  have ee : e = o.toInt.toNat := by
    by_cases q : e = o.toInt.toNat
    · exact q
    · have := f o.toInt.toNat (by omega) (by omega)
      omega
  subst ee
  obtain ⟨v1, v2, v3, v4, v5, v6⟩ := hV
  have z39 : qI U 0 39 = qI S 0 39 := (a.2.2.2.2.2 39 (by decide)).1
  have z46 : qI U 0 46 = qI S 0 46 := (a.2.2.2.2.2 46 (by decide)).1
  have z22 : qI U 0 22 = qI S 0 22 := (a.2.2.2.2.2 22 (by decide)).1
  have z21 : qI U 0 21 = qI S 0 21 := (a.2.2.2.2.2 21 (by decide)).1
  have n1 := hS.1
  have n2 := hS.2.1
  have hlt := (hN.2.2.2.1 o.toInt.toNat (by omega)).2
  have eI : (qI U 0 41).toInt.toNat = (qI S 0 41).toInt.toNat + (qI S 18 o.toInt.toNat).toInt.toNat := by omega
  refine ⟨a.tr hf, by omega, by omega, by omega, fun j j0 j1 => by rw [hgap j (by omega) j1]; decide, by omega, by omega, fun j hj => by rw [v2 j (by omega), g3 j hj], fun j hj => by rw [v4 j (by omega), g4 j hj], fun i hi => ?_, ?_⟩
  · rw [hnx] at hi
    by_cases q : (i : Int) < (qI S 18 o.toInt.toNat).toInt
    · exact (g5 i q).mv (fun j hj => v2 j (by omega)) v3.1 v4
    · have ei : i = (qI S 18 o.toInt.toNat).toInt.toNat := by omega
      rw [ei, ← eI, ← z39, ← z46, ← z22, ← z21]
      exact v5
  · rw [hnx, show ((qI S 18 o.toInt.toNat).toInt + 1).toNat = (qI S 18 o.toInt.toNat).toInt.toNat + 1 by omega]
    unfold wtS
    rw [wtS_eq _ (fun j _ j1 => v2 j (by omega)), ← eI]
    have : ((o.toInt.toNat + n : Nat) : Int) = (o.toInt.toNat : Int) + n := by omega
    omega
/-- what pointing leaves -/
def PoP (S : MS) (f : Nat) (m : Nat) (u : MS) : Prop := frp (fun a => a = 18 ∨ a = 19 ∨ a = 20 ∨ a = 21 ∨ a = f + 10 ∨ a = f + 11 ∨ a = f + 12 ∨ a = f + 13) [7, 8, 36, 37, 39, 41, 43, 45, 46] S u ∧ (∀ a j : Nat, f + 10 ≤ a → a ≤ f + 13 → j ≠ m → qI u a j = qI S a j) ∧ ((qI S 0 41).toInt ≤ (qI u 0 41).toInt ∧ (qI u 0 41).toInt ≤ (qI S 0 41).toInt + 1200) ∧ ((qI S 0 43).toInt ≤ (qI u 0 43).toInt ∧ (qI u 0 43).toInt ≤ (qI S 0 43).toInt + 1200 ∧ 3 * (qI u 0 41).toInt + (qI u 0 43).toInt ≤ 3 * (qI S 0 41).toInt + (qI S 0 43).toInt + 3600) ∧ ((qI S 0 45).toInt ≤ (qI u 0 45).toInt ∧ (qI u 0 45).toInt ≤ (qI S 0 45).toInt + 16) ∧ (∀ j : Nat, (j : Int) < 3 * (qI S 0 41).toInt → qI u 19 j = qI S 19 j) ∧ (∀ j : Nat, (j : Int) < (qI S 0 43).toInt → qI u 20 j = qI S 20 j) ∧ (∀ j : Nat, (j : Int) < 4 * (qI S 0 45).toInt → qI u 21 j = qI S 21 j) ∧ MtI (qI u 19) (qI u 20) (qI u 21) (qI u 0 41).toInt (qI u 0 43).toInt (qI u 0 45).toInt (qI S 13 m).toInt (qI S 0 22).toInt ((qI S 0 21).toInt - (qI S 0 22).toInt) (qI u (f + 10) m) (qI u (f + 11) m) (qI u (f + 12) m) (qI u (f + 13) m)
/-- a File's rows -/
def FlR (S : MS) (f : Nat) : Prop := (92 < f ∧ f + 14 < TXB) ∧ (qT S f = 11 ∧ qN S f = 0) ∧ ∀ i : Nat, i < 13 → qR S f (5 + i) = some (f + 1 + i) ∧ qN S (f + 1 + i) = 24 ∧ qT S (f + 1 + i) = if i < 7 then 5 else 2
theorem sp_pt_L89 {S : MS} {Q E : MS → Prop} {x1 : Int32} (hE : ∀ u : MS, frm [21] [7, 8, 45] S u → E u) (hC : CoI S) (hN : NbI S) (hR : RT S) (hm : 0 ≤ x1.toInt ∧ x1.toInt < 24) (hco : COK S x1.toInt.toNat) (hc : 0 ≤ (qI S 0 45).toInt ∧ (qI S 0 45).toInt ≤ 368) (hQ : ∀ u : MS, frm [21] [7, 8, 45] S u → (qI u 0 45).toInt = (qI S 0 45).toInt + (qI S 17 x1.toInt.toNat).toInt → (∀ j : Nat, (j : Int) < 4 * (qI S 0 45).toInt → qI u 21 j = qI S 21 j) → (∀ c : Nat, (c : Int) < (qI S 17 x1.toInt.toNat).toInt → cOK (qI u 21) (qI S 0 39).toInt ((qI S 0 45).toInt.toNat + c)) → Q u) :
    ∀ (m : Nat) (U : MS) (k : Int32), (frm [21] [7, 8, 45] S U ∧ (0 ≤ k.toInt ∧ k.toInt ≤ (qI S 17 x1.toInt.toNat).toInt) ∧ (qI U 0 45).toInt = (qI S 0 45).toInt + k.toInt ∧ (∀ j : Nat, (j : Int) < 4 * (qI S 0 45).toInt → qI U 21 j = qI S 21 j) ∧ ∀ c : Nat, (c : Int) < k.toInt → cOK (qI U 21) (qI S 0 39).toInt ((qI S 0 45).toInt.toNat + c)) → (16 - k.toInt).toNat < m → w_pointing_L89 Q E m U x1 k := by
  obtain ⟨co1, co2, co3, co4⟩ := hco
  have hb := hC.1.bnd
  intro m
  induction m with
  | zero => intro U k _ h9; exact absurd h9 (Nat.not_lt_zero _)
  | succ m ih =>
    rintro U k ⟨hf, hk, h45, hold, hnew⟩ hm'
    have f1 := hf.mo (W' := [19, 20, 21]) (J' := [7, 8, 41, 43, 45, 46]) (by decide) (by decide)
    obtain ⟨CU, sK, sT⟩ := hC.fr f1
    have NU := hN.fr hC f1
    have RU := sT.rt hR
    have z17 : qI U 17 = qI S 17 := sT.2.1 17 (by decide) (by decide)
    have z16 : qI U 16 = qI S 16 := sT.2.1 16 (by decide) (by decide)
    have z12 := sT.1.f 12
    have z39 : qI U 0 39 = qI S 0 39 := (hf.2.2.2.2.2 39 (by decide)).1
    unfold w_pointing_L89
    rw [z17, z16]
    refine ⟨hm, fun c => hQ U hf (by omega) hold (fun c' hc' => hnew c' (by omega)), fun c => ⟨hm, ?_⟩⟩
    have e8 : ((8 : Int32) * k).toInt = 8 * k.toInt := by rw [t_mul (by rw [li_8]; omega), li_8]
    have ea : (qI S 16 x1.toInt.toNat + (8 : Int32) * k).toInt = (qI S 16 x1.toInt.toNat).toInt + 8 * k.toInt := by rw [t_add (by rw [e8]; omega), e8]
    have ek : (k + Int32.ofInt 1).toInt = k.toInt + 1 := by rw [t_add (by rw [lo_1]; omega), lo_1]
    refine ⟨_, _, fr_caught (sp_caught CU NU RU ⟨by omega, by omega⟩ ⟨by omega, by rw [z12]; omega⟩), ?_, fun u9 h9 => hE u9 (hf.tr h9.2)⟩
    rintro V ⟨⟨v1, v2, v3⟩, fV⟩ a ea
    subst ea
    refine ih V _ ⟨hf.tr fV, by omega, by omega, fun j hj => by rw [v2 j (by omega), hold j hj], fun c' hc' => ?_⟩ (by omega)
    by_cases q : (c' : Int) < k.toInt
    · exact (hnew c' q).mv (fun j hj => v2 j (by omega))
    · rw [z39] at v3
      rw [show (qI S 0 45).toInt.toNat + c' = (qI U 0 45).toInt.toNat by omega]
      exact v3
/-! pointing -/
theorem frp.src {W : Nat → Prop} {J : List Nat} {S u : MS} (h : RdI S) (f : frp W J S u) (hW : ∀ a : Nat, W a → qT S a ≠ 1) (h11 : 11 ∉ J) : smB S u := by
  have b : qO S 0 11 ≠ 0 ∧ ¬ W (qO S 0 11) := by
    refine ⟨h.ne h.z (by decide), fun q => ?_⟩
    have := hW _ q
    obtain ⟨b, h2, h3, -⟩ := h
    rw [show qO S 0 11 = b by unfold qO; rw [h2]; rfl] at this
    exact this h3
  exact ⟨(f.2.2.2.2.2 11 h11).2.2, (f.2.2.2.2.1 _ b.1 b.2).1⟩
theorem frp.sT {W : Nat → Prop} {J : List Nat} {S u : MS} (h : RdI S) (f : frp W J S u) (hW : ∀ a : Nat, W a → 18 ≤ a ∧ a < TXB ∧ qT S a ≠ 1) (hJ : ∀ j ∈ J, j < 9 ∨ 36 ≤ j) : smT S u := by
  have nn : ∀ a : Nat, a ≠ 0 → ¬ W a → qI u a = qI S a ∧ qJ u a = qJ S a ∧ qR u a = qR S a := fun a a0 a1 => f.2.2.2.2.1 a a0 a1
  have jj : ∀ j : Nat, 9 ≤ j → j < 36 → qI u 0 j = qI S 0 j := fun j j0 j1 => (f.2.2.2.2.2 j (fun q => by have := hJ j q; omega)).1
  refine ⟨⟨fun b _ => ⟨by rw [f.1], by rw [f.2.1]⟩, f.src h (fun a q => (hW a q).2.2) (fun q => by have := hJ 11 q; omega), fun a a0 a1 => ?_, fun a a0 => ?_, fun j j0 j1 _ => jj j j0 (by omega)⟩, fun a a0 a1 => ?_, jj 13 (by decide) (by decide), jj 35 (by decide) (by decide)⟩
  · have := nn a a0 (fun q => by have := hW a q; omega)
    exact ⟨this.1, this.2.1⟩
  · exact (nn a (fun q => by rw [q] at a0; exact absurd a0 (by decide)) (fun q => by have := hW a q; omega)).1
  · exact (nn a (by omega) (fun q => by have := hW a q; omega)).1
theorem sp_pt_L59 {S : MS} {Q E : MS → Prop} {x1 : Int32} (hE : ∀ u : MS, frm [19, 20] [7, 8, 41, 43] S u → E u) (hC : CoI S) (hN : NbI S) (hR : RT S) (h41 : 0 ≤ (qI S 0 41).toInt ∧ (qI S 0 41).toInt ≤ 27600) (h43 : 0 ≤ (qI S 0 43).toInt ∧ (qI S 0 43).toInt ≤ 27600) (h46 : 0 ≤ (qI S 0 46).toInt ∧ (qI S 0 46).toInt ≤ 24) (hby : byt S (qO S 0 11)) (hQ : ∀ (U : MS) (o : Int32), PtL S U o (qI S 0 37).toInt.toNat → XaI U → ∃ n, w_pointing_L89 Q E n U x1 0) :
    ∀ (m : Nat) (U : MS) (o : Int32) (e : Nat), PtL S U o e → XaI U → (1200 - o.toInt).toNat < m → w_pointing_L59 Q E m U x1 o := by
  have hcc := hC.2
  intro m
  induction m with
  | zero => intro U o e _ _ h9; exact absurd h9 (Nat.not_lt_zero _)
  | succ m ih =>
    intro U o e h hxa hm
    have h' := h
    obtain ⟨a, b, c, d, f, g1, g2, g3, g4, g5, g6⟩ := h
    have f1 := a.mo (W' := [19, 20, 21]) (J' := [7, 8, 41, 43, 45, 46]) (by decide) (by decide)
    obtain ⟨CU, sK, sT⟩ := hC.fr f1
    have NU := hN.fr hC f1
    have RU := sT.rt hR
    have z37 := sK.2.2
    have z18 : qI U 18 = qI S 18 := (a.2.2.2.2.1 18 (by decide) (by decide)).1
    have z46 : qI U 0 46 = qI S 0 46 := (a.2.2.2.2.2 46 (by decide)).1
    unfold w_pointing_L59
    rw [z37, z18]
    refine ⟨fun q => hQ U o (by rw [show (qI S 0 37).toInt.toNat = e by omega]; exact h') hxa, fun q => ⟨⟨by omega, by omega⟩, fun q2 => ?_, fun q2 => ?_⟩⟩
    · have eo : (o + Int32.ofInt 1).toInt = o.toInt + 1 := by rw [t_add (by rw [lo_1]; omega), lo_1]
      unfold w_pointing_J81
      intro k ek
      subst ek
      exact ih U _ e (h'.skip hN (by omega) q2 eo) hxa (by omega)
    · have eo : (o + Int32.ofInt 1).toInt = o.toInt + 1 := by rw [t_add (by rw [lo_1]; omega), lo_1]
      obtain ⟨n, n1, n2, n3⟩ := hN.2.2.2.2 o b.1 (by omega) (by omega)
      have ee : e = o.toInt.toNat := by
        by_cases z : e = o.toInt.toNat
        · exact z
        · have := f o.toInt.toNat (by omega) (by omega)
          omega
      have hlt := (hN.2.2.2.1 o.toInt.toNat (by omega)).2
      have hNn := hN.1
      have s1 := n1.2.1
      rw [ee] at g1 g2
      have n1U := n1.mv sK
      have byU : byt U (qO U 0 11) := fun i => by
        have oe : qO U 0 11 = qO S 0 11 := by unfold qO; rw [sK.1.1]
        rw [oe, sK.1.2]
        exact hby i
      have wd : (f_codeOctet U o).toInt = 196 → (f_codeOctet U (o + 1)).toInt ≠ 18 ∧ (f_codeOctet U (o + 1)).toInt ≠ 20 ∧ (f_codeOctet U (o + 1)).toInt ≠ 170 ∧ (f_codeOctet U (o + 1)).toInt ≠ 171 := fun z => by
        have := n1U.2.2.2.2.1 z
        omega
      refine ⟨_, _, fr_instruction (nw_instruction ⟨by omega, by omega⟩ (sp_instruction (n := (n : Int)) ⟨CU, NU, ⟨by omega, by omega⟩, ⟨by omega, by omega⟩, by rw [z46]; exact h46⟩ RU b.1 n1U) byU wd), ?_, fun u9 h9 => hE u9 (a.tr h9.2)⟩
      rintro V ⟨⟨hV, wV⟩, fV⟩
      unfold w_pointing_J81
      intro k ek
      subst ek
      exact ih V _ _ (h'.step hC hN h41 (by omega) (by omega) eo hV fV n1 n2 n3) (hxa.st (by omega) hV wV fV) (by omega)
theorem sp_pointing {S : MS} {x1 : Int32} {f : Nat} (hR : RT S) (hF : FlR S f) (hm : 0 ≤ x1.toInt ∧ x1.toInt < 24) (hco : COK S x1.toInt.toNat) (h41 : 0 ≤ (qI S 0 41).toInt ∧ (qI S 0 41).toInt ≤ 27600) (h43 : 0 ≤ (qI S 0 43).toInt ∧ (qI S 0 43).toInt ≤ 27600) (h45 : 0 ≤ (qI S 0 45).toInt ∧ (qI S 0 45).toInt ≤ 368) (hby : byt S (qO S 0 11)) (hxa : XaI S) : w_pointing S x1 f (fun u => PoP S f x1.toInt.toNat u ∧ XaI u ∧ qI u (f + 10) x1.toInt.toNat = qI S 0 41) (fun u => frp (fun a => a = 18 ∨ a = 19 ∨ a = 20 ∨ a = 21 ∨ a = f + 10 ∨ a = f + 11 ∨ a = f + 12 ∨ a = f + 13) [7, 8, 36, 37, 39, 41, 43, 45, 46] S u) := by
  obtain ⟨⟨F0, F1⟩, F2, F3⟩ := hF
  rw [show TXB = 10000000 from rfl] at F1
  obtain ⟨⟨co1, co2, co3, co4⟩, co5, co6, co7⟩ := hco
  have r10 := F3 9 (by decide)
  have r11 := F3 10 (by decide)
  have r12 := F3 11 (by decide)
  have r13 := F3 12 (by decide)
  simp only [Nat.reduceAdd, Nat.reduceLT, if_false, Nat.add_assoc] at r10 r11 r12 r13
  unfold w_pointing
  refine ⟨_, _, fr_wholes (sp_wholes hR.1.1 hm co3), ?_, fun u9 h9 => frp.of h9.2 (fun a ha => by simp at ha; omega) (fun j hj => by simp at hj ⊢; omega)⟩
  rintro A ⟨⟨CA, NA⟩, fA⟩
  have sTA := smT.fr hR.1.1 (fA.mo (by decide) (by decide))
  have hT : qT A = qT S := fA.1
  have hNN : qN A = qN S := fA.2.1
  have fR : ∀ i : Nat, qR A f i = qR S f i := fun i => by rw [(fA.2.2.2.2.1 f (by omega) (by simp; omega)).2.2]
  refine ⟨hm, fun B eB => ?_⟩
  have oB : ∀ i h : Nat, qR S f i = some h → qR B f i = some h ∧ qO B f i = h := fun i h q => by
    have : qR B f i = some h := by rw [eB]; show qR A f i = _; rw [fR, q]
    exact ⟨this, by unfold qO; rw [this]; rfl⟩
  have NB : ∀ a : Nat, qN B a = qN S a := fun a => by rw [eB]; show qN A a = _; rw [hNN]
  obtain ⟨b1, b2⟩ := oB _ _ r10.1
  rw [b2]
  refine ⟨b1, ⟨hm.1, by rw [NB, r10.2.1]; omega⟩, fun C eC => ?_⟩
  have oC : ∀ i h : Nat, qR S f i = some h → qR C f i = some h ∧ qO C f i = h := fun i h q => by
    have : qR C f i = some h := by rw [eC]; exact (oB i h q).1
    exact ⟨this, by unfold qO; rw [this]; rfl⟩
  have NC : ∀ a : Nat, qN C a = qN S a := fun a => by rw [eC]; exact NB a
  obtain ⟨c1, c2⟩ := oC _ _ r11.1
  rw [c2]
  refine ⟨c1, ⟨hm.1, by rw [NC, r11.2.1]; omega⟩, fun D eD => ?_⟩
  have oD : ∀ i h : Nat, qR S f i = some h → qR D f i = some h ∧ qO D f i = h := fun i h q => by
    have : qR D f i = some h := by rw [eD]; exact (oC i h q).1
    exact ⟨this, by unfold qO; rw [this]; rfl⟩
  have ND : ∀ a : Nat, qN D a = qN S a := fun a => by rw [eD]; exact NC a
  obtain ⟨d1, d2⟩ := oD _ _ r12.1
  rw [d2]
  refine ⟨d1, ⟨hm.1, by rw [ND, r12.2.1]; omega⟩, fun E eE => ?_⟩
  have oE : ∀ i h : Nat, qR S f i = some h → qR E f i = some h ∧ qO E f i = h := fun i h q => by
    have : qR E f i = some h := by rw [eE]; exact (oD i h q).1
    exact ⟨this, by unfold qO; rw [this]; rfl⟩
  have NE' : ∀ a : Nat, qN E a = qN S a := fun a => by rw [eE]; exact ND a
  obtain ⟨e1, e2⟩ := oE _ _ r13.1
  rw [e2]
  refine ⟨e1, hm, ⟨hm.1, by rw [NE', r13.2.1]; omega⟩, fun G eG => ?_⟩
  -- fields of the states
  have B0 : ∀ j : Nat, j ≠ 46 → qI B 0 j = qI A 0 j := fun j hj => by rw [eB, qI_wI, if_neg (fun q => hj q.2)]
  have B46 : qI B 0 46 = qI A 13 x1.toInt.toNat := by rw [eB, qI_wI, if_pos ⟨rfl, rfl⟩]
  have C0 : qI C 0 = qI B 0 := by rw [eC, rdH (by omega)]
  have D0 : qI D 0 = qI B 0 := by rw [eD, rdH (by omega), C0]
  have E0 : qI E 0 = qI B 0 := by rw [eE, rdH (by omega), D0]
  have G0 : qI G 0 = qI B 0 := by rw [eG, rdH (by omega), E0]
  have fG : frp (fun a => a = f + 10 ∨ a = f + 11 ∨ a = f + 12 ∨ a = f + 13) [46] A G := by
    have q1 : frp (fun a => a = f + 10 ∨ a = f + 11 ∨ a = f + 12 ∨ a = f + 13) [46] A B := by rw [eB]; exact frp.pI0 (by decide)
    have q2 : frp (fun a => a = f + 10 ∨ a = f + 11 ∨ a = f + 12 ∨ a = f + 13) [46] B C := by rw [eC]; exact frp.pI (by omega) (by omega)
    have q3 : frp (fun a => a = f + 10 ∨ a = f + 11 ∨ a = f + 12 ∨ a = f + 13) [46] C D := by rw [eD]; exact frp.pI (by omega) (by omega)
    have q4 : frp (fun a => a = f + 10 ∨ a = f + 11 ∨ a = f + 12 ∨ a = f + 13) [46] D E := by rw [eE]; exact frp.pI (by omega) (by omega)
    have q5 : frp (fun a => a = f + 10 ∨ a = f + 11 ∨ a = f + 12 ∨ a = f + 13) [46] E G := by rw [eG]; exact frp.pI (by omega) (by omega)
    exact (((q1.tr q2).tr q3).tr q4).tr q5
  have kinds : ∀ a : Nat, (a = f + 10 ∨ a = f + 11 ∨ a = f + 12 ∨ a = f + 13) → 18 ≤ a ∧ a < TXB ∧ qT A a ≠ 1 := fun a ha => by
    rw [show TXB = 10000000 from rfl, hT]
    rcases ha with rfl | rfl | rfl | rfl
    · exact ⟨by omega, by omega, by rw [r10.2.2]; decide⟩
    · exact ⟨by omega, by omega, by rw [r11.2.2]; decide⟩
    · exact ⟨by omega, by omega, by rw [r12.2.2]; decide⟩
    · exact ⟨by omega, by omega, by rw [r13.2.2]; decide⟩
  have sTG := fG.sT CA.1 kinds (by decide)
  have sKG : smK A G := ⟨sTG.1.2.1, by rw [G0, B0 _ (by decide)], by rw [G0, B0 _ (by decide)]⟩
  have CG : CoI G := by
    unfold CoI
    rw [sKG.2.1, sKG.2.2, sTG.1.f 12]
    exact ⟨sTG.rd CA.1, CA.2⟩
  have G18 : qI G 18 = qI A 18 := (fG.2.2.2.2.1 18 (by decide) (by omega)).1
  have NG : NbI G := NA.mv sKG G18 (by rw [G0, B0 _ (by decide)])
  have sTSG := sTA.tr sTG
  have RG := sTSG.rt hR
  have a41 : qI G 0 41 = qI S 0 41 := by rw [G0, B0 _ (by decide), (fA.2.2.2.2.2 41 (by decide)).1]
  have a43 : qI G 0 43 = qI S 0 43 := by rw [G0, B0 _ (by decide), (fA.2.2.2.2.2 43 (by decide)).1]
  have a45 : qI G 0 45 = qI S 0 45 := by rw [G0, B0 _ (by decide), (fA.2.2.2.2.2 45 (by decide)).1]
  have a13 : qI A 13 = qI S 13 := sTA.2.1 13 (by decide) (by decide)
  have a46 : qI G 0 46 = qI S 13 x1.toInt.toNat := by rw [G0, B46, a13]
  have a22 : qI G 0 22 = qI S 0 22 := sTSG.1.f 22
  have a21 : qI G 0 21 = qI S 0 21 := sTSG.1.f 21
  have a19 : qI G 19 = qI S 19 := by rw [(fG.2.2.2.2.1 19 (by decide) (by omega)).1, (fA.2.2.2.2.1 19 (by decide) (by decide)).1]
  have a20 : qI G 20 = qI S 20 := by rw [(fG.2.2.2.2.1 20 (by decide) (by omega)).1, (fA.2.2.2.2.1 20 (by decide) (by decide)).1]
  have a21' : qI G 21 = qI S 21 := by rw [(fG.2.2.2.2.1 21 (by decide) (by omega)).1, (fA.2.2.2.2.1 21 (by decide) (by decide)).1]
  -- the four rows
  have g10 : ∀ j : Nat, qI G (f + 10) j = if j = x1.toInt.toNat then qI S 0 41 else qI S (f + 10) j := fun j => by
    rw [eG, rdH (by omega), eE, rdH (by omega), eD, rdH (by omega), eC, qI_wI, B0 _ (by decide), (fA.2.2.2.2.2 41 (by decide)).1]
    by_cases q : j = x1.toInt.toNat
    · rw [if_pos ⟨rfl, q⟩, if_pos q]
    · rw [if_neg (fun z => q z.2), if_neg q, eB, rdH (by omega), (fA.2.2.2.2.1 (f + 10) (by omega) (by simp; omega)).1]
  have g11 : ∀ j : Nat, qI G (f + 11) j = if j = x1.toInt.toNat then qI A 0 39 else qI S (f + 11) j := fun j => by
    rw [eG, rdH (by omega), eE, rdH (by omega), eD, qI_wI, C0, B0 _ (by decide)]
    by_cases q : j = x1.toInt.toNat
    · rw [if_pos ⟨rfl, q⟩, if_pos q]
    · rw [if_neg (fun z => q z.2), if_neg q, eC, rdH (by omega), eB, rdH (by omega), (fA.2.2.2.2.1 (f + 11) (by omega) (by simp; omega)).1]
  have g12 : ∀ j : Nat, qI G (f + 12) j = if j = x1.toInt.toNat then qI S 0 45 else qI S (f + 12) j := fun j => by
    rw [eG, rdH (by omega), eE, qI_wI, D0, B0 _ (by decide), (fA.2.2.2.2.2 45 (by decide)).1]
    by_cases q : j = x1.toInt.toNat
    · rw [if_pos ⟨rfl, q⟩, if_pos q]
    · rw [if_neg (fun z => q z.2), if_neg q, eD, rdH (by omega), eC, rdH (by omega), eB, rdH (by omega), (fA.2.2.2.2.1 (f + 12) (by omega) (by simp; omega)).1]
  have E17 : qI E 17 = qI S 17 := by rw [eE, rdH (by omega), eD, rdH (by omega), eC, rdH (by omega), eB, rdH (by omega)]; exact sTA.2.1 17 (by decide) (by decide)
  have g13 : ∀ j : Nat, qI G (f + 13) j = if j = x1.toInt.toNat then qI S 17 x1.toInt.toNat else qI S (f + 13) j := fun j => by
    rw [eG, qI_wI, E17]
    by_cases q : j = x1.toInt.toNat
    · rw [if_pos ⟨rfl, q⟩, if_pos q]
    · rw [if_neg (fun z => q z.2), if_neg q, eE, rdH (by omega), eD, rdH (by omega), eC, rdH (by omega), eB, rdH (by omega), (fA.2.2.2.2.1 (f + 13) (by omega) (by simp; omega)).1]
  have oth : ∀ a j : Nat, f + 10 ≤ a → a ≤ f + 13 → j ≠ x1.toInt.toNat → qI G a j = qI S a j := fun a j a0 a1 hj => by
    rcases (show a = f + 10 ∨ a = f + 11 ∨ a = f + 12 ∨ a = f + 13 by omega) with rfl | rfl | rfl | rfl
    · rw [g10, if_neg hj]
    · rw [g11, if_neg hj]
    · rw [g12, if_neg hj]
    · rw [g13, if_neg hj]
  have fSG : frp (fun a => a = 18 ∨ a = 19 ∨ a = 20 ∨ a = 21 ∨ a = f + 10 ∨ a = f + 11 ∨ a = f + 12 ∨ a = f + 13) [7, 8, 36, 37, 39, 41, 43, 45, 46] S G := (frp.of fA (fun a ha => by simp at ha; omega) (fun j hj => by simp at hj ⊢; omega)).tr ⟨fG.1, fG.2.1, fG.2.2.1, fG.2.2.2.1, fun a a0 an => fG.2.2.2.2.1 a a0 (fun q => an (by omega)), fun j hj => fG.2.2.2.2.2 j (fun q => hj (by simp at q; subst q; decide))⟩
  have z39 : qI G 0 39 = qI A 0 39 := by rw [G0, B0 _ (by decide)]
  have COG : COK G x1.toInt.toNat := by
    have c0 : COK S x1.toInt.toNat := ⟨⟨co1, co2, co3, co4⟩, co5, co6, co7⟩
    exact c0.mv sTSG.1 hR.2.2.2.2.2.1 (fun a a0 a1 => by rw [sTSG.2.1 a a0 a1])
  have hL : PtL G G 0 0 := by
    have n0 := NG.2.1
    have hsz := CG.2
    refine ⟨frm.rf, by decide, by omega, by rw [n0]; decide, fun j _ j1 => absurd j1 (Nat.not_lt_zero _), by rw [n0]; omega, ⟨Int.le_refl _, by omega, by rw [n0]; omega⟩, fun _ _ => rfl, fun _ _ => rfl, fun i hi => by rw [n0] at hi; omega, by rw [n0]; exact Int.le_refl _⟩
  have xG : XaI G := by
    have g4 : qI G 4 = qI S 4 := by rw [(fG.2.2.2.2.1 4 (by decide) (by omega)).1, (fA.2.2.2.2.1 4 (by decide) (by decide)).1]
    have g8 : qJ G 8 = qJ S 8 := by rw [(fG.2.2.2.2.1 8 (by decide) (by omega)).2.1, (fA.2.2.2.2.1 8 (by decide) (by decide)).2.1]
    have g14 : qI G 0 14 = qI S 0 14 := sTSG.1.f 14
    exact hxa.eq a19 g4 g8 g14 a41 a43
  have byG : byt G (qO G 0 11) := fun i => by
    have oe : qO G 0 11 = qO S 0 11 := by unfold qO; rw [sTSG.1.2.1.1]
    rw [oe, sTSG.1.2.1.2]
    exact hby i
  refine ⟨_, sp_pt_L59 (fun u hu => fSG.tr (frp.of hu (fun a ha => by simp at ha; omega) (fun j hj => by simp at hj ⊢; omega))) CG NG RG (by rw [a41]; exact h41) (by rw [a43]; exact h43) (by rw [a46]; omega) byG (fun U o hU xU => ?_) _ G 0 0 hL xG (Nat.lt_succ_self _)⟩
  obtain ⟨u1, u2, u3, u4, u5, u6, u7, u8, u9, u10, u11⟩ := hU
  have fU1 := u1.mo (W' := [19, 20, 21]) (J' := [7, 8, 41, 43, 45, 46]) (by decide) (by decide)
  obtain ⟨CU, sKU, sTU⟩ := CG.fr fU1
  have NU := NG.fr CG fU1
  have RU := sTU.rt RG
  have y45 : qI U 0 45 = qI S 0 45 := by rw [(u1.2.2.2.2.2 45 (by decide)).1, a45]
  have y17 : qI U 17 = qI S 17 := by rw [sTU.2.1 17 (by decide) (by decide)]; exact sTSG.2.1 17 (by decide) (by decide)
  have y39 : qI U 0 39 = qI A 0 39 := by rw [(u1.2.2.2.2.2 39 (by decide)).1, z39]
  have hsz := NG.2.2.1
  have hN1 := NG.1
  have hC2 := CG.2
  rw [hsz, z39] at u6 u7 u10 u11
  rw [a41] at u6 u8 u10 u11
  rw [a43] at u7 u9
  rw [z39] at hN1
  refine ⟨_, sp_pt_L89 (fun v hv => fSG.tr ((frp.of u1 (fun a ha => by simp at ha; omega) (fun j hj => by simp at hj ⊢; omega)).tr (frp.of hv (fun a ha => by simp at ha; omega) (fun j hj => by simp at hj ⊢; omega)))) CU NU RU hm (COG.mv sTU.1 RG.2.2.2.2.2.1 (fun a a0 a1 => by rw [sTU.2.1 a a0 a1])) (by rw [y45]; exact h45) (fun V v1 v2 v3 v4 => ?_) _ U 0 ⟨frm.rf, ⟨by decide, by rw [li_0, y17]; exact co4⟩, by rw [li_0]; omega, fun _ _ => rfl, fun c hc => by rw [li_0] at hc; omega⟩ (Nat.lt_succ_self _)⟩
  rw [y45, y17] at v2
  rw [y45] at v3
  rw [y45, y17, y39] at v4
  have V19 : qI V 19 = qI U 19 := (v1.2.2.2.2.1 19 (by decide) (by decide)).1
  have V20 : qI V 20 = qI U 20 := (v1.2.2.2.2.1 20 (by decide) (by decide)).1
  have V41 : qI V 0 41 = qI U 0 41 := (v1.2.2.2.2.2 41 (by decide)).1
  have V43 : qI V 0 43 = qI U 0 43 := (v1.2.2.2.2.2 43 (by decide)).1
  have Vr : ∀ a : Nat, f + 10 ≤ a → a ≤ f + 13 → qI V a = qI G a := fun a a0 a1 => by rw [(v1.2.2.2.2.1 a (by omega) (by simp; omega)).1, (u1.2.2.2.2.1 a (by omega) (by simp; omega)).1]
  have U21 : qI U 21 = qI S 21 := by rw [(u1.2.2.2.2.1 21 (by decide) (by decide)).1, a21']
  refine ⟨⟨fSG.tr ((frp.of u1 (fun a ha => by simp at ha; omega) (fun j hj => by simp at hj ⊢; omega)).tr (frp.of v1 (fun a ha => by simp at ha; omega) (fun j hj => by simp at hj ⊢; omega))), fun a j a0 a1 hj => by rw [Vr a a0 a1, oth a j a0 a1 hj], by rw [V41]; omega, by rw [V43, V41]; omega, by omega, fun j hj => by rw [V19, u8 j hj, a19], fun j hj => by rw [V20, u9 j hj, a20], fun j hj => by rw [v3 j hj, U21], ?_⟩, xU.eq V19 (v1.2.2.2.2.1 4 (by decide) (by decide)).1 (v1.2.2.2.2.1 8 (by decide) (by decide)).2.1 (v1.2.2.2.2.2 14 (by decide)).1 V41 V43, by rw [Vr (f + 10) (by omega) (by omega), g10, if_pos rfl]⟩
  rw [Vr (f + 10) (by omega) (by omega), Vr (f + 11) (by omega) (by omega), Vr (f + 12) (by omega) (by omega), Vr (f + 13) (by omega) (by omega), g10, g11, g12, g13, if_pos rfl, if_pos rfl, if_pos rfl, if_pos rfl, V19, V20, V41, V43]
  rw [a46, a22, a21] at u10
  refine ⟨h41.1, by omega, by omega, u10, by omega, h45.1, ⟨co4, co5⟩, by omega, v4⟩
/-! builders and texts -/
def sm5 (S u : MS) (a : Nat) : Prop := qI u a = qI S a ∧ qJ u a = qJ S a ∧ qR u a = qR S a ∧ qT u a = qT S a ∧ qN u a = qN S a
theorem sm5.rf {S : MS} {a : Nat} : sm5 S S a := ⟨rfl, rfl, rfl, rfl, rfl⟩
theorem sm5.tr {S u v : MS} {a : Nat} (h : sm5 S u a) (k : sm5 u v a) : sm5 S v a := ⟨k.1.trans h.1, k.2.1.trans h.2.1, k.2.2.1.trans h.2.2.1, k.2.2.2.1.trans h.2.2.2.1, k.2.2.2.2.trans h.2.2.2.2⟩
theorem sm5.wI {S : MS} {a h i : Nat} {v : Int32} (q : a ≠ h) : sm5 S (wI S h i v) a := ⟨if_neg q, rfl, rfl, rfl, rfl⟩
theorem sm5.wR {S : MS} {a h i : Nat} {v : Option Nat} (q : a ≠ h) : sm5 S (wR S h i v) a := ⟨rfl, rfl, if_neg q, rfl, rfl⟩
theorem sm5.wN {S : MS} {a t n k : Nat} (q : a ≠ qn S) : sm5 S (wN S t n k) a := ⟨if_neg q, if_neg q, if_neg q, if_neg q, if_neg q⟩
theorem sm5.wC {S : MS} {a h : Nat} {f : Nat → Int32} (q : a ≠ h) : sm5 S (wC S h f) a := ⟨if_neg q, rfl, rfl, rfl, rfl⟩
theorem sm5.wT {S : MS} {a h t : Nat} (q : a ≠ h) : sm5 S (wT S h t) a := ⟨rfl, rfl, rfl, if_neg q, rfl⟩
theorem wN_new {S : MS} {t n k : Nat} : qI (wN S t n k) (qn S) = (fun _ => 0) ∧ qR (wN S t n k) (qn S) = (fun _ => none) ∧ qT (wN S t n k) (qn S) = t ∧ qN (wN S t n k) (qn S) = n ∧ qn (wN S t n k) = qn S + 1 ∧ qu (wN S t n k) = qu S + k := ⟨if_pos rfl, if_pos rfl, if_pos rfl, if_pos rfl, rfl, rfl⟩
theorem fitB (x : Int32) : fits .byte (.int (vp_nar .byte x)) = true := by
  rw [vp_nar_byte]
  have h1 := Int8.toInt_lt x.toInt8
  have h2 := Int8.le_toInt x.toInt8
  have h3 : x.toInt8.toInt32.toInt = x.toInt8.toInt := Int8.toInt_toInt32 _
  simp only [fits, Bool.and_eq_true, decide_eq_true_eq, Int32.le_iff_toInt_le]
  constructor
  · rw [h3]; exact h2
  · rw [h3]
    have : (127 : Int32).toInt = 127 := by decide
    omega
theorem fit0 : fits .byte (.int 0) = true := by decide
/-- a builder of n letters -/
def BdI (S : MS) (b v n cap : Nat) (g : Nat → Int32) : Prop := qR S b 0 = some v ∧ b ≠ v ∧ (qI S b 1 = 0 ∧ qI S b 3 = Int32.ofNat n) ∧ qN S v = cap ∧ (n ≤ cap ∧ cap ≤ 1000) ∧ (∀ i : Nat, i < n → qI S v i = g i) ∧ byt S v
theorem sp_ini {S : MS} {b : Nat} {n : Int32} (hb : b < qn S) (h0 : qI S b 1 = 0 ∧ qI S b 3 = 0) (hn : 0 ≤ n.toInt ∧ n.toInt ≤ 1000) (hr : qn S + 1 ≤ KC ∧ qu S + n.toInt.toNat ≤ KS) : w_J4_init_d00df S b n (fun u => BdI u b (qn S) 0 n.toInt.toNat (fun _ => 0) ∧ qn u = qn S + 1 ∧ qu u = qu S + n.toInt.toNat ∧ ∀ a : Nat, a ≠ b → a ≠ qn S → sm5 S u a) := by
  unfold w_J4_init_d00df w_J5_init_d00df
  refine ⟨_, ⟨⟨hn.1, hr⟩, fun A eA B eB C eC => ?_⟩, fun u hu => hu⟩
  obtain ⟨n1, n2, n3, n4, n5, n6⟩ := wN_new (S := S) (t := 21) (n := n.toInt.toNat) (k := n.toInt.toNat)
  rw [← eA] at n1 n2 n3 n4 n5 n6
  have sA : sm5 S A b := by rw [eA]; exact sm5.wN (by omega)
  have nb : qn S ≠ b := by omega
  refine ⟨⟨by rw [eC]; show qR B b 0 = _; rw [eB, qR_wR, if_pos ⟨rfl, rfl⟩], by omega, ⟨?_, ?_⟩, ?_, ⟨by omega, by omega⟩, fun i hi => absurd hi (Nat.not_lt_zero _), fun i => ?_⟩, ?_, ?_, fun a a0 a1 => ?_⟩
  · rw [eC, qI_wI, if_pos ⟨rfl, rfl⟩]
  · rw [eC, qI_wI, if_neg (fun q => absurd q.2 (by decide)), eB]
    show qI A b 3 = _
    rw [sA.1, h0.2]
    rfl
  · rw [eC]; show qN B _ = _; rw [eB]; exact n4
  · rw [show qI C (qn S) = fun _ => 0 by rw [eC, rdH nb, eB]; exact n1]
    exact fit0
  · rw [eC]; show qn B = _; rw [eB]; exact n5
  · rw [eC]; show qu B = _; rw [eB]; exact n6
  · have q1 : sm5 S A a := by rw [eA]; exact sm5.wN a1
    have q2 : sm5 A B a := by rw [eB]; exact sm5.wR a0
    have q3 : sm5 B C a := by rw [eC]; exact sm5.wI a0
    exact (q1.tr q2).tr q3
theorem z_shr (x : Int32) : x >>> ((0 : Int32) &&& 31) = x := by
  apply Int32.toBitVec_inj.mp
  rw [Int32.toBitVec_shiftRight]
  rw [show ((0 : Int32) &&& 31) = 0 from rfl, show ((0 : Int32).toBitVec.smod 32) = 0#32 from rfl]
  simp
theorem z_shl (x : Int32) : x <<< ((0 : Int32) &&& 31) = x := by
  apply Int32.toBitVec_inj.mp
  rw [Int32.toBitVec_shiftLeft]
  rw [show ((0 : Int32) &&& 31) = 0 from rfl, show ((0 : Int32).toBitVec.smod 32) = 0#32 from rfl]
  simp
theorem oN {n : Nat} (h : n ≤ 100000) : (Int32.ofNat n).toInt = n := Int32.toInt_ofNat_of_lt (by omega)
/-- a letter is put behind -/
def ApP (S : MS) (b v n cap : Nat) (g : Nat → Int32) (u : MS) : Prop := ∃ v' cap' : Nat, BdI u b v' (n + 1) cap' g ∧ ((v' = v ∧ cap' = cap ∧ n < cap ∧ qn u = qn S ∧ qu u = qu S) ∨ (v' = qn S ∧ cap = n ∧ cap' = 2 * cap + 2 ∧ qn u = qn S + 1 ∧ qu u = qu S + cap')) ∧ ∀ a : Nat, a ≠ b → a ≠ v → (n < cap ∨ a ≠ qn S) → sm5 S u a
theorem sp_app {S : MS} {b v n cap : Nat} {g : Nat → Int32} {x : Int32} (h : BdI S b v n cap g) (hv : b < qn S ∧ v < qn S) (hx : x.toInt ≤ 255) (hc : n < cap ∨ 2 * cap + 2 ≤ 1000) (hg : g n = vp_nar .byte (x.toInt8.toInt32)) (hr : n < cap ∨ (qn S + 1 ≤ KC ∧ qu S + (2 * cap + 2) ≤ KS)) : w_J4_append_cf468 S b x (fun r u => r = b ∧ ApP S b v n cap g u) := by
  obtain ⟨b1, b2, ⟨b3, b4⟩, b5, ⟨b6, b7⟩, b8, b9⟩ := h
  have qo : qO S b 0 = v := by unfold qO; rw [b1]; rfl
  have en : (Int32.ofNat n + (1 : Int32)).toInt = n + 1 := by rw [t_add (by rw [oN (by omega), li_1]; omega), oN (by omega), li_1]
  have en2 : Int32.ofNat n + (1 : Int32) = Int32.ofNat (n + 1) := Int32.toInt_inj.mp (by rw [en, oN (by omega)]; omega)
  -- the put itself, in a state where there is place
  have put : ∀ (U : MS) (w c2 : Nat), BdI U b w n c2 g → n < c2 → (∀ a : Nat, a ≠ b → a ≠ v → (n < cap ∨ a ≠ qn S) → sm5 S U a) → (w = v ∨ w = qn S) → ((w = v ∧ c2 = cap ∧ n < cap ∧ qn U = qn S ∧ qu U = qu S) ∨ (w = qn S ∧ cap = n ∧ c2 = 2 * cap + 2 ∧ qn U = qn S + 1 ∧ qu U = qu S + c2)) → (d_J5_isLatin1_aae02 U b ∧ (((f_J5_isLatin1_aae02 U b).toInt = 0 → False) ∧ (¬ (f_J5_isLatin1_aae02 U b).toInt = 0 → (d_J1_canEncode_fc78d U x ∧ (((f_J1_canEncode_fc78d U x).toInt = 0 → False) ∧ (¬ (f_J1_canEncode_fc78d U x).toInt = 0 → ((qR U b 0 = some (qO U b 0)) ∧ (∀ S17, S17 = wI U b 3 ((qI U b 3) + (1 : Int32)) → (((0 : Int) ≤ (qI U b 3).toInt ∧ (qI U b 3).toInt < (qN S17 (qO U b 0) : Int)) ∧ (∀ S19, S19 = wI S17 (qO U b 0) (((qI U b 3).toInt).toNat) (vp_nar .byte (x.toInt8.toInt32)) → (fun r u => r = b ∧ ApP S b v n cap g u) b S19)))))))))) := fun U w c2 hB hlt hfr hw hcase => by
    obtain ⟨d1, d2, ⟨d3, d4⟩, d5, ⟨d6, d7⟩, d8, d9⟩ := hB
    have qw : qO U b 0 = w := by unfold qO; rw [d1]; rfl
    have z0 : (qI U b 1).toInt = 0 := by rw [d3]; rfl
    unfold d_J5_isLatin1_aae02 f_J5_isLatin1_aae02 f_J1_canEncode_fc78d
    rw [if_pos z0, if_pos z0, if_neg (by omega), qw, d4, oN (by omega)]
    refine ⟨trivial, fun q => absurd q (by decide), fun _ => ⟨trivial, fun q => absurd q (by decide), fun _ => ⟨d1, fun A eA => ⟨⟨by omega, by rw [eA]; show _ < (qN U w : Int); rw [d5]; omega⟩, fun B eB => ⟨rfl, w, c2, ⟨?_, d2, ⟨?_, ?_⟩, ?_, ⟨by omega, d7⟩, fun i hi => ?_, fun i => ?_⟩, ?_, fun a a0 a1 a2 => ?_⟩⟩⟩⟩⟩
    · rw [eB]; show qR A b 0 = _; rw [eA]; exact d1
    · rw [eB, rdH d2, eA, qI_wI, if_neg (fun q => absurd q.2 (by decide))]; exact d3
    · rw [eB, rdH d2, eA, qI_wI, if_pos ⟨rfl, rfl⟩]; exact en2
    · rw [eB]; show qN A w = _; rw [eA]; exact d5
    · rw [eB, qI_wI, show ((n : Int)).toNat = n from rfl]
      by_cases q : i = n
      · rw [if_pos ⟨rfl, q⟩, q, hg]
      · rw [if_neg (fun z => q z.2), eA, rdH (Ne.symm d2)]
        exact d8 i (by omega)
    · rw [eB, qI_wI]
      by_cases q : w = w ∧ i = ((n : Int)).toNat
      · rw [if_pos q]; exact fitB _
      · rw [if_neg q, eA, rdH (Ne.symm d2)]; exact d9 i
    · rw [eB]
      show (w = v ∧ c2 = cap ∧ n < cap ∧ qn A = qn S ∧ qu A = qu S) ∨ (w = qn S ∧ cap = n ∧ c2 = 2 * cap + 2 ∧ qn A = qn S + 1 ∧ qu A = qu S + c2)
      rw [eA]
      exact hcase
    · have q1 := hfr a a0 a1 a2
      have q2 : sm5 U A a := by rw [eA]; exact sm5.wI a0
      have q3 : sm5 A B a := by rw [eB]; exact sm5.wI (by omega)
      exact (q1.tr q2).tr q3
  unfold w_J4_append_cf468 w_J5_append_3fe6f w_J5_ensureCapacityInternal_d00df
  refine ⟨(fun r u => r = b ∧ ApP S b v n cap g u), ⟨fun U => ∃ w c2 : Nat, BdI U b w n c2 g ∧ n < c2 ∧ (∀ a : Nat, a ≠ b → a ≠ v → (n < cap ∨ a ≠ qn S) → sm5 S U a) ∧ (w = v ∨ w = qn S) ∧ ((w = v ∧ c2 = cap ∧ n < cap ∧ qn U = qn S ∧ qu U = qu S) ∨ (w = qn S ∧ cap = n ∧ c2 = 2 * cap + 2 ∧ qn U = qn S + 1 ∧ qu U = qu S + c2)), ?_, ?_⟩, fun r u hu => ⟨rfl, hu.2⟩⟩
  · rw [qo, b5, b3, b4, z_shr]
    refine ⟨b1, fun a4 e4 => ?_⟩
    have e5 : (Int32.ofNat n + (1 : Int32) - a4).toInt = n + 1 - cap := by rw [t_sub (by rw [en, e4, oN (by omega)]; omega), en, e4, oN (by omega)]
    rw [e5]
    refine ⟨fun c => ⟨v, cap, ⟨b1, b2, ⟨b3, b4⟩, b5, ⟨b6, b7⟩, b8, b9⟩, by omega, fun _ _ _ _ => sm5.rf, Or.inl rfl, Or.inl ⟨rfl, rfl, by omega, rfl, rfl⟩⟩, fun c => ?_⟩
    have ecap : cap = n := by omega
    have c1000 : 2 * cap + 2 ≤ 1000 := by omega
    have hrr : qn S + 1 ≤ KC ∧ qu S + (2 * cap + 2) ≤ KS := by
      rcases hr with q | q
      · omega
      · exact q
    have k1 : (Int32.ofNat n + (1 : Int32) - Int32.ofNat cap).toInt = 1 := by rw [e4] at e5; rw [e5]; omega
    have k2 : (Int32.ofNat cap + (2 : Int32)).toInt = cap + 2 := by rw [t_add (by rw [oN (by omega), li_2]; omega), oN (by omega), li_2]
    have k3 : (Int32.ofNat n + (1 : Int32) - Int32.ofNat cap) < (Int32.ofNat cap + (2 : Int32)) := Int32.lt_iff_toInt_lt.mpr (by rw [k1, k2]; omega)
    have k4 : (Int32.ofNat cap + (Int32.ofNat cap + (2 : Int32))).toInt = 2 * cap + 2 := by rw [t_add (by rw [oN (by omega), k2]; omega), oN (by omega), k2]; omega
    have fn : f_J8_newLength_cabcc S (Int32.ofNat cap) (Int32.ofNat n + (1 : Int32) - Int32.ofNat cap) (Int32.ofNat cap + (2 : Int32)) = Int32.ofNat cap + (Int32.ofNat cap + (2 : Int32)) := by
      unfold f_J8_newLength_cabcc
      rw [if_pos k3, if_neg (by omega), if_neg (by omega)]
    have fc : f_J5_newCapacity_0f7a4 S b (Int32.ofNat n + (1 : Int32)) = Int32.ofNat cap + (Int32.ofNat cap + (2 : Int32)) := by
      unfold f_J5_newCapacity_0f7a4
      rw [qo, b5, b3, z_shl, z_shl, fn, if_neg (by omega), z_shr]
    have dc : d_J5_newCapacity_0f7a4 S b (Int32.ofNat n + (1 : Int32)) := by
      unfold d_J5_newCapacity_0f7a4 d_J8_newLength_cabcc
      rw [qo, b5, b3, z_shl, z_shl, fn, if_pos k3, if_neg (by omega), if_neg (by omega), if_neg (by omega)]
      exact ⟨b1, trivial, trivial⟩
    refine ⟨b1, dc, ?_⟩
    rw [fc, z_shl]
    unfold w_J7_copyOf_9075b
    rw [b5]
    refine ⟨fun r u => r = qn S ∧ qN u (qn S) = 2 * cap + 2 ∧ (∀ i : Nat, i < n → qI u (qn S) i = g i) ∧ byt u (qn S) ∧ qn u = qn S + 1 ∧ qu u = qu S + (2 * cap + 2) ∧ ∀ a : Nat, a ≠ qn S → sm5 S u a, ⟨fun q => by rw [k4, oN (by omega)] at q; omega, fun _ => ?_⟩, ?_⟩
    · have kn : (Int32.ofNat cap + (Int32.ofNat cap + (2 : Int32))).toInt.toNat = 2 * cap + 2 := by rw [k4]; omega
      rw [kn]
      refine ⟨⟨by omega, hrr⟩, fun A eA => ?_⟩
      obtain ⟨n1, n2, n3, n4, n5, n6⟩ := wN_new (S := S) (t := 21) (n := 2 * cap + 2) (k := 2 * cap + 2)
      rw [← eA] at n1 n2 n3 n4 n5 n6
      have sA : sm5 S A v := by rw [eA]; exact sm5.wN (by omega)
      have lt1 : ¬ (Int32.ofNat cap + (Int32.ofNat cap + (2 : Int32))) < Int32.ofNat cap := fun q => by
        have := Int32.lt_iff_toInt_lt.mp q
        rw [k4, oN (by omega)] at this
        omega
      have cl : (Int32.ofNat cap).toNatClampNeg = cap := by
        show (Int32.ofNat cap).toInt.toNat = cap
        rw [oN (by omega)]
        omega
      rw [sA.2.2.2.2, b5, if_neg lt1, cl, n4, sA.1]
      refine ⟨⟨by decide, by decide, fun q => ?_, by show 0 + cap ≤ cap; omega, by show 0 + cap ≤ _; omega, fun i => by rw [sA.1]; exact b9 i⟩, fun B eB => ⟨rfl, ?_, fun i hi => ?_, fun i => ?_, ?_, ?_, fun a ha => ?_⟩⟩
      · have := Int32.lt_iff_toInt_lt.mp q
        rw [oN (by omega), li_0] at this
        omega
      · rw [eB]; exact n4
      · rw [eB, show qI (wC A (qn S) (va_cpy (qI S v) (qI A (qn S)) (0 : Int32).toNatClampNeg (0 : Int32).toNatClampNeg cap)) (qn S) = va_cpy (qI S v) (qI A (qn S)) (0 : Int32).toNatClampNeg (0 : Int32).toNatClampNeg cap from if_pos rfl]
        show (if 0 ≤ i ∧ i < 0 + cap then qI S v (0 + (i - 0)) else _) = _
        rw [if_pos ⟨by omega, by omega⟩, show 0 + (i - 0) = i by omega]
        exact b8 i hi
      · rw [eB, show qI (wC A (qn S) (va_cpy (qI S v) (qI A (qn S)) (0 : Int32).toNatClampNeg (0 : Int32).toNatClampNeg cap)) (qn S) = va_cpy (qI S v) (qI A (qn S)) (0 : Int32).toNatClampNeg (0 : Int32).toNatClampNeg cap from if_pos rfl]
        show fits .byte (.int (if 0 ≤ i ∧ i < 0 + cap then qI S v (0 + (i - 0)) else qI A (qn S) i)) = true
        by_cases q : 0 ≤ i ∧ i < 0 + cap
        · rw [if_pos q]; exact b9 _
        · rw [if_neg q, n1]; exact fit0
      · rw [eB]; exact n5
      · rw [eB]; exact n6
      · have q1 : sm5 S A a := by rw [eA]; exact sm5.wN ha
        have q2 : sm5 A B a := by rw [eB]; exact sm5.wC ha
        exact q1.tr q2
    · rintro r u ⟨rfl, u1, u2, u3, u4, u5, u6⟩ B eB
      have sb := u6 b (by omega)
      refine ⟨qn S, 2 * cap + 2, ⟨by rw [eB, qR_wR, if_pos ⟨rfl, rfl⟩], by omega, ⟨by rw [eB]; show qI u b 1 = _; rw [sb.1]; exact b3, by rw [eB]; show qI u b 3 = _; rw [sb.1]; exact b4⟩, by rw [eB]; exact u1, ⟨by omega, c1000⟩, fun i hi => by rw [eB]; exact u2 i hi, fun i => by rw [eB]; exact u3 i⟩, by omega, fun a a0 a1 a2 => ?_, Or.inr rfl, Or.inr ⟨rfl, ecap, rfl, by rw [eB]; exact u4, by rw [eB]; exact u5⟩⟩
      have q2 : sm5 u B a := by rw [eB]; exact sm5.wR a0
      exact (u6 a (by omega)).tr q2
  · rintro U ⟨w, c2, q1, q2, q3, q4, q5⟩
    exact put U w c2 q1 q2 q3 q4 q5
/-! a text is made (behind sp_app) -/
def StI (S : MS) (r n : Nat) (g : Nat → Int32) : Prop := (qT S r = 12 ∧ (qT S (r + 1) ≠ 0 ∧ qT S (r + 1) ≠ 11)) ∧ (r + 1 < qn S ∨ TXB ≤ r) ∧ qN S (r + 1) = n ∧ ∀ i : Nat, i < n → qI S (r + 1) i = g i
theorem StI.mv {S u : MS} {r n : Nat} {g : Nat → Int32} (h : StI S r n g) (hq : qn S ≤ qn u) (h0 : sm5 S u r) (h1 : sm5 S u (r + 1)) : StI u r n g := ⟨⟨h0.2.2.2.1.trans h.1.1, by rw [h1.2.2.2.1]; exact h.1.2⟩, by have := h.2.1; omega, h1.2.2.2.2.trans h.2.2.1, fun i hi => by rw [h1.1]; exact h.2.2.2 i hi⟩
theorem sp_toS {S : MS} {b v n cap : Nat} {g : Nat → Int32} (h : BdI S b v n cap g) (hv : b < qn S ∧ v < qn S) (hr : qn S + 2 ≤ KC ∧ qu S + 4 + n ≤ KS) : w_J4_toString_0e30d S b (fun r u => r = qn S ∧ StI u r n g ∧ qn u = qn S + 2 ∧ qu u = qu S + 4 + n ∧ ∀ a : Nat, a < qn S ∨ qn S + 1 < a → sm5 S u a) := by
  obtain ⟨b1, b2, ⟨b3, b4⟩, b5, ⟨b6, b7⟩, b8, b9⟩ := h
  unfold w_J4_toString_0e30d
  refine ⟨⟨by omega, by omega⟩, fun A eA => ?_⟩
  obtain ⟨n1, n2, n3, n4, n5, n6⟩ := wN_new (S := S) (t := 24) (n := 0) (k := 4)
  rw [← eA] at n1 n2 n3 n4 n5 n6
  have sAb : sm5 S A b := by rw [eA]; exact sm5.wN (by omega)
  have sAv : sm5 S A v := by rw [eA]; exact sm5.wN (by omega)
  have c1 : qR A b 0 = some v := by rw [sAb.2.2.1]; exact b1
  have qo : qO A b 0 = v := by unfold qO; rw [c1]; rfl
  have z0 : (qI A b 1).toInt = 0 := by rw [sAb.1, b3]; rfl
  refine ⟨fun u => qR u (qn S) 0 = some (qn S + 1) ∧ qI u (qn S) = (fun _ => 0) ∧ qT u (qn S) = 24 ∧ qT u (qn S + 1) = 21 ∧ qN u (qn S + 1) = n ∧ (∀ i : Nat, i < n → qI u (qn S + 1) i = g i) ∧ qn u = qn S + 2 ∧ qu u = qu S + 4 + n ∧ ∀ a : Nat, a < qn S ∨ qn S + 1 < a → sm5 S u a, ?_, ?_⟩
  · unfold w_J0_init_81219 w_J0_init_db425
    unfold d_J5_getValue_6d5f1 d_J4_length_8abf5 d_J5_length_8abf5 f_J4_length_8abf5 f_J5_length_8abf5 d_J5_isLatin1_aae02 f_J5_isLatin1_aae02 f_J5_getValue_6d5f1
    rw [if_pos z0, if_pos z0, qo, sAb.1, b4]
    refine ⟨_, ⟨⟨c1, trivial⟩, ⟨trivial, trivial⟩, fun a7 e7 => ⟨trivial, fun q => absurd q (by decide), fun _ B eB => ?_⟩⟩, fun u hu => hu⟩
    have B0 : qI B (qn S) = fun _ => 0 := by
      funext j
      rw [eB, qI_wI]
      by_cases q : qn S = qn S ∧ j = 1
      · rw [if_pos q]
      · rw [if_neg q, n1]
    have sB : ∀ a : Nat, a ≠ qn S → sm5 A B a := fun a ha => by rw [eB]; exact sm5.wI ha
    have sBv := sAv.tr (sB v (by omega))
    have BT : qT B (qn S) = 24 := by rw [eB]; exact n3
    have Bn : qn B = qn S + 1 := by rw [eB]; exact n5
    have Bu : qu B = qu S + 4 := by rw [eB]; exact n6
    have sSB : ∀ a : Nat, a < qn S ∨ qn S + 1 < a → sm5 S B a := fun a ha => (show sm5 S A a by rw [eA]; exact sm5.wN (by omega)).tr (sB a (by omega))
    have l0 : (0 : Int32).toInt = 0 := by decide
    -- the bytes' copy
    refine ⟨fun r u => r = qn S + 1 ∧ qT u r = 21 ∧ qN u r = n ∧ (∀ i : Nat, i < n → qI u r i = g i) ∧ qn u = qn S + 2 ∧ qu u = qu S + 4 + n ∧ ∀ a : Nat, a ≠ qn S + 1 → sm5 B u a, ?_, ?_⟩
    · unfold w_J7_copyOfRange_39247
      refine ⟨fun _ => ⟨fun q => ?_, fun q => ?_⟩, fun q => absurd l0 q⟩
      · rw [e7, sBv.2.2.2.2, b5, oN (by omega), oN (by omega)] at q
        have ec : cap = n := by omega
        rw [sBv.2.2.2.2, b5, Bn, Bu, ec]
        refine ⟨⟨⟨by omega, by omega⟩, fun i => by rw [sBv.1]; exact b9 i⟩, fun C eC => ?_⟩
        have eC' : C = wC (wN B 21 (qN B v) n) (qn B) (qI B v) := eC
        obtain ⟨m1, m2, m3, m4, m5, m6⟩ := wN_new (S := B) (t := 21) (n := qN B v) (k := n)
        have CI : qI C (qn B) = qI B v := by rw [eC']; exact if_pos rfl
        rw [Bn] at CI m3 m4
        refine ⟨rfl, by rw [eC']; exact m3, by rw [eC']; show qN (wN B 21 (qN B v) n) (qn S + 1) = _; rw [m4, sBv.2.2.2.2, b5, ec], fun i hi => by rw [CI, sBv.1]; exact b8 i hi, by rw [eC']; show qn (wN B 21 (qN B v) n) = _; rw [m5, Bn], by rw [eC']; show qu (wN B 21 (qN B v) n) = _; rw [m6, Bu], fun a ha => ?_⟩
        have q1 : sm5 B (wN B 21 (qN B v) n) a := sm5.wN (by omega)
        have q2 : sm5 (wN B 21 (qN B v) n) C a := by rw [eC']; exact sm5.wC (by omega)
        exact q1.tr q2
      · unfold w_J7_copyOfRange_39247_J10 w_J7_copyOfRangeByte_39247 w_J7_checkLength_df160
        refine ⟨(fun r u => r = qn S + 1 ∧ qT u r = 21 ∧ qN u r = n ∧ (∀ i : Nat, i < n → qI u r i = g i) ∧ qn u = qn S + 2 ∧ qu u = qu S + 4 + n ∧ ∀ a : Nat, a ≠ qn S + 1 → sm5 B u a), ⟨fun u => u = B, ⟨fun _ => rfl, fun z => by rw [e7, oN (by omega), l0] at z; omega⟩, ?_⟩, fun r u hu => hu⟩
        rintro B2 rfl a5 e5
        have e5' : a5.toInt = n := by rw [e5, t_sub (by rw [e7, oN (by omega), l0]; omega), e7, oN (by omega), l0]; omega
        have k5 : a5.toInt.toNat = n := by omega
        rw [k5, Bn, Bu]
        refine ⟨⟨by omega, ⟨by omega, by omega⟩⟩, fun C eC => ?_⟩
        obtain ⟨m1, m2, m3, m4, m5, m6⟩ := wN_new (S := B2) (t := 21) (n := n) (k := n)
        rw [← eC, Bn] at m1 m2 m3 m4
        rw [← eC] at m5 m6
        have sC : ∀ a : Nat, a ≠ qn S + 1 → sm5 B2 C a := fun a ha => by rw [eC]; exact sm5.wN (by omega)
        have sCv := sBv.tr (sC v (by omega))
        have ne : n < cap := by
          rw [e7, sBv.2.2.2.2, b5, oN (by omega), oN (by omega)] at q
          omega
        have e9 : (Int32.ofNat (qN C v) - (0 : Int32)).toInt = cap := by rw [t_sub (by rw [sCv.2.2.2.2, b5, oN (by omega), l0]; omega), sCv.2.2.2.2, b5, oN (by omega), l0]; omega
        have lt1 : a5 < (Int32.ofNat (qN C v) - (0 : Int32)) := Int32.lt_iff_toInt_lt.mpr (by rw [e9, e5']; omega)
        have cl : a5.toNatClampNeg = n := by show a5.toInt.toNat = n; exact k5
        rw [if_pos lt1, cl, sCv.2.2.2.2, b5, m4, sCv.1]
        refine ⟨⟨by decide, by decide, fun z => ?_, by show 0 + n ≤ cap; omega, by show 0 + n ≤ n; omega, fun i => by rw [sCv.1]; exact b9 i⟩, fun D eD => ?_⟩
        · have := Int32.lt_iff_toInt_lt.mp z
          rw [l0] at this
          omega
        · have DI : qI D (qn S + 1) = va_cpy (qI S v) (qI C (qn S + 1)) (0 : Int32).toNatClampNeg (0 : Int32).toNatClampNeg n := by rw [eD]; exact if_pos rfl
          refine ⟨rfl, by rw [eD]; exact m3, by rw [eD]; exact m4, fun i hi => ?_, by rw [eD]; show qn C = _; rw [m5, Bn], by rw [eD]; show qu C = _; rw [m6, Bu], fun a ha => ?_⟩
          · rw [DI]
            show (if 0 ≤ i ∧ i < 0 + n then qI S v (0 + (i - 0)) else _) = _
            rw [if_pos ⟨by omega, by omega⟩, show 0 + (i - 0) = i by omega]
            exact b8 i hi
          · have q2 : sm5 C D a := by rw [eD]; exact sm5.wC ha
            exact (sC a ha).tr q2
    · rintro r u ⟨rfl, u1, u2, u3, u4, u5, u6⟩ C eC
      have s0 := u6 (qn S) (by omega)
      refine ⟨by rw [eC, qR_wR, if_pos ⟨rfl, rfl⟩], by rw [eC]; show qI u (qn S) = _; rw [s0.1, B0], by rw [eC]; show qT u (qn S) = _; rw [s0.2.2.2.1, BT], by rw [eC]; exact u1, by rw [eC]; exact u2, fun i hi => by rw [eC]; exact u3 i hi, by rw [eC]; exact u4, by rw [eC]; exact u5, fun a ha => ?_⟩
      have q1 : sm5 u C a := by rw [eC]; exact sm5.wR (by omega)
      exact ((sSB a ha).tr (u6 a (by omega))).tr q1
  · rintro u ⟨u1, u2, u3, u4, u5, u6, u7, u8, u9⟩
    refine ⟨⟨u1, by rw [u2], by rw [u2], by rw [u2]⟩, fun C eC => ⟨rfl, ⟨⟨by rw [eC]; exact if_pos rfl, ?_⟩, Or.inl (by rw [eC]; show _ < qn u; omega), by rw [eC]; exact u5, fun i hi => by rw [eC]; exact u6 i hi⟩, by rw [eC]; exact u7, by rw [eC]; exact u8, fun a ha => ?_⟩⟩
    · rw [eC, show qT (wT u (qn S) 12) (qn S + 1) = qT u (qn S + 1) from if_neg (by omega), u4]; decide
    · have q1 : sm5 u C a := by rw [eC]; exact sm5.wT (by omega)
      exact (u9 a ha).tr q1
/-! text (behind sp_toS) -/
def knI (S : MS) : Prop := 93 ≤ qn S ∧ qn S ≤ KC ∧ ∀ a : Nat, qT S a ≠ 0 → a < qn S ∨ TXB ≤ a
def exS (S u : MS) (c s : Nat) : Prop := (∀ a : Nat, a < qn S ∨ qn u ≤ a → sm5 S u a) ∧ (qn S ≤ qn u ∧ qn u ≤ qn S + c) ∧ qu u ≤ qu S + s
theorem exS.rf {S : MS} : exS S S 0 0 := ⟨fun _ _ => sm5.rf, ⟨Nat.le_refl _, Nat.le_refl _⟩, Nat.le_refl _⟩
theorem exS.tr {S u v : MS} {c s c' s' : Nat} (h : exS S u c s) (k : exS u v c' s') : exS S v (c + c') (s + s') := ⟨fun a ha => (h.1 a (by have := k.2.1; have := h.2.1; omega)).tr (k.1 a (by have := h.2.1; omega)), by have := h.2; have := k.2; omega, by have := h.2; have := k.2; omega⟩
theorem exS.kn {S u : MS} {c s : Nat} (h : exS S u c s) (k : knI S) (hr : qn u ≤ KC) : knI u := ⟨by have := k.1; have := h.2.1; omega, hr, fun a ha => by
  by_cases q : a < qn u
  · exact Or.inl q
  · rw [(h.1 a (by omega)).2.2.2.1] at ha
    have := k.2.2 a ha
    have := h.2.1
    omega⟩
theorem exS.ol {S u : MS} {c s : Nat} (h : exS S u c s) (hr : qn u ≤ KC) {a : Nat} (ha : a < qn S ∨ TXB ≤ a) : sm5 S u a := h.1 a (by
  rcases ha with q | q
  · exact Or.inl q
  · exact Or.inr (by
      rw [show TXB = 10000000 from rfl] at q
      rw [show KC = 300000 from rfl] at hr
      omega))
theorem exS.sT {S u : MS} {c s : Nat} (h : exS S u c s) (k : knI S) (hR : RdI S) (hr : qn u ≤ KC) : smT S u := by
  have o := fun (a : Nat) (ha : a < qn S ∨ TXB ≤ a) => h.ol hr ha
  have o0 := o 0 (Or.inl (by have := k.1; omega))
  have bs : qT S (qO S 0 11) ≠ 0 := by
    obtain ⟨b, h2, h3, -⟩ := hR
    rw [show qO S 0 11 = b by unfold qO; rw [h2]; rfl, h3]
    decide
  have lt : ∀ a : Nat, a < 18 → sm5 S u a := fun a ha => o a (Or.inl (by have := k.1; omega))
  refine ⟨⟨fun b hb => ⟨(o b (k.2.2 b hb)).2.2.2.1, (o b (k.2.2 b hb)).2.2.2.2⟩, ⟨by rw [o0.2.2.1], (o _ (k.2.2 _ bs)).1⟩, fun a a0 a1 => ⟨(lt a (by omega)).1, (lt a (by omega)).2.1⟩, fun a ha => (o a (Or.inr ha)).1, fun j _ _ _ => by rw [o0.1]⟩, fun a a0 a1 => (lt a a1).1, by rw [o0.1], by rw [o0.1]⟩
theorem asc128 : ∀ k : Fin 128, ((Int32.ofNat k.val).toUInt32 % 65536).toInt32 = Int32.ofNat k.val ∧ vp_nar .byte ((Int32.ofNat k.val).toInt8.toInt32) = Int32.ofNat k.val ∧ ((Int32.ofNat k.val &&& 255).toUInt32 % 65536).toInt32 = Int32.ofNat k.val := by decide +kernel
theorem asc {x : Int32} (h0 : 0 ≤ x.toInt) (h1 : x.toInt ≤ 127) : (x.toUInt32 % 65536).toInt32 = x ∧ vp_nar .byte (x.toInt8.toInt32) = x ∧ ((x &&& 255).toUInt32 % 65536).toInt32 = x := by
  have e := i32n h0
  have k := asc128 ⟨x.toInt.toNat, by omega⟩
  rw [← e] at k
  exact k
/-- what stands before and behind a builder's work -/
def TxL (S U : MS) (n : Nat) : Prop := (∀ a : Nat, a < qn S ∨ qn S + 2 ≤ a → sm5 S U a) ∧ qn U = qn S + 2 ∧ qu U = qu S + 4 + n
theorem sp_textN {S : MS} {x : Int32} {N : Nat} (hM : MmI S) (hx : isE S x 1) (hk : knI S) (hN : (qI S 7 x.toInt.toNat).toInt ≤ N) (hr : qn S + 4 ≤ KC ∧ qu S + (8 + 2 * N) ≤ KS) : w_text S x (fun r u => exS S u 4 (8 + 2 * N) ∧ r = qn S + 2 ∧ qn u = qn S + 4 ∧ StI u r (qI S 7 x.toInt.toNat).toInt.toNat (fun i => qI S (qO S 0 11) ((qI S 6 x.toInt.toNat).toInt.toNat + i))) := by
  obtain ⟨x5, m0, m1, m2, m3⟩ := hM.nm hx
  have hl := hM.ltO hx
  have hb := hM.1.bnd
  unfold w_text
  refine ⟨⟨by omega, by omega⟩, fun A eA => ⟨x5, ?_⟩⟩
  obtain ⟨n1, n2, n3, n4, n5, n6⟩ := wN_new (S := S) (t := 13) (n := 0) (k := 4)
  rw [← eA] at n1 n2 n3 n4 n5 n6
  have sA : ∀ a : Nat, a ≠ qn S → sm5 S A a := fun a ha => by rw [eA]; exact sm5.wN ha
  have s7 : qI A 7 = qI S 7 := (sA 7 (by have := hk.1; omega)).1
  rw [s7]
  refine ⟨_, sp_ini (by omega) ⟨by rw [n1], by rw [n1]⟩ ⟨by omega, by omega⟩ ⟨by omega, by omega⟩, ?_⟩
  rintro B ⟨bB, qB, uB, fB⟩
  have TB : TxL S B (qI S 7 x.toInt.toNat).toInt.toNat := ⟨fun a ha => (sA a (by omega)).tr (fB a (by omega) (by omega)), by omega, by omega⟩
  rw [n5] at bB
  have L : ∀ (m : Nat) (U : MS) (i : Int32), TxL S U (qI S 7 x.toInt.toNat).toInt.toNat → (0 ≤ i.toInt ∧ i.toInt ≤ (qI S 7 x.toInt.toNat).toInt) → BdI U (qn S) (qn S + 1) i.toInt.toNat (qI S 7 x.toInt.toNat).toInt.toNat (fun i => qI S (qO S 0 11) ((qI S 6 x.toInt.toNat).toInt.toNat + i)) → (101 - i.toInt).toNat < m → w_text_L16 (fun r u => exS S u 4 (8 + 2 * N) ∧ r = qn S + 2 ∧ qn u = qn S + 4 ∧ StI u r (qI S 7 x.toInt.toNat).toInt.toNat (fun i => qI S (qO S 0 11) ((qI S 6 x.toInt.toNat).toInt.toNat + i))) m U x (qn S) i := by
    intro m
    induction m with
    | zero => intro U i _ _ _ h9; exact absurd h9 (Nat.not_lt_zero _)
    | succ m ih =>
      rintro U i ⟨t1, t2, t3⟩ hi hB hm
      have u0 := t1 0 (Or.inl (by have := hk.1; omega))
      have u6 := t1 6 (Or.inl (by have := hk.1; omega))
      have u7 := t1 7 (Or.inl (by have := hk.1; omega))
      have sb : sm5 S U (qO S 0 11) := by
        have bs : qT S (qO S 0 11) ≠ 0 := by
          obtain ⟨b, h2, h3, -⟩ := hM.1
          rw [show qO S 0 11 = b by unfold qO; rw [h2]; rfl, h3]
          decide
        have hK : qn S + 4 ≤ 300000 := hr.1
        refine t1 _ ?_
        rcases hk.2.2 _ bs with q | q
        · exact Or.inl q
        · rw [show TXB = 10000000 from rfl] at q
          exact Or.inr (by omega)
      have eo : qO U 0 11 = qO S 0 11 := by unfold qO; rw [u0.2.2.1]
      have fl : f_letter U x i = f_letter S x i := by unfold f_letter; rw [u7.1, u6.1, eo, sb.1]
      have dl : d_letter U x i = d_letter S x i := by unfold d_letter; rw [u7.1, u6.1, eo, u0.2.2.1, sb.2.2.2.2]
      unfold w_text_L16
      rw [u7.1]
      refine ⟨x5, fun c => ?_, fun c => ?_⟩
      · have ei : i.toInt.toNat = (qI S 7 x.toInt.toNat).toInt.toNat := by omega
        rw [ei] at hB
        refine ⟨_, sp_toS hB ⟨by omega, by omega⟩ ⟨by omega, by omega⟩, ?_⟩
        rintro r u ⟨rfl, w1, w2, w3, w4⟩
        exact ⟨⟨fun a ha => (t1 a (by omega)).tr (w4 a (by omega)), by omega, by omega⟩, t2, by omega, w1⟩
      · rw [dl, fl]
        have fe : f_letter S x i = qI S (qO S 0 11) ((qI S 6 x.toInt.toNat).toInt.toNat + i.toInt.toNat) := by
          unfold f_letter
          rw [if_neg c]
          have : (qI S 6 x.toInt.toNat + i).toInt = (qI S 6 x.toInt.toNat).toInt + i.toInt := t_add (by omega)
          rw [this, show ((qI S 6 x.toInt.toNat).toInt + i.toInt).toNat = (qI S 6 x.toInt.toNat).toInt.toNat + i.toInt.toNat by omega]
        have lr := hl i.toInt.toNat (by omega)
        rw [← fe] at lr
        obtain ⟨a1, a2, a3⟩ := asc (x := f_letter S x i) (by omega) (by omega)
        have ei : (i + Int32.ofInt 1).toInt = i.toInt + 1 := by rw [t_add (by rw [lo_1]; omega), lo_1]
        rw [a1]
        refine ⟨hM.lt hx hi.1, _, sp_app hB ⟨by omega, by omega⟩ (by omega) (Or.inl (by omega)) (by rw [a2, fe]) (Or.inl (by omega)), ?_⟩
        rintro r u ⟨rfl, v', cap', p1, p2, p3⟩ k ek
        subst ek
        rcases p2 with ⟨q1, q2, q3, q4, q5⟩ | ⟨q1, q2, q3, q4, q5⟩
        · subst q1
          subst q2
          refine ih u _ ⟨fun a ha => (t1 a ha).tr (p3 a (by omega) (by omega) (Or.inl q3)), by omega, by omega⟩ ⟨by omega, by omega⟩ ?_ (by omega)
          rw [show (i + Int32.ofInt 1).toInt.toNat = i.toInt.toNat + 1 by omega]
          exact p1
        · omega
  refine ⟨_, L _ B 0 TB ⟨by decide, by rw [li_0]; omega⟩ ?_ (Nat.lt_succ_self _)⟩
  obtain ⟨d1, d2, d3, d4, d5, d6, d7⟩ := bB
  exact ⟨d1, d2, d3, d4, d5, fun j hj => absurd hj (Nat.not_lt_zero _), d7⟩
theorem sp_text {S : MS} {x : Int32} (hM : MmI S) (hx : isE S x 1) (hk : knI S) (hr : qn S + 4 ≤ KC ∧ qu S + 208 ≤ KS) : w_text S x (fun r u => exS S u 4 208 ∧ r = qn S + 2 ∧ qn u = qn S + 4 ∧ StI u r (qI S 7 x.toInt.toNat).toInt.toNat (fun i => qI S (qO S 0 11) ((qI S 6 x.toInt.toNat).toInt.toNat + i))) := sp_textN (N := 100) hM hx hk (by have := (hM.nm hx).2.2.2.1; omega) hr
/-! letters, closing (behind sp_text) -/
def sqT (g : Nat → Int32) (n : Nat) : Nat → Nat → Int → Prop
  | 0, _, _ => False
  | m + 1, k, p => (p = 0 ∧ (n ≤ k ∨ (g k).toInt = 41)) ∨ (k < n ∧ (g k).toInt = 86 ∧ sqT g n m (k + 1) p) ∨ (k < n ∧ (g k).toInt = 74 ∧ sqT g n m (k + 1) (p - 2)) ∨ (k < n ∧ (g k).toInt = 73 ∧ sqT g n m (k + 1) (p - 1)) ∨ (k + 1 < n ∧ (g k).toInt = 91 ∧ sqT g n m (k + 2) (p - 1))
theorem sqT.nn {g : Nat → Int32} {n : Nat} : ∀ (m k : Nat) (p : Int), sqT g n m k p → 0 ≤ p := by
  intro m
  induction m with
  | zero => intro k p h; exact absurd h (fun z => z)
  | succ m ih =>
    intro k p h
    unfold sqT at h
    rcases h with ⟨h, -⟩ | ⟨-, -, h⟩ | ⟨-, -, h⟩ | ⟨-, -, h⟩ | ⟨-, -, h⟩
    · omega
    · exact ih _ _ h
    · have := ih _ _ h; omega
    · have := ih _ _ h; omega
    · have := ih _ _ h; omega
def plc (g : Nat → Int32) : Nat → Int
  | 0 => 0
  | n + 1 => plc g n + if (g n).toInt = 74 then 2 else 1
theorem plc_ge {g : Nat → Int32} : ∀ n : Nat, (n : Int) ≤ plc g n := by
  intro n
  induction n with
  | zero => exact Int.le_refl _
  | succ n ih => unfold plc; split <;> omega
theorem plc_eq {g g' : Nat → Int32} : ∀ n : Nat, (∀ i : Nat, i < n → g' i = g i) → plc g' n = plc g n := by
  intro n
  induction n with
  | zero => intro _; rfl
  | succ n ih =>
    intro h
    unfold plc
    rw [ih (fun i hi => h i (by omega)), h n (by omega)]
def ltS (g : Nat → Int32) (n : Nat) : Prop := ∀ i : Nat, i < n → (g i).toInt = 73 ∨ (g i).toInt = 74 ∨ (g i).toInt = 65
theorem BdI.cg {S : MS} {b v n cap : Nat} {g g' : Nat → Int32} (h : BdI S b v n cap g) (e : ∀ i : Nat, i < n → g' i = g i) : BdI S b v n cap g' := ⟨h.1, h.2.1, h.2.2.1, h.2.2.2.1, h.2.2.2.2.1, fun i hi => by rw [e i hi]; exact h.2.2.2.2.2.1 i hi, h.2.2.2.2.2.2⟩
/-- what letters leaves -/
def LtP (S : MS) (p : Int) (N : Nat) (r : Nat) (u : MS) : Prop := exS S u 5 32 ∧ (qn S ≤ r ∧ r + 1 < qn u) ∧ ∃ (n' : Nat) (g' : Nat → Int32), StI u r n' g' ∧ plc g' n' = p ∧ ltS g' n' ∧ n' ≤ 8 ∧ n' ≤ N
def LeL (S U : MS) (v n' cap : Nat) (g' : Nat → Int32) : Prop := BdI U (qn S) v n' cap g' ∧ ltS g' n' ∧ (∀ a : Nat, a < qn S ∨ qn U ≤ a → sm5 S U a) ∧ (qn S ≤ v ∧ v < qn U) ∧ ((cap = 4 ∧ qn U = qn S + 2 ∧ qu U = qu S + 8) ∨ (cap = 10 ∧ qn U = qn S + 3 ∧ qu U = qu S + 18))
theorem w_mono_append {S : MS} {b : Nat} {x : Int32} {P Q : Nat → MS → Prop} (h : w_J4_append_cf468 S b x P) (k : ∀ r u, P r u → Q r u) : w_J4_append_cf468 S b x Q := by
  unfold w_J4_append_cf468 at h ⊢
  obtain ⟨Q1, h1, h2⟩ := h
  exact ⟨Q1, h1, fun r u hu => k _ _ (h2 r u hu)⟩
theorem le_app {S U : MS} {v n' cap : Nat} {g' : Nat → Int32} {c : Int32} {p : Int} (h : LeL S U v n' cap g') (hc : c.toInt = 73 ∨ c.toInt = 74 ∨ c.toInt = 65) (hp : plc g' n' + (if c.toInt = 74 then 2 else 1) + p ≤ 8) (h0 : 0 ≤ p) (hr : qn S + 5 ≤ KC ∧ qu S + 32 ≤ KS) : w_J4_append_cf468 U (qn S) c (fun r u => r = qn S ∧ ∃ (v2 cap2 : Nat) (g2 : Nat → Int32), LeL S u v2 (n' + 1) cap2 g2 ∧ plc g2 (n' + 1) = plc g' n' + if c.toInt = 74 then 2 else 1) := by
  obtain ⟨hB, hl, hf, hv, hcap⟩ := h
  have hge := plc_ge (g := g') n'
  have hn8 : n' < 8 := by
    by_cases q : c.toInt = 74
    · rw [if_pos q] at hp; omega
    · rw [if_neg q] at hp; omega
  obtain ⟨a1, a2, a3⟩ := asc (x := c) (by omega) (by omega)
  have hle := hB.2.2.2.2.1.1
  have hB2 : BdI U (qn S) v n' cap (fun i => if i = n' then c else g' i) := hB.cg (fun i hi => if_neg (by omega))
  have cases_ : n' < cap ∨ cap = 4 := by
    rcases hcap with q | q <;> omega
  have st := sp_app hB2 (x := c) ⟨by omega, by omega⟩ (by omega) (by rcases cases_ with q | q; exact Or.inl q; exact Or.inr (by omega)) (by show (if n' = n' then c else g' n') = _; rw [if_pos rfl, a2]) (by
    rcases cases_ with q | q
    · exact Or.inl q
    · rcases hcap with z | z
      · exact Or.inr ⟨by omega, by omega⟩
      · exact Or.inl (by omega))
  refine w_mono_append st ?_
  rintro r u ⟨er, v', cap', p1, p2, p3⟩
  refine ⟨er, v', cap', _, ⟨p1, fun i hi => ?_, fun a ha => ?_, ?_, ?_⟩, ?_⟩
  · by_cases q : i = n'
    · show (if i = n' then c else g' i).toInt = 73 ∨ (if i = n' then c else g' i).toInt = 74 ∨ (if i = n' then c else g' i).toInt = 65
      rw [if_pos q]; exact hc
    · show (if i = n' then c else g' i).toInt = 73 ∨ (if i = n' then c else g' i).toInt = 74 ∨ (if i = n' then c else g' i).toInt = 65
      rw [if_neg q]; exact hl i (by omega)
  · rcases p2 with ⟨q1, q2, q3, q4, q5⟩ | ⟨q1, q2, q3, q4, q5⟩
    · exact (hf a (by omega)).tr (p3 a (by omega) (by omega) (Or.inl q3))
    · exact (hf a (by omega)).tr (p3 a (by omega) (by omega) (Or.inr (by omega)))
  · rcases p2 with ⟨q1, q2, q3, q4, q5⟩ | ⟨q1, q2, q3, q4, q5⟩ <;> omega
  · rcases p2 with ⟨q1, q2, q3, q4, q5⟩ | ⟨q1, q2, q3, q4, q5⟩
    · rcases hcap with z | z
      · exact Or.inl (by omega)
      · exact Or.inr (by omega)
    · rcases hcap with z | z
      · exact Or.inr (by omega)
      · omega
  · show plc _ n' + (if (if n' = n' then c else g' n').toInt = 74 then 2 else 1) = _
    rw [if_pos rfl, plc_eq n' (fun i hi => if_neg (by omega))]
theorem sp_letters {S : MS} {s : Nat} {x1 : Int32} {n m0 : Nat} {g : Nat → Int32} {p : Int} (hs : StI S s n g) (hasc : ∀ i : Nat, i < n → 0 ≤ (g i).toInt ∧ (g i).toInt ≤ 127) (hn : n ≤ 100) (hx : 0 ≤ x1.toInt ∧ x1.toInt ≤ 102) (hq : sqT g n m0 x1.toInt.toNat p) (hp : p ≤ 8) (hk : knI S) (hr : qn S + 5 ≤ KC ∧ qu S + 32 ≤ KS) : w_letters S s x1 (LtP S p n) := by
  have hK : qn S + 5 ≤ 300000 := hr.1
  unfold w_letters
  refine ⟨⟨by omega, by omega⟩, fun A eA => ?_⟩
  obtain ⟨n1, n2, n3, n4, n5, n6⟩ := wN_new (S := S) (t := 13) (n := 0) (k := 4)
  rw [← eA] at n1 n2 n3 n4 n5 n6
  have sA : ∀ a : Nat, a ≠ qn S → sm5 S A a := fun a ha => by rw [eA]; exact sm5.wN ha
  refine ⟨_, sp_ini (n := 4) (by omega) ⟨by rw [n1], by rw [n1]⟩ (by decide) (by show _ ∧ _ + 4 ≤ _; omega), ?_⟩
  rintro B ⟨bB, qB, uB, fB⟩
  have uB' : qu B = qu A + 4 := uB
  have LB : LeL S B (qn S + 1) 0 4 (fun _ => 0) := by
    rw [n5] at bB
    exact ⟨bB, fun i hi => absurd hi (Nat.not_lt_zero _), fun a ha => (sA a (by omega)).tr (fB a (by omega) (by omega)), by omega, Or.inl ⟨rfl, by omega, by omega⟩⟩
  have L : ∀ (mf m : Nat) (U : MS) (k : Int32) (v n' cap : Nat) (g' : Nat → Int32) (pr : Int), LeL S U v n' cap g' → plc g' n' + pr = p → sqT g n m k.toInt.toNat pr → (0 ≤ k.toInt ∧ k.toInt ≤ 102) → (n' ≤ n ∧ n' + x1.toInt.toNat ≤ k.toInt.toNat) → (103 - k.toInt).toNat < mf → w_letters_L11 (LtP S p n) mf U s (qn S) k := by
    intro mf
    induction mf with
    | zero => intro m U k v n' cap g' pr _ _ _ _ _ h9; exact absurd h9 (Nat.not_lt_zero _)
    | succ mf ih =>
      intro m U k v n' cap g' pr hL hpl hsq hk2 hnk hm
      obtain ⟨hB, hl, hf, hv, hcap⟩ := hL
      have s1 : sm5 S U (s + 1) := hf _ (by
        rcases hs.2.1 with q | q
        · exact Or.inl (by omega)
        · rw [show TXB = 10000000 from rfl] at q
          exact Or.inr (by omega))
      have eN : (Int32.ofNat (qN U (s + 1))).toInt = n := by rw [s1.2.2.2.2, hs.2.2.1, oN (by omega)]
      have eq : qN U (s + 1) = n := by rw [s1.2.2.2.2, hs.2.2.1]
      have eC : k.toInt.toNat < n → cAt U s k = g k.toInt.toNat := fun q => by
        have a := hasc _ q
        unfold cAt
        rw [s1.1, hs.2.2.2 _ q]
        exact (asc a.1 a.2).2.2
      have hsn := sqT.nn _ _ _ hsq
      have hge := plc_ge (g := g') n'
      have fin : pr = 0 → ∃ Q9, w_J4_toString_0e30d U (qn S) Q9 ∧ ∀ b9 u9, Q9 b9 u9 → LtP S p n b9 u9 := fun q => by
        refine ⟨_, sp_toS hB ⟨by omega, by omega⟩ ⟨by omega, by omega⟩, ?_⟩
        rintro r u ⟨rfl, w1, w2, w3, w4⟩
        exact ⟨⟨fun a ha => (hf a (by omega)).tr (w4 a (by omega)), by omega, by omega⟩, by omega, n', g', w1, by omega, hl, by omega, hnk.1⟩
      have ek : (k + Int32.ofInt 1).toInt = k.toInt + 1 := by rw [t_add (by rw [lo_1]; omega), lo_1]
      cases m with
      | zero => exact absurd hsq (fun z => z)
      | succ m =>
        unfold sqT at hsq
        unfold w_letters_L11
        rw [eN, eq]
        refine ⟨fun c => ?_, fun c => ⟨⟨hk2.1, by omega⟩, ?_⟩⟩
        · rcases hsq with ⟨h, -⟩ | ⟨h, -⟩ | ⟨h, -⟩ | ⟨h, -⟩ | ⟨h, -⟩
          · exact fin h
          · omega
          · omega
          · omega
          · omega
        · have kn : k.toInt.toNat < n := by omega
          rw [eC kn]
          refine ⟨fun c1 => ?_, fun c1 => ⟨⟨hk2.1, by omega⟩, fun c2 => ?_, fun c2 => ⟨⟨hk2.1, by omega⟩, fun c3 => ?_, fun c3 => ⟨⟨hk2.1, by omega⟩, ?_⟩⟩⟩⟩
          · rcases hsq with ⟨h, -⟩ | ⟨-, h, -⟩ | ⟨-, h, -⟩ | ⟨-, h, -⟩ | ⟨-, h, -⟩
            · exact fin h
            · omega
            · omega
            · omega
            · omega
          · have h5 : k.toInt.toNat + 1 < n ∧ sqT g n m (k.toInt.toNat + 2) (pr - 1) := by
              rcases hsq with ⟨-, h⟩ | ⟨-, h, -⟩ | ⟨-, h, -⟩ | ⟨-, h, -⟩ | ⟨h1, -, h⟩
              · omega
              · omega
              · omega
              · omega
              · exact ⟨h1, h⟩
            have hs2 := sqT.nn _ _ _ h5.2
            refine ⟨_, le_app (c := 65) (p := pr - 1) ⟨hB, hl, hf, hv, hcap⟩ (Or.inr (Or.inr (by decide))) (by rw [if_neg (by decide)]; omega) hs2 hr, ?_⟩
            rintro r u ⟨-, v2, cap2, g2, q1, q2⟩ a ea
            subst ea
            unfold w_letters_J72
            intro a2 ea2
            subst ea2
            have ek2 : (k + Int32.ofInt 1 + Int32.ofInt 1).toInt = k.toInt + 2 := by rw [t_add (by rw [lo_1]; omega), lo_1]; omega
            rw [if_neg (by decide)] at q2
            refine ih m u _ v2 (n' + 1) cap2 g2 (pr - 1) q1 (by omega) ?_ ⟨by omega, by omega⟩ ⟨by omega, by omega⟩ (by omega)
            rw [ek2, show (k.toInt + 2).toNat = k.toInt.toNat + 2 by omega]
            exact h5.2
          · have h5 : sqT g n m (k.toInt.toNat + 1) pr := by
              rcases hsq with ⟨-, h⟩ | ⟨-, -, h⟩ | ⟨-, h, -⟩ | ⟨-, h, -⟩ | ⟨-, h, -⟩
              · omega
              · exact h
              · omega
              · omega
              · omega
            unfold w_letters_J72
            intro a2 ea2
            subst ea2
            refine ih m U _ v n' cap g' pr ⟨hB, hl, hf, hv, hcap⟩ hpl ?_ ⟨by omega, by omega⟩ ⟨by omega, by omega⟩ (by omega)
            rw [ek, show (k.toInt + 1).toNat = k.toInt.toNat + 1 by omega]
            exact h5
          · have h5 : ((g k.toInt.toNat).toInt = 74 ∧ sqT g n m (k.toInt.toNat + 1) (pr - 2)) ∨ ((g k.toInt.toNat).toInt = 73 ∧ sqT g n m (k.toInt.toNat + 1) (pr - 1)) := by
              rcases hsq with ⟨-, h⟩ | ⟨-, h, -⟩ | ⟨-, h1, h⟩ | ⟨-, h1, h⟩ | ⟨-, h, -⟩
              · omega
              · omega
              · exact Or.inl ⟨h1, h⟩
              · exact Or.inr ⟨h1, h⟩
              · omega
            have h6 : sqT g n m (k.toInt.toNat + 1) (pr - if (g k.toInt.toNat).toInt = 74 then 2 else 1) := by
              rcases h5 with ⟨z, h⟩ | ⟨z, h⟩
              · rw [if_pos z]; exact h
              · rw [if_neg (by omega)]; exact h
            have hs2 := sqT.nn _ _ _ h6
            refine ⟨_, le_app (c := g k.toInt.toNat) (p := pr - if (g k.toInt.toNat).toInt = 74 then 2 else 1) ⟨hB, hl, hf, hv, hcap⟩ (by omega) (by omega) hs2 hr, ?_⟩
            rintro r u ⟨-, v2, cap2, g2, q1, q2⟩
            unfold w_letters_J72
            intro a2 ea2
            subst ea2
            refine ih m u _ v2 (n' + 1) cap2 g2 (pr - if (g k.toInt.toNat).toInt = 74 then 2 else 1) q1 (by rw [q2]; omega) ?_ ⟨by omega, by omega⟩ ⟨by omega, by omega⟩ (by omega)
            rw [ek, show (k.toInt + 1).toNat = k.toInt.toNat + 1 by omega]
            exact h6
  exact ⟨_, L _ m0 B x1 _ _ _ _ p LB (by unfold plc; omega) hq hx ⟨Nat.zero_le _, by omega⟩ (Nat.lt_succ_self _)⟩
theorem sp_closing {S : MS} {s n j : Nat} {g : Nat → Int32} (hs : StI S s n g) (hasc : ∀ i : Nat, i < n → 0 ≤ (g i).toInt ∧ (g i).toInt ≤ 127) (hn : n ≤ 100) (hj : j < n) (h41 : (g j).toInt = 41) (hb : ∀ i : Nat, i < j → (g i).toInt ≠ 41) : w_closing S s (fun r u => u = S ∧ r.toInt = j) := by
  have L : ∀ (m : Nat) (k : Int32), (0 ≤ k.toInt ∧ k.toInt ≤ j) → (j - k.toInt).toNat < m → w_closing_L2 (fun r u => u = S ∧ r.toInt = j) m S s k := by
    intro m
    induction m with
    | zero => intro k _ h9; exact absurd h9 (Nat.not_lt_zero _)
    | succ m ih =>
      intro k hk hm
      have kn : k.toInt.toNat < n := by omega
      have eC : cAt S s k = g k.toInt.toNat := by
        have a := hasc _ kn
        unfold cAt
        rw [hs.2.2.2 _ kn]
        exact (asc a.1 a.2).2.2
      have ek : (k + Int32.ofInt 1).toInt = k.toInt + 1 := by rw [t_add (by rw [lo_1]; omega), lo_1]
      unfold w_closing_L2
      rw [eC, hs.2.2.1]
      refine ⟨⟨hk.1, by omega⟩, fun c => ⟨rfl, ?_⟩, fun c a ea => ?_⟩
      · by_cases q : k.toInt.toNat < j
        · exact absurd c (hb _ q)
        · omega
      · subst ea
        have ne : k.toInt.toNat ≠ j := fun q => c (by rw [q]; exact h41)
        exact ih _ ⟨by omega, by omega⟩ (by omega)
  unfold w_closing
  exact ⟨_, L _ 0 ⟨by decide, by rw [li_0]; omega⟩ (Nat.lt_succ_self _)⟩
/-! descriptors (behind sp_letters) -/
theorem f_le {S : MS} {x i : Int32} (h6 : 0 ≤ (qI S 6 x.toInt.toNat).toInt ∧ (qI S 6 x.toInt.toNat).toInt ≤ 200000) (hi : 0 ≤ i.toInt ∧ i.toInt ≤ 1000) : f_letter S x i = if (qI S 7 x.toInt.toNat).toInt ≤ i.toInt then 0 else qI S (qO S 0 11) ((qI S 6 x.toInt.toNat).toInt.toNat + i.toInt.toNat) := by
  unfold f_letter
  have : (qI S 6 x.toInt.toNat + i).toInt = (qI S 6 x.toInt.toNat).toInt + i.toInt := t_add (by omega)
  rw [this, show ((qI S 6 x.toInt.toNat).toInt + i.toInt).toNat = (qI S 6 x.toInt.toNat).toInt.toNat + i.toInt.toNat by omega]
/-- the text of a name -/
def nmG (S : MS) (x : Int32) : Nat → Int32 := fun i => qI S (qO S 0 11) ((qI S 6 x.toInt.toNat).toInt.toNat + i)
def nmN (S : MS) (x : Int32) : Nat := (qI S 7 x.toInt.toNat).toInt.toNat
theorem le_at {S : MS} {x i : Int32} {c : Int} (h6 : 0 ≤ (qI S 6 x.toInt.toNat).toInt ∧ (qI S 6 x.toInt.toNat).toInt ≤ 200000) (hi : 0 ≤ i.toInt ∧ i.toInt ≤ 1000) (hc : c ≠ 0) (h : (f_letter S x i).toInt = c) : i.toInt.toNat < nmN S x ∧ (nmG S x i.toInt.toNat).toInt = c := by
  rw [f_le h6 hi] at h
  by_cases q : (qI S 7 x.toInt.toNat).toInt ≤ i.toInt
  · rw [if_pos q] at h
    exact absurd h (by rw [li_0]; omega)
  · rw [if_neg q] at h
    exact ⟨by unfold nmN; omega, h⟩
/-- a type at i: one letter, or two -/
theorem ty_at {S : MS} {x i : Int32} (h6 : 0 ≤ (qI S 6 x.toInt.toNat).toInt ∧ (qI S 6 x.toInt.toNat).toInt ≤ 200000) (hi : 0 ≤ i.toInt ∧ i.toInt ≤ 900) (h : 0 < (f_typeAt S x i).toInt) : ((f_typeAt S x i).toInt = 1 ∧ i.toInt.toNat < nmN S x ∧ ((nmG S x i.toInt.toNat).toInt = 73 ∨ (nmG S x i.toInt.toNat).toInt = 74) ∧ (f_letter S x i).toInt = (nmG S x i.toInt.toNat).toInt) ∨ ((f_typeAt S x i).toInt = 2 ∧ i.toInt.toNat + 1 < nmN S x ∧ (nmG S x i.toInt.toNat).toInt = 91 ∧ (nmG S x (i.toInt.toNat + 1)).toInt = 73 ∧ (f_letter S x i).toInt = 91) := by
  have e1 : (i + (1 : Int32)).toInt = i.toInt + 1 := by rw [t_add (by rw [li_1]; omega), li_1]
  unfold f_typeAt f_typeAt_J52 at h ⊢
  by_cases c1 : (f_letter S x i).toInt = 73
  · rw [if_pos c1]
    have k := le_at h6 ⟨hi.1, by omega⟩ (by decide) c1
    exact Or.inl ⟨rfl, k.1, Or.inl k.2, by rw [c1, k.2]⟩
  · rw [if_neg c1] at h ⊢
    by_cases c2 : (f_letter S x i).toInt = 74
    · rw [if_pos c2]
      have k := le_at h6 ⟨hi.1, by omega⟩ (by decide) c2
      exact Or.inl ⟨rfl, k.1, Or.inr k.2, by rw [c2, k.2]⟩
    · rw [if_neg c2] at h ⊢
      by_cases c3 : (f_letter S x i).toInt = 91
      · rw [if_pos c3] at h ⊢
        by_cases c4 : (f_letter S x (i + 1)).toInt = 73
        · rw [if_pos c4]
          have k := le_at h6 ⟨hi.1, by omega⟩ (by decide) c3
          have k2 := le_at h6 (by omega) (by decide) c4
          rw [show (i + 1).toInt.toNat = i.toInt.toNat + 1 by omega] at k2
          exact Or.inr ⟨rfl, k2.1, k.2, k2.2, c3⟩
        · rw [if_neg c4] at h; exact absurd h (by decide)
      · rw [if_neg c3] at h; exact absurd h (by decide)
/-- what the places of a method's type say of its text -/
def mtO (g : Nat → Int32) (n : Nat) (p : Int) : Prop := sqT g n 102 1 p ∧ ∃ j : Nat, j < n ∧ (g j).toInt = 41 ∧ (∀ q : Nat, q < j → (g q).toInt ≠ 41) ∧ ∃ pr : Int, pr ≤ 2 ∧ sqT g n 3 (j + 1) pr
theorem pF_sq {S : MS} {x : Int32} (h6 : 0 ≤ (qI S 6 x.toInt.toNat).toInt ∧ (qI S 6 x.toInt.toNat).toInt ≤ 200000) (h7 : 0 ≤ (qI S 7 x.toInt.toNat).toInt ∧ (qI S 7 x.toInt.toNat).toInt ≤ 100) :
    ∀ (m : Nat) (i n : Int32), (1 ≤ i.toInt ∧ i.toInt ≤ 102 ∧ 0 ≤ n.toInt ∧ n.toInt ≤ 2 * i.toInt) → 1 ≤ m → 0 ≤ (pF S x m i n).toInt → (103 - i.toInt).toNat ≤ m → sqT (nmG S x) (nmN S x) m i.toInt.toNat ((pF S x m i n).toInt - n.toInt) ∧ ∃ j : Nat, i.toInt.toNat ≤ j ∧ j < nmN S x ∧ (nmG S x j).toInt = 41 ∧ (∀ q : Nat, i.toInt.toNat ≤ q → q < j → (nmG S x q).toInt ≠ 41) ∧ ∃ pr : Int, pr ≤ 2 ∧ sqT (nmG S x) (nmN S x) 3 (j + 1) pr := by
  intro m
  induction m with
  | zero => intro i n _ h9; exact absurd h9 (by decide)
  | succ m ih =>
    rintro i n ⟨i0, i1, n0, n1⟩ _ hp hm
    have l1 : (-1 : Int32).toInt = -1 := by decide
    have e1 : (i + Int32.ofInt 1).toInt = i.toInt + 1 := by rw [t_add (by rw [lo_1]; omega), lo_1]
    have eN : ((nmN S x : Nat) : Int) = (qI S 7 x.toInt.toNat).toInt := by unfold nmN; omega
    unfold pF at hp ⊢
    by_cases c1 : (f_typeAt S x i).toInt ≤ 0
    · rw [if_pos c1] at hp ⊢
      by_cases c2 : (f_letter S x i).toInt = 41
      · rw [if_pos c2] at hp ⊢
        have k := le_at h6 ⟨by omega, by omega⟩ (by decide) c2
        -- the type that is given
        have ret : ∀ t : Int32, 0 ≤ (pJ S x t (i + Int32.ofInt 1) n).toInt → 0 ≤ t.toInt → t.toInt ≤ 2 → 0 < t.toInt ∧ (nmN S x : Int) = i.toInt + 1 + t.toInt ∧ pJ S x t (i + Int32.ofInt 1) n = n := fun t ht t0 t2 => by
          unfold pJ at ht ⊢
          by_cases d1 : t.toInt ≤ 0
          · rw [if_pos d1] at ht; omega
          · rw [if_neg d1] at ht ⊢
            have et : (i + Int32.ofInt 1 + t).toInt = i.toInt + 1 + t.toInt := by rw [t_add (by omega), e1]
            by_cases d2 : (i + Int32.ofInt 1 + t).toInt = (qI S 7 x.toInt.toNat).toInt
            · rw [if_pos d2]
              exact ⟨by omega, by omega, rfl⟩
            · rw [if_neg d2] at ht; omega
        have base : ∀ r : Int32, r = n → sqT (nmG S x) (nmN S x) (m + 1) i.toInt.toNat (r.toInt - n.toInt) := fun r hr => by
          unfold sqT
          exact Or.inl ⟨by rw [hr]; omega, Or.inr k.2⟩
        by_cases c3 : (f_letter S x (i + Int32.ofInt 1)).toInt = 86
        · rw [if_pos c3] at hp ⊢
          obtain ⟨r1, r2, r3⟩ := ret 1 hp (by decide) (by decide)
          rw [li_1] at r2
          have k3 := le_at h6 ⟨by omega, by omega⟩ (by decide) c3
          rw [e1] at k3
          refine ⟨base _ r3, i.toInt.toNat, Nat.le_refl _, k.1, k.2, fun q q0 q1 => by omega, 0, by decide, ?_⟩
          rw [show (i.toInt + 1).toNat = i.toInt.toNat + 1 by omega] at k3
          exact Or.inr (Or.inl ⟨k3.1, k3.2, Or.inl ⟨rfl, Or.inl (by omega)⟩⟩)
        · rw [if_neg c3] at hp ⊢
          have bt := f_ta (S := S) (x := x) (i := i + Int32.ofInt 1) ⟨by omega, by omega⟩
          obtain ⟨r1, r2, r3⟩ := ret _ hp bt.1 bt.2.1
          refine ⟨base _ r3, i.toInt.toNat, Nat.le_refl _, k.1, k.2, fun q q0 q1 => by omega, ?_⟩
          have T := ty_at h6 (i := i + Int32.ofInt 1) ⟨by omega, by omega⟩ r1
          rw [e1, show (i.toInt + 1).toNat = i.toInt.toNat + 1 by omega] at T
          rcases T with ⟨t1, t2, t3, -⟩ | ⟨t1, t2, t3, t4, -⟩
          · rcases t3 with t3 | t3
            · exact ⟨1, by decide, Or.inr (Or.inr (Or.inr (Or.inl ⟨t2, t3, Or.inl ⟨rfl, Or.inl (by omega)⟩⟩)))⟩
            · exact ⟨2, by decide, Or.inr (Or.inr (Or.inl ⟨t2, t3, Or.inl ⟨rfl, Or.inl (by omega)⟩⟩))⟩
          · exact ⟨1, by decide, Or.inr (Or.inr (Or.inr (Or.inr ⟨t2, t3, Or.inl ⟨rfl, Or.inl (by omega)⟩⟩)))⟩
      · rw [if_neg c2] at hp; omega
    · rw [if_neg c1] at hp ⊢
      have T := ty_at h6 (i := i) ⟨by omega, by omega⟩ (by omega)
      have ln : (n + (1 : Int32)).toInt = n.toInt + 1 := by rw [t_add (by rw [li_1]; omega), li_1]
      have ln2 : (n + (2 : Int32)).toInt = n.toInt + 2 := by rw [t_add (by rw [li_2]; omega), li_2]
      have ei : (i + f_typeAt S x i).toInt = i.toInt + (f_typeAt S x i).toInt := t_add (by rcases T with T | T <;> omega)
      by_cases c2 : (f_letter S x i).toInt = 74
      · rw [if_pos c2] at hp ⊢
        rcases T with ⟨t1, t2, t3, t4⟩ | ⟨t1, t2, t3, t4, t5⟩
        · have hm1 : 1 ≤ m := by omega
          obtain ⟨s1, j, j1, j2, j3, j4, j5⟩ := ih (i + f_typeAt S x i) (n + 2) ⟨by omega, by omega, by omega, by omega⟩ hm1 hp (by omega)
          rw [ei, t1, show (i.toInt + 1).toNat = i.toInt.toNat + 1 by omega] at s1 j1 j4
          refine ⟨Or.inr (Or.inr (Or.inl ⟨t2, by omega, ?_⟩)), j, by omega, j2, j3, fun q q0 q1 => ?_, j5⟩
          · rw [show (pF S x m (i + f_typeAt S x i) (n + 2)).toInt - n.toInt - 2 = (pF S x m (i + f_typeAt S x i) (n + 2)).toInt - (n + 2).toInt by omega]
            exact s1
          · by_cases z : q = i.toInt.toNat
            · rw [z]; omega
            · exact j4 q (by omega) q1
        · omega
      · rw [if_neg c2] at hp ⊢
        have hm1 : 1 ≤ m := by rcases T with T | T <;> omega
        rcases T with ⟨t1, t2, t3, t4⟩ | ⟨t1, t2, t3, t4, t5⟩
        · obtain ⟨s1, j, j1, j2, j3, j4, j5⟩ := ih (i + f_typeAt S x i) (n + 1) ⟨by omega, by omega, by omega, by omega⟩ hm1 hp (by omega)
          rw [ei, t1, show (i.toInt + 1).toNat = i.toInt.toNat + 1 by omega] at s1 j1 j4
          refine ⟨Or.inr (Or.inr (Or.inr (Or.inl ⟨t2, by omega, ?_⟩))), j, by omega, j2, j3, fun q q0 q1 => ?_, j5⟩
          · rw [show (pF S x m (i + f_typeAt S x i) (n + 1)).toInt - n.toInt - 1 = (pF S x m (i + f_typeAt S x i) (n + 1)).toInt - (n + 1).toInt by omega]
            exact s1
          · by_cases z : q = i.toInt.toNat
            · rw [z]; omega
            · exact j4 q (by omega) q1
        · obtain ⟨s1, j, j1, j2, j3, j4, j5⟩ := ih (i + f_typeAt S x i) (n + 1) ⟨by omega, by omega, by omega, by omega⟩ hm1 hp (by omega)
          rw [ei, t1, show (i.toInt + 2).toNat = i.toInt.toNat + 2 by omega] at s1 j1 j4
          refine ⟨Or.inr (Or.inr (Or.inr (Or.inr ⟨t2, t3, ?_⟩))), j, by omega, j2, j3, fun q q0 q1 => ?_, j5⟩
          · rw [show (pF S x m (i + f_typeAt S x i) (n + 1)).toInt - n.toInt - 1 = (pF S x m (i + f_typeAt S x i) (n + 1)).toInt - (n + 1).toInt by omega]
            exact s1
          · by_cases z : q = i.toInt.toNat
            · rw [z]; omega
            · by_cases z2 : q = i.toInt.toNat + 1
              · rw [z2]; omega
              · exact j4 q (by omega) q1
theorem mt_of {S : MS} {x : Int32} (h6 : 0 ≤ (qI S 6 x.toInt.toNat).toInt ∧ (qI S 6 x.toInt.toNat).toInt ≤ 200000) (h7 : 0 ≤ (qI S 7 x.toInt.toNat).toInt ∧ (qI S 7 x.toInt.toNat).toInt ≤ 100) (hp : 0 ≤ (pV S x).toInt) : mtO (nmG S x) (nmN S x) (pV S x).toInt := by
  unfold pV at hp ⊢
  by_cases c : (f_letter S x (0 : Int32)).toInt = 40
  · rw [if_pos c] at hp ⊢
    have k := le_at h6 (i := 0) (by decide) (by decide) c
    obtain ⟨s1, j, j1, j2, j3, j4, j5⟩ := pF_sq h6 h7 102 1 0 (by decide) (by decide) hp (by decide)
    refine ⟨?_, j, j2, j3, fun q q1 => ?_, j5⟩
    · rw [li_0, Int.sub_zero] at s1
      exact s1
    · by_cases z : q = 0
      · rw [z]
        have := k.2
        rw [show (0 : Int32).toInt.toNat = 0 from rfl] at this
        omega
      · exact j4 q (by show 1 ≤ q; omega) q1
  · rw [if_neg c] at hp; exact absurd hp (by decide)
theorem ft_of {S : MS} {x : Int32} (h6 : 0 ≤ (qI S 6 x.toInt.toNat).toInt ∧ (qI S 6 x.toInt.toNat).toInt ≤ 200000) (h7 : 0 ≤ (qI S 7 x.toInt.toNat).toInt ∧ (qI S 7 x.toInt.toNat).toInt ≤ 100) (hp : (f_isType S x).toInt ≠ 0) : ∃ p : Int, (p ≤ 2 ∧ 1 ≤ p ∧ (p = 1 ∨ nmN S x = 1)) ∧ sqT (nmG S x) (nmN S x) 3 0 p := by
  unfold f_isType f_isType_J28 at hp
  by_cases c1 : (f_typeAt S x (0 : Int32)).toInt ≤ 0
  · rw [if_pos c1] at hp; exact absurd rfl hp
  · rw [if_neg c1] at hp
    by_cases c2 : (f_typeAt S x (0 : Int32)).toInt = (qI S 7 x.toInt.toNat).toInt
    · have eN : ((nmN S x : Nat) : Int) = (qI S 7 x.toInt.toNat).toInt := by unfold nmN; omega
      have T := ty_at h6 (i := 0) (by decide) (by omega)
      rw [show (0 : Int32).toInt.toNat = 0 from rfl] at T
      rcases T with ⟨t1, t2, t3, -⟩ | ⟨t1, t2, t3, t4, -⟩
      · rcases t3 with t3 | t3
        · exact ⟨1, ⟨by decide, by decide, Or.inl rfl⟩, Or.inr (Or.inr (Or.inr (Or.inl ⟨t2, t3, Or.inl ⟨rfl, Or.inl (by omega)⟩⟩)))⟩
        · exact ⟨2, ⟨by decide, by decide, Or.inr (by omega)⟩, Or.inr (Or.inr (Or.inl ⟨t2, t3, Or.inl ⟨rfl, Or.inl (by omega)⟩⟩))⟩
      · exact ⟨1, ⟨by decide, by decide, Or.inl rfl⟩, Or.inr (Or.inr (Or.inr (Or.inr ⟨t2, t3, Or.inl ⟨rfl, Or.inl (by omega)⟩⟩)))⟩
    · rw [if_neg c2] at hp; exact absurd rfl hp
/-- a field's type has at most two letters -/
theorem ty_len {S : MS} {x : Int32} (hp : (f_isType S x).toInt ≠ 0) : (qI S 7 x.toInt.toNat).toInt ≤ 2 := by
  have h2 : (f_typeAt S x (0 : Int32)).toInt ≤ 2 := by
    unfold f_typeAt f_typeAt_J52
    split
    · decide
    · split
      · decide
      · split
        · split
          · decide
          · decide
        · decide
  unfold f_isType f_isType_J28 at hp
  by_cases c1 : (f_typeAt S x (0 : Int32)).toInt ≤ 0
  · rw [if_pos c1] at hp; exact absurd rfl hp
  · rw [if_neg c1] at hp
    by_cases c2 : (f_typeAt S x (0 : Int32)).toInt = (qI S 7 x.toInt.toNat).toInt
    · omega
    · rw [if_neg c2] at hp; exact absurd rfl hp
/-! a File's texts: what stays (behind pF_sq) -/
def StN (S : MS) (s : Nat) : Prop := ∃ (n : Nat) (g : Nat → Int32), StI S s n g ∧ (1 ≤ n ∧ n ≤ 100) ∧ ∀ i : Nat, i < n → 0 ≤ (g i).toInt ∧ (g i).toInt ≤ 127
def StL (S : MS) (s : Nat) (p : Int) : Prop := ∃ (n : Nat) (g : Nat → Int32), StI S s n g ∧ plc g n = p ∧ ltS g n ∧ n ≤ 8
def Kp (f : Nat) (U V : MS) : Prop := (∀ a : Nat, f + 14 ≤ a → a < qn U → sm5 U V a) ∧ qn U ≤ qn V
theorem Kp.rf {f : Nat} {U : MS} : Kp f U U := ⟨fun _ _ _ => sm5.rf, Nat.le_refl _⟩
theorem Kp.tr {f : Nat} {U V X : MS} (h : Kp f U V) (k : Kp f V X) : Kp f U X := ⟨fun a a0 a1 => (h.1 a a0 a1).tr (k.1 a a0 (by have := h.2; omega)), Nat.le_trans h.2 k.2⟩
theorem Kp.ex {f c s : Nat} {U V : MS} (h : exS U V c s) : Kp f U V := ⟨fun a _ a1 => h.1 a (Or.inl a1), h.2.1.1⟩
theorem Kp.wR {f h j : Nat} {U : MS} {v : Option Nat} (hh : h ≤ f + 13) : Kp f U (wR U h j v) := ⟨fun a a0 _ => sm5.wR (by omega), Nat.le_refl _⟩
theorem Kp.wI {f h j : Nat} {U : MS} {v : Int32} (hh : h ≤ f + 13) : Kp f U (wI U h j v) := ⟨fun a a0 _ => sm5.wI (by omega), Nat.le_refl _⟩
theorem StN.kp {f s : Nat} {U V : MS} (h : StN U s) (hs : f + 14 ≤ s ∧ s + 1 < qn U) (k : Kp f U V) : StN V s := by
  obtain ⟨n, g, a, b⟩ := h
  exact ⟨n, g, a.mv k.2 (k.1 s hs.1 (by omega)) (k.1 _ (by omega) hs.2), b⟩
theorem StL.kp {f s : Nat} {p : Int} {U V : MS} (h : StL U s p) (hs : f + 14 ≤ s ∧ s + 1 < qn U) (k : Kp f U V) : StL V s p := by
  obtain ⟨n, g, a, b⟩ := h
  exact ⟨n, g, a.mv k.2 (k.1 s hs.1 (by omega)) (k.1 _ (by omega) hs.2), b⟩
/-- one letter -/
def StO (S : MS) (s : Nat) (p : Int) : Prop := ∃ g : Nat → Int32, StI S s 1 g ∧ plc g 1 = p ∧ ltS g 1
theorem StO.l {S : MS} {s : Nat} {p : Int} (h : StO S s p) : StL S s p := by
  obtain ⟨g, a, b, c⟩ := h
  exact ⟨1, g, a, b, c, by decide⟩
theorem StO.kp {f s : Nat} {p : Int} {U V : MS} (h : StO U s p) (hs : f + 14 ≤ s ∧ s + 1 < qn U) (k : Kp f U V) : StO V s p := by
  obtain ⟨g, a, b⟩ := h
  exact ⟨g, a.mv k.2 (k.1 s hs.1 (by omega)) (k.1 _ (by omega) hs.2), b⟩
/-- the File's own cells, but for the places P -/
def Rw (f : Nat) (P : Nat → Nat → Prop) (U V : MS) : Prop := ∀ r j : Nat, f ≤ r → r ≤ f + 13 → ¬ P r j → qR V r j = qR U r j ∧ qI V r j = qI U r j
theorem Rw.rf {f : Nat} {P : Nat → Nat → Prop} {U : MS} : Rw f P U U := fun _ _ _ _ _ => ⟨rfl, rfl⟩
theorem Rw.tr {f : Nat} {P : Nat → Nat → Prop} {U V X : MS} (h : Rw f P U V) (k : Rw f P V X) : Rw f P U X := fun r j r0 r1 hp => ⟨(k r j r0 r1 hp).1.trans (h r j r0 r1 hp).1, (k r j r0 r1 hp).2.trans (h r j r0 r1 hp).2⟩
theorem Rw.ex {f c s : Nat} {P : Nat → Nat → Prop} {U V : MS} (h : exS U V c s) (hf : f + 14 ≤ qn U) : Rw f P U V := fun r j r0 r1 _ => by
  have k := h.1 r (Or.inl (by omega))
  exact ⟨by rw [k.2.2.1], by rw [k.1]⟩
theorem Rw.wR {f h i : Nat} {P : Nat → Nat → Prop} {U : MS} {v : Option Nat} (hp : P h i) : Rw f P U (wR U h i v) := fun r j _ _ n => ⟨by rw [qR_wR, if_neg (fun q => n (by rw [q.1, q.2]; exact hp))], rfl⟩
theorem Rw.wI {f h i : Nat} {P : Nat → Nat → Prop} {U : MS} {v : Int32} (hp : P h i) : Rw f P U (wI U h i v) := fun r j _ _ n => ⟨rfl, by rw [qI_wI, if_neg (fun q => n (by rw [q.1, q.2]; exact hp))]⟩
/-- all else -/
def Ph (B : MS) (f : Nat) (U : MS) (c s : Nat) : Prop := (∀ a : Nat, a < f ∨ (f + 10 ≤ a ∧ a ≤ f + 13) ∨ qn U ≤ a → sm5 B U a) ∧ FlR U f ∧ (qn B ≤ qn U ∧ qn U ≤ qn B + c) ∧ qu U ≤ qu B + s
theorem Ph.ex {B U V : MS} {f c s c' s' : Nat} (h : Ph B f U c s) (hf : f + 14 ≤ qn B) (k : exS U V c' s') : Ph B f V (c + c') (s + s') := by
  obtain ⟨h1, h2, h3, h4⟩ := h
  obtain ⟨k1, k2, k3⟩ := k
  refine ⟨fun a ha => (h1 a (by omega)).tr (k1 a (by omega)), ?_, by omega, by omega⟩
  obtain ⟨f1, f2, f3⟩ := h2
  refine ⟨f1, by rw [(k1 f (by omega)).2.2.2.1, (k1 f (by omega)).2.2.2.2]; exact f2, fun i hi => ?_⟩
  have e := k1 (f + 1 + i) (by omega)
  rw [(k1 f (by omega)).2.2.1, e.2.2.2.1, e.2.2.2.2]
  exact f3 i hi
theorem Ph.wR {B U : MS} {f c s h j : Nat} {v : Option Nat} (k : Ph B f U c s) (hf : f + 14 ≤ qn B) (hh : (f < h ∧ h ≤ f + 9) ∨ (h = f ∧ ¬ (5 ≤ j ∧ j ≤ 17))) : Ph B f (wR U h j v) c s := by
  obtain ⟨h1, ⟨f1, f2, f3⟩, h3, h4⟩ := k
  refine ⟨fun a (ha : a < f ∨ (f + 10 ≤ a ∧ a ≤ f + 13) ∨ qn U ≤ a) => (h1 a ha).tr (sm5.wR (by omega)), ⟨f1, f2, fun i hi => ?_⟩, h3, h4⟩
  refine ⟨?_, (f3 i hi).2⟩
  rw [qR_wR, if_neg (by omega)]
  exact (f3 i hi).1
theorem Ph.wI {B U : MS} {f c s h j : Nat} {v : Int32} (k : Ph B f U c s) (hf : f + 14 ≤ qn B) (hh : f ≤ h ∧ h ≤ f + 9) : Ph B f (wI U h j v) c s := by
  obtain ⟨h1, ⟨f1, f2, f3⟩, h3, h4⟩ := k
  exact ⟨fun a (ha : a < f ∨ (f + 10 ≤ a ∧ a ≤ f + 13) ∨ qn U ≤ a) => (h1 a ha).tr (sm5.wI (by omega)), ⟨f1, f2, f3⟩, h3, h4⟩
theorem Ph.le {B U : MS} {f c s c' s' : Nat} (h : Ph B f U c s) (hc : c ≤ c') (hs : s ≤ s') : Ph B f U c' s' := ⟨h.1, h.2.1, by have := h.2.2.1; omega, by have := h.2.2.2; omega⟩
theorem Ph.kn {B U : MS} {f c s : Nat} (h : Ph B f U c s) (k : knI B) (hr : qn U ≤ KC) : knI U := ⟨by have := k.1; have := h.2.2.1; omega, hr, fun a ha => by
  by_cases q : a < qn U
  · exact Or.inl q
  · rw [(h.1 a (by omega)).2.2.2.1] at ha
    have := k.2.2 a ha
    have := h.2.2.1
    omega⟩
theorem Ph.sT {B U : MS} {f c s : Nat} (h : Ph B f U c s) (k : knI B) (hR : RdI B) (hr : qn U ≤ KC) (hF : FlR B f) (hq : qn B = f + 14) (hsrc : qO B 0 11 < f) : smT B U := by
  have o : ∀ a : Nat, a < f ∨ TXB ≤ a → sm5 B U a := fun a ha => h.1 a (by
    rcases ha with q | q
    · exact Or.inl q
    · rw [show TXB = 10000000 from rfl] at q
      rw [show KC = 300000 from rfl] at hr
      exact Or.inr (Or.inr (by omega)))
  have hf92 := hF.1.1
  have o0 := o 0 (Or.inl (by omega))
  have lt : ∀ a : Nat, a < 18 → sm5 B U a := fun a ha => o a (Or.inl (by omega))
  refine ⟨⟨fun b hb => ?_, ⟨by rw [o0.2.2.1], (o _ (Or.inl hsrc)).1⟩, fun a a0 a1 => ⟨(lt a (by omega)).1, (lt a (by omega)).2.1⟩, fun a ha => (o a (Or.inr ha)).1, fun j _ _ _ => by rw [o0.1]⟩, fun a a0 a1 => (lt a a1).1, by rw [o0.1], by rw [o0.1]⟩
  rcases k.2.2 b hb with q | q
  · by_cases z : b < f
    · exact ⟨(o b (Or.inl z)).2.2.2.1, (o b (Or.inl z)).2.2.2.2⟩
    · by_cases y : b = f
      · rw [y]
        exact ⟨h.2.1.2.1.1.trans hF.2.1.1.symm, h.2.1.2.1.2.trans hF.2.1.2.symm⟩
      · have a1 := h.2.1.2.2 (b - f - 1) (by omega)
        have a2 := hF.2.2 (b - f - 1) (by omega)
        rw [show f + 1 + (b - f - 1) = b by omega] at a1 a2
        exact ⟨a1.2.2.trans a2.2.2.symm, a1.2.1.trans a2.2.1.symm⟩
  · exact ⟨(o b (Or.inr q)).2.2.2.1, (o b (Or.inr q)).2.2.2.2⟩
/-! a File's texts (behind StN) -/
def FdO (U : MS) (f i : Nat) : Prop := ∃ s1 s2 s3 : Nat, (f + 14 ≤ s1 ∧ s1 + 1 < qn U) ∧ (f + 14 ≤ s2 ∧ s2 + 1 < qn U) ∧ (f + 14 ≤ s3 ∧ s3 + 1 < qn U) ∧ qR U (f + 1) i = some s1 ∧ qR U (f + 2) i = some s2 ∧ qR U (f + 3) i = some s3 ∧ StN U s1 ∧ StN U s2 ∧ ∃ p : Int, p ≤ 2 ∧ StO U s3 p
def MdO (U : MS) (f m : Nat) (pl : Int) : Prop := ∃ s1 s2 s3 s4 : Nat, (f + 14 ≤ s1 ∧ s1 + 1 < qn U) ∧ (f + 14 ≤ s2 ∧ s2 + 1 < qn U) ∧ (f + 14 ≤ s3 ∧ s3 + 1 < qn U) ∧ (f + 14 ≤ s4 ∧ s4 + 1 < qn U) ∧ qR U (f + 4) m = some s1 ∧ qR U (f + 5) m = some s2 ∧ qR U (f + 6) m = some s3 ∧ qR U (f + 7) m = some s4 ∧ StN U s1 ∧ StN U s2 ∧ (pl ≤ 8 ∧ StL U s3 pl) ∧ ∃ p : Int, p ≤ 2 ∧ StL U s4 p
theorem FdO.mv {U V : MS} {f i : Nat} (h : FdO U f i) (k : Kp f U V) (e : ∀ r : Nat, f + 1 ≤ r → r ≤ f + 3 → qR V r i = qR U r i) : FdO V f i := by
  obtain ⟨s1, s2, s3, a1, a2, a3, b1, b2, b3, c1, c2, p, p1, c3⟩ := h
  have hq := k.2
  exact ⟨s1, s2, s3, by omega, by omega, by omega, by rw [e _ (by omega) (by omega)]; exact b1, by rw [e _ (by omega) (by omega)]; exact b2, by rw [e _ (by omega) (by omega)]; exact b3, c1.kp a1 k, c2.kp a2 k, p, p1, c3.kp a3 k⟩
theorem MdO.mv {U V : MS} {f m : Nat} {pl : Int} (h : MdO U f m pl) (k : Kp f U V) (e : ∀ r : Nat, f + 4 ≤ r → r ≤ f + 7 → qR V r m = qR U r m) : MdO V f m pl := by
  obtain ⟨s1, s2, s3, s4, a1, a2, a3, a4, b1, b2, b3, b4, c1, c2, ⟨p8, c3⟩, p, p1, c4⟩ := h
  have hq := k.2
  exact ⟨s1, s2, s3, s4, by omega, by omega, by omega, by omega, by rw [e _ (by omega) (by omega)]; exact b1, by rw [e _ (by omega) (by omega)]; exact b2, by rw [e _ (by omega) (by omega)]; exact b3, by rw [e _ (by omega) (by omega)]; exact b4, c1.kp a1 k, c2.kp a2 k, ⟨p8, c3.kp a3 k⟩, p, p1, c4.kp a4 k⟩
/-- what holds through the last stage -/
def LsI (B : MS) (f : Nat) : Prop := RT B ∧ knI B ∧ FlR B f ∧ qn B = f + 14 ∧ qO B 0 11 < f ∧ qn B + 800 ≤ KC ∧ qu B + 106000 ≤ KS
theorem Ph.up {B U : MS} {f c s : Nat} (h : Ph B f U c s) (hB : LsI B f) (hc : c ≤ 780) : smT B U ∧ RT U ∧ knI U := by
  obtain ⟨b1, b2, b3, b4, b5, b6, b7⟩ := hB
  have hr : qn U ≤ KC := by have := h.2.2.1; omega
  have k := h.sT b2 b1.1.1 hr b3 b4 b5
  exact ⟨k, k.rt b1, h.kn b2 hr⟩
theorem Ph.rw {B U : MS} {f c s : Nat} (h : Ph B f U c s) {i : Nat} (hi : i < 13) : qR U f (5 + i) = some (f + 1 + i) ∧ qO U f (5 + i) = f + 1 + i ∧ qN U (f + 1 + i) = 24 := by
  have k := h.2.1.2.2 i hi
  exact ⟨k.1, by unfold qO; rw [k.1]; rfl, k.2.1⟩
theorem tx_n {U : MS} {x : Int32} (hM : MmI U) (hx : isE U x 1) {u : MS} {r : Nat} (h : StI u r (qI U 7 x.toInt.toNat).toInt.toNat (fun i => qI U (qO U 0 11) ((qI U 6 x.toInt.toNat).toInt.toNat + i))) : StN u r := by
  obtain ⟨x5, m0, m1, m2, m3⟩ := hM.nm hx
  refine ⟨_, _, h, ⟨by omega, by omega⟩, fun i hi => ?_⟩
  have := hM.ltO hx i (by omega)
  omega
theorem sp_rf_L330 {B : MS} {f : Nat} {Q : Nat → MS → Prop} {E : MS → Prop} {n : Int32} {c0 s0 : Nat} (hB : LsI B f) (hn : n.toInt = (qI B 0 21).toInt - (qI B 0 22).toInt) (hco : ∀ m : Nat, (m : Int) < n.toInt → COK B m) (hc0 : c0 ≤ 330) (hs0 : s0 ≤ 12000) (X : MS → Prop)
    (hQ : ∀ V : MS, Ph B f V (c0 + 432) (s0 + 11520) → X V → (∀ m : Nat, (m : Int) < n.toInt → MdO V f m (pV B (f_two B (qI B 9 ((qI B 0 22).toInt.toNat + m) + 4))).toInt ∧ qI V (f + 8) m = qI B 12 m ∧ qI V (f + 9) m = qI B 13 m) → (∃ Q79, w_firstInts V 19 ((3 : Int32) * (qI V 0 41)) Q79 ∧ ∀ b84 S81, Q79 b84 S81 → (∀ S85, S85 = wR S81 f 18 (some b84) → (∃ Q86, w_firstInts S85 20 (qI S85 0 43) Q86 ∧ ∀ b91 S88, Q86 b91 S88 → (∀ S92, S92 = wR S88 f 19 (some b91) → (∃ Q94, w_firstInts S92 21 ((4 : Int32) * (qI S92 0 45)) Q94 ∧ ∀ b99 S96, Q94 b99 S96 → (∀ S100, S100 = wR S96 f 20 (some b99) → Q f S100)))))))
    (hX : ∀ U V : MS, ∀ i : Nat, X U → f + 14 ≤ qn U → Kp f U V → Rw f (fun r j => f + 4 ≤ r ∧ r ≤ f + 9 ∧ j = i) U V → X V) :
    ∀ (k : Nat) (U : MS) (i : Int32), (0 ≤ i.toInt ∧ i.toInt ≤ n.toInt) → Ph B f U (c0 + 18 * i.toInt.toNat) (s0 + 480 * i.toInt.toNat) → X U → (∀ m : Nat, (m : Int) < i.toInt → MdO U f m (pV B (f_two B (qI B 9 ((qI B 0 22).toInt.toNat + m) + 4))).toInt ∧ qI U (f + 8) m = qI B 12 m ∧ qI U (f + 9) m = qI B 13 m) → (24 - i.toInt).toNat < k → w_readFile_L330 Q E k U n f i := by
  have hB' := hB
  obtain ⟨b1, b2, b3, b4, b5, b6, b7⟩ := hB
  have hmm := b1.1.2.2.1
  have hty := b1.2.2.1
  have hf92 := b3.1.1
  intro k
  induction k with
  | zero => intro U i _ _ _ _ h9; exact absurd h9 (Nat.not_lt_zero _)
  | succ k ih =>
    intro U i hi hP hx hall hm
    obtain ⟨sT, RU, KU⟩ := hP.up hB' (by omega)
    have q22 : qI U 0 22 = qI B 0 22 := sT.1.f 22
    have q21 : qI U 0 21 = qI B 0 21 := sT.1.f 21
    have q9 : qI U 9 = qI B 9 := sT.1.r 9
    unfold w_readFile_L330
    refine ⟨fun c => hQ U (hP.le (by omega) (by omega)) hx (fun m hm => hall m (by omega)), fun c => ?_⟩
    have ea : (qI B 0 22 + i).toInt = (qI B 0 22).toInt + i.toInt := t_add (by omega)
    have en : (qI B 0 22 + i).toInt.toNat = (qI B 0 22).toInt.toNat + i.toInt.toNat := by omega
    have iM : (((qI B 0 22).toInt.toNat + i.toInt.toNat : Nat) : Int) < (qI U 0 21).toInt := by rw [q21]; omega
    have hnm := RU.2.1.1 _ iM
    have r8 := hP.rw (i := 3) (by decide)
    simp only [Nat.reduceAdd, Nat.add_assoc] at r8
    have hroom : qn U + 18 ≤ KC ∧ qu U + 480 ≤ KS := by have := hP.2.2; omega
    have hfU : f + 14 ≤ qn U := by have := hP.2.2.1; omega
    rw [q22, q9, en, r8.2.1]
    rw [q9] at hnm
    refine ⟨r8.1, ⟨by omega, by omega⟩, RU.1.d2 iM (d := 2) (by decide) (by rw [q9]), _, sp_text RU.1 hnm.1 KU (by omega), ?_⟩
    rintro s1 V1 ⟨x1, x2, x3, x4⟩
    have P1 := hP.ex (by omega) x1
    have N1 : StN V1 s1 := tx_n RU.1 hnm.1 x4
    have y8 := P1.rw (i := 3) (by decide)
    simp only [Nat.reduceAdd, Nat.add_assoc] at y8
    refine ⟨⟨hi.1, by rw [y8.2.2]; omega⟩, fun V2 e2 => ?_⟩
    have P2 := P1.wR (h := f + 4) (j := i.toInt.toNat) (v := some s1) (by omega) (by omega)
    rw [← e2] at P2
    obtain ⟨sT2, R2, K2⟩ := P2.up hB' (by omega)
    have v22 : qI V2 0 22 = qI B 0 22 := sT2.1.f 22
    have v21 : qI V2 0 21 = qI B 0 21 := sT2.1.f 21
    have v9 : qI V2 9 = qI B 9 := sT2.1.r 9
    have v7 : qI V2 7 = qI B 7 := sT2.1.r 7
    have v6 : qI V2 6 = qI B 6 := sT2.1.r 6
    have iM2 : (((qI B 0 22).toInt.toNat + i.toInt.toNat : Nat) : Int) < (qI V2 0 21).toInt := by rw [v21]; omega
    have hnm2 := R2.2.1.1 _ iM2
    rw [v9] at hnm2
    have q2 : qn V2 = qn U + 4 := by rw [e2]; exact x3
    have u2 : qu V2 ≤ qu U + 208 := by rw [e2]; exact x1.2.2
    rw [v22, v9, en]
    refine ⟨⟨by omega, by omega⟩, R2.1.d2 iM2 (d := 4) (by decide) (by rw [v9]), _, sp_text R2.1 hnm2.2 K2 (by omega), ?_⟩
    rintro s2 V3 ⟨z1, z2, z3, z4⟩
    have P3 := P2.ex (by omega) z1
    have N2 : StN V3 s2 := tx_n R2.1 hnm2.2 z4
    have y9 := P3.rw (i := 4) (by decide)
    simp only [Nat.reduceAdd, Nat.add_assoc] at y9
    rw [y9.2.1]
    refine ⟨y9.1, ⟨hi.1, by rw [y9.2.2]; omega⟩, fun V4 e4 => ?_⟩
    have P4 := P3.wR (h := f + 5) (j := i.toInt.toNat) (v := some s2) (by omega) (by omega)
    rw [← e4] at P4
    have K3 : Kp f V3 V4 := by rw [e4]; exact Kp.wR (by omega)
    obtain ⟨sT4, R4, K4⟩ := P4.up hB' (by omega)
    have q4 : qn V4 = qn U + 8 := by rw [e4]; show qn V3 = _; omega
    have u4 : qu V4 ≤ qu U + 416 := by rw [e4]; show qu V3 ≤ _; have := z1.2.2; omega
    have y10 := P4.rw (i := 5) (by decide)
    simp only [Nat.reduceAdd, Nat.add_assoc] at y10
    -- the text of the type, as it was read
    have tt := (hty.2 ((qI B 0 22).toInt.toNat + i.toInt.toNat) (by omega)).2 (by omega)
    have e2w : f_two V2 (qI B 9 ((qI B 0 22).toInt.toNat + i.toInt.toNat) + 4) = f_two B (qI B 9 ((qI B 0 22).toInt.toNat + i.toInt.toNat) + 4) := sT2.1.two _
    rw [e2w] at z4 hnm2
    generalize hxx : f_two B (qI B 9 ((qI B 0 22).toInt.toNat + i.toInt.toNat) + 4) = xx at tt z4 hnm2
    have hE : isE B xx 1 := by
      have := (b1.2.1.1 ((qI B 0 22).toInt.toNat + i.toInt.toNat) (by omega)).2
      rw [hxx] at this
      exact this
    obtain ⟨x5, m0, m1, m2, m3⟩ := b1.1.nm hE
    have hbb := b1.1.1.bnd
    have eg : (fun j => qI V2 (qO V2 0 11) ((qI V2 6 xx.toInt.toNat).toInt.toNat + j)) = nmG B xx := by
      funext j
      unfold nmG
      rw [sT2.1.2.1.bt, v6]
    have z5 : StI V3 s2 (nmN B xx) (nmG B xx) := by
      rw [eg, v7] at z4
      exact z4
    have hmt := mt_of (S := B) (x := xx) ⟨m0, by omega⟩ ⟨by omega, m2⟩ tt.1
    obtain ⟨sq1, j, j1, j2, j3, pr, pr1, sq2⟩ := hmt
    have hnn : nmN B xx ≤ 100 := by unfold nmN; omega
    have hasc : ∀ q : Nat, q < nmN B xx → 0 ≤ (nmG B xx q).toInt ∧ (nmG B xx q).toInt ≤ 127 := fun q hq => by
      have := b1.1.ltO hE q (by unfold nmN at hq; omega)
      unfold nmG
      omega
    have s2b : f + 14 ≤ s2 ∧ s2 + 1 < qn V3 := by omega
    have z6 : StI V4 s2 (nmN B xx) (nmG B xx) := z5.mv K3.2 (K3.1 s2 s2b.1 (by omega)) (K3.1 _ (by omega) s2b.2)
    rw [y10.2.1]
    refine ⟨y10.1, _, sp_letters (x1 := 1) z6 hasc hnn (by decide) sq1 tt.2 K4 (by omega), ?_⟩
    rintro s3 V5 ⟨w1, w2, n3, g3, w3, w4, w5, w6⟩
    have P5 := P4.ex (by omega) w1
    have y11 := P5.rw (i := 5) (by decide)
    simp only [Nat.reduceAdd, Nat.add_assoc] at y11
    refine ⟨⟨hi.1, by rw [y11.2.2]; omega⟩, fun V6 e6 => ?_⟩
    have P6 := P5.wR (h := f + 6) (j := i.toInt.toNat) (v := some s3) (by omega) (by omega)
    rw [← e6] at P6
    have K46 : Kp f V4 V6 := (Kp.ex w1).tr (by rw [e6]; exact Kp.wR (by omega))
    have y12 := P6.rw (i := 6) (by decide)
    simp only [Nat.reduceAdd, Nat.add_assoc] at y12
    have q5 := w1.2
    have q6 : qn V6 = qn V5 := by rw [e6]; rfl
    have u6 : qu V6 = qu V5 := by rw [e6]; rfl
    have z7 : StI V6 s2 (nmN B xx) (nmG B xx) := z6.mv K46.2 (K46.1 s2 s2b.1 (by omega)) (K46.1 _ (by omega) (by omega))
    obtain ⟨sT6, R6, K6⟩ := P6.up hB' (by omega)
    rw [y12.2.1]
    refine ⟨y12.1, _, sp_closing z7 hasc hnn j1 j2 j3, ?_⟩
    rintro r S9 ⟨hS9, er⟩
    rw [hS9]
    have er1 : (r + (1 : Int32)).toInt = j + 1 := by rw [t_add (by rw [li_1]; omega), li_1, er]
    refine ⟨_, sp_letters (x1 := r + 1) z7 hasc hnn (by omega) (by rw [er1, show ((j : Int) + 1).toNat = j + 1 by omega]; exact sq2) (by omega) K6 (by omega), ?_⟩
    rintro s4 V7 ⟨t1, t2, n4, g4, t3, t4, t5, t6⟩
    have P7 := P6.ex (by omega) t1
    have y13 := P7.rw (i := 6) (by decide)
    simp only [Nat.reduceAdd, Nat.add_assoc] at y13
    refine ⟨⟨hi.1, by rw [y13.2.2]; omega⟩, fun V8 e8 => ?_⟩
    have P8 := P7.wR (h := f + 7) (j := i.toInt.toNat) (v := some s4) (by omega) (by omega)
    rw [← e8] at P8
    have y14 := P8.rw (i := 7) (by decide)
    simp only [Nat.reduceAdd, Nat.add_assoc] at y14
    rw [y14.2.1]
    refine ⟨y14.1, ⟨hi.1, by omega⟩, ⟨hi.1, by rw [y14.2.2]; omega⟩, fun V9 e9 => ?_⟩
    have P9 := P8.wI (h := f + 8) (j := i.toInt.toNat) (v := qI V8 12 i.toInt.toNat) (by omega) (by omega)
    rw [← e9] at P9
    have y15 := P9.rw (i := 8) (by decide)
    simp only [Nat.reduceAdd, Nat.add_assoc] at y15
    rw [y15.2.1]
    refine ⟨y15.1, ⟨hi.1, by omega⟩, ⟨hi.1, by rw [y15.2.2]; omega⟩, fun V10 e10 a ea' => ?_⟩
    have P10 := P9.wI (h := f + 9) (j := i.toInt.toNat) (v := qI V9 13 i.toInt.toNat) (by omega) (by omega)
    rw [← e10] at P10
    subst ea'
    have q7 := t1.2
    have ei : (i + Int32.ofInt 1).toInt = i.toInt + 1 := by rw [t_add (by rw [lo_1]; omega), lo_1]
    have en1 : (i + Int32.ofInt 1).toInt.toNat = i.toInt.toNat + 1 := by omega
    -- what stays
    let P : Nat → Nat → Prop := fun r j => f + 4 ≤ r ∧ r ≤ f + 9 ∧ j = i.toInt.toNat
    have w12 : Rw f P V1 V2 := by rw [e2]; exact Rw.wR ⟨by omega, by omega, rfl⟩
    have w34 : Rw f P V3 V4 := by rw [e4]; exact Rw.wR ⟨by omega, by omega, rfl⟩
    have w56 : Rw f P V5 V6 := by rw [e6]; exact Rw.wR ⟨by omega, by omega, rfl⟩
    have w78 : Rw f P V7 V8 := by rw [e8]; exact Rw.wR ⟨by omega, by omega, rfl⟩
    have w89 : Rw f P V8 V9 := by rw [e9]; exact Rw.wI ⟨by omega, by omega, rfl⟩
    have w9a : Rw f P V9 V10 := by rw [e10]; exact Rw.wI ⟨by omega, by omega, rfl⟩
    have RW : Rw f P U V10 := ((((((((Rw.ex x1 hfU).tr w12).tr (Rw.ex z1 (by omega))).tr w34).tr (Rw.ex w1 (by omega))).tr w56).tr (Rw.ex t1 (by omega))).tr w78).tr (w89.tr w9a)
    have k12 : Kp f V1 V2 := by rw [e2]; exact Kp.wR (by omega)
    have k78 : Kp f V7 V8 := by rw [e8]; exact Kp.wR (by omega)
    have k89 : Kp f V8 V9 := by rw [e9]; exact Kp.wI (by omega)
    have k9a : Kp f V9 V10 := by rw [e10]; exact Kp.wI (by omega)
    have k6a : Kp f V6 V10 := (Kp.ex t1).tr (k78.tr (k89.tr k9a))
    have k3a : Kp f V3 V10 := (K3.tr K46).tr k6a
    have k1a : Kp f V1 V10 := k12.tr ((Kp.ex z1).tr k3a)
    have kua : Kp f U V10 := (Kp.ex x1).tr k1a
    have k5a : Kp f V5 V10 := (show Kp f V5 V6 by rw [e6]; exact Kp.wR (by omega)).tr k6a
    have k7a : Kp f V7 V10 := k78.tr (k89.tr k9a)
    -- reads of the rows' places
    have rd : ∀ (r : Nat), f + 4 ≤ r → r ≤ f + 7 → qR V10 r i.toInt.toNat = qR V8 r i.toInt.toNat := fun r r0 r1 => by rw [e10, e9]; rfl
    have g7 : qR V10 (f + 7) i.toInt.toNat = some s4 := by rw [rd _ (by omega) (by omega), e8, qR_wR, if_pos ⟨rfl, rfl⟩]
    have b78 : ∀ r : Nat, f + 4 ≤ r → r ≤ f + 6 → qR V8 r i.toInt.toNat = qR V6 r i.toInt.toNat := fun r r0 r1 => by rw [e8, qR_wR, if_neg (by omega), (t1.1 r (Or.inl (by omega))).2.2.1]
    have g6 : qR V10 (f + 6) i.toInt.toNat = some s3 := by rw [rd _ (by omega) (by omega), b78 _ (by omega) (by omega), e6, qR_wR, if_pos ⟨rfl, rfl⟩]
    have b56 : ∀ r : Nat, f + 4 ≤ r → r ≤ f + 5 → qR V6 r i.toInt.toNat = qR V4 r i.toInt.toNat := fun r r0 r1 => by rw [e6, qR_wR, if_neg (by omega), (w1.1 r (Or.inl (by omega))).2.2.1]
    have g5 : qR V10 (f + 5) i.toInt.toNat = some s2 := by rw [rd _ (by omega) (by omega), b78 _ (by omega) (by omega), b56 _ (by omega) (by omega), e4, qR_wR, if_pos ⟨rfl, rfl⟩]
    have g4' : qR V10 (f + 4) i.toInt.toNat = some s1 := by rw [rd _ (by omega) (by omega), b78 _ (by omega) (by omega), b56 _ (by omega) (by omega), e4, qR_wR, if_neg (by omega), (z1.1 _ (Or.inl (by omega))).2.2.1, e2, qR_wR, if_pos ⟨rfl, rfl⟩]
    have c8 : qI V8 12 = qI B 12 := (P8.1 12 (Or.inl (by omega))).1
    have c9 : qI V9 13 = qI B 13 := (P9.1 13 (Or.inl (by omega))).1
    refine ih V10 _ ⟨by omega, by omega⟩ (P10.le (by omega) (by omega)) (hX U V10 i.toInt.toNat hx hfU kua RW) (fun m hm' => ?_) (by omega)
    by_cases qm : (m : Int) < i.toInt
    · obtain ⟨o1, o2, o3⟩ := hall m qm
      have rr := fun (r : Nat) (r0 : f ≤ r) (r1 : r ≤ f + 13) => RW r m r0 r1 (fun z => by have := z.2.2; omega)
      exact ⟨o1.mv kua (fun r r0 r1 => (rr r (by omega) (by omega)).1), by rw [(rr _ (by omega) (by omega)).2]; exact o2, by rw [(rr _ (by omega) (by omega)).2]; exact o3⟩
    · have em : m = i.toInt.toNat := by omega
      subst em
      rw [hxx]
      refine ⟨⟨s1, s2, s3, s4, ?_, ?_, ?_, ?_, g4', g5, g6, g7, N1.kp (by omega) k1a, N2.kp s2b k3a, ⟨tt.2, ⟨n3, g3, ?_, w4, w5, w6.1⟩⟩, pr, pr1, n4, g4, ?_, t4, t5, t6.1⟩, ?_, ?_⟩
      · have := k1a.2; omega
      · have := k3a.2; omega
      · have := k5a.2; omega
      · have := k7a.2; omega
      · exact w3.mv k5a.2 (k5a.1 _ (by omega) (by omega)) (k5a.1 _ (by omega) (by omega))
      · exact t3.mv k7a.2 (k7a.1 _ (by omega) (by omega)) (k7a.1 _ (by omega) (by omega))
      · rw [e10, rdH (by omega), e9, qI_wI, if_pos ⟨rfl, rfl⟩, c8]
      · rw [e10, qI_wI, if_pos ⟨rfl, rfl⟩, c9]
