/-! leads, threaded (behind OpR.wy, fn_wayOf, sumN_upd) -/
def nsN (S : MS) : Nat := sumN (fun j => if (qI S 89 j).toInt = (qI S 0 139).toInt then 0 else 1) (gN S).toNat
theorem sp_leads {S : MS} {L F M : Int} {l : Nat} {x : Int32} (h : OpR S L F M) (ha : OpA S l) (hx : 0 ≤ x.toInt ∧ x.toInt ≤ l) (hg : (qI S 81 x.toInt.toNat).toInt = 0) : w_leads S x (fun r u => frm [89] [139] S u ∧ (r.toInt < 0 ∨ ((0 ≤ r.toInt ∧ r.toInt ≤ l) ∧ (qI S 81 r.toInt.toNat).toInt = 0 ∧ ¬ (qI S 78 r.toInt.toNat).toInt = 167 ∧ (¬ r.toInt = x.toInt → (qI S 78 x.toInt.toNat).toInt = 167)))) := by
  have b := h.1
  have hN : 0 ≤ gN S ∧ gN S ≤ 1200 := by omega
  have ll := ha.1.1
  have L12 : ∀ (c : Nat) (U : MS) (t : Int32), frm [89] [139] S U → (0 ≤ t.toInt ∧ t.toInt ≤ l) → (qI S 81 t.toInt.toNat).toInt = 0 → (¬ t.toInt = x.toInt → (qI S 78 x.toInt.toNat).toInt = 167) → nsN U < c → w_leads_L12 (fun r u => frm [89] [139] S u ∧ (r.toInt < 0 ∨ ((0 ≤ r.toInt ∧ r.toInt ≤ l) ∧ (qI S 81 r.toInt.toNat).toInt = 0 ∧ ¬ (qI S 78 r.toInt.toNat).toInt = 167 ∧ (¬ r.toInt = x.toInt → (qI S 78 x.toInt.toNat).toInt = 167)))) c U t := by
    intro c
    induction c with
    | zero => intro U t _ _ _ _ h9; exact absurd h9 (Nat.not_lt_zero _)
    | succ c ih =>
      intro U t fU ht tg tx hc
      have s : smO S U := smO.fm fU (by decide) (by decide) (by decide)
      have e78 : qI U 78 = qI S 78 := s.2.2.2.1
      have rg : 0 ≤ t.toInt ∧ t.toInt < 1200 := by omega
      unfold w_leads_L12
      rw [e78]
      refine ⟨rg, fun c1 => ⟨rg, fun c2 => ⟨fU, Or.inl (by decide)⟩, fun c2 => ⟨rg, fun D eD => ?_⟩⟩, fun c1 => ⟨fU, Or.inr ⟨ht, tg, c1, tx⟩⟩⟩
      have fD : frm [89] [139] S D := fU.tr (by rw [eD]; exact frm.pI (by decide))
      have sD : smO S D := smO.fm fD (by decide) (by decide) (by decide)
      have rD := sD.r h
      have ew : wyN D t.toInt.toNat = 1 := by
        rw [(sD.tw _ 0).1]
        unfold wyN
        rw [if_neg (by rw [jp_1 (by omega)]; decide)]
      refine ⟨_, fn_wayOf rD ⟨ht.1, by rw [sD.gn]; omega⟩ ⟨by decide, by rw [ew]; decide⟩, ?_⟩
      rintro r V ⟨eV, r0, r1⟩
      rw [eV]
      rw [sD.hr, (sD.tw _ _).2] at r1
      have z0 : (0 : Int32).toInt.toNat = 0 := rfl
      rw [z0] at r1
      have ew2 : wyN S t.toInt.toNat = 1 := by rw [← (sD.tw _ 0).1]; exact ew
      have tl := ha.2.1 t.toInt.toNat 0 (by omega) tg (by rw [ew2]; decide)
      have t0 := ((h.wy (x := t) ⟨ht.1, by omega⟩).2.2.2 0 (by rw [ew2]; decide)).1
      have rl : r.toInt.toNat ≤ l := r1.le (by omega) ha.1.2.1
      have d139 : qI D 0 139 = qI U 0 139 := by rw [eD, rdH (by decide)]
      have u : nsN D + (if (qI U 89 t.toInt.toNat).toInt = (qI U 0 139).toInt then 0 else 1) = nsN U + (if (qI D 89 t.toInt.toNat).toInt = (qI D 0 139).toInt then 0 else 1) := by
        have eg : gN D = gN U := by rw [sD.gn, s.gn]
        unfold nsN
        rw [eg]
        refine sumN_upd (g := fun j => if (qI U 89 j).toInt = (qI U 0 139).toInt then 0 else 1) (g' := fun j => if (qI D 89 j).toInt = (qI D 0 139).toInt then 0 else 1) (i := t.toInt.toNat) (fun j hj => ?_) (gN U).toNat (by rw [s.gn]; omega)
        show (if (qI D 89 j).toInt = (qI D 0 139).toInt then 0 else 1) = (if (qI U 89 j).toInt = (qI U 0 139).toInt then 0 else 1)
        have e1 : qI D 89 j = qI U 89 j := by rw [eD, qI_wI, if_neg (fun q => hj q.2)]
        rw [e1, d139]
      have e2 : qI D 89 t.toInt.toNat = qI U 0 139 := by rw [eD, qI_wI, if_pos ⟨rfl, rfl⟩]
      rw [if_neg c2, e2, d139, if_pos rfl] at u
      refine ih D r fD ⟨r0, by omega⟩ (r1.2.2.1 (by omega)) (fun _ => ?_) (by omega)
      by_cases q : t.toInt = x.toInt
      · rw [← q]; exact c1
      · exact tx q
  unfold w_leads
  intro A eA
  exact ⟨_, L12 _ A x (by rw [eA]; exact frm.pI0 (by decide)) hx hg (fun q => absurd rfl q) (Nat.lt_succ_self _)⟩
/-- how many ways lead to a goto -/
noncomputable def gtW (S : MS) (i k : Nat) : Nat := @ite Nat ((k : Int) < wyN S i ∧ ∃ r : Nat, HrP S (tgV S i k).toInt.toNat r ∧ (qI S 78 r).toInt = 167) (Classical.propDecidable _) 1 0
noncomputable def gtN (S : MS) : Nat := sumN (fun i => sumN (fun k => gtW S i k) 202) (gN S).toNat
theorem sumN_le {g g' : Nat → Nat} : ∀ n : Nat, (∀ j : Nat, j < n → g' j ≤ g j) → sumN g' n ≤ sumN g n := by
  intro n
  induction n with
  | zero => intro _; exact Nat.le_refl _
  | succ n ih =>
    intro h
    have a := ih (fun j hj => h j (by omega))
    have b := h n (by omega)
    show sumN g' n + g' n ≤ sumN g n + g n
    omega
theorem sumN_lt {g g' : Nat → Nat} {i : Nat} : ∀ n : Nat, (∀ j : Nat, j < n → g' j ≤ g j) → i < n → g' i < g i → sumN g' n < sumN g n := by
  intro n
  induction n with
  | zero => intro _ q; exact absurd q (Nat.not_lt_zero _)
  | succ n ih =>
    intro h hi hl
    show sumN g' n + g' n < sumN g n + g n
    by_cases e : i = n
    · have a := sumN_le n (fun j hj => h j (by omega))
      rw [e] at hl
      omega
    · have a := ih (fun j hj => h j (by omega)) (by omega) hl
      have b := h n (by omega)
      omega
theorem gtN_sm {S u : MS} (s : smO S u) : gtN u = gtN S := by
  have e : ∀ i k : Nat, gtW u i k = gtW S i k := fun i k => by
    unfold gtW
    rw [(s.tw i k).1, (s.tw i k).2, s.2.2.2.1]
    have q : (∃ r : Nat, HrP u (tgV S i k).toInt.toNat r ∧ (qI S 78 r).toInt = 167) ↔ ∃ r : Nat, HrP S (tgV S i k).toInt.toNat r ∧ (qI S 78 r).toInt = 167 := by
      constructor
      · rintro ⟨r, a, b⟩; exact ⟨r, s.hr.mp a, b⟩
      · rintro ⟨r, a, b⟩; exact ⟨r, s.hr.mpr a, b⟩
    by_cases z : ((k : Int) < wyN S i ∧ ∃ r : Nat, HrP S (tgV S i k).toInt.toNat r ∧ (qI S 78 r).toInt = 167)
    · rw [if_pos z, if_pos ⟨z.1, q.mpr z.2⟩]
    · rw [if_neg z, if_neg (fun y => z ⟨y.1, q.mp y.2⟩)]
  unfold gtN
  rw [s.gn]
  refine sumN_eq _ (fun i _ => sumN_eq _ (fun k _ => e i k))
theorem sw_op {S : MS} {o : Int32} (h : ¬ (f_isSwitch S o).toInt = 0) : o.toInt = 170 ∨ o.toInt = 171 := by
  unfold f_isSwitch f_isSwitch_J14 at h
  by_cases c1 : o.toInt = 170
  · exact Or.inl c1
  · rw [if_neg c1] at h
    by_cases c2 : o.toInt = 171
    · exact Or.inr c2
    · rw [if_neg c2] at h; exact absurd rfl h
theorem sw_is {S : MS} {o : Int32} (h : o.toInt = 170 ∨ o.toInt = 171) : ¬ (f_isSwitch S o).toInt = 0 := by
  unfold f_isSwitch f_isSwitch_J14
  by_cases c1 : o.toInt = 170
  · rw [if_pos c1]; decide
  · rw [if_neg c1, if_pos (by omega)]; decide
/-- switches are the same or gone, and words change in their tables alone -/
def swE (S u : MS) : Prop := gN u = gN S ∧ (∀ i : Nat, (qI u 78 i).toInt = 170 ∨ (qI u 78 i).toInt = 171 → qI u 78 i = qI S 78 i ∧ qI u 79 i = qI S 79 i ∧ qI u 80 i = qI S 80 i) ∧ ∀ q : Nat, (∀ j : Nat, (j : Int) < gN S → (qI S 78 j).toInt = 170 ∨ (qI S 78 j).toInt = 171 → ¬ ((qI S 79 j).toInt ≤ q ∧ (q : Int) ≤ (qI S 79 j).toInt + 2 * (qI S 80 j).toInt)) → qI u 75 q = qI S 75 q
theorem swE.rf {S : MS} : swE S S := ⟨rfl, fun _ _ => ⟨rfl, rfl, rfl⟩, fun _ _ => rfl⟩
theorem swE.tr {S u v : MS} (h : swE S u) (k : swE u v) : swE S v := by
  refine ⟨k.1.trans h.1, fun i q => ?_, fun q hq => (k.2.2 q (fun j hj sw => ?_)).trans (h.2.2 q hq)⟩
  · obtain ⟨a, b, c⟩ := k.2.1 i q
    obtain ⟨d, e, f⟩ := h.2.1 i (by rw [← a]; exact q)
    exact ⟨a.trans d, b.trans e, c.trans f⟩
  · obtain ⟨d, e, f⟩ := h.2.1 j sw
    rw [e, f]
    exact hq j (by rw [← h.1]; exact hj) (by rw [← d]; exact sw)
theorem swE.sm {S u : MS} (s : smO S u) : swE S u := ⟨s.gn, fun i _ => ⟨by rw [s.2.2.2.1], by rw [s.2.2.2.2.1], by rw [s.2.2.2.2.2.1]⟩, fun q _ => by rw [s.2.2.1]⟩
/-- a way is led on -/
theorem sp_setWay {S : MS} {L F M : Int} {l : Nat} {x k t : Int32} {r0 : Nat} (h : OpR S L F M) (ha : OpA S l) (hx : 0 ≤ x.toInt ∧ x.toInt < gN S) (hg : (qI S 81 x.toInt.toNat).toInt = 0) (hk : 0 ≤ k.toInt ∧ k.toInt < wyN S x.toInt.toNat) (ht : 0 ≤ t.toInt ∧ t.toInt ≤ l) (tg : (qI S 81 t.toInt.toNat).toInt = 0) (tn : ¬ (qI S 78 t.toInt.toNat).toInt = 167) (hr : HrP S (tgV S x.toInt.toNat k.toInt.toNat).toInt.toNat r0) (hr7 : (qI S 78 r0).toInt = 167) : w_setWay S x k t (fun u => frm [75, 79] [] S u ∧ OpR u L F M ∧ OpA u l ∧ gtN u < gtN S ∧ qI u 86 = qI S 86 ∧ swE S u) := by
  have b := h.1
  have ll := ha.1.1
  have rg : 0 ≤ x.toInt ∧ x.toInt < 1200 := by omega
  have l2 : (2 : Int32).toInt = 2 := by decide
  obtain ⟨w1, w2, w3, w4⟩ := h.wy hx
  have t4 := w4 k.toInt.toNat (by omega)
  have dj : d_isJump S (qI S 78 x.toInt.toNat) := by
    unfold d_isJump d_isJump_J14 d_isJump_J28
    simp only [ite_self]
  -- what both kinds share: every aim is the old one, or t
  have fin : ∀ D : MS, frm [75, 79] [] S D → swE S D → (∀ i : Nat, wyN D i = wyN S i) → (∀ i j : Nat, tgV D i j = tgV S i j ∨ tgV D i j = t) → tgV D x.toInt.toNat k.toInt.toNat = t → OpR D L F M → frm [75, 79] [] S D ∧ OpR D L F M ∧ OpA D l ∧ gtN D < gtN S ∧ qI D 86 = qI S 86 ∧ swE S D := fun D fD sD ew et ex rD => by
    have z := fun (a : Nat) (h1 : a ≠ 0) (h2 : a ∉ [75, 79]) => (fD.2.2.2.2.1 a h1 h2).1
    have eg : gN D = gN S := by unfold gN; rw [(fD.2.2.2.2.2 129 (by decide)).1]
    have e81 : qI D 81 = qI S 81 := z 81 (by decide) (by decide)
    have e78 : qI D 78 = qI S 78 := z 78 (by decide) (by decide)
    have ehr : ∀ i r : Nat, HrP D i r ↔ HrP S i r := fun i r => by unfold HrP; rw [eg, e81]
    have e86 : qI D 86 = qI S 86 := z 86 (by decide) (by decide)
    have ht0 : HrP S t.toInt.toNat t.toInt.toNat := ⟨Nat.le_refl _, by omega, fun _ => tg, fun j a b => by omega⟩
    have le : ∀ i j : Nat, gtW D i j ≤ gtW S i j := fun i j => by
      unfold gtW
      by_cases q : ((j : Int) < wyN D i ∧ ∃ r : Nat, HrP D (tgV D i j).toInt.toNat r ∧ (qI D 78 r).toInt = 167)
      · rw [if_pos q]
        obtain ⟨q1, r, q2, q3⟩ := q
        rw [ehr, e78] at *
        rcases et i j with e | e
        · rw [e] at q2
          rw [if_pos ⟨by rw [← ew]; exact q1, r, q2, q3⟩]
          exact Nat.le_refl _
        · rw [e] at q2
          rw [q2.uq ht0] at q3
          exact absurd q3 tn
      · rw [if_neg q]; exact Nat.zero_le _
    have lt : gtW D x.toInt.toNat k.toInt.toNat < gtW S x.toInt.toNat k.toInt.toNat := by
      unfold gtW
      rw [if_neg (fun q => by
        obtain ⟨q1, r, q2, q3⟩ := q
        rw [ex, ehr] at q2
        rw [e78, q2.uq ht0] at q3
        exact tn q3), if_pos ⟨by omega, r0, hr, hr7⟩]
      decide
    refine ⟨fD, rD, ⟨⟨by rw [eg]; exact ha.1.1, by rw [e81]; exact ha.1.2.1, by rw [eg, e81]; exact ha.1.2.2⟩, fun i j i1 i2 i3 => ?_, fun c i c1 c2 i1 i2 i3 i4 => ?_⟩, ?_, e86, sD⟩
    · rw [eg] at i1
      rw [e81] at i2
      rw [ew] at i3
      rcases et i j with e | e
      · rw [e]; exact ha.2.1 i j i1 i2 i3
      · rw [e]; exact ht.2
    · rw [(fD.2.2.2.2.2 135 (by decide)).1] at c1
      rw [e86] at c2
      rw [eg] at i1
      rw [e81] at i2
      rw [z 82 (by decide) (by decide)] at i3
      rw [z 83 (by decide) (by decide)] at i4
      rw [z 84 (by decide) (by decide)]
      exact ha.2.2 c i c1 c2 i1 i2 i3 i4
    · unfold gtN
      rw [eg]
      exact sumN_lt (i := x.toInt.toNat) _ (fun i _ => sumN_le _ (fun j _ => le i j)) (by omega) (sumN_lt (i := k.toInt.toNat) _ (fun j _ => le _ j) (by omega) lt)
  unfold w_setWay
  refine ⟨rg, dj, fun q => ⟨rg, ?_⟩, fun q => ⟨rg, fun D eD => ?_⟩⟩
  · have t3 := t4.2.2 q
    have e2 : ((2 : Int32) * k).toInt = 2 * k.toInt := by rw [t_mul (by rw [l2]; omega), l2]
    have e : (qI S 79 x.toInt.toNat + (2 : Int32) * k).toInt = (qI S 79 x.toInt.toNat).toInt + 2 * k.toInt := by rw [t_add (by rw [e2]; omega), e2]
    rw [e]
    refine ⟨⟨by omega, by omega⟩, fun D eD => ?_⟩
    have fD : frm [75, 79] [] S D := by rw [eD]; exact frm.pI (by decide)
    have d78 : qI D 78 = qI S 78 := by rw [eD, rdH (by decide)]
    have d79 : qI D 79 = qI S 79 := by rw [eD, rdH (by decide)]
    have d80 : qI D 80 = qI S 80 := by rw [eD, rdH (by decide)]
    have d75 : ∀ j : Nat, qI D 75 j = qI S 75 j ∨ (j = ((qI S 79 x.toInt.toNat).toInt + 2 * k.toInt).toNat ∧ qI D 75 j = t) := fun j => by
      rw [eD, qI_wI]
      by_cases w : j = ((qI S 79 x.toInt.toNat).toInt + 2 * k.toInt).toNat
      · rw [if_pos ⟨rfl, w⟩]; exact Or.inr ⟨w, rfl⟩
      · rw [if_neg (fun y => w y.2)]; exact Or.inl rfl
    have eg : gN D = gN S := by unfold gN; rw [(fD.2.2.2.2.2 129 (by decide)).1]
    have sD : swE S D := by
      refine ⟨eg, fun i _ => by rw [d78, d79, d80]; exact ⟨rfl, rfl, rfl⟩, fun z hz => ?_⟩
      rcases d75 z with y | y
      · exact y
      · have hk2 := hk.2
        unfold wyN at hk2
        rw [if_pos q] at hk2
        by_cases w : (f_isSwitch S (qI S 78 x.toInt.toNat)).toInt = 0
        · rw [if_pos w] at hk2; omega
        · rw [if_neg w] at hk2
          have := hz x.toInt.toNat (by omega) (sw_op w)
          omega
    refine fin D fD sD (fun i => by unfold wyN; rw [d78, d80]; rfl) (fun i j => ?_) ?_ ?_
    · unfold tgV
      rw [d78, d79]
      by_cases w : (f_isJump S (qI S 78 i)).toInt = 0
      · have w' : (f_isJump D (qI S 78 i)).toInt = 0 := w
        rw [if_pos w, if_pos w']
        rcases d75 ((qI S 79 i).toInt.toNat + 2 * j) with y | y
        · exact Or.inl y
        · exact Or.inr y.2
      · have w' : ¬ (f_isJump D (qI S 78 i)).toInt = 0 := w
        rw [if_neg w, if_neg w']
        exact Or.inl rfl
    · unfold tgV
      rw [d78, d79]
      have q' : (f_isJump D (qI S 78 x.toInt.toNat)).toInt = 0 := q
      rw [if_pos q', eD, qI_wI, if_pos ⟨rfl, by omega⟩]
    · obtain ⟨p1, p2, p3, p4, p5⟩ := h
      refine ⟨by rw [eg]; exact p1, p2, fun i hi => ?_, by rw [(fD.2.2.2.2.2 135 (by decide)).1]; exact p4, ?_⟩
      · rw [eg] at hi ⊢
        rw [d78, d79, d80]
        have r := p3 i hi
        refine ⟨r.1, r.2.1, fun w => ?_, r.2.2.2⟩
        obtain ⟨y1, y2, y3, y4, y5, y6⟩ := r.2.2.1 w
        refine ⟨y1, y2, y3, y4, fun k' hk' => ?_, y6⟩
        rcases d75 ((qI S 79 i).toInt.toNat + 2 * k') with y | y
        · rw [y]; exact y5 k' hk'
        · rw [y.2]; exact ⟨ht.1, by omega⟩
      · rw [(fD.2.2.2.2.2 135 (by decide)).1, (fD.2.2.2.2.1 82 (by decide) (by decide)).1, (fD.2.2.2.2.1 83 (by decide) (by decide)).1, (fD.2.2.2.2.1 84 (by decide) (by decide)).1, (fD.2.2.2.2.1 85 (by decide) (by decide)).1, eg]
        exact p5
  · have fD : frm [75, 79] [] S D := by rw [eD]; exact frm.pI (by decide)
    have d78 : qI D 78 = qI S 78 := by rw [eD, rdH (by decide)]
    have d75 : qI D 75 = qI S 75 := by rw [eD, rdH (by decide)]
    have d80 : qI D 80 = qI S 80 := by rw [eD, rdH (by decide)]
    have d79 : ∀ j : Nat, qI D 79 j = if j = x.toInt.toNat then t else qI S 79 j := fun j => by
      rw [eD, qI_wI]
      by_cases w : j = x.toInt.toNat
      · rw [if_pos ⟨rfl, w⟩, if_pos w]
      · rw [if_neg (fun y => w y.2), if_neg w]
    have eg : gN D = gN S := by unfold gN; rw [(fD.2.2.2.2.2 129 (by decide)).1]
    have jo := jp_op q
    have sD : swE S D := ⟨eg, fun i hi => by
      rw [d78] at hi ⊢
      rw [d79, d80]
      by_cases e : i = x.toInt.toNat
      · rw [e] at hi; omega
      · rw [if_neg e]; exact ⟨rfl, rfl, rfl⟩, fun z _ => by rw [d75]⟩
    refine fin D fD sD (fun i => by unfold wyN; rw [d78, d80]; rfl) (fun i j => ?_) ?_ ?_
    · unfold tgV
      rw [d78, d79, d75]
      by_cases e : i = x.toInt.toNat
      · rw [if_pos e]
        rw [e]
        have q' : ¬ (f_isJump D (qI S 78 x.toInt.toNat)).toInt = 0 := q
        rw [if_neg q']
        exact Or.inr rfl
      · rw [if_neg e]; exact Or.inl rfl
    · unfold tgV
      rw [d78, d79]
      have q' : ¬ (f_isJump D (qI S 78 x.toInt.toNat)).toInt = 0 := q
      rw [if_neg q', if_pos rfl]
    · obtain ⟨p1, p2, p3, p4, p5⟩ := h
      refine ⟨by rw [eg]; exact p1, p2, fun i hi => ?_, by rw [(fD.2.2.2.2.2 135 (by decide)).1]; exact p4, ?_⟩
      · rw [eg] at hi ⊢
        rw [d78, d79, d80, d75]
        by_cases e : i = x.toInt.toNat
        · rw [if_pos e, e]
          have r := p3 x.toInt.toNat (by omega)
          exact ⟨r.1, fun _ => ⟨ht.1, by omega⟩, fun w => by omega, fun w => by omega, fun w => by omega, fun w => by omega, fun w => by omega⟩
        · rw [if_neg e]
          exact p3 i hi
      · rw [(fD.2.2.2.2.2 135 (by decide)).1, (fD.2.2.2.2.1 82 (by decide) (by decide)).1, (fD.2.2.2.2.1 83 (by decide) (by decide)).1, (fD.2.2.2.2.1 84 (by decide) (by decide)).1, (fD.2.2.2.2.1 85 (by decide) (by decide)).1, eg]
        exact p5
def frT (S u : MS) : Prop := frm [75, 77, 79, 89] [139] S u ∧ swE S u
theorem sp_threaded {S : MS} {L F M : Int} {l : Nat} {x : Int32} (h : OpR S L F M) (ha : OpA S l) (hx : 0 ≤ x.toInt ∧ x.toInt < gN S) (hg : (qI S 81 x.toInt.toNat).toInt = 0) : w_threaded S x (fun r u => frT S u ∧ OpR u L F M ∧ OpA u l ∧ gtN u ≤ gtN S ∧ (¬ r.toInt = 0 → gtN u < gtN S)) := by
  have l2 : (2 : Int32).toInt = 2 := by decide
  have L4 : ∀ (c : Nat) (U : MS) (m k : Int32), (frT S U ∧ OpR U L F M ∧ OpA U l ∧ gtN U ≤ gtN S ∧ (¬ m.toInt = 0 → gtN U < gtN S)) → 0 ≤ k.toInt → (202 - k.toInt).toNat < c → w_threaded_L4 (fun r u => frT S u ∧ OpR u L F M ∧ OpA u l ∧ gtN u ≤ gtN S ∧ (¬ r.toInt = 0 → gtN u < gtN S)) c U x m k := by
    intro c
    induction c with
    | zero => intro U m k _ _ h9; exact absurd h9 (Nat.not_lt_zero _)
    | succ c ih =>
      intro U m k hU k0 hc
      have hU' := hU
      obtain ⟨⟨fU, sU⟩, rU, aU, tU, tm⟩ := hU
      have eg : gN U = gN S := by unfold gN; rw [(fU.2.2.2.2.2 129 (by decide)).1]
      have u81 : qI U 81 = qI S 81 := (fU.2.2.2.2.1 81 (by decide) (by decide)).1
      have xU : 0 ≤ x.toInt ∧ x.toInt < gN U := by rw [eg]; exact hx
      have gU : (qI U 81 x.toInt.toNat).toInt = 0 := by rw [u81]; exact hg
      have b := rU.1
      obtain ⟨w1, w2, w3, w4⟩ := rU.wy xU
      unfold w_threaded_L4 w_threaded_J64
      rw [w2]
      refine ⟨w1, fun _ => hU', fun c1 => ⟨_, fn_wayOf rU xU ⟨k0, by omega⟩, ?_⟩⟩
      have ek : (k + Int32.ofInt 1).toInt = k.toInt + 1 := by rw [t_add (by rw [lo_1]; omega), lo_1]
      rintro r V ⟨eV, r0, r1⟩
      rw [eV]
      have tl := aU.2.1 x.toInt.toNat k.toInt.toNat (by omega) gU (by omega)
      have t0 := (w4 k.toInt.toNat (by omega)).1
      have rl : r.toInt.toNat ≤ l := r1.le (by omega) aU.1.2.1
      have ll := aU.1.1
      have rg := r1.2.2.1 (by omega)
      refine ⟨_, sp_leads rU aU ⟨r0, by omega⟩ rg, ?_⟩
      rintro q W ⟨fW, hq⟩
      have sW : smO U W := smO.fm fW (by decide) (by decide) (by decide)
      have w86 : qI W 86 = qI U 86 := (fW.2.2.2.2.1 86 (by decide) (by decide)).1
      have rW := sW.r rU
      have aW := sW.a aU (fun c e => by rw [w86] at e; exact e)
      have gW := gtN_sm sW
      have fSW : frm [75, 77, 79, 89] [139] S W := fU.tr (fW.mo (by decide) (by decide))
      have sSW : swE S W := sU.tr (swE.sm sW)
      have stay : ∀ a13 : Int32, a13 = (k + Int32.ofInt 1) → w_threaded_L4 (fun r u => frT S u ∧ OpR u L F M ∧ OpA u l ∧ gtN u ≤ gtN S ∧ (¬ r.toInt = 0 → gtN u < gtN S)) c W x m a13 := fun a ea => by
        subst ea
        exact ih W m _ ⟨⟨fSW, sSW⟩, rW, aW, by rw [gW]; exact tU, by rw [gW]; exact tm⟩ (by omega) (by omega)
      refine ⟨fun _ => stay, fun c2 => ⟨fun _ => stay, fun c3 => ?_⟩⟩
      rcases hq with y | ⟨y1, y2, y3, y4⟩
      · exact absurd y c2
      · have e81 : qI W 81 = qI U 81 := sW.2.2.2.2.2.2.1
        have e78 : qI W 78 = qI U 78 := sW.2.2.2.1
        refine ⟨_, sp_setWay rW aW ⟨hx.1, by rw [sW.gn]; exact xU.2⟩ (by rw [e81]; exact gU) ⟨k0, by rw [(sW.tw _ 0).1]; omega⟩ y1 (by rw [e81]; exact y2) (by rw [e78]; exact y3) (r0 := r.toInt.toNat) (by rw [(sW.tw _ _).2]; exact sW.hr.mpr r1) (by rw [e78]; exact y4 c3), ?_⟩
        rintro X ⟨fX, rX, aX, gX, x86, xs⟩ Y eY a ea
        subst ea
        have fY : frm [77] [] X Y := by rw [eY]; exact frm.pI (by decide)
        have sY : smO X Y := smO.fm fY (by decide) (by decide) (by decide)
        have y86 : qI Y 86 = qI X 86 := (fY.2.2.2.2.1 86 (by decide) (by decide)).1
        have gY := gtN_sm sY
        refine ih Y 1 _ ⟨⟨fSW.tr ((fX.mo (by decide) (by decide)).tr (fY.mo (by decide) (by decide))), sSW.tr (xs.tr (swE.sm sY))⟩, sY.r rX, sY.a aX (fun c e => by rw [y86] at e; exact e), by rw [gY]; omega, fun _ => by rw [gY]; omega⟩ (by omega) (by omega)
  unfold w_threaded
  exact ⟨_, L4 _ S 0 0 ⟨⟨frm.rf, swE.rf⟩, h, ha, Nat.le_refl _, fun q => absurd rfl q⟩ (by decide) (Nat.lt_succ_self _)⟩
/-! rules that change rows (behind OpR, OpA, d_iw, d_lw) -/
def rwW (S : MS) (j : Nat) : Nat := if (qI S 81 j).toInt = 0 then (if (qI S 78 j).toInt = 54 ∨ (qI S 78 j).toInt = 55 ∨ (qI S 78 j).toInt = 58 then 2 else 1) else 0
/-- what is there, stores twice -/
def mN (S : MS) : Nat := sumN (rwW S) (gN S).toNat
theorem mN_sm {S u : MS} (s : smO S u) : mN u = mN S := by
  unfold mN
  rw [s.gn]
  refine sumN_eq _ (fun j _ => ?_)
  unfold rwW
  rw [s.2.2.2.1, s.2.2.2.2.2.2.1]
/-- what the rows cost when they are written -/
def wtN (S : MS) : Nat := sumN (fun i => (wtV (qI S 78 i).toInt (qI S 80 i).toInt).toNat) (gN S).toNat
def frW (S u : MS) : Prop := frm [78, 79, 80, 81] [] S u ∧ wtN u ≤ wtN S ∧ swE S u
theorem frW.rf {S : MS} : frW S S := ⟨frm.rf, Nat.le_refl _, swE.rf⟩
theorem frW.tr {S u v : MS} (h : frW S u) (k : frW u v) : frW S v := ⟨h.1.tr k.1, Nat.le_trans k.2.1 h.2.1, h.2.2.tr k.2.2⟩
theorem wt3 {o b : Int} (h : ¬ o = 132 ∧ ¬ o = 170 ∧ ¬ o = 171) : wtV o b ≤ 3 := by
  unfold wtV
  rw [if_neg h.1, if_neg (by omega)]
  exact Int.le_refl _
theorem wt_3 {o b : Int} (h : o = 170 ∨ o = 171 → 0 ≤ b) : 3 ≤ wtV o b := by
  unfold wtV
  by_cases c : o = 132
  · rw [if_pos c]; decide
  · rw [if_neg c]
    by_cases d : o = 170 ∨ o = 171
    · rw [if_pos d]; have := h d; omega
    · rw [if_neg d]; decide
theorem wtN_sm {S u : MS} (s : smO S u) : wtN u = wtN S := by
  unfold wtN
  rw [s.gn, s.2.2.2.1, s.2.2.2.2.2.1]
theorem jp_is {S : MS} {o : Int32} (h : 153 ≤ o.toInt ∧ o.toInt ≤ 167) : ¬ (f_isJump S o).toInt = 0 := by
  unfold f_isJump
  rw [if_neg (by omega), if_pos h.2]
  unfold f_isJump_J28
  decide
theorem rw_gone {U D : MS} {L F M : Int} {l j : Nat} {v : Int32} (hr : OpR U L F M) (ha : OpA U l) (hj : (j : Int) < gN U) (jl : j ≠ l) (hv : ¬ v.toInt = 0) (eD : D = wI U 81 j v) : frW U D ∧ OpR D L F M ∧ OpA D l ∧ mN D ≤ mN U ∧ ((qI U 81 j).toInt = 0 → mN D < mN U) ∧ (∀ i : Nat, i ≠ j → qI D 81 i = qI U 81 i) ∧ qI D 78 = qI U 78 ∧ qI D 79 = qI U 79 := by
  have fD : frm [81] [] U D := by rw [eD]; exact frm.pI (by decide)
  have z := fun (a : Nat) (h1 : a ≠ 0) (h2 : a ∉ [81]) => (fD.2.2.2.2.1 a h1 h2).1
  have d129 : qI D 0 129 = qI U 0 129 := (fD.2.2.2.2.2 129 (by decide)).1
  have d135 : qI D 0 135 = qI U 0 135 := (fD.2.2.2.2.2 135 (by decide)).1
  have eg : gN D = gN U := by unfold gN; rw [d129]
  have e78 : qI D 78 = qI U 78 := z 78 (by decide) (by decide)
  have e79 : qI D 79 = qI U 79 := z 79 (by decide) (by decide)
  have e80 : qI D 80 = qI U 80 := z 80 (by decide) (by decide)
  have e75 : qI D 75 = qI U 75 := z 75 (by decide) (by decide)
  have e81 : ∀ i : Nat, qI D 81 i = if i = j then v else qI U 81 i := fun i => by
    rw [eD, qI_wI]
    by_cases w : i = j
    · rw [if_pos ⟨rfl, w⟩, if_pos w]
    · rw [if_neg (fun y => w y.2), if_neg w]
  have ne : ∀ i : Nat, (qI D 81 i).toInt = 0 → (qI U 81 i).toInt = 0 := fun i q => by
    rw [e81] at q
    by_cases w : i = j
    · rw [if_pos w] at q; exact absurd q hv
    · rw [if_neg w] at q; exact q
  have ew : ∀ i : Nat, rwW D i ≤ rwW U i := fun i => by
    unfold rwW
    rw [e78]
    by_cases q : (qI D 81 i).toInt = 0
    · rw [if_pos q, if_pos (ne i q)]; exact Nat.le_refl _
    · rw [if_neg q]; exact Nat.zero_le _
  refine ⟨⟨fD.mo (by decide) (by decide), by unfold wtN; rw [eg, e78, e80]; exact Nat.le_refl _, ⟨eg, fun i _ => by rw [e78, e79, e80]; exact ⟨rfl, rfl, rfl⟩, fun z _ => by rw [e75]⟩⟩, ?_, ⟨⟨by rw [eg]; exact ha.1.1, by rw [e81, if_neg (fun q => jl q.symm)]; exact ha.1.2.1, fun i i1 i2 q => ha.1.2.2 i i1 (by rw [← eg]; exact i2) (ne i q)⟩, fun i k i1 i2 i3 => ?_, fun c i c1 c2 i1 i2 i3 i4 => ?_⟩, ?_, fun g => ?_, fun i hi => by rw [e81, if_neg hi], e78, e79⟩
  · obtain ⟨p1, p2, p3, p4, p5⟩ := hr
    unfold OpR
    rw [eg, e78, e79, e80, e75, d135, z 82 (by decide) (by decide), z 83 (by decide) (by decide), z 84 (by decide) (by decide), z 85 (by decide) (by decide)]
    exact ⟨p1, p2, p3, p4, p5⟩
  · have et : tgV D i k = tgV U i k := by unfold tgV; rw [e78, e79, e75]; rfl
    have ey : wyN D i = wyN U i := by unfold wyN; rw [e78, e80]; rfl
    rw [et]
    rw [ey] at i3
    exact ha.2.1 i k (by rw [← eg]; exact i1) (ne i i2) i3
  · rw [d135] at c1
    rw [z 86 (by decide) (by decide)] at c2
    rw [z 82 (by decide) (by decide)] at i3
    rw [z 83 (by decide) (by decide)] at i4
    rw [z 84 (by decide) (by decide)]
    exact ha.2.2 c i c1 c2 (by rw [← eg]; exact i1) (ne i i2) i3 i4
  · unfold mN
    rw [eg]
    exact sumN_le _ (fun i _ => ew i)
  · unfold mN
    rw [eg]
    refine sumN_lt (i := j) _ (fun i _ => ew i) (by omega) ?_
    unfold rwW
    rw [e81, if_pos rfl, if_neg hv, if_pos g]
    by_cases q : (qI U 78 j).toInt = 54 ∨ (qI U 78 j).toInt = 55 ∨ (qI U 78 j).toInt = 58
    · rw [if_pos q]; decide
    · rw [if_neg q]; decide
theorem rw_row {U D : MS} {L F M : Int} {l j : Nat} (hr : OpR U L F M) (ha : OpA U l) (hj : (j : Int) < gN U) (fD : frm [78, 79, 80] [] U D) (ex : ∀ i : Nat, i ≠ j → qI D 78 i = qI U 78 i ∧ qI D 79 i = qI U 79 i ∧ qI D 80 i = qI U 80 i) (rv : rV (qI U 75) 40000 (gN U) L F M (qI D 78 j) (qI D 79 j) (qI D 80 j)) (am : ∀ k : Nat, (k : Int) < wyN D j → (tgV D j k).toInt ≤ l) (ns : ¬ ((qI D 78 j).toInt = 54 ∨ (qI D 78 j).toInt = 55 ∨ (qI D 78 j).toInt = 58)) (w3 : wtV (qI D 78 j).toInt (qI D 80 j).toInt ≤ 3) : frW U D ∧ OpR D L F M ∧ OpA D l ∧ mN D ≤ mN U ∧ ((qI U 81 j).toInt = 0 → ((qI U 78 j).toInt = 54 ∨ (qI U 78 j).toInt = 55 ∨ (qI U 78 j).toInt = 58) → mN D < mN U) ∧ qI D 81 = qI U 81 := by
  have z := fun (a : Nat) (h1 : a ≠ 0) (h2 : a ∉ [78, 79, 80]) => (fD.2.2.2.2.1 a h1 h2).1
  have d129 : qI D 0 129 = qI U 0 129 := (fD.2.2.2.2.2 129 (by decide)).1
  have d135 : qI D 0 135 = qI U 0 135 := (fD.2.2.2.2.2 135 (by decide)).1
  have eg : gN D = gN U := by unfold gN; rw [d129]
  have e81 : qI D 81 = qI U 81 := z 81 (by decide) (by decide)
  have e75 : qI D 75 = qI U 75 := z 75 (by decide) (by decide)
  have ew : ∀ i : Nat, rwW D i ≤ rwW U i := fun i => by
    unfold rwW
    rw [e81]
    by_cases q : (qI U 81 i).toInt = 0
    · rw [if_pos q, if_pos q]
      by_cases w : i = j
      · rw [w, if_neg ns]
        by_cases y : (qI U 78 j).toInt = 54 ∨ (qI U 78 j).toInt = 55 ∨ (qI U 78 j).toInt = 58
        · rw [if_pos y]; decide
        · rw [if_neg y]; decide
      · rw [(ex i w).1]; exact Nat.le_refl _
    · rw [if_neg q, if_neg q]; exact Nat.le_refl _
  have wl : wtN D ≤ wtN U := by
    unfold wtN
    rw [eg]
    refine sumN_le _ (fun i _ => ?_)
    show (wtV (qI D 78 i).toInt (qI D 80 i).toInt).toNat ≤ (wtV (qI U 78 i).toInt (qI U 80 i).toInt).toNat
    by_cases w : i = j
    · rw [w]
      have := wt_3 (fun q => ((hr.2.2.1 j hj).2.2.1 q).2.1)
      omega
    · rw [(ex i w).1, (ex i w).2.2]; exact Nat.le_refl _
  refine ⟨⟨fD.mo (by decide) (by decide), wl, eg, fun i q => (by
    by_cases w : i = j
    · rw [w] at q
      have b0 := (rv.2.2.1 q).2.1
      unfold wtV at w3
      rw [if_neg (by omega), if_pos q] at w3
      omega
    · exact ex i w), fun z _ => by rw [e75]⟩, ?_, ⟨⟨by rw [eg]; exact ha.1.1, by rw [e81]; exact ha.1.2.1, by rw [eg, e81]; exact ha.1.2.2⟩, fun i k i1 i2 i3 => ?_, fun c i c1 c2 i1 i2 i3 i4 => ?_⟩, ?_, fun g st => ?_, e81⟩
  · obtain ⟨p1, p2, p3, p4, p5⟩ := hr
    refine ⟨by rw [eg]; exact p1, p2, fun i hi => ?_, by rw [d135]; exact p4, ?_⟩
    · rw [eg] at hi ⊢
      rw [e75]
      by_cases w : i = j
      · rw [w]; exact rv
      · obtain ⟨x1, x2, x3⟩ := ex i w
        rw [x1, x2, x3]
        exact p3 i hi
    · rw [eg, d135, z 82 (by decide) (by decide), z 83 (by decide) (by decide), z 84 (by decide) (by decide), z 85 (by decide) (by decide)]
      exact p5
  · by_cases w : i = j
    · rw [w] at i3 ⊢
      exact am k i3
    · obtain ⟨x1, x2, x3⟩ := ex i w
      have et : tgV D i k = tgV U i k := by unfold tgV; rw [x1, x2, e75]; rfl
      have ey : wyN D i = wyN U i := by unfold wyN; rw [x1, x3]; rfl
      rw [et]
      rw [ey] at i3
      exact ha.2.1 i k (by rw [← eg]; exact i1) (by rw [← e81]; exact i2) i3
  · rw [d135] at c1
    rw [z 86 (by decide) (by decide)] at c2
    rw [z 82 (by decide) (by decide)] at i3
    rw [z 83 (by decide) (by decide)] at i4
    rw [z 84 (by decide) (by decide)]
    exact ha.2.2 c i c1 c2 (by rw [← eg]; exact i1) (by rw [← e81]; exact i2) i3 i4
  · unfold mN
    rw [eg]
    exact sumN_le _ (fun i _ => ew i)
  · unfold mN
    rw [eg]
    refine sumN_lt (i := j) _ (fun i _ => ew i) (by omega) ?_
    unfold rwW
    rw [e81, if_pos g, if_pos g, if_neg ns, if_pos st]
    decide
/-- what a rule answers -/
def RuP (L F M : Int) (l : Nat) (S : MS) (r : Int32) (u : MS) : Prop := frW S u ∧ OpR u L F M ∧ OpA u l ∧ mN u ≤ mN S ∧ (¬ r.toInt = 0 → mN u < mN S)
theorem RuP.no {L F M : Int} {l : Nat} {S : MS} (h : OpR S L F M) (ha : OpA S l) : RuP L F M l S 0 S := ⟨frW.rf, h, ha, Nat.le_refl _, fun q => absurd rfl q⟩
theorem eqr {S u : MS} (f : frW S u) : gN u = gN S := by unfold gN; rw [(f.1.2.2.2.2.2 129 (by decide)).1]
theorem sp_goBoth {S : MS} {L F M : Int} {l : Nat} {x y : Int32} (h : OpR S L F M) (ha : OpA S l) (hx : 0 ≤ x.toInt ∧ x.toInt < gN S) (xl : x.toInt.toNat ≠ l) (hy : 0 ≤ y.toInt ∧ y.toInt < gN S) (yl : y.toInt.toNat ≠ l) (g : (qI S 81 x.toInt.toNat).toInt = 0) : w_goBoth S x y (RuP L F M l S) := by
  have b := h.1
  unfold w_goBoth
  refine ⟨⟨hx.1, by omega⟩, fun D eD => ?_⟩
  obtain ⟨f1, r1, a1, m1, n1, o1, _, _⟩ := rw_gone h ha (j := x.toInt.toNat) (by omega) xl vb1 eD
  have n2 := n1 g
  refine ⟨⟨hy.1, by omega⟩, fun E eE => ?_⟩
  obtain ⟨f2, r2, a2, m2, _⟩ := rw_gone r1 a1 (j := y.toInt.toNat) (by rw [eqr f1]; omega) yl vb1 eE
  exact ⟨f1.tr f2, r2, a2, by omega, fun _ => by omega⟩
theorem sp_become {U : MS} {L F M : Int} {l : Nat} {x op : Int32} {y : Int64} (h : OpR U L F M) (ha : OpA U l) (hx : 0 ≤ x.toInt ∧ x.toInt < gN U) (ho : op.toInt = 18 ∨ op.toInt = 20) : w_become U x op y (fun u => frW U u ∧ OpR u L F M ∧ OpA u l ∧ mN u ≤ mN U ∧ qI u 81 = qI U 81) := by
  have b := h.1
  have rg : 0 ≤ x.toInt ∧ x.toInt < 1200 := by omega
  have fin : ∀ (v w : Int32) (D E G : MS), D = wI U 78 x.toInt.toNat op → E = wI D 79 x.toInt.toNat v → G = wI E 80 x.toInt.toNat w → frW U G ∧ OpR G L F M ∧ OpA G l ∧ mN G ≤ mN U ∧ qI G 81 = qI U 81 := fun v w D E G eD eE eG => by
    have fD : frm [78, 79, 80] [] U D := by rw [eD]; exact frm.pI (by decide)
    have fE : frm [78, 79, 80] [] D E := by rw [eE]; exact frm.pI (by decide)
    have fG : frm [78, 79, 80] [] E G := by rw [eG]; exact frm.pI (by decide)
    have g78 : ∀ i : Nat, qI G 78 i = if i = x.toInt.toNat then op else qI U 78 i := fun i => by
      rw [eG, rdH (by decide), eE, rdH (by decide), eD, qI_wI]
      by_cases q : i = x.toInt.toNat
      · rw [if_pos ⟨rfl, q⟩, if_pos q]
      · rw [if_neg (fun y => q y.2), if_neg q]
    have g79 : ∀ i : Nat, i ≠ x.toInt.toNat → qI G 79 i = qI U 79 i := fun i hi => by
      rw [eG, rdH (by decide), eE, qI_wI, if_neg (fun y => hi y.2), eD, rdH (by decide)]
    have g80 : ∀ i : Nat, i ≠ x.toInt.toNat → qI G 80 i = qI U 80 i := fun i hi => by
      rw [eG, qI_wI, if_neg (fun y => hi y.2), eE, rdH (by decide), eD, rdH (by decide)]
    have eo : qI G 78 x.toInt.toNat = op := by rw [g78, if_pos rfl]
    have nj : (f_isJump G op).toInt = 0 := by
      by_cases q : (f_isJump G op).toInt = 0
      · exact q
      · have := jp_op q; omega
    have ns : (f_isSwitch G op).toInt = 0 := by
      unfold f_isSwitch f_isSwitch_J14
      rw [if_neg (by omega), if_neg (by omega)]
      rfl
    obtain ⟨w1, w2, w3, w4, w5, w6⟩ := rw_row h ha (j := x.toInt.toNat) (by omega) (fD.tr (fE.tr fG)) (fun i hi => ⟨by rw [g78, if_neg hi], g79 i hi, g80 i hi⟩) (by
      rw [eo]
      exact ⟨by unfold opW; omega, fun w => by omega, fun w => by omega, fun w => by omega, fun w => by omega, fun w => by omega, fun w => by omega⟩) (fun k hk => by
      unfold wyN at hk
      rw [eo, if_pos nj, if_pos ns] at hk
      omega) (by rw [eo]; omega) (by rw [eo]; exact wt3 (by omega))
    exact ⟨w1, w2, w3, w4, w6⟩
  unfold w_become w_become_J28
  refine ⟨rg, fun D eD => ⟨fun c1 => ⟨rg, fun E eE => ⟨fun _ => ⟨rg, fun G eG => fin _ _ D E G eD eE eG⟩, fun q => absurd c1 q⟩⟩, fun c1 => ⟨rg, fun E eE => ⟨fun q => absurd q c1, fun _ => ⟨rg, fun G eG => fin _ _ D E G eD eE eG⟩⟩⟩⟩⟩
theorem d_wa {S : MS} {x : Int32} (rg : 0 ≤ x.toInt ∧ x.toInt < 1200) : d_worthAt S x := ⟨rg, ite_T (fun _ => ⟨rg, trivial⟩) (fun _ => ⟨rg, rg, trivial⟩)⟩
theorem fo_J217 {S U : MS} {L F M : Int} {l : Nat} {x y : Int32} (f : frW S U) (h : OpR U L F M) (ha : OpA U l) (m : mN U ≤ mN S) (hx : 0 ≤ x.toInt ∧ x.toInt < gN S) (xl : x.toInt.toNat ≠ l) (hy : 0 ≤ y.toInt ∧ y.toInt < gN S) (yl : y.toInt.toNat ≠ l) (g : (qI U 81 x.toInt.toNat).toInt = 0) : w_folded_J217 (RuP L F M l S) U x y := by
  have b := h.1
  have eg := eqr f
  unfold w_folded_J217
  refine ⟨⟨hx.1, by omega⟩, fun D eD => ?_⟩
  obtain ⟨f1, r1, a1, m1, n1, _⟩ := rw_gone h ha (j := x.toInt.toNat) (by omega) xl vb1 eD
  have n2 := n1 g
  have e1 := eqr f1
  refine ⟨⟨hy.1, by omega⟩, fun E eE => ?_⟩
  obtain ⟨f2, r2, a2, m2, _⟩ := rw_gone r1 a1 (j := y.toInt.toNat) (by omega) yl vb1 eE
  exact ⟨f.tr (f1.tr f2), r2, a2, by omega, fun _ => by omega⟩
theorem sp_turnedRow {S : MS} {L F M : Int} {l : Nat} {x y : Int32} (h : OpR S L F M) (ha : OpA S l) (hx : 0 ≤ x.toInt ∧ x.toInt < gN S) (hy : 0 ≤ y.toInt ∧ y.toInt < gN S) (yl : y.toInt.toNat ≠ l) (g : (qI S 81 y.toInt.toNat).toInt = 0) : w_turnedRow S x y (RuP L F M l S) := by
  have b := h.1
  have rx : 0 ≤ x.toInt ∧ x.toInt < 1200 := by omega
  have ry : 0 ≤ y.toInt ∧ y.toInt < 1200 := by omega
  have go : ∀ (op : Int32) (v : Int64), (op.toInt = 18 ∨ op.toInt = 20) → ∃ Q24, w_become S x op v Q24 ∧ ∀ S25, Q24 S25 → w_turnedRow_J193 (RuP L F M l S) S25 y := fun op v ho => by
    refine ⟨_, sp_become h ha hx ho, ?_⟩
    rintro U ⟨f, r, a, m, e81⟩
    have eg := eqr f
    unfold w_turnedRow_J193
    refine ⟨ry, fun D eD => ?_⟩
    obtain ⟨f1, r1, a1, m1, n1, _⟩ := rw_gone r a (j := y.toInt.toNat) (by omega) yl vb1 eD
    have n2 := n1 (by rw [e81]; exact g)
    exact ⟨f.tr f1, r1, a1, by omega, fun _ => by omega⟩
  have no := RuP.no h ha
  have J145 : ∀ t : Int32, w_turnedRow_J145 (RuP L F M l S) S x y t := fun t => by
    unfold w_turnedRow_J145
    exact ⟨rx, fun _ => ⟨fun _ => no, fun _ => ⟨fun _ => no, fun _ => ⟨rx, trivial, go _ _ (Or.inl rfl)⟩⟩⟩, fun _ => no⟩
  have J110 : ∀ t : Int32, w_turnedRow_J110 (RuP L F M l S) S x y t := fun t => by
    unfold w_turnedRow_J110
    exact ⟨rx, fun _ => ⟨fun _ => ⟨d_wa rx, go _ _ (Or.inl rfl)⟩, fun _ => J145 t⟩, fun _ => J145 t⟩
  have J75 : ∀ t : Int32, w_turnedRow_J75 (RuP L F M l S) S x y t := fun t => by
    unfold w_turnedRow_J75
    exact ⟨rx, fun _ => ⟨fun _ => ⟨rx, go _ _ (Or.inr rfl)⟩, fun _ => J110 t⟩, fun _ => J110 t⟩
  have J42 : ∀ t : Int32, w_turnedRow_J42 (RuP L F M l S) S x y t := fun t => by
    unfold w_turnedRow_J42
    exact ⟨rx, fun _ => ⟨fun _ => ⟨d_wa rx, go _ _ (Or.inr rfl)⟩, fun _ => J75 t⟩, fun _ => J75 t⟩
  unfold w_turnedRow
  exact ⟨ry, fun t _ => ⟨rx, fun _ => ⟨fun _ => ⟨rx, go _ _ (Or.inl rfl)⟩, fun _ => J42 t⟩, fun _ => J42 t⟩⟩
theorem i32_0 {y : Int64} (h : -2147483648 ≤ y.toInt ∧ y.toInt ≤ 2147483647) (n : ¬ y = 0) : y.toInt32.toInt ≠ 0 := fun q => by
  rw [tl_to h] at q
  exact n (Int64.toInt_inj.mp (by rw [q]; rfl))
theorem sp_folded {S : MS} {L F M : Int} {l : Nat} {x y z : Int32} (h : OpR S L F M) (ha : OpA S l) (hx : 0 ≤ x.toInt ∧ x.toInt < gN S) (hy : 0 ≤ y.toInt ∧ y.toInt < gN S) (yl : y.toInt.toNat ≠ l) (hz : z.toInt = l) (g : (qI S 81 y.toInt.toNat).toInt = 0) : w_folded S x y z (RuP L F M l S) := by
  have b := h.1
  have rx : 0 ≤ x.toInt ∧ x.toInt < 1200 := by omega
  have ry : 0 ≤ y.toInt ∧ y.toInt < 1200 := by omega
  have no := RuP.no h ha
  unfold w_folded
  refine ⟨_, fn_behind (by omega) hy, ?_⟩
  rintro r u ⟨eu, r0, r1⟩
  subst eu
  refine ⟨fun _ => no, fun c1 => ⟨fun _ => no, fun c2 => ?_⟩⟩
  have c3 : r.toInt < gN u := by unfold gN; omega
  have rr : 0 ≤ r.toInt ∧ r.toInt < 1200 := by omega
  have go : ∀ (op : Int32) (v : Int64), (op.toInt = 18 ∨ op.toInt = 20) → ∃ Q24, w_become u x op v Q24 ∧ ∀ S25, Q24 S25 → w_folded_J217 (RuP L F M l u) S25 y r := fun op v ho => by
    refine ⟨_, sp_become h ha hx ho, ?_⟩
    rintro U ⟨f, r, a, m, e81⟩
    exact fo_J217 f r a m hy yl ⟨r0, c3⟩ (by omega) (by rw [e81]; exact g)
  have dO : ∀ o : Int32, d_isOperator u o := fun o => by
    unfold d_isOperator d_isOperator_J12 d_isOperator_J25 d_isOperator_J32
    simp only [ite_self]
  have dL : ∀ o : Int32, d_lower u o := fun o => by
    unfold d_lower d_lower_J14
    simp only [ite_self]
  have dU : ∀ o : Int32, d_upper u o := fun o => by
    unfold d_upper d_upper_J26 d_upper_J31
    simp only [ite_self]
  have J162 : ∀ v : Int64, w_folded_J162 (RuP L F M l u) u v 18 x y r := fun v => go _ _ (Or.inl rfl)
  refine ⟨⟨r0, by omega⟩, fun _ => ⟨rr, dO _, fun _ => no, fun _ => ⟨rr, fun o eo => ⟨rx, dL _, fun k1 => ⟨ry, dU _, fun k2 => ⟨d_wa rx, fun a ea => ⟨d_wa ry, fun v ev => ?_⟩⟩, fun _ => no⟩, fun _ => no⟩⟩⟩, fun _ => no⟩
  have J123 : (108 ≤ o.toInt ∧ o.toInt ≤ 113 → ¬ v = 0) → w_folded_J123 (RuP L F M l u) u x y r o a v := fun nz => by
    unfold w_folded_J123
    refine ⟨fun _ => ⟨fun _ => ⟨fun _ => J162 _, fun _ => J162 _⟩, fun _ => J162 _⟩, fun _ => ⟨rx, fun k3 => ⟨d_iw (fun w => ?_), go _ _ (Or.inl rfl)⟩, fun _ => ⟨d_lw (fun w => nz (by omega)), go _ _ (Or.inr rfl)⟩⟩⟩
    have up : (f_upper u o).toInt = 18 := by
      rcases w with w | w
      · have : o = 108 := Int32.toInt_inj.mp (by rw [w]; rfl)
        rw [this]; rfl
      · have : o = 112 := Int32.toInt_inj.mp (by rw [w]; rfl)
        rw [this]; rfl
    have v18 : v = (qI u 79 y.toInt.toNat).toInt64 := by
      rw [ev]
      unfold f_worthAt
      rw [if_pos (by rw [k2, up])]
    refine i32_0 ?_ (nz (by omega))
    rw [v18, Int32.toInt_toInt64]
    exact ⟨Int32.le_toInt _, Int.le_of_lt_add_one (Int32.toInt_lt _)⟩
  exact ⟨fun q => J123 (fun w => by omega), fun q => ⟨fun q2 => J123 (fun w => by omega), fun q2 => ⟨fun _ => no, fun q3 => J123 (fun _ => lg0 q3)⟩⟩⟩
/-! rules, the rest, and apply (behind r397) -/
theorem sp_settle {S : MS} {L F M : Int} {l : Nat} {x y w : Int32} (h : OpR S L F M) (ha : OpA S l) (hx : 0 ≤ x.toInt ∧ x.toInt < gN S) (xl : x.toInt.toNat ≠ l) (hy : 0 ≤ y.toInt ∧ y.toInt < gN S) (yl : y.toInt.toNat ≠ l) (g : (qI S 81 y.toInt.toNat).toInt = 0) (hj : 153 ≤ (qI S 78 y.toInt.toNat).toInt ∧ (qI S 78 y.toInt.toNat).toInt ≤ 164) : w_settle S x y w (fun u => frW S u ∧ OpR u L F M ∧ OpA u l ∧ mN u < mN S) := by
  have b := h.1
  have rx : 0 ≤ x.toInt ∧ x.toInt < 1200 := by omega
  have ry : 0 ≤ y.toInt ∧ y.toInt < 1200 := by omega
  have ij : ¬ (f_isJump S (qI S 78 y.toInt.toNat)).toInt = 0 := jp_is ⟨hj.1, by omega⟩
  have rv := (h.2.2.1 y.toInt.toNat (by omega)).2.1 (Or.inl ⟨hj.1, by omega⟩)
  have al := ha.2.1 y.toInt.toNat 0 (by omega) g (by unfold wyN; rw [if_neg ij]; decide)
  unfold tgV at al
  rw [if_neg ij] at al
  unfold w_settle
  refine ⟨ry, fun t et => ⟨ry, fun D eD => ?_⟩⟩
  obtain ⟨f1, r1, a1, m1, n1, _⟩ := rw_gone h ha (j := y.toInt.toNat) (by omega) yl vb1 eD
  have n2 := n1 g
  have e1 := eqr f1
  refine ⟨fun _ => ⟨rx, fun E eE => ?_⟩, fun _ => ⟨rx, fun E eE => ⟨rx, fun G eG => ⟨rx, fun H eH => ?_⟩⟩⟩⟩
  · obtain ⟨f2, r2, a2, m2, _⟩ := rw_gone r1 a1 (j := x.toInt.toNat) (by omega) xl vb1 eE
    exact ⟨f1.tr f2, r2, a2, by omega⟩
  · have fE : frm [78, 79, 80] [] D E := by rw [eE]; exact frm.pI (by decide)
    have fG : frm [78, 79, 80] [] E G := by rw [eG]; exact frm.pI (by decide)
    have fH : frm [78, 79, 80] [] G H := by rw [eH]; exact frm.pI (by decide)
    have g78 : ∀ i : Nat, qI H 78 i = if i = x.toInt.toNat then 167 else qI D 78 i := fun i => by
      rw [eH, rdH (by decide), eG, rdH (by decide), eE, qI_wI]
      by_cases q : i = x.toInt.toNat
      · rw [if_pos ⟨rfl, q⟩, if_pos q]
      · rw [if_neg (fun y => q y.2), if_neg q]
    have g79 : ∀ i : Nat, qI H 79 i = if i = x.toInt.toNat then t else qI D 79 i := fun i => by
      rw [eH, rdH (by decide), eG, qI_wI, eE, rdH (by decide)]
      by_cases q : i = x.toInt.toNat
      · rw [if_pos ⟨rfl, q⟩, if_pos q]
      · rw [if_neg (fun y => q y.2), if_neg q]
    have g80 : ∀ i : Nat, i ≠ x.toInt.toNat → qI H 80 i = qI D 80 i := fun i hi => by
      rw [eH, qI_wI, if_neg (fun y => hi y.2), eG, rdH (by decide), eE, rdH (by decide)]
    have l167 : (167 : Int32).toInt = 167 := by decide
    have eo : qI H 78 x.toInt.toNat = 167 := by rw [g78, if_pos rfl]
    have ea : qI H 79 x.toInt.toNat = t := by rw [g79, if_pos rfl]
    have jh : ¬ (f_isJump H (qI H 78 x.toInt.toNat)).toInt = 0 := jp_is (by rw [eo, l167]; decide)
    obtain ⟨w1, w2, w3, w4, w5, w6⟩ := rw_row r1 a1 (j := x.toInt.toNat) (by omega) (fE.tr (fG.tr fH)) (fun i hi => ⟨by rw [g78, if_neg hi], by rw [g79, if_neg hi], g80 i hi⟩) (by
      rw [eo, ea, et, e1]
      exact ⟨by rw [l167]; unfold opW; omega, fun w => rv, fun w => by omega, fun w => by omega, fun w => by omega, fun w => by omega, fun w => by omega⟩) (fun k hk => by
      unfold tgV
      rw [if_neg jh, ea, et]
      exact al) (by rw [eo]; decide) (by rw [eo]; exact wt3 (by decide))
    exact ⟨f1.tr w1, w2, w3, by omega⟩
theorem d_soA {S : MS} {o x y : Int32} : d_isSo S o x y := by
  unfold d_isSo d_isSo_J77 d_isSo_J48 d_isSo_J15 d_isSo_J87 d_isSo_J58 d_isSo_J24
  simp only [ite_self]
theorem sp_decided {S : MS} {L F M : Int} {l : Nat} {x y z : Int32} (h : OpR S L F M) (ha : OpA S l) (hx : 0 ≤ x.toInt ∧ x.toInt < gN S) (xl : x.toInt.toNat ≠ l) (hy : 0 ≤ y.toInt ∧ y.toInt < gN S) (yl : y.toInt.toNat ≠ l) (hz : z.toInt = l) (g : (qI S 81 y.toInt.toNat).toInt = 0) : w_decided S x y z (RuP L F M l S) := by
  have b := h.1
  have rx : 0 ≤ x.toInt ∧ x.toInt < 1200 := by omega
  have ry : 0 ≤ y.toInt ∧ y.toInt < 1200 := by omega
  have no := RuP.no h ha
  have J65 : w_decided_J65 (RuP L F M l S) S x y z := by
    unfold w_decided_J65
    refine ⟨_, fn_behind (by omega) hy, ?_⟩
    rintro r u ⟨eu, r0, r1⟩
    subst eu
    refine ⟨ry, fun _ => ⟨fun _ => no, fun c1 => ⟨fun _ => no, fun c2 => ?_⟩⟩, fun _ => no⟩
    have c3 : r.toInt < gN u := by unfold gN; omega
    have rr : 0 ≤ r.toInt ∧ r.toInt < 1200 := by omega
    refine ⟨⟨r0, by omega⟩, fun _ => ⟨rr, fun _ => no, fun c4 => ⟨rr, fun c5 => ⟨rr, rx, ry, d_soA, fun a _ => ⟨ry, fun D eD => ?_⟩⟩, fun _ => no⟩⟩, fun _ => no⟩
    obtain ⟨f1, q1, a1, m1, n1, o1, o78, _⟩ := rw_gone h ha (j := y.toInt.toNat) (by omega) yl vb1 eD
    have n2 := n1 g
    have e1 := eqr f1
    have ryn : r.toInt.toNat ≠ y.toInt.toNat := by have := r1.1; omega
    refine ⟨_, sp_settle q1 a1 ⟨hx.1, by omega⟩ xl ⟨r0, by omega⟩ (by omega) (by rw [o1 _ ryn]; exact r1.2.2.1 (by omega)) (by rw [o78]; omega), ?_⟩
    rintro V ⟨f2, q2, a2, m2⟩
    exact ⟨f1.tr f2, q2, a2, by omega, fun _ => by omega⟩
  unfold w_decided
  refine ⟨rx, fun _ => ⟨ry, fun _ => J65, fun c1 => ⟨ry, fun _ => J65, fun c2 => ⟨ry, rx, d_soA, _, sp_settle h ha hx xl hy yl g (by omega), ?_⟩⟩⟩, fun _ => no⟩
  rintro V ⟨f2, q2, a2, m2⟩
  exact ⟨f2, q2, a2, by omega, fun _ => by omega⟩
theorem d_idle {S : MS} {x y : Int32} (rx : 0 ≤ x.toInt ∧ x.toInt < 1200) (ry : 0 ≤ y.toInt ∧ y.toInt < 1200) : d_isIdle S x y := by
  have dP : ∀ o : Int32, d_isPush S o := fun o => by
    unfold d_isPush d_isPush_J12
    simp only [ite_self]
  have dO : ∀ o : Int32, d_isOperator S o := fun o => by
    unfold d_isOperator d_isOperator_J12 d_isOperator_J25 d_isOperator_J32
    simp only [ite_self]
  have dU : ∀ o : Int32, d_upper S o := fun o => by
    unfold d_upper d_upper_J26 d_upper_J31
    simp only [ite_self]
  have w : d_worthAt S x := d_wa rx
  unfold d_isIdle d_isIdle_J140 d_isIdle_J156 d_isIdle_J160 d_isIdle_J113 d_isIdle_J117
  simp only [ite_self]
  refine ⟨ry, rx, dP _, ite_T (fun _ => trivial) (fun _ => ⟨dO _, ite_T (fun _ => trivial) (fun _ => ite_T (fun _ => trivial) (fun _ => ⟨rx, dU _, ite_T (fun _ => ⟨w, trivial⟩) (fun _ => trivial)⟩))⟩)⟩
theorem d_drop {S : MS} {x y : Int32} (rx : 0 ≤ x.toInt ∧ x.toInt < 1200) (ry : 0 ≤ y.toInt ∧ y.toInt < 1200) : d_isDropped S x y := by
  unfold d_isDropped d_isDropped_J74 d_isDropped_J70 d_isDropped_J41
  simp only [ite_self]
  exact ⟨rx, ry, ite_T (fun _ => trivial) (fun _ => ⟨ry, trivial⟩)⟩
theorem d_go {S : MS} {o : Int32} : d_goesOn S o := by
  unfold d_goesOn d_goesOn_J60
  simp only [ite_self]
theorem d_bits {S : MS} {o a : Int32} : d_bitsOf S o a := by
  unfold d_bitsOf d_bitsOf_J12
  simp only [ite_self]
theorem d_sto {S : MS} {o : Int32} : d_isStore S o := by
  unfold d_isStore d_isStore_J18
  simp only [ite_self]
theorem d_loa {S : MS} {o : Int32} : d_isLoad S o := by
  unfold d_isLoad d_isLoad_J18
  simp only [ite_self]
/-- a bit of a number -/
def btL (a : Int32) (n : Nat) : Prop := a.toBitVec.getLsbD n = true
theorem btL_or {a c : Int32} {n : Nat} : btL (a ||| c) n ↔ btL a n ∨ btL c n := by
  unfold btL
  rw [Int32.toBitVec_or, BitVec.getLsbD_or, Bool.or_eq_true]
/-- what is live behind a row -/
def LbP (S : MS) (i n : Nat) : Prop := (¬ (f_goesOn S (qI S 78 i)).toInt = 0 ∧ ∃ r : Nat, HrP S (i + 1) r ∧ (r : Int) < gN S ∧ btL (qI S 90 r) n) ∨ ∃ k r : Nat, (k : Int) < wyN S i ∧ HrP S (tgV S i k).toInt.toNat r ∧ btL (qI S 90 r) n
theorem fn_liveBehind {S : MS} {L F M : Int} {l : Nat} {x : Int32} (h : OpR S L F M) (ha : OpA S l) (hx : 0 ≤ x.toInt ∧ x.toInt < gN S) (g : (qI S 81 x.toInt.toNat).toInt = 0) : w_liveBehind S x (fun r u => u = S ∧ ∀ n : Nat, btL r n ↔ LbP S x.toInt.toNat n) := by
  have b := h.1
  have rx : 0 ≤ x.toInt ∧ x.toInt < 1200 := by omega
  have hN : 0 ≤ gN S ∧ gN S ≤ 1200 := by omega
  have ll := ha.1.1
  obtain ⟨w1, w2, w3, w4⟩ := h.wy hx
  -- the ways
  have L41 : ∀ (A : Nat → Prop), (∀ n : Nat, LbP S x.toInt.toNat n ↔ A n ∨ ∃ k r : Nat, (k : Int) < wyN S x.toInt.toNat ∧ HrP S (tgV S x.toInt.toNat k).toInt.toNat r ∧ btL (qI S 90 r) n) → ∀ (c : Nat) (v k : Int32), 0 ≤ k.toInt → (∀ n : Nat, btL v n ↔ A n ∨ ∃ j r : Nat, (j : Int) < wyN S x.toInt.toNat ∧ (j : Int) < k.toInt ∧ HrP S (tgV S x.toInt.toNat j).toInt.toNat r ∧ btL (qI S 90 r) n) → (202 - k.toInt).toNat < c → w_liveBehind_L41 (fun r u => u = S ∧ ∀ n : Nat, btL r n ↔ LbP S x.toInt.toNat n) c S x v k := by
    intro A hA c
    induction c with
    | zero => intro v k _ _ h9; exact absurd h9 (Nat.not_lt_zero _)
    | succ c ih =>
      intro v k k0 hv hc
      unfold w_liveBehind_L41
      rw [w2]
      refine ⟨w1, fun c1 => ⟨rfl, fun n => ?_⟩, fun c1 => ⟨_, fn_wayOf h hx ⟨k0, by omega⟩, ?_⟩⟩
      · rw [hv, hA]
        constructor
        · rintro (q | ⟨j, r, q1, q2, q3, q4⟩)
          · exact Or.inl q
          · exact Or.inr ⟨j, r, q1, q3, q4⟩
        · rintro (q | ⟨j, r, q1, q3, q4⟩)
          · exact Or.inl q
          · exact Or.inr ⟨j, r, q1, by omega, q3, q4⟩
      · rintro r u ⟨eu, r0, r1⟩
        subst eu
        have ek : (k + Int32.ofInt 1).toInt = k.toInt + 1 := by rw [t_add (by rw [lo_1]; omega), lo_1]
        have t1 := ha.2.1 x.toInt.toNat k.toInt.toNat (by omega) g (by omega)
        have t0 := (w4 k.toInt.toNat (by omega)).1
        have rl := r1.le (j := l) (by omega) ha.1.2.1
        refine ⟨⟨r0, by omega⟩, fun v2 ev k2 e2 => ?_⟩
        subst ev
        subst e2
        refine ih _ _ (by omega) (fun n => ?_) (by omega)
        rw [btL_or, hv]
        constructor
        · rintro ((q | ⟨j, r2, q1, q2, q3, q4⟩) | q)
          · exact Or.inl q
          · exact Or.inr ⟨j, r2, q1, by omega, q3, q4⟩
          · exact Or.inr ⟨k.toInt.toNat, r.toInt.toNat, by omega, by omega, r1, q⟩
        · rintro (q | ⟨j, r2, q1, q2, q3, q4⟩)
          · exact Or.inl (Or.inl q)
          · by_cases e : j = k.toInt.toNat
            · rw [e] at q3
              rw [q3.uq r1] at q4
              exact Or.inr q4
            · exact Or.inl (Or.inr ⟨j, r2, q1, by omega, q3, q4⟩)
  have J38 : ∀ (A : Nat → Prop), (∀ n : Nat, LbP S x.toInt.toNat n ↔ A n ∨ ∃ k r : Nat, (k : Int) < wyN S x.toInt.toNat ∧ HrP S (tgV S x.toInt.toNat k).toInt.toNat r ∧ btL (qI S 90 r) n) → ∀ v : Int32, (∀ n : Nat, btL v n ↔ A n) → w_liveBehind_J38 (fun r u => u = S ∧ ∀ n : Nat, btL r n ↔ LbP S x.toInt.toNat n) S v x := fun A hA v hv => by
    unfold w_liveBehind_J38
    refine ⟨_, L41 A hA _ v 0 (by decide) (fun n => ?_) (Nat.lt_succ_self _)⟩
    rw [hv]
    constructor
    · exact fun q => Or.inl q
    · rintro (q | ⟨j, r, _, q2, _⟩)
      · exact q
      · have : (0 : Int32).toInt = 0 := rfl
        omega
  have b0 : ∀ n : Nat, ¬ btL 0 n := fun n q => by
    unfold btL at q
    rw [show (0 : Int32).toBitVec = 0#32 from rfl, BitVec.getLsbD_zero] at q
    exact absurd q (by decide)
  have J37 : (∀ n : Nat, ¬ (¬ (f_goesOn S (qI S 78 x.toInt.toNat)).toInt = 0 ∧ ∃ r : Nat, HrP S (x.toInt.toNat + 1) r ∧ (r : Int) < gN S ∧ btL (qI S 90 r) n)) → w_liveBehind_J37 (fun r u => u = S ∧ ∀ n : Nat, btL r n ↔ LbP S x.toInt.toNat n) S x := fun q => by
    unfold w_liveBehind_J37
    refine J38 (fun _ => False) (fun n => ?_) 0 (fun n => ⟨b0 n, False.elim⟩)
    unfold LbP
    constructor
    · rintro (y | y)
      · exact absurd y (q n)
      · exact Or.inr y
    · rintro (y | y)
      · exact y.elim
      · exact Or.inr y
  unfold w_liveBehind
  refine ⟨rx, d_go, fun c1 => J37 (fun n q => q.1 c1), fun c1 => ⟨_, fn_behind hN hx, ?_⟩⟩
  rintro r u ⟨eu, r0, r1⟩
  subst eu
  refine ⟨fun c2 => J37 (fun n q => ?_), fun c2 => ⟨_, fn_behind hN hx, ?_⟩⟩
  · obtain ⟨_, r2, q2, q3, _⟩ := q
    rw [q2.uq r1] at q3
    unfold gN at q3
    omega
  · rintro r2 v ⟨ev, r20, r21⟩
    subst ev
    have er := r21.uq r1
    have c3 : r2.toInt < gN v := by unfold gN; omega
    refine ⟨⟨r20, by omega⟩, J38 (fun n => btL (qI v 90 r2.toInt.toNat) n) (fun n => ?_) _ (fun n => Iff.rfl)⟩
    unfold LbP
    constructor
    · rintro (⟨_, r3, q1, q2, q3⟩ | y)
      · rw [q1.uq r21] at q3; exact Or.inl q3
      · exact Or.inr y
    · rintro (y | y)
      · exact Or.inl ⟨c1, _, r21, by omega, y⟩
      · exact Or.inr y
theorem fn_isBack {S : MS} {L F M : Int} {l : Nat} {x y : Int32} (h : OpR S L F M) (ha : OpA S l) (hx : 0 ≤ x.toInt ∧ x.toInt < gN S) (hy : 0 ≤ y.toInt ∧ y.toInt < gN S) (g : (qI S 81 y.toInt.toNat).toInt = 0) : w_isBack S x y (fun _ u => u = S) := by
  have b := h.1
  have rx : 0 ≤ x.toInt ∧ x.toInt < 1200 := by omega
  have ry : 0 ≤ y.toInt ∧ y.toInt < 1200 := by omega
  unfold w_isBack w_isBack_J73
  refine ⟨rx, d_sto, fun _ => rfl, fun _ => ⟨ry, rx, fun _ => ⟨rx, ry, fun _ => ⟨_, fn_liveBehind h ha hy g, ?_⟩, fun _ => rfl⟩, fun _ => rfl⟩⟩
  rintro r u ⟨eu, _⟩
  exact ⟨ry, ry, d_bits, fun _ => eu, fun _ => eu⟩
theorem sp_dead {S : MS} {L F M : Int} {l : Nat} {x : Int32} (h : OpR S L F M) (ha : OpA S l) (hx : 0 ≤ x.toInt ∧ x.toInt < gN S) (xl : x.toInt.toNat ≠ l) (g : (qI S 81 x.toInt.toNat).toInt = 0) : w_dead S x (RuP L F M l S) := by
  have b := h.1
  have rx : 0 ≤ x.toInt ∧ x.toInt < 1200 := by omega
  have no := RuP.no h ha
  have J95 : ∀ op : Int32, (op.toInt = 87 ∨ op.toInt = 88) → ((qI S 78 x.toInt.toNat).toInt = 54 ∨ (qI S 78 x.toInt.toNat).toInt = 55 ∨ (qI S 78 x.toInt.toNat).toInt = 58) → w_dead_J95 (RuP L F M l S) S op x x := fun op ho st => by
    unfold w_dead_J95
    refine ⟨rx, fun D eD => ⟨rx, fun E eE => ⟨rx, fun G eG => ?_⟩⟩⟩
    have fD : frm [78, 79, 80] [] S D := by rw [eD]; exact frm.pI (by decide)
    have fE : frm [78, 79, 80] [] D E := by rw [eE]; exact frm.pI (by decide)
    have fG : frm [78, 79, 80] [] E G := by rw [eG]; exact frm.pI (by decide)
    have g78 : ∀ i : Nat, qI G 78 i = if i = x.toInt.toNat then op else qI S 78 i := fun i => by
      rw [eG, rdH (by decide), eE, rdH (by decide), eD, qI_wI]
      by_cases q : i = x.toInt.toNat
      · rw [if_pos ⟨rfl, q⟩, if_pos q]
      · rw [if_neg (fun y => q y.2), if_neg q]
    have g79 : ∀ i : Nat, i ≠ x.toInt.toNat → qI G 79 i = qI S 79 i := fun i hi => by
      rw [eG, rdH (by decide), eE, qI_wI, if_neg (fun y => hi y.2), eD, rdH (by decide)]
    have g80 : ∀ i : Nat, i ≠ x.toInt.toNat → qI G 80 i = qI S 80 i := fun i hi => by
      rw [eG, qI_wI, if_neg (fun y => hi y.2), eE, rdH (by decide), eD, rdH (by decide)]
    have eo : qI G 78 x.toInt.toNat = op := by rw [g78, if_pos rfl]
    have nj : (f_isJump G op).toInt = 0 := by
      by_cases q : (f_isJump G op).toInt = 0
      · exact q
      · have := jp_op q; omega
    have ns : (f_isSwitch G op).toInt = 0 := by
      unfold f_isSwitch f_isSwitch_J14
      rw [if_neg (by omega), if_neg (by omega)]
      rfl
    obtain ⟨w1, w2, w3, w4, w5, w6⟩ := rw_row h ha (j := x.toInt.toNat) (by omega) (fD.tr (fE.tr fG)) (fun i hi => ⟨by rw [g78, if_neg hi], g79 i hi, g80 i hi⟩) (by
      rw [eo]
      exact ⟨by unfold opW; omega, fun w => by omega, fun w => by omega, fun w => by omega, fun w => by omega, fun w => by omega, fun w => by omega⟩) (fun k hk => by
      unfold wyN at hk
      rw [eo, if_pos nj, if_pos ns] at hk
      omega) (by rw [eo]; omega) (by rw [eo]; exact wt3 (by omega))
    exact ⟨w1, w2, w3, w4, fun _ => w5 g st⟩
  have J24 : ((qI S 78 x.toInt.toNat).toInt = 132 ∨ (qI S 78 x.toInt.toNat).toInt = 54 ∨ (qI S 78 x.toInt.toNat).toInt = 55 ∨ (qI S 78 x.toInt.toNat).toInt = 58) → w_dead_J24 (RuP L F M l S) S x := fun st => by
    unfold w_dead_J24
    refine ⟨_, fn_liveBehind h ha hx g, ?_⟩
    rintro r u ⟨eu, _⟩
    subst eu
    refine ⟨rx, rx, d_bits, fun _ => ⟨rx, fun _ => ⟨rx, fun D eD => ?_⟩, fun c1 => ⟨rx, fun _ => J95 88 (Or.inr rfl) (by omega), fun _ => J95 87 (Or.inl rfl) (by omega)⟩⟩, fun _ => no⟩
    obtain ⟨f1, q1, a1, m1, n1, _⟩ := rw_gone h ha (j := x.toInt.toNat) (by omega) xl vb1 eD
    exact ⟨f1, q1, a1, m1, fun _ => n1 g⟩
  unfold w_dead
  refine ⟨rx, d_sto, fun _ => ⟨rx, fun c => J24 (Or.inl c), fun _ => no⟩, fun c => J24 (Or.inr ?_)⟩
  unfold f_isStore f_isStore_J18 at c
  by_cases q1 : (qI S 78 x.toInt.toNat).toInt = 54
  · exact Or.inl q1
  · rw [if_neg q1] at c
    by_cases q2 : (qI S 78 x.toInt.toNat).toInt = 55
    · exact Or.inr (Or.inl q2)
    · rw [if_neg q2] at c
      by_cases q3 : (qI S 78 x.toInt.toNat).toInt = 58
      · exact Or.inr (Or.inr q3)
      · rw [if_neg q3] at c; exact absurd rfl c
/-! apply (behind r398) -/
/-- what is left to do for a rule -/
noncomputable def pM (o : Int) (S : MS) : Nat := if o = 2 then gtN S else mN S
def ApR (L F M : Int) (l : Nat) (o : Int) (S : MS) (r : Int32) (u : MS) : Prop := OpR u L F M ∧ OpA u l ∧ gN u = gN S ∧ (wtN u ≤ wtN S ∧ swE S u) ∧ pM o u ≤ pM o S ∧ (¬ r.toInt = 0 → pM o u < pM o S)
theorem ap_J365 {S U : MS} {L F M : Int} {l : Nat} {o r : Int32} (ho : 3 ≤ o.toInt ∧ o.toInt < 12) (h : RuP L F M l S r U) : w_apply_J365 (ApR L F M l o.toInt S) U o r := by
  obtain ⟨f, h1, h2, h3, h4⟩ := h
  have eg := eqr f
  have ep : ∀ V : MS, pM o.toInt V = mN V := fun V => by unfold pM; rw [if_neg (by omega)]
  have ro : 0 ≤ o.toInt ∧ o.toInt < 12 := by omega
  unfold w_apply_J365
  refine ⟨fun c => ⟨h1, h2, eg, f.2, by rw [ep, ep]; exact h3, fun q => absurd c q⟩, fun c => ⟨ro, ro, fun D eD => ?_⟩⟩
  have fD : frm [77] [] U D := by rw [eD]; exact frm.pI (by decide)
  have s : smO U D := smO.fm fD (by decide) (by decide) (by decide)
  have d86 : qI D 86 = qI U 86 := (fD.2.2.2.2.1 86 (by decide) (by decide)).1
  exact ⟨s.r h1, s.a h2 (fun c e => by rw [d86] at e; exact e), by rw [s.gn, eg], ⟨by rw [wtN_sm s]; exact f.2.1, f.2.2.tr (swE.sm s)⟩, by rw [ep, ep, mN_sm s]; exact h3, fun q => by rw [ep, ep, mN_sm s]; exact h4 q⟩
theorem sp_apply {S : MS} {L F M : Int} {l : Nat} {o x : Int32} (h : OpR S L F M) (ha : OpA S l) (ho : 2 ≤ o.toInt ∧ o.toInt ≤ 11) (hx : 0 ≤ x.toInt ∧ x.toInt < gN S) (g : (qI S 81 x.toInt.toNat).toInt = 0) : w_apply S o x (ApR L F M l o.toInt S) := by
  have b := h.1
  have ll := ha.1.1
  have rx : 0 ≤ x.toInt ∧ x.toInt < 1200 := by omega
  unfold w_apply
  refine ⟨fun c => ⟨_, sp_threaded h ha hx g, ?_⟩, fun c => ⟨_, fn_lastOne (by omega) ha.1, ?_⟩⟩
  · rintro r u ⟨⟨f, sf⟩, h1, h2, h3, h4⟩
    have ep : ∀ V : MS, pM o.toInt V = gtN V := fun V => by unfold pM; rw [if_pos c]
    exact ⟨h1, h2, by unfold gN; rw [(f.2.2.2.2.2 129 (by decide)).1], ⟨by unfold wtN gN; rw [(f.2.2.2.2.2 129 (by decide)).1, (f.2.2.2.2.1 78 (by decide) (by decide)).1, (f.2.2.2.2.1 80 (by decide) (by decide)).1]; exact Nat.le_refl _, sf⟩, by rw [ep, ep]; exact h3, fun q => by rw [ep, ep]; exact h4 q⟩
  have no := RuP.no h ha
  have o3 : 3 ≤ o.toInt ∧ o.toInt < 12 := by omega
  have k0 : w_apply_J365 (ApR L F M l o.toInt S) S o 0 := ap_J365 o3 no
  rintro e u ⟨eu, el⟩
  subst eu
  refine ⟨fun _ => ?_, fun c1 => ⟨_, fn_behind (by omega) hx, ?_⟩⟩
  · have w := k0
    unfold w_apply_J365 at w
    exact w.1 rfl
  rintro n v ⟨ev, n0, n1⟩
  subst ev
  have xl : x.toInt.toNat ≠ l := by omega
  have xlt : x.toInt.toNat < l := by
    by_cases q : l < x.toInt.toNat
    · exact absurd g (ha.1.2.2 _ q (by omega))
    · omega
  have nl := n1.le (j := l) (by omega) ha.1.2.1
  have hn : 0 ≤ n.toInt ∧ n.toInt < gN v := by omega
  have gn := n1.2.2.1 (by omega)
  have rn : 0 ≤ n.toInt ∧ n.toInt < 1200 := by omega
  have J51 : ∀ t : Int32, (¬ t.toInt = 0 → n.toInt.toNat ≠ l) → w_apply_J51 (ApR L F M l o.toInt v) v t o x e n := fun t ht => by
    have J127 : w_apply_J127 (ApR L F M l o.toInt v) v o x := by
      unfold w_apply_J127 w_apply_J128
      exact ⟨fun _ => k0, fun q => absurd rfl q⟩
    have gx : ∀ D : MS, D = wI v 81 x.toInt.toNat (vp_nar .boolean (1 : Int32)) → w_apply_J365 (ApR L F M l o.toInt v) D o 1 := fun D eD => by
      obtain ⟨f1, q1, a1, m1, n1, _⟩ := rw_gone h ha (j := x.toInt.toNat) (by omega) xl vb1 eD
      exact ap_J365 o3 ⟨f1, q1, a1, m1, fun _ => n1 g⟩
    have on : ∀ (r : Int32) (U : MS), RuP L F M l v r U → (r.toInt = 0 → w_apply_J365 (ApR L F M l o.toInt v) U o 0) ∧ (¬ r.toInt = 0 → w_apply_J365 (ApR L F M l o.toInt v) U o 1) := fun r U hU => ⟨fun _ => ap_J365 o3 ⟨hU.1, hU.2.1, hU.2.2.1, hU.2.2.2.1, fun q => absurd rfl q⟩, fun q => ap_J365 o3 ⟨hU.1, hU.2.1, hU.2.2.1, hU.2.2.2.1, fun _ => hU.2.2.2.2 q⟩⟩
    unfold w_apply_J51
    refine ⟨fun _ => ⟨rx, fun c7 => ?_, fun _ => J127⟩, fun _ => ⟨fun _ => ⟨rx, fun _ => ?_, fun _ => ?_⟩, fun _ => ⟨fun _ => ⟨fun _ => k0, fun q => ⟨_, sp_folded h ha hx hn (ht q) el gn, fun r U hU => on r U hU⟩⟩, fun _ => ⟨fun _ => ⟨fun _ => k0, fun q => ⟨_, sp_turnedRow h ha hx hn (ht q) gn, fun r U hU => on r U hU⟩⟩, fun _ => ⟨fun _ => ⟨fun _ => k0, fun q => ⟨_, sp_decided h ha hx xl hn (ht q) el gn, fun r U hU => on r U hU⟩⟩, fun _ => ⟨fun _ => ⟨fun _ => k0, fun q => ⟨d_idle rx rn, fun _ => k0, fun _ => ⟨_, sp_goBoth h ha hx xl hn (ht q) g, fun r U hU => on r U hU⟩⟩⟩, fun _ => ⟨fun _ => ⟨fun _ => k0, fun q => ⟨d_drop rx rn, fun _ => k0, fun _ => ⟨_, sp_goBoth h ha hx xl hn (ht q) g, fun r U hU => on r U hU⟩⟩⟩, fun _ => ⟨fun _ => ⟨fun _ => k0, fun q => ⟨_, fn_isBack h ha hx hn gn, fun r U hU => ⟨fun _ => by rw [hU]; exact k0, fun _ => ⟨_, by rw [hU]; exact sp_goBoth h ha hx xl hn (ht q) g, fun r U hU => on r U hU⟩⟩⟩⟩, fun _ => ⟨_, sp_dead h ha hx xl g, fun r U hU => ap_J365 o3 hU⟩⟩⟩⟩⟩⟩⟩⟩⟩
    · refine ⟨_, fn_wayOf h hx ⟨by decide, ?_⟩, ?_⟩
      · unfold wyN
        rw [if_neg (jp_is (by omega))]
        decide
      · rintro r U ⟨eU, _⟩
        subst eU
        exact ⟨fun _ => ⟨fun q => absurd q (by decide), fun _ => ⟨rx, fun D eD => gx D eD⟩⟩, fun _ => J127⟩
    · exact ⟨fun q => absurd q (by decide), fun _ => ⟨rx, fun D eD => gx D eD⟩⟩
    · exact ⟨fun _ => k0, fun q => absurd rfl q⟩
  have J50 : w_apply_J50 (ApR L F M l o.toInt v) v o x e n := J51 0 (fun q => absurd rfl q)
  exact ⟨fun _ => J50, fun c2 => ⟨⟨n0, by omega⟩, fun _ => J51 1 (fun _ => by omega), fun _ => J50⟩⟩
/-! what is live (behind r398; cnt0, bt of r338) -/
theorem btL_no {r m : Int32} {n : Nat} : btL (r &&& (m ^^^ (-1 : Int32))) n ↔ btL r n ∧ ¬ btL m n := by
  unfold btL
  rw [Int32.toBitVec_and, BitVec.getLsbD_and, Int32.toBitVec_xor, BitVec.getLsbD_xor, show (-1 : Int32).toBitVec = BitVec.allOnes 32 by decide, BitVec.getLsbD_allOnes]
  by_cases q : n < 32
  · rw [decide_eq_true q]
    cases r.toBitVec.getLsbD n <;> cases m.toBitVec.getLsbD n <;> decide
  · rw [BitVec.getLsbD_of_ge r.toBitVec n (by omega)]
    exact ⟨fun y => absurd y (by simp), fun y => absurd y.1 (by simp)⟩
/-- what is live at a row -/
def LaQ (S : MS) (i n : Nat) : Prop := (LbP S i n ∧ ¬ (¬ (f_isStore S (qI S 78 i)).toInt = 0 ∧ btL (f_bitsOf S (qI S 78 i) (qI S 79 i)) n)) ∨ ((¬ (f_isLoad S (qI S 78 i)).toInt = 0 ∨ (qI S 78 i).toInt = 132) ∧ btL (f_bitsOf S (qI S 78 i) (qI S 79 i)) n)
def LaI (S : MS) (i c : Nat) : Prop := (c : Int) < (qI S 0 135).toInt ∧ (qI S 86 c).toInt = 0 ∧ (qI S 82 c).toInt ≤ i ∧ (i : Int) < (qI S 83 c).toInt
def LaP (S : MS) (i n : Nat) : Prop := LaQ S i n ∨ ∃ c r : Nat, LaI S i c ∧ HrP S (qI S 84 c).toInt.toNat r ∧ btL (qI S 90 r) n
theorem fn_liveAt {S : MS} {L F M : Int} {l : Nat} {x : Int32} (h : OpR S L F M) (ha : OpA S l) (hx : 0 ≤ x.toInt ∧ x.toInt < gN S) (g : (qI S 81 x.toInt.toNat).toInt = 0) : w_liveAt S x (fun r u => u = S ∧ ∀ n : Nat, btL r n ↔ LaP S x.toInt.toNat n) := by
  have b := h.1
  have rx : 0 ≤ x.toInt ∧ x.toInt < 1200 := by omega
  have hN : 0 ≤ gN S ∧ gN S ≤ 1200 := by omega
  have ll := ha.1.1
  have cc := h.2.2.2.1
  have co := h.2.2.2.2
  have L82 : ∀ (c : Nat) (v k : Int32), 0 ≤ k.toInt → (∀ n : Nat, btL v n ↔ LaQ S x.toInt.toNat n ∨ ∃ c r : Nat, (c : Int) < k.toInt ∧ LaI S x.toInt.toNat c ∧ HrP S (qI S 84 c).toInt.toNat r ∧ btL (qI S 90 r) n) → (16 - k.toInt).toNat < c → w_liveAt_L82 (fun r u => u = S ∧ ∀ n : Nat, btL r n ↔ LaP S x.toInt.toNat n) c S x v k := by
    intro c
    induction c with
    | zero => intro v k _ _ h9; exact absurd h9 (Nat.not_lt_zero _)
    | succ c ih =>
      intro v k k0 hv hc
      unfold w_liveAt_L82 w_liveAt_J117
      refine ⟨fun c1 => ⟨rfl, fun n => ?_⟩, fun c1 => ?_⟩
      · rw [hv]
        unfold LaP
        constructor
        · rintro (q | ⟨j, r, q1, q2, q3⟩)
          · exact Or.inl q
          · exact Or.inr ⟨j, r, q2, q3⟩
        · rintro (q | ⟨j, r, q2, q3⟩)
          · exact Or.inl q
          · exact Or.inr ⟨j, r, by have := q2.1; omega, q2, q3⟩
      have ek : (k + Int32.ofInt 1).toInt = k.toInt + 1 := by rw [t_add (by rw [lo_1]; omega), lo_1]
      have rk : 0 ≤ k.toInt ∧ k.toInt < 16 := by omega
      have dI : d_isIn S x k := by
        unfold d_isIn d_isIn_J33
        simp only [ite_self]
        exact ⟨rk, ite_T (fun _ => ⟨rk, ite_T (fun _ => trivial) (fun _ => ⟨rk, trivial⟩)⟩) (fun _ => trivial)⟩
      have fI : ¬ (f_isIn S x k).toInt = 0 ↔ LaI S x.toInt.toNat k.toInt.toNat := by
        unfold f_isIn f_isIn_J33 LaI
        by_cases q1 : (qI S 86 k.toInt.toNat).toInt = 0
        · rw [if_pos q1]
          by_cases q2 : x.toInt < (qI S 82 k.toInt.toNat).toInt
          · rw [if_pos q2]
            exact ⟨fun y => absurd rfl y, fun y => by omega⟩
          · rw [if_neg q2]
            by_cases q3 : (qI S 83 k.toInt.toNat).toInt ≤ x.toInt
            · rw [if_pos q3]
              exact ⟨fun y => absurd rfl y, fun y => by omega⟩
            · rw [if_neg q3]
              exact ⟨fun _ => ⟨by omega, q1, by omega, by omega⟩, fun _ => by decide⟩
        · rw [if_neg q1]
          exact ⟨fun y => absurd rfl y, fun y => absurd y.2.1 q1⟩
      refine ⟨dI, fun c2 a ea => ?_, fun c2 => ⟨rk, ?_⟩⟩
      · subst ea
        refine ih _ _ (by omega) (fun n => ?_) (by omega)
        rw [hv]
        constructor
        · rintro (q | ⟨j, r, q1, q2, q3⟩)
          · exact Or.inl q
          · exact Or.inr ⟨j, r, by omega, q2, q3⟩
        · rintro (q | ⟨j, r, q1, q2, q3⟩)
          · exact Or.inl q
          · refine Or.inr ⟨j, r, ?_, q2, q3⟩
            by_cases e : j = k.toInt.toNat
            · rw [e] at q2
              exact absurd c2 (fI.mpr q2)
            · omega
      · have hk := fI.mp c2
        have cx := co k.toInt.toNat (by omega)
        have al := ha.2.2 k.toInt.toNat x.toInt.toNat hk.1 hk.2.1 (by omega) g hk.2.2.1 hk.2.2.2
        refine ⟨_, fn_here hN ⟨cx.2.2.1.1, by omega⟩, ?_⟩
        rintro r u ⟨eu, r0, r1⟩
        subst eu
        have rl := r1.le (j := l) (by omega) ha.1.2.1
        refine ⟨⟨r0, by omega⟩, fun v2 ev a ea => ?_⟩
        subst ea
        subst ev
        refine ih _ _ (by omega) (fun n => ?_) (by omega)
        rw [btL_or, hv]
        constructor
        · rintro ((q | ⟨j, r2, q1, q2, q3⟩) | q)
          · exact Or.inl q
          · exact Or.inr ⟨j, r2, by omega, q2, q3⟩
          · exact Or.inr ⟨k.toInt.toNat, r.toInt.toNat, by omega, hk, r1, q⟩
        · rintro (q | ⟨j, r2, q1, q2, q3, q4⟩)
          · exact Or.inl (Or.inl q)
          · by_cases e : j = k.toInt.toNat
            · rw [e] at q3
              rw [q3.uq r1] at q4
              exact Or.inr q4
            · exact Or.inl (Or.inr ⟨j, r2, by omega, q2, q3, q4⟩)
  have J80 : ∀ v : Int32, (∀ n : Nat, btL v n ↔ LaQ S x.toInt.toNat n) → w_liveAt_J80 (fun r u => u = S ∧ ∀ n : Nat, btL r n ↔ LaP S x.toInt.toNat n) S x v := fun v hv => by
    unfold w_liveAt_J80
    refine ⟨_, L82 _ v 0 (by decide) (fun n => ?_) (Nat.lt_succ_self _)⟩
    rw [hv]
    constructor
    · exact fun q => Or.inl q
    · rintro (q | ⟨j, r, q2, _⟩)
      · exact q
      · have : (0 : Int32).toInt = 0 := rfl
        omega
  have J62 : ∀ v : Int32, (∀ n : Nat, btL v n ∨ btL (f_bitsOf S (qI S 78 x.toInt.toNat) (qI S 79 x.toInt.toNat)) n ↔ LaQ S x.toInt.toNat n) → w_liveAt_J62 (fun r u => u = S ∧ ∀ n : Nat, btL r n ↔ LaP S x.toInt.toNat n) S x v := fun v hv => by
    unfold w_liveAt_J62
    refine ⟨rx, rx, d_bits, fun a ea => J80 a (fun n => ?_)⟩
    rw [ea, btL_or]
    exact hv n
  have J38 : ∀ v : Int32, (∀ n : Nat, btL v n ↔ LbP S x.toInt.toNat n ∧ ¬ (¬ (f_isStore S (qI S 78 x.toInt.toNat)).toInt = 0 ∧ btL (f_bitsOf S (qI S 78 x.toInt.toNat) (qI S 79 x.toInt.toNat)) n)) → w_liveAt_J38 (fun r u => u = S ∧ ∀ n : Nat, btL r n ↔ LaP S x.toInt.toNat n) S x v := fun v hv => by
    unfold w_liveAt_J38
    have yes : (¬ (f_isLoad S (qI S 78 x.toInt.toNat)).toInt = 0 ∨ (qI S 78 x.toInt.toNat).toInt = 132) → w_liveAt_J62 (fun r u => u = S ∧ ∀ n : Nat, btL r n ↔ LaP S x.toInt.toNat n) S x v := fun y => J62 v (fun n => by
      unfold LaQ
      rw [hv]
      constructor
      · rintro (q | q)
        · exact Or.inl q
        · exact Or.inr ⟨y, q⟩
      · rintro (q | q)
        · exact Or.inl q
        · exact Or.inr q.2)
    refine ⟨rx, d_loa, fun c1 => ⟨rx, fun c2 => yes (Or.inr c2), fun c2 => J80 v (fun n => ?_)⟩, fun c1 => yes (Or.inl c1)⟩
    unfold LaQ
    rw [hv]
    constructor
    · exact fun q => Or.inl q
    · rintro (q | ⟨q | q, _⟩)
      · exact q
      · exact absurd c1 q
      · exact absurd q c2
  unfold w_liveAt
  refine ⟨_, fn_liveBehind h ha hx g, ?_⟩
  rintro r u ⟨eu, hr⟩
  subst eu
  refine ⟨rx, d_sto, fun c1 => J38 r (fun n => ?_), fun c1 => ⟨rx, rx, d_bits, fun a ea => J38 a (fun n => ?_)⟩⟩
  · rw [hr]
    exact ⟨fun q => ⟨q, fun y => y.1 c1⟩, fun q => q.1⟩
  · rw [ea, btL_no, hr]
    exact ⟨fun q => ⟨q.1, fun y => q.2 y.2⟩, fun q => ⟨q.1, fun y => q.2 ⟨c1, y⟩⟩⟩
theorem LaP.mo {S u : MS} {i n : Nat} (h : LaP S i n) (s : smO S u) (e : qI u 86 = qI S 86) (m : ∀ j : Nat, btL (qI S 90 j) n → btL (qI u 90 j) n) : LaP u i n := by
  obtain ⟨a1, a2, a3, a4, a5, a6, a7, a8, a9, a10, a11⟩ := id s
  have lb : LbP S i n → LbP u i n := by
    unfold LbP
    rw [a4, s.gn]
    rintro (⟨q1, r, q2, q3, q4⟩ | ⟨k, r, q1, q2, q3⟩)
    · exact Or.inl ⟨q1, r, s.hr.mpr q2, q3, m r q4⟩
    · exact Or.inr ⟨k, r, by rw [(s.tw i k).1]; exact q1, by rw [(s.tw i k).2]; exact s.hr.mpr q2, m r q3⟩
  have lq : LaQ S i n → LaQ u i n := by
    unfold LaQ
    rw [a4, a5]
    rintro (⟨q1, q2⟩ | q)
    · exact Or.inl ⟨lb q1, q2⟩
    · exact Or.inr q
  rcases h with q | ⟨c, r, q1, q2, q3⟩
  · exact Or.inl (lq q)
  · refine Or.inr ⟨c, r, ?_, by rw [a10]; exact s.hr.mpr q2, m r q3⟩
    unfold LaI at q1 ⊢
    rw [a2, e, a8, a9]
    exact q1
def lvN (S : MS) : Nat := sumN (fun j => cnt0 (qI S 90 j) 32) (gN S).toNat
def LvI (S U : MS) : Prop := frm [90] [] S U ∧ ∀ i n : Nat, (i : Int) < gN S → (qI S 81 i).toInt = 0 → btL (qI U 90 i) n → LaP U i n
theorem sp_findLive {S : MS} {L F M : Int} {l : Nat} (h : OpR S L F M) (ha : OpA S l) : w_findLive S (fun u => frm [90] [] S u) := by
  have b := h.1
  have hN : 0 ≤ gN S ∧ gN S ≤ 1200 := by omega
  have up : ∀ U : MS, frm [90] [] S U → smO S U ∧ qI U 86 = qI S 86 := fun U fU => ⟨smO.fm fU (by decide) (by decide) (by decide), (fU.2.2.2.2.1 86 (by decide) (by decide)).1⟩
  have L38 : ∀ (k25 : MS → Int32 → Prop) (U0 : MS), (∀ (U : MS) (t : Int32), LvI S U → lvN U ≤ lvN U0 → (¬ t.toInt = 0 → lvN U < lvN U0) → k25 U t) → ∀ (c : Nat) (U : MS) (t x : Int32), LvI S U → lvN U ≤ lvN U0 → (¬ t.toInt = 0 → lvN U < lvN U0) → (-1 ≤ x.toInt ∧ x.toInt < gN S) → (x.toInt + 1).toNat < c → w_findLive_L38 (fun u => frm [90] [] S u) k25 c U t x := by
    intro k25 U0 hk c
    induction c with
    | zero => intro U t x _ _ _ _ h9; exact absurd h9 (Nat.not_lt_zero _)
    | succ c ih =>
      intro U t x hU hl ht hx hc
      obtain ⟨s, e86⟩ := up U hU.1
      unfold w_findLive_L38 w_findLive_J87
      refine ⟨fun _ => hk U t hU hl ht, fun c1 => ?_⟩
      have rx : 0 ≤ x.toInt ∧ x.toInt < 1200 := by omega
      have lm : (Int32.ofInt (-1)).toInt = -1 := by decide
      have ek : (x + Int32.ofInt (-1)).toInt = x.toInt - 1 := by rw [t_add (by rw [lm]; omega), lm]; omega
      have eb : -1 ≤ (x + Int32.ofInt (-1)).toInt ∧ (x + Int32.ofInt (-1)).toInt < gN S := by rw [ek]; omega
      have ec : ((x + Int32.ofInt (-1)).toInt + 1).toNat < c := by rw [ek]; omega
      refine ⟨rx, fun c2 => ?_, fun c2 a ea => by subst ea; exact ih U t _ hU hl ht eb ec⟩
      refine ⟨_, fn_liveAt (s.r h) (s.a ha (fun c e => by rw [e86] at e; exact e)) (by rw [s.gn]; omega) c2, ?_⟩
      rintro r V ⟨eV, hr⟩
      subst eV
      have sub : ∀ n : Nat, btL (qI V 90 x.toInt.toNat) n → btL r n := fun n q => (hr n).mpr (hU.2 _ n (by omega) (by rw [← s.2.2.2.2.2.2.1]; exact c2) q)
      -- the row gets what is live there
      have put : ∀ D : MS, D = wI V 90 x.toInt.toNat r → LvI S D ∧ lvN D ≤ lvN V ∧ (¬ r.toInt = (qI V 90 x.toInt.toNat).toInt → lvN D < lvN V) := fun D eD => by
        have fD : frm [90] [] V D := by rw [eD]; exact frm.pI (by decide)
        have sD : smO V D := smO.fm fD (by decide) (by decide) (by decide)
        have d86 : qI D 86 = qI V 86 := (fD.2.2.2.2.1 86 (by decide) (by decide)).1
        have d90 : ∀ j : Nat, qI D 90 j = if j = x.toInt.toNat then r else qI V 90 j := fun j => by
          rw [eD, qI_wI]
          by_cases q : j = x.toInt.toNat
          · rw [if_pos ⟨rfl, q⟩, if_pos q]
          · rw [if_neg (fun y => q y.2), if_neg q]
        have gr : ∀ j n : Nat, btL (qI V 90 j) n → btL (qI D 90 j) n := fun j n q => by
          rw [d90]
          by_cases e : j = x.toInt.toNat
          · rw [if_pos e]; rw [e] at q; exact sub n q
          · rw [if_neg e]; exact q
        have cl : ∀ j : Nat, cnt0 (qI D 90 j) 32 ≤ cnt0 (qI V 90 j) 32 := fun j => cnt0_le (fun n q => gr j n q) 32
        refine ⟨⟨hU.1.tr fD, fun i n i1 i2 q => ?_⟩, ?_, fun ne => ?_⟩
        · rw [d90] at q
          by_cases e : i = x.toInt.toNat
          · rw [if_pos e] at q
            rw [e]
            exact ((hr n).mp q).mo sD d86 (fun j => gr j n)
          · rw [if_neg e] at q
            exact (hU.2 i n i1 i2 q).mo sD d86 (fun j => gr j n)
        · unfold lvN
          rw [sD.gn]
          exact sumN_le _ (fun j _ => cl j)
        · unfold lvN
          rw [sD.gn]
          refine sumN_lt (i := x.toInt.toNat) _ (fun j _ => cl j) (by rw [s.gn]; omega) ?_
          show cnt0 (qI D 90 x.toInt.toNat) 32 < cnt0 (qI V 90 x.toInt.toNat) 32
          rw [d90, if_pos rfl]
          by_cases ex : ∃ n : Nat, n < 32 ∧ btL r n ∧ ¬ btL (qI V 90 x.toInt.toNat) n
          · obtain ⟨n, n1, n2, n3⟩ := ex
            exact cnt0_lt (fun n q => sub n q) n2 n3 32 n1
          · refine absurd ?_ ne
            have : r.toBitVec = (qI V 90 x.toInt.toNat).toBitVec := BitVec.eq_of_getLsbD_eq (fun n hn => by
              have s1 := sub n
              unfold btL at s1 ex
              by_cases y : r.toBitVec.getLsbD n = true
              · by_cases w : (qI V 90 x.toInt.toNat).toBitVec.getLsbD n = true
                · rw [y, w]
                · exact absurd ⟨n, hn, y, w⟩ ex
              · by_cases w : (qI V 90 x.toInt.toNat).toBitVec.getLsbD n = true
                · exact absurd (s1 w) y
                · rw [Bool.eq_false_iff.mpr y, Bool.eq_false_iff.mpr w])
            rw [Int32.toBitVec_inj.mp this]
      have J79 : ∀ t2 : Int32, (¬ t2.toInt = 0 → lvN V < lvN U0 ∨ ¬ r.toInt = (qI V 90 x.toInt.toNat).toInt) → w_findLive_J79 (fun u => frm [90] [] S u) (w_findLive_L38 (fun u => frm [90] [] S u) k25 c) V t2 x r := fun t2 h2 => by
        unfold w_findLive_J79 w_findLive_J87
        refine ⟨rx, fun D eD a ea => ?_⟩
        subst ea
        obtain ⟨p1, p2, p3⟩ := put D eD
        refine ih D t2 _ p1 (Nat.le_trans p2 hl) (fun q => ?_) eb ec
        rcases h2 q with y | y
        · exact Nat.lt_of_le_of_lt p2 y
        · exact Nat.lt_of_lt_of_le (p3 y) hl
      refine ⟨fun _ => ⟨rx, fun _ => J79 0 (fun q => absurd rfl q), fun c4 => J79 1 (fun _ => Or.inr c4)⟩, fun c3 => J79 1 (fun _ => Or.inl (ht c3))⟩
  have L25 : ∀ (c : Nat) (U : MS) (t : Int32), LvI S U → 2 * lvN U + (if t.toInt = 0 then 0 else 1) < c → w_findLive_L25 (fun u => frm [90] [] S u) c U t := by
    intro c
    induction c with
    | zero => intro U t _ h9; exact absurd h9 (Nat.not_lt_zero _)
    | succ c ih =>
      intro U t hU hc
      obtain ⟨s, e86⟩ := up U hU.1
      unfold w_findLive_L25
      refine ⟨fun _ => hU.1, fun c1 a ea => ?_⟩
      rw [if_neg c1] at hc
      have e : a.toInt = gN S - 1 := by
        rw [ea, t_sub (by rw [li_1, s.1]; unfold gN at hN; omega), li_1, s.1]
        rfl
      refine ⟨_, L38 _ U (fun V t2 hV l1 l2 => ih V t2 hV ?_) _ U 0 a hU (Nat.le_refl _) (fun q => absurd rfl q) (by omega) (Nat.lt_succ_self _)⟩
      by_cases q : t2.toInt = 0
      · rw [if_pos q]; omega
      · rw [if_neg q]
        have := l2 q
        omega
  have b0 : ∀ n : Nat, ¬ btL 0 n := fun n q => by
    unfold btL at q
    rw [show (0 : Int32).toBitVec = 0#32 from rfl, BitVec.getLsbD_zero] at q
    exact absurd q (by decide)
  have L2 : ∀ (c : Nat) (U : MS) (k : Int32), frm [90] [] S U → 0 ≤ k.toInt → (∀ j : Nat, (j : Int) < k.toInt → qI U 90 j = 0) → (1200 - k.toInt).toNat < c → w_findLive_L2 (fun u => frm [90] [] S u) c U k := by
    intro c
    induction c with
    | zero => intro U k _ _ _ h9; exact absurd h9 (Nat.not_lt_zero _)
    | succ c ih =>
      intro U k fU k0 hz hc
      obtain ⟨s, e86⟩ := up U fU
      have eg : (qI U 0 129).toInt = gN S := by rw [s.1]; rfl
      unfold w_findLive_L2
      rw [eg]
      refine ⟨fun c1 => ⟨_, L25 _ U 1 ⟨fU, fun i n i1 i2 q => ?_⟩ (Nat.lt_succ_self _)⟩, fun c1 => ⟨⟨k0, by omega⟩, fun D eD a ea => ?_⟩⟩
      · rw [hz i (by omega)] at q
        exact absurd q (b0 n)
      · have ek : (k + Int32.ofInt 1).toInt = k.toInt + 1 := by rw [t_add (by rw [lo_1]; omega), lo_1]
        subst ea
        refine ih D _ (fU.tr (by rw [eD]; exact frm.pI (by decide))) (by omega) (fun j hj => ?_) (by omega)
        rw [eD, qI_wI]
        by_cases q : j = k.toInt.toNat
        · rw [if_pos ⟨rfl, q⟩]
        · rw [if_neg (fun y => q y.2)]
          exact hz j (by omega)
  unfold w_findLive
  exact ⟨_, L2 _ S 0 frm.rf (by decide) (fun j hj => by have : (0 : Int32).toInt = 0 := rfl; omega) (Nat.lt_succ_self _)⟩
/-! pass, rounds (behind sp_apply, sp_findLive, sp_sweep, sp_mark) -/
def WtI (S0 : MS) (w : Nat) (u : MS) : Prop := wtN u ≤ w ∧ swE S0 u
theorem WtI.sm {S0 S u : MS} {w : Nat} (h : WtI S0 w S) (s : smO S u) : WtI S0 w u := ⟨by rw [wtN_sm s]; exact h.1, h.2.tr (swE.sm s)⟩
theorem WtI.ap {S0 S u : MS} {w : Nat} (h : WtI S0 w S) (k : wtN u ≤ wtN S ∧ swE S u) : WtI S0 w u := ⟨Nat.le_trans k.1 h.1, h.2.tr k.2⟩
def OpE (S0 : MS) (L F M : Int) (w : Nat) (u : MS) : Prop := OpR u L F M ∧ (∃ l : Nat, OpA u l) ∧ WtI S0 w u
theorem pM_sm {S u : MS} (s : smO S u) (o : Int) : pM o u = pM o S := by
  unfold pM
  rw [gtN_sm s, mN_sm s]
def mu13 (p : Nat) : Nat := p * 1300
theorem mu13_le {p q : Nat} (h : p ≤ q) : mu13 p ≤ mu13 q := Nat.mul_le_mul_right _ h
theorem mu13_lt {p q : Nat} (h : p < q) : mu13 p + 1300 ≤ mu13 q := by
  have e := mu13_le h
  have e2 : mu13 (p + 1) = mu13 p + 1300 := Nat.succ_mul p 1300
  rw [← e2]
  exact e
theorem ar1 {p p' c : Nat} {x q : Int} (h : mu13 p + (1300 - x).toNat < c + 1) (h1 : p' ≤ p) (h2 : x + 1 ≤ q) (h3 : q ≤ 1200) : mu13 p' + (1300 - q).toNat < c := by
  have := mu13_le h1
  omega
theorem ar2 {p p' c : Nat} {x q : Int} (h : mu13 p + (1300 - x).toNat < c + 1) (h1 : p' < p) (h2 : 0 ≤ q) (h3 : x ≤ 1200) : mu13 p' + (1300 - q).toNat < c := by
  have := mu13_lt h1
  omega
theorem sp_pass {S0 S : MS} {L F M : Int} {l w : Nat} {o : Int32} (h : OpR S L F M) (ha : OpA S l) (hw : WtI S0 w S) (ho : 1 ≤ o.toInt ∧ o.toInt ≤ 11) : w_pass S o (fun _ u => OpE S0 L F M w u) := by
  have mk : ∀ U V : MS, (frm [86, 87] [] U V ∧ ∀ c : Nat, (qI V 86 c).toInt = 0 → (qI U 86 c).toInt = 0) → OpR U L F M → OpA U l → smO U V ∧ OpR V L F M ∧ OpA V l := fun U V hV r a => by
    have s : smO U V := smO.fm hV.1 (by decide) (by decide) (by decide)
    exact ⟨s, s.r r, s.a a hV.2⟩
  have li : ∀ U V : MS, frm [90] [] U V → OpR U L F M → OpA U l → smO U V ∧ OpR V L F M ∧ OpA V l := fun U V fV r a => by
    have s : smO U V := smO.fm fV (by decide) (by decide) (by decide)
    exact ⟨s, s.r r, s.a a (fun c e => by rw [(fV.2.2.2.2.1 86 (by decide) (by decide)).1] at e; exact e)⟩
  have L32 : 2 ≤ o.toInt → ∀ (c : Nat) (U : MS) (t x : Int32), OpR U L F M → OpA U l → WtI S0 w U → (0 ≤ x.toInt ∧ x.toInt ≤ gN U) → (x.toInt < gN U → (qI U 81 x.toInt.toNat).toInt = 0) → mu13 (pM o.toInt U) + (1300 - x.toInt).toNat < c → w_pass_L32 (fun _ u => OpE S0 L F M w u) c U o t x := by
    intro o2 c
    induction c with
    | zero => intro U t x _ _ _ _ _ h9; exact absurd h9 (Nat.not_lt_zero _)
    | succ c ih =>
      intro U t x hr hA hw hx hg hc
      have b := hr.1
      have eg : (qI U 0 129).toInt = gN U := rfl
      unfold w_pass_L32
      rw [eg]
      refine ⟨fun _ => ⟨hr, ⟨l, hA⟩, hw⟩, fun c1 => ⟨_, sp_apply hr hA ⟨o2, ho.2⟩ ⟨hx.1, by omega⟩ (hg (by omega)), ?_⟩⟩
      rintro r V ⟨rV, aV, gV, wV, m1, m2⟩
      have bV := rV.1
      refine ⟨fun c2 => ⟨_, fn_behind (by omega) ⟨hx.1, by omega⟩, ?_⟩, fun c2 => ⟨_, sp_mark rV, ?_⟩⟩
      · rintro q W ⟨eW, q0, q1⟩
        subst eW
        have k1 := q1.1
        have k2 := q1.2.1
        exact ih W t q rV aV (hw.ap wV) ⟨q0, by omega⟩ (fun y => q1.2.2.1 (by omega)) (ar1 hc m1 (by omega) (by omega))
      · intro W hW
        have m3 := m2 c2
        obtain ⟨sW, rW, aW⟩ := mk V W hW rV aV
        have eW := pM_sm sW o.toInt
        have J65 : ∀ X : MS, smO W X → OpR X L F M → OpA X l → w_pass_J65 (fun _ u => OpE S0 L F M w u) (w_pass_L32 (fun _ u => OpE S0 L F M w u) c) X o 1 x := fun X sX rX aX => by
          have eX := pM_sm sX o.toInt
          have gX : gN X = gN U := by rw [sX.gn, sW.gn, gV]
          have bX := rX.1
          unfold w_pass_J65
          refine ⟨_, fn_here (by omega) ⟨hx.1, by omega⟩, ?_⟩
          rintro q Y ⟨eY, q0, q1⟩
          subst eY
          have k2 := q1.2.1
          exact ih Y 1 q rX aX (((hw.ap wV).sm sW).sm sX) ⟨q0, by omega⟩ (fun y => q1.2.2.1 (by omega)) (ar2 hc (by rw [eX, eW]; exact m3) q0 (by omega))
        refine ⟨fun _ => J65 W (smO.fm (W := []) (J := []) frm.rf (by decide) (by decide) (by decide)) rW aW, fun _ => ⟨_, sp_findLive rW aW, ?_⟩⟩
        intro X fX
        obtain ⟨sX, rX, aX⟩ := li W X fX rW aW
        exact J65 X sX rX aX
  have J24 : 2 ≤ o.toInt → ∀ U : MS, OpR U L F M → OpA U l → WtI S0 w U → w_pass_J24 (fun _ u => OpE S0 L F M w u) U o := fun o2 U rU aU hw => by
    have b := rU.1
    unfold w_pass_J24
    refine ⟨_, fn_here (by omega) ⟨by decide, ?_⟩, ?_⟩
    · show (0 : Int) ≤ gN U
      omega
    · rintro q Y ⟨eY, q0, q1⟩
      subst eY
      have k2 := q1.2.1
      exact ⟨_, L32 o2 _ Y 0 q rU aU hw ⟨q0, by omega⟩ (fun y => q1.2.2.1 (by omega)) (Nat.lt_succ_self _)⟩
  unfold w_pass
  refine ⟨_, sp_mark h, ?_⟩
  intro V hV
  obtain ⟨s, rV, aV⟩ := mk S V hV h ha
  have wV : WtI S0 w V := hw.sm s
  refine ⟨fun _ => ⟨_, fr_sweep (sp_sweep rV aV), ?_⟩, fun c => ⟨fun _ => J24 (by omega) V rV aV wV, fun _ => ⟨_, sp_findLive rV aV, ?_⟩⟩⟩
  · rintro r u ⟨⟨h1, l', h2⟩, f⟩
    have f78 := (f.2.2.2.2.1 78 (by decide) (by decide)).1
    have f79 := (f.2.2.2.2.1 79 (by decide) (by decide)).1
    have f80 := (f.2.2.2.2.1 80 (by decide) (by decide)).1
    refine ⟨h1, ⟨l', h2⟩, ?_, wV.2.tr ⟨by unfold gN; rw [(f.2.2.2.2.2 129 (by decide)).1], fun i _ => ⟨by rw [f78], by rw [f79], by rw [f80]⟩, fun z _ => by rw [(f.2.2.2.2.1 75 (by decide) (by decide)).1]⟩⟩
    have w1 := wV.1
    unfold wtN gN at w1 ⊢
    rw [(f.2.2.2.2.2 129 (by decide)).1, f78, f80]
    exact w1
  · intro X fX
    obtain ⟨sX, rX, aX⟩ := li V X fX rV aV
    exact J24 (by omega) X rX aX (wV.sm sX)
theorem sp_rounds {S0 S : MS} {L F M : Int} {w : Nat} {o : Int32} (h : OpE S0 L F M w S) : w_rounds S o (fun u => OpE S0 L F M w u) := by
  have L19 : ∀ (k4 : MS → Int32 → Int32 → Int32 → Prop) (n : Int32), (∀ (U : MS) (t : Int32), OpE S0 L F M w U → k4 U o t (n + Int32.ofInt 1)) → ∀ (c : Nat) (U : MS) (t x : Int32), OpE S0 L F M w U → 1 ≤ x.toInt → (12 - x.toInt).toNat < c → w_rounds_L19 (fun u => OpE S0 L F M w u) k4 c U o t n x := by
    intro k4 n hk c
    induction c with
    | zero => intro U t x _ _ h9; exact absurd h9 (Nat.not_lt_zero _)
    | succ c ih =>
      intro U t x hU x1 hc
      unfold w_rounds_L19 w_rounds_J51 w_rounds_J56 w_rounds_J57
      refine ⟨fun _ a ea => by subst ea; exact hk U t hU, fun c1 => ?_⟩
      have ek : (x + Int32.ofInt 1).toInt = x.toInt + 1 := by rw [t_add (by rw [lo_1]; omega), lo_1]
      have go : ∀ (V : MS) (t2 : Int32), OpE S0 L F M w V → ∀ a : Int32, a = x + Int32.ofInt 1 → w_rounds_L19 (fun u => OpE S0 L F M w u) k4 c V o t2 n a := fun V t2 hV a ea => by
        subst ea
        exact ih V t2 _ hV (by omega) (by omega)
      obtain ⟨r, ⟨l, hl⟩, hw⟩ := id hU
      exact ⟨fun _ => ⟨_, sp_pass r hl hw ⟨x1, by omega⟩, fun r V hV => ⟨fun _ => ⟨fun _ => go V _ hV, fun _ => go V _ hV⟩, fun _ => go V _ hV⟩⟩, fun _ => go U _ hU⟩
  have L4 : ∀ (c : Nat) (U : MS) (t n : Int32), OpE S0 L F M w U → 0 ≤ n.toInt → (50 - n.toInt).toNat < c → w_rounds_L4 (fun u => OpE S0 L F M w u) c U o t n := by
    intro c
    induction c with
    | zero => intro U t n _ _ h9; exact absurd h9 (Nat.not_lt_zero _)
    | succ c ih =>
      intro U t n hU n0 hc
      unfold w_rounds_L4
      refine ⟨fun _ => hU, fun _ => ⟨fun _ => hU, fun c1 => ?_⟩⟩
      have ek : (n + Int32.ofInt 1).toInt = n.toInt + 1 := by rw [t_add (by rw [lo_1]; omega), lo_1]
      exact ⟨_, L19 _ n (fun V t2 hV => ih V t2 _ hV (by omega) (by omega)) _ U 0 1 hU (by decide) (Nat.lt_succ_self _)⟩
  unfold w_rounds
  exact ⟨_, L4 _ S 1 0 h (by decide) (Nat.lt_succ_self _)⟩
/-! takeMethod (behind OpR, LkI, smL) -/
theorem i32_ex (i : Nat) (h : i ≤ 1200) : ∃ x : Int32, x.toInt = i := ⟨Int32.ofInt i, by
  have z : Int32.size = 4294967296 := rfl
  rw [Int32.toInt_ofInt, z, Int.bmod_def]; split <;> omega⟩
theorem OpR.al {S : MS} {L F M : Int} (h : OpR S L F M) (g : ∀ i : Nat, (i : Int) < gN S → (qI S 81 i).toInt = 0) : OpA S (gN S - 1).toNat := by
  have b := h.1
  refine ⟨⟨by omega, g _ (by omega), fun j j1 j2 => by omega⟩, fun i k i1 i2 i3 => ?_, fun c i c1 c2 i1 i2 i3 i4 => ?_⟩
  · obtain ⟨x, ex⟩ := i32_ex i (by omega)
    have ei : x.toInt.toNat = i := by omega
    obtain ⟨w1, w2, w3, w4⟩ := h.wy (x := x) (by omega)
    rw [ei] at w4
    have := w4 k i3
    omega
  · have := h.2.2.2.2 c c1
    omega
theorem wtS_su {R : Nat → Int32} {a : Nat} : ∀ n : Nat, (∀ i : Nat, i < n → 0 ≤ wtR R (a + i)) → ((sumN (fun i => (wtR R (a + i)).toNat) n : Nat) : Int) = wtS R a n := by
  intro n
  induction n with
  | zero => intro _; rfl
  | succ n ih =>
    intro h
    have e := ih (fun i hi => h i (by omega))
    have z := h n (by omega)
    show ((sumN (fun i => (wtR R (a + i)).toNat) n + (wtR R (a + n)).toNat : Nat) : Int) = wtS R a n + wtR R (a + n)
    omega
def tkR (V U : MS) (n : Int) : Prop := ∀ x : Int32, 0 ≤ x.toInt → x.toInt < n → (qI U 78 x.toInt.toNat = f_op V x ∧ qI U 79 x.toInt.toNat = f_first V x ∧ qI U 80 x.toInt.toNat = f_second V x) ∧ (qI U 81 x.toInt.toNat).toInt = 0
def tkC (V U : MS) (n : Int) : Prop := ∀ x : Int32, 0 ≤ x.toInt → x.toInt < n → qI U 82 x.toInt.toNat = f_catchWord V x 0 ∧ qI U 83 x.toInt.toNat = f_catchWord V x 1 ∧ qI U 84 x.toInt.toNat = f_catchWord V x 2 ∧ qI U 85 x.toInt.toNat = f_catchWord V x 3
theorem sp_take {V : MS} {L F M : Int} (k : LkI V) (hb : (0 ≤ L ∧ L ≤ 24) ∧ F ≤ 24 ∧ M ≤ 24) (hT : ∀ x : Int32, 0 ≤ x.toInt → x.toInt < (qI V 0 52).toInt → rV (qI V 75) 40000 (qI V 0 52).toInt L F M (f_op V x) (f_first V x) (f_second V x)) : ∀ A, A = wI V 0 129 (qI V 0 52) → ∃ n, w_takeMethod_L16 (fun u => OpE u L F M 3600 u ∧ gN u = (qI V 0 52).toInt ∧ tkR V u (qI V 0 52).toInt) n A 0 := by
  have kc := k.cnt
  have eq_ix : ∀ (x y : Int32), 0 ≤ x.toInt → 0 ≤ y.toInt → x.toInt.toNat = y.toInt.toNat → x = y := fun x y a b c => Int32.toInt_inj.mp (by omega)
  have fin : ∀ U : MS, frm [78, 79, 80, 81, 82, 83, 84, 85, 86] [129, 135] V U → qI U 0 129 = qI V 0 52 → qI U 0 135 = qI V 0 54 → tkR V U (qI V 0 52).toInt → tkC V U (qI V 0 54).toInt → OpE U L F M 3600 U ∧ gN U = (qI V 0 52).toInt ∧ tkR V U (qI V 0 52).toInt := fun U fU e1 e2 hR hC => by
    have eg : gN U = (qI V 0 52).toInt := by unfold gN; rw [e1]
    have e75 : qI U 75 = qI V 75 := (fU.2.2.2.2.1 75 (by decide) (by decide)).1
    have r : OpR U L F M := by
      refine ⟨by rw [eg]; exact kc.1, hb, fun i hi => ?_, by rw [e2]; exact kc.2.1, fun c hc => ?_⟩
      · obtain ⟨x, ex⟩ := i32_ex i (by omega)
        have ei : x.toInt.toNat = i := by omega
        obtain ⟨⟨q1, q2, q3⟩, _⟩ := hR x (by omega) (by omega)
        rw [ei] at q1 q2 q3
        rw [q1, q2, q3, e75, eg]
        exact hT x (by omega) (by omega)
      · rw [e2] at hc
        obtain ⟨x, ex⟩ := i32_ex c (by omega)
        have ei : x.toInt.toNat = c := by omega
        obtain ⟨q1, q2, q3, q4⟩ := hC x (by omega) (by omega)
        rw [ei] at q1 q2 q3 q4
        rw [q1, q2, q3, q4, eg]
        exact k.cw ⟨by omega, by omega⟩
    have wt : wtN U ≤ 3600 := by
      have ws : wtS (qI V (qO V 0 48)) (qI V 0 51).toInt.toNat (qI V 0 52).toInt.toNat ≤ 3600 := by
        obtain ⟨-, _, _, _, _, _, _, _, _, _, d, -⟩ := k
        exact d.2.2.2.2.1
      have row : ∀ i : Nat, (i : Int) < (qI V 0 52).toInt → qI U 78 i = qI V (qO V 0 48) (3 * ((qI V 0 51).toInt.toNat + i)) ∧ qI U 80 i = qI V (qO V 0 48) (3 * ((qI V 0 51).toInt.toNat + i) + 2) := fun i hi => by
        obtain ⟨x, ex⟩ := i32_ex i (by omega)
        have ei : x.toInt.toNat = i := by omega
        obtain ⟨⟨q1, q2, q3⟩, _⟩ := hR x (by omega) (by omega)
        rw [ei] at q1 q3
        obtain ⟨y1, y2, y3⟩ := lk_ix k (x := x) ⟨by omega, by omega⟩
        rw [q1, q3]
        unfold f_op f_second
        rw [y1, y3, show (3 * ((qI V 0 51).toInt + x.toInt)).toNat = 3 * ((qI V 0 51).toInt.toNat + i) by omega, show (3 * ((qI V 0 51).toInt + x.toInt) + 2).toNat = 3 * ((qI V 0 51).toInt.toNat + i) + 2 by omega]
        exact ⟨rfl, rfl⟩
      have nn : ∀ i : Nat, i < (qI V 0 52).toInt.toNat → 0 ≤ wtR (qI V (qO V 0 48)) ((qI V 0 51).toInt.toNat + i) := fun i hi => by
        have q := r.2.2.1 i (by omega)
        obtain ⟨y1, y2⟩ := row i (by omega)
        rw [y1, y2] at q
        have := wt_3 (fun w => (q.2.2.1 w).2.1)
        show (0 : Int) ≤ wtV _ _
        omega
      have su := wtS_su (R := qI V (qO V 0 48)) (a := (qI V 0 51).toInt.toNat) _ nn
      have eq : wtN U = sumN (fun i => (wtR (qI V (qO V 0 48)) ((qI V 0 51).toInt.toNat + i)).toNat) (qI V 0 52).toInt.toNat := by
        unfold wtN
        rw [eg]
        refine sumN_eq _ (fun i hi => ?_)
        obtain ⟨y1, y2⟩ := row i (by omega)
        show (wtV (qI U 78 i).toInt (qI U 80 i).toInt).toNat = _
        rw [y1, y2]
        rfl
      omega
    refine ⟨⟨r, ⟨_, r.al (fun i hi => ?_)⟩, wt, swE.rf⟩, eg, hR⟩
    obtain ⟨x, ex⟩ := i32_ex i (by omega)
    have ei : x.toInt.toNat = i := by omega
    have q := (hR x (by omega) (by omega)).2
    rw [ei] at q
    exact q
  have sl : ∀ U : MS, frm [78, 79, 80, 81, 82, 83, 84, 85, 86] [129, 135] V U → smL V U := fun U fU => smL.fm fU (by decide) (by decide)
  have L80 : ∀ (c : Nat) (U : MS) (x : Int32), frm [78, 79, 80, 81, 82, 83, 84, 85, 86] [129, 135] V U → qI U 0 129 = qI V 0 52 → qI U 0 135 = qI V 0 54 → tkR V U (qI V 0 52).toInt → 0 ≤ x.toInt → tkC V U x.toInt → (16 - x.toInt).toNat < c → w_takeMethod_L80 (fun u => OpE u L F M 3600 u ∧ gN u = (qI V 0 52).toInt ∧ tkR V u (qI V 0 52).toInt) c U x := by
    intro c
    induction c with
    | zero => intro U x _ _ _ _ _ _ h9; exact absurd h9 (Nat.not_lt_zero _)
    | succ c ih =>
      intro U x fU e1 e2 hR x0 hC hc
      unfold w_takeMethod_L80
      rw [e2]
      refine ⟨fun c1 => fin U fU e1 e2 hR (fun y y0 y1 => hC y y0 (by omega)), fun c1 => ?_⟩
      have rx : 0 ≤ x.toInt ∧ x.toInt < 16 := by omega
      have ek : (x + Int32.ofInt 1).toInt = x.toInt + 1 := by rw [t_add (by rw [lo_1]; omega), lo_1]
      have dc : ∀ (W : MS), frm [78, 79, 80, 81, 82, 83, 84, 85, 86] [129, 135] V W → ∀ j : Int32, 0 ≤ j.toInt ∧ j.toInt ≤ 3 → d_catchWord W x j ∧ f_catchWord W x j = f_catchWord V x j := fun W fW j hj => by
        have s := sl W fW
        exact ⟨(k.mv s).dcw ⟨x0, by rw [(s.2 54 (by decide) (by decide)).1]; omega⟩ hj, s.cw k x j⟩
      obtain ⟨d1, g1⟩ := dc U fU 0 (by decide)
      refine ⟨d1, rx, fun A eA => ?_⟩
      have fA : frm [78, 79, 80, 81, 82, 83, 84, 85, 86] [129, 135] V A := fU.tr (by rw [eA]; exact frm.pI (by decide))
      obtain ⟨d2, g2⟩ := dc A fA 1 (by decide)
      refine ⟨d2, rx, fun B eB => ?_⟩
      have fB : frm [78, 79, 80, 81, 82, 83, 84, 85, 86] [129, 135] V B := fA.tr (by rw [eB]; exact frm.pI (by decide))
      obtain ⟨d3, g3⟩ := dc B fB 2 (by decide)
      refine ⟨d3, rx, fun C eC => ?_⟩
      have fC : frm [78, 79, 80, 81, 82, 83, 84, 85, 86] [129, 135] V C := fB.tr (by rw [eC]; exact frm.pI (by decide))
      obtain ⟨d4, g4⟩ := dc C fC 3 (by decide)
      refine ⟨d4, rx, fun D eD => ⟨rx, fun E eE a ea => ?_⟩⟩
      have fD : frm [78, 79, 80, 81, 82, 83, 84, 85, 86] [129, 135] V D := fC.tr (by rw [eD]; exact frm.pI (by decide))
      have fE : frm [78, 79, 80, 81, 82, 83, 84, 85, 86] [129, 135] V E := fD.tr (by rw [eE]; exact frm.pI (by decide))
      subst ea
      have u : ∀ a : Nat, a ≠ 82 → a ≠ 83 → a ≠ 84 → a ≠ 85 → a ≠ 86 → qI E a = qI U a := fun a h1 h2 h3 h4 h5 => by
        rw [eE, rdH h5, eD, rdH h4, eC, rdH h3, eB, rdH h2, eA, rdH h1]
      have z0 : qI E 0 = qI U 0 := u 0 (by decide) (by decide) (by decide) (by decide) (by decide)
      refine ih E _ fE (by rw [z0]; exact e1) (by rw [z0]; exact e2) (fun y y0 y1 => ?_) (by omega) (fun y y0 y1 => ?_) (by omega)
      · rw [u 78 (by decide) (by decide) (by decide) (by decide) (by decide), u 79 (by decide) (by decide) (by decide) (by decide) (by decide), u 80 (by decide) (by decide) (by decide) (by decide) (by decide), u 81 (by decide) (by decide) (by decide) (by decide) (by decide)]
        exact hR y y0 y1
      · by_cases q : y.toInt.toNat = x.toInt.toNat
        · have e := eq_ix y x y0 x0 q
          subst e
          refine ⟨?_, ?_, ?_, ?_⟩
          · rw [eE, rdH (by decide), eD, rdH (by decide), eC, rdH (by decide), eB, rdH (by decide), eA, qI_wI, if_pos ⟨rfl, rfl⟩, g1]
          · rw [eE, rdH (by decide), eD, rdH (by decide), eC, rdH (by decide), eB, qI_wI, if_pos ⟨rfl, rfl⟩, g2]
          · rw [eE, rdH (by decide), eD, rdH (by decide), eC, qI_wI, if_pos ⟨rfl, rfl⟩, g3]
          · rw [eE, rdH (by decide), eD, qI_wI, if_pos ⟨rfl, rfl⟩, g4]
        · obtain ⟨p1, p2, p3, p4⟩ := hC y y0 (by omega)
          refine ⟨?_, ?_, ?_, ?_⟩
          · rw [eE, rdH (by decide), eD, rdH (by decide), eC, rdH (by decide), eB, rdH (by decide), eA, qI_wI, if_neg (fun w => q w.2), p1]
          · rw [eE, rdH (by decide), eD, rdH (by decide), eC, rdH (by decide), eB, qI_wI, if_neg (fun w => q w.2), eA, rdH (by decide), p2]
          · rw [eE, rdH (by decide), eD, rdH (by decide), eC, qI_wI, if_neg (fun w => q w.2), eB, rdH (by decide), eA, rdH (by decide), p3]
          · rw [eE, rdH (by decide), eD, qI_wI, if_neg (fun w => q w.2), eC, rdH (by decide), eB, rdH (by decide), eA, rdH (by decide), p4]
  have L16 : ∀ (c : Nat) (U : MS) (x : Int32), frm [78, 79, 80, 81, 82, 83, 84, 85, 86] [129, 135] V U → qI U 0 129 = qI V 0 52 → 0 ≤ x.toInt → tkR V U x.toInt → (1200 - x.toInt).toNat < c → w_takeMethod_L16 (fun u => OpE u L F M 3600 u ∧ gN u = (qI V 0 52).toInt ∧ tkR V u (qI V 0 52).toInt) c U x := by
    intro c
    induction c with
    | zero => intro U x _ _ _ _ h9; exact absurd h9 (Nat.not_lt_zero _)
    | succ c ih =>
      intro U x fU e1 x0 hR hc
      unfold w_takeMethod_L16
      rw [e1]
      refine ⟨fun c1 A eA => ⟨_, L80 _ A 0 (fU.tr (by rw [eA]; exact frm.pI0 (by decide))) ?_ ?_ (fun y y0 y1 => ?_) (by decide) (fun y y0 y1 => ?_) (Nat.lt_succ_self _)⟩, fun c1 => ?_⟩
      · rw [eA, qI_wI, if_neg (by decide)]; exact e1
      · rw [eA, qI_wI, if_pos ⟨rfl, rfl⟩]
        exact ((sl U fU).2 54 (by decide) (by decide)).1
      · rw [eA, rdH (by decide), rdH (by decide), rdH (by decide), rdH (by decide)]
        exact hR y y0 (by omega)
      · have : (0 : Int32).toInt = 0 := rfl
        omega
      have rx : 0 ≤ x.toInt ∧ x.toInt < 1200 := by omega
      have ek : (x + Int32.ofInt 1).toInt = x.toInt + 1 := by rw [t_add (by rw [lo_1]; omega), lo_1]
      have dc : ∀ (W : MS), frm [78, 79, 80, 81, 82, 83, 84, 85, 86] [129, 135] V W → (d_op W x ∧ d_first W x ∧ d_second W x) ∧ f_op W x = f_op V x ∧ f_first W x = f_first V x ∧ f_second W x = f_second V x := fun W fW => by
        have s := sl W fW
        exact ⟨(k.mv s).dop ⟨x0, by rw [(s.2 52 (by decide) (by decide)).1]; omega⟩, s.op k x⟩
      obtain ⟨⟨d1, _, _⟩, g1, _, _⟩ := dc U fU
      refine ⟨d1, rx, fun A eA => ?_⟩
      have fA : frm [78, 79, 80, 81, 82, 83, 84, 85, 86] [129, 135] V A := fU.tr (by rw [eA]; exact frm.pI (by decide))
      obtain ⟨⟨_, d2, _⟩, _, g2, _⟩ := dc A fA
      refine ⟨d2, rx, fun B eB => ?_⟩
      have fB : frm [78, 79, 80, 81, 82, 83, 84, 85, 86] [129, 135] V B := fA.tr (by rw [eB]; exact frm.pI (by decide))
      obtain ⟨⟨_, _, d3⟩, _, _, g3⟩ := dc B fB
      refine ⟨d3, rx, fun C eC => ⟨rx, fun D eD a ea => ?_⟩⟩
      have fC : frm [78, 79, 80, 81, 82, 83, 84, 85, 86] [129, 135] V C := fB.tr (by rw [eC]; exact frm.pI (by decide))
      have fD : frm [78, 79, 80, 81, 82, 83, 84, 85, 86] [129, 135] V D := fC.tr (by rw [eD]; exact frm.pI (by decide))
      subst ea
      refine ih D _ fD (by rw [eD, rdH (by decide), eC, rdH (by decide), eB, rdH (by decide), eA, rdH (by decide)]; exact e1) (by omega) (fun y y0 y1 => ?_) (by omega)
      by_cases q : y.toInt.toNat = x.toInt.toNat
      · have e := eq_ix y x y0 x0 q
        subst e
        refine ⟨⟨?_, ?_, ?_⟩, ?_⟩
        · rw [eD, rdH (by decide), eC, rdH (by decide), eB, rdH (by decide), eA, qI_wI, if_pos ⟨rfl, rfl⟩, g1]
        · rw [eD, rdH (by decide), eC, rdH (by decide), eB, qI_wI, if_pos ⟨rfl, rfl⟩, g2]
        · rw [eD, rdH (by decide), eC, qI_wI, if_pos ⟨rfl, rfl⟩, g3]
        · rw [eD, qI_wI, if_pos ⟨rfl, rfl⟩]; decide
      · obtain ⟨⟨p1, p2, p3⟩, p4⟩ := hR y y0 (by omega)
        refine ⟨⟨?_, ?_, ?_⟩, ?_⟩
        · rw [eD, rdH (by decide), eC, rdH (by decide), eB, rdH (by decide), eA, qI_wI, if_neg (fun w => q w.2), p1]
        · rw [eD, rdH (by decide), eC, rdH (by decide), eB, qI_wI, if_neg (fun w => q w.2), eA, rdH (by decide), p2]
        · rw [eD, rdH (by decide), eC, qI_wI, if_neg (fun w => q w.2), eB, rdH (by decide), eA, rdH (by decide), p3]
        · rw [eD, qI_wI, if_neg (fun w => q w.2), eC, rdH (by decide), eB, rdH (by decide), eA, rdH (by decide)]; exact p4
  intro A eA
  refine ⟨_, L16 _ A 0 (by rw [eA]; exact frm.pI0 (by decide)) (by rw [eA, qI_wI, if_pos ⟨rfl, rfl⟩]) (by decide) (fun y y0 y1 => ?_) (Nat.lt_succ_self _)⟩
  have : (0 : Int32).toInt = 0 := rfl
  omega
/-! mark, as sp_mark (laid from it), and more: a catch that stays covers a row that is there -/
def MkC (S U : MS) (n : Int) : Prop := frm [86, 87] [] S U ∧ (∀ c : Nat, (qI U 86 c).toInt = 0 → (qI S 86 c).toInt = 0) ∧ ∀ c : Nat, (c : Int) < n → (qI U 86 c).toInt = 0 → ∃ i : Nat, (i : Int) < gN S ∧ (qI S 81 i).toInt = 0 ∧ (qI S 82 c).toInt ≤ i ∧ (i : Int) < (qI S 83 c).toInt
theorem sp_markC {S : MS} {L F M : Int} (h : OpR S L F M) : w_mark S (fun u => MkC S u (qI S 0 135).toInt) := by
  have b := h.1
  have hN : 0 ≤ gN S ∧ gN S ≤ 1200 := by omega
  have cc := h.2.2.2.1
  have co := h.2.2.2.2
  have up : ∀ U : MS, frm [86, 87] [] S U → smO S U := fun U fU => smO.fm fU (by decide) (by decide) (by decide)
  have w87 : ∀ (U D : MS) (j : Nat) (v : Int32), MkC S U (qI S 0 135).toInt → D = wI U 87 j v → MkC S D (qI S 0 135).toInt := fun U D j v hU eD => ⟨hU.1.tr (by rw [eD]; exact frm.pI (by decide)), by rw [eD, rdH (by decide)]; exact hU.2.1, by rw [eD, rdH (by decide)]; exact hU.2.2⟩
  have L128 : ∀ (c : Nat) (U : MS) (x : Int32), MkC S U (qI S 0 135).toInt → 0 ≤ x.toInt → (16 - x.toInt).toNat < c → w_mark_L128 (fun u => MkC S u (qI S 0 135).toInt) c U x := by
    intro c
    induction c with
    | zero => intro U x _ _ h9; exact absurd h9 (Nat.not_lt_zero _)
    | succ c ih =>
      intro U x hU x0 hc
      have s := up U hU.1
      unfold w_mark_L128 w_mark_J196
      rw [s.2.1]
      refine ⟨fun _ => hU, fun c1 => ?_⟩
      have ek : (x + Int32.ofInt 1).toInt = x.toInt + 1 := by rw [t_add (by rw [lo_1]; omega), lo_1]
      have rg : 0 ≤ x.toInt ∧ x.toInt < 16 := by omega
      have cx := co x.toInt.toNat (by omega)
      have hr : ∀ (V : MS) (t : Int32), (frm [86, 87] [] S V) → (0 ≤ t.toInt ∧ t.toInt ≤ gN S) → w_here V t (fun r u => u = V ∧ 0 ≤ r.toInt ∧ HrP V t.toInt.toNat r.toInt.toNat) := fun V t fV ht => by
        have sv := up V fV
        exact fn_here (by rw [sv.gn]; exact hN) (by rw [sv.gn]; exact ht)
      refine ⟨rg, fun _ => ⟨rg, _, hr U _ hU.1 (by rw [s.2.2.2.2.2.2.2.1]; omega), ?_⟩, fun _ a ea => by subst ea; exact ih U _ hU (by omega) (by omega)⟩
      rintro r u ⟨eu, r0, r1⟩
      subst eu
      have q1 := r1.2.1
      rw [s.gn] at q1
      refine ⟨⟨r0, by omega⟩, fun D eD => ?_⟩
      have hD := w87 _ D _ _ hU eD
      have sD := up D hD.1
      refine ⟨rg, _, hr D _ hD.1 (by rw [sD.2.2.2.2.2.2.2.2.1]; omega), ?_⟩
      rintro r2 u2 ⟨eu2, r20, r21⟩
      subst eu2
      have q2 := r21.2.1
      rw [sD.gn] at q2
      refine ⟨⟨r20, by omega⟩, fun E eE => ?_⟩
      have hE := w87 _ E _ _ hD eE
      have sE := up E hE.1
      refine ⟨rg, _, hr E _ hE.1 (by rw [sE.2.2.2.2.2.2.2.2.2.1]; omega), ?_⟩
      rintro r3 u3 ⟨eu3, r30, r31⟩
      subst eu3
      have q3 := r31.2.1
      rw [sE.gn] at q3
      refine ⟨⟨r30, by omega⟩, fun G eG a ea => ?_⟩
      subst ea
      exact ih G _ (w87 _ G _ _ hE eG) (by omega) (by omega)
  have L93 : ∀ (k71 : MS → Int32 → Prop) (x : Int32), (0 ≤ x.toInt ∧ x.toInt < gN S) → (∀ U : MS, MkC S U (qI S 0 135).toInt → k71 U (x + Int32.ofInt 1)) → ∀ (c : Nat) (U : MS) (k : Int32), MkC S U (qI S 0 135).toInt → 0 ≤ k.toInt → (202 - k.toInt).toNat < c → w_mark_L93 (fun u => MkC S u (qI S 0 135).toInt) k71 c U x k := by
    intro k71 x hx hk c
    induction c with
    | zero => intro U k _ _ h9; exact absurd h9 (Nat.not_lt_zero _)
    | succ c ih =>
      intro U k hU k0 hc
      have s := up U hU.1
      have rU := s.r h
      obtain ⟨w1, w2, w3, w4⟩ := rU.wy (x := x) (by rw [s.gn]; exact hx)
      unfold w_mark_L93 w_mark_J120
      rw [w2]
      refine ⟨w1, fun _ a ea => by subst ea; exact hk U hU, fun c1 => ⟨_, fn_wayOf rU (by rw [s.gn]; exact hx) ⟨k0, by omega⟩, ?_⟩⟩
      rintro r u ⟨eu, r0, r1⟩
      subst eu
      have q1 := r1.2.1
      rw [s.gn] at q1
      have ek : (k + Int32.ofInt 1).toInt = k.toInt + 1 := by rw [t_add (by rw [lo_1]; omega), lo_1]
      refine ⟨⟨r0, by omega⟩, fun D eD a ea => ?_⟩
      subst ea
      exact ih D _ (w87 _ D _ _ hU eD) (by omega) (by omega)
  have L71 : ∀ (c : Nat) (U : MS) (x : Int32), MkC S U (qI S 0 135).toInt → 0 ≤ x.toInt → (1200 - x.toInt).toNat < c → w_mark_L71 (fun u => MkC S u (qI S 0 135).toInt) c U x := by
    intro c
    induction c with
    | zero => intro U x _ _ h9; exact absurd h9 (Nat.not_lt_zero _)
    | succ c ih =>
      intro U x hU x0 hc
      have s := up U hU.1
      have eg : (qI U 0 129).toInt = gN S := s.gn
      unfold w_mark_L71 w_mark_J120
      rw [eg]
      refine ⟨fun _ => ⟨_, L128 _ U 0 hU (by decide) (Nat.lt_succ_self _)⟩, fun c1 => ?_⟩
      have ek : (x + Int32.ofInt 1).toInt = x.toInt + 1 := by rw [t_add (by rw [lo_1]; omega), lo_1]
      refine ⟨⟨x0, by omega⟩, fun _ => ⟨_, L93 _ x ⟨x0, by omega⟩ (fun V hV => ih V _ hV (by omega) (by omega)) _ U 0 hU (by decide) (Nat.lt_succ_self _)⟩, fun _ a ea => by subst ea; exact ih U _ hU (by omega) (by omega)⟩
  have L48 : ∀ (c : Nat) (U : MS) (x : Int32), MkC S U (qI S 0 135).toInt → 0 ≤ x.toInt → (1201 - x.toInt).toNat < c → w_mark_L48 (fun u => MkC S u (qI S 0 135).toInt) c U x := by
    intro c
    induction c with
    | zero => intro U x _ _ h9; exact absurd h9 (Nat.not_lt_zero _)
    | succ c ih =>
      intro U x hU x0 hc
      have s := up U hU.1
      have eg : (qI U 0 129).toInt = gN S := s.gn
      unfold w_mark_L48
      rw [eg]
      refine ⟨fun _ => ⟨_, L71 _ U 0 hU (by decide) (Nat.lt_succ_self _)⟩, fun c1 => ⟨⟨x0, by omega⟩, fun D eD a ea => ?_⟩⟩
      have ek : (x + Int32.ofInt 1).toInt = x.toInt + 1 := by rw [t_add (by rw [lo_1]; omega), lo_1]
      subst ea
      exact ih D _ (w87 _ D _ _ hU eD) (by omega) (by omega)
  have L2 : ∀ (c : Nat) (U : MS) (x : Int32), MkC S U x.toInt → 0 ≤ x.toInt → (16 - x.toInt).toNat < c → w_mark_L2 (fun u => MkC S u (qI S 0 135).toInt) c U x := by
    intro c
    induction c with
    | zero => intro U x _ _ h9; exact absurd h9 (Nat.not_lt_zero _)
    | succ c ih =>
      intro U x hU x0 hc
      have s := up U hU.1
      unfold w_mark_L2 w_mark_J40
      rw [s.2.1]
      refine ⟨fun c1 => ⟨_, L48 _ U 0 ⟨hU.1, hU.2.1, fun c' h1 => hU.2.2 c' (by omega)⟩ (by decide) (Nat.lt_succ_self _)⟩, fun c1 => ?_⟩
      have ek : (x + Int32.ofInt 1).toInt = x.toInt + 1 := by rw [t_add (by rw [lo_1]; omega), lo_1]
      have rg : 0 ≤ x.toInt ∧ x.toInt < 16 := by omega
      have cx := co x.toInt.toNat (by omega)
      refine ⟨rg, _, fn_here (by rw [s.gn]; exact hN) (by rw [s.gn, s.2.2.2.2.2.2.2.1]; omega), ?_⟩
      rintro r u ⟨eu, r0, r1⟩
      subst eu
      refine ⟨rg, _, fn_here (by rw [s.gn]; exact hN) (by rw [s.gn, s.2.2.2.2.2.2.2.2.1]; omega), ?_⟩
      rintro r2 u2 ⟨eu2, r20, r21⟩
      subst eu2
      refine ⟨fun c2 a ea => ?_, fun _ => ⟨rg, fun D eD a ea => ?_⟩⟩
      · subst ea
        refine ih _ _ ⟨hU.1, hU.2.1, fun c' h1 h2 => ?_⟩ (by omega) (by omega)
        by_cases q : c' = x.toInt.toNat
        · subst q
          have z1 := r1.2.2.1
          have z2 := r21.2.1
          have z3 := r1.1
          have z4 := r21.2.2.2
          rw [s.gn] at z1 z2
          rw [s.2.2.2.2.2.2.1] at z1
          have g0 := z1 (by omega)
          rw [s.2.2.2.2.2.2.2.1] at z3
          refine ⟨r.toInt.toNat, by omega, g0, by omega, ?_⟩
          by_cases y : (r.toInt.toNat : Int) < (qI S 83 x.toInt.toNat).toInt
          · exact y
          · exact absurd (by rw [s.2.2.2.2.2.2.1]; exact g0) (z4 r.toInt.toNat (by rw [s.2.2.2.2.2.2.2.2.1]; omega) (by omega))
        · exact hU.2.2 c' (by omega) h2
      · subst ea
        refine ih D _ ⟨hU.1.tr (by rw [eD]; exact frm.pI (by decide)), fun c' hc' => ?_, fun c' h1 h2 => ?_⟩ (by omega) (by omega)
        · rw [eD, qI_wI] at hc'
          by_cases q : (86 : Nat) = 86 ∧ c' = x.toInt.toNat
          · rw [if_pos q] at hc'; exact absurd hc' vb1
          · rw [if_neg q] at hc'; exact hU.2.1 c' hc'
        · rw [eD, qI_wI] at h2
          by_cases q : (86 : Nat) = 86 ∧ c' = x.toInt.toNat
          · rw [if_pos q] at h2; exact absurd h2 vb1
          · rw [if_neg q] at h2
            exact hU.2.2 c' (by have : ¬ c' = x.toInt.toNat := fun y => q ⟨rfl, y⟩
                                omega) h2
  unfold w_mark
  exact ⟨_, L2 _ S 0 ⟨frm.rf, fun _ q => q, fun c' h1 => by have : (0 : Int32).toInt = 0 := rfl
                                                            omega⟩ (by decide) (Nat.lt_succ_self _)⟩
