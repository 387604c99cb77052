/-! leads, threaded (behind OpR.wy, fn_wayOf, sumN_upd) -/
def nsN (S : MS) : Nat := sumN (fun j => if (qI S 89 j).toInt = (qI S 0 139).toInt then 0 else 1) (gN S).toNat
theorem sp_leads {S : MS} {L F M : Int} {l : Nat} {x : Int32} (h : OpR S L F M) (ha : OpA S l) (hx : 0 ≤ x.toInt ∧ x.toInt ≤ l) (hg : (qI S 81 x.toInt.toNat).toInt = 0) : w_leads S x (fun r u => frm [89] [139] S u ∧ (r.toInt < 0 ∨ ((0 ≤ r.toInt ∧ r.toInt ≤ l) ∧ (qI S 81 r.toInt.toNat).toInt = 0 ∧ ¬ (qI S 78 r.toInt.toNat).toInt = 167 ∧ (¬ r.toInt = x.toInt → (qI S 78 x.toInt.toNat).toInt = 167)))) := by
  have b := h.1
  have hN : 0 ≤ gN S ∧ gN S ≤ 1200 := by omega
  have ll := ha.1.1
  have L12 : ∀ (c : Nat) (U : MS) (t : Int32), frm [89] [139] S U → (0 ≤ t.toInt ∧ t.toInt ≤ l) → (qI S 81 t.toInt.toNat).toInt = 0 → (¬ t.toInt = x.toInt → (qI S 78 x.toInt.toNat).toInt = 167) → nsN U < c → w_leads_L12 (fun r u => frm [89] [139] S u ∧ (r.toInt < 0 ∨ ((0 ≤ r.toInt ∧ r.toInt ≤ l) ∧ (qI S 81 r.toInt.toNat).toInt = 0 ∧ ¬ (qI S 78 r.toInt.toNat).toInt = 167 ∧ (¬ r.toInt = x.toInt → (qI S 78 x.toInt.toNat).toInt = 167)))) c U t := by
    intro c
    induction c with
    | zero => intro U t _ _ _ _ h9; exact absurd h9 (Nat.not_lt_zero _)
    | succ c ih =>
      intro U t fU ht tg tx hc
      have s : smO S U := smO.fm fU (by decide) (by decide) (by decide)
      have e78 : qI U 78 = qI S 78 := s.2.2.2.1
      have rg : 0 ≤ t.toInt ∧ t.toInt < 1200 := by omega
      unfold w_leads_L12
      rw [e78]
      refine ⟨rg, fun c1 => ⟨rg, fun c2 => ⟨fU, Or.inl (by decide)⟩, fun c2 => ⟨rg, fun D eD => ?_⟩⟩, fun c1 => ⟨fU, Or.inr ⟨ht, tg, c1, tx⟩⟩⟩
      have fD : frm [89] [139] S D := fU.tr (by rw [eD]; exact frm.pI (by decide))
      have sD : smO S D := smO.fm fD (by decide) (by decide) (by decide)
      have rD := sD.r h
      have ew : wyN D t.toInt.toNat = 1 := by
        rw [(sD.tw _ 0).1]
        unfold wyN
        rw [if_neg (by rw [jp_1 (by omega)]; decide)]
      refine ⟨_, fn_wayOf rD ⟨ht.1, by rw [sD.gn]; omega⟩ ⟨by decide, by rw [ew]; decide⟩, ?_⟩
      rintro r V ⟨eV, r0, r1⟩
      rw [eV]
      rw [sD.hr, (sD.tw _ _).2] at r1
      have z0 : (0 : Int32).toInt.toNat = 0 := rfl
      rw [z0] at r1
      have ew2 : wyN S t.toInt.toNat = 1 := by rw [← (sD.tw _ 0).1]; exact ew
      have tl := ha.2.1 t.toInt.toNat 0 (by omega) tg (by rw [ew2]; decide)
      have t0 := ((h.wy (x := t) ⟨ht.1, by omega⟩).2.2.2 0 (by rw [ew2]; decide)).1
      have rl : r.toInt.toNat ≤ l := r1.le (by omega) ha.1.2.1
      have d139 : qI D 0 139 = qI U 0 139 := by rw [eD, rdH (by decide)]
      have u : nsN D + (if (qI U 89 t.toInt.toNat).toInt = (qI U 0 139).toInt then 0 else 1) = nsN U + (if (qI D 89 t.toInt.toNat).toInt = (qI D 0 139).toInt then 0 else 1) := by
        have eg : gN D = gN U := by rw [sD.gn, s.gn]
        unfold nsN
        rw [eg]
        refine sumN_upd (g := fun j => if (qI U 89 j).toInt = (qI U 0 139).toInt then 0 else 1) (g' := fun j => if (qI D 89 j).toInt = (qI D 0 139).toInt then 0 else 1) (i := t.toInt.toNat) (fun j hj => ?_) (gN U).toNat (by rw [s.gn]; omega)
        show (if (qI D 89 j).toInt = (qI D 0 139).toInt then 0 else 1) = (if (qI U 89 j).toInt = (qI U 0 139).toInt then 0 else 1)
        have e1 : qI D 89 j = qI U 89 j := by rw [eD, qI_wI, if_neg (fun q => hj q.2)]
        rw [e1, d139]
      have e2 : qI D 89 t.toInt.toNat = qI U 0 139 := by rw [eD, qI_wI, if_pos ⟨rfl, rfl⟩]
      rw [if_neg c2, e2, d139, if_pos rfl] at u
      refine ih D r fD ⟨r0, by omega⟩ (r1.2.2.1 (by omega)) (fun _ => ?_) (by omega)
      by_cases q : t.toInt = x.toInt
      · rw [← q]; exact c1
      · exact tx q
  unfold w_leads
  intro A eA
  exact ⟨_, L12 _ A x (by rw [eA]; exact frm.pI0 (by decide)) hx hg (fun q => absurd rfl q) (Nat.lt_succ_self _)⟩
/-- how many ways lead to a goto -/
noncomputable def gtW (S : MS) (i k : Nat) : Nat := @ite Nat ((k : Int) < wyN S i ∧ ∃ r : Nat, HrP S (tgV S i k).toInt.toNat r ∧ (qI S 78 r).toInt = 167) (Classical.propDecidable _) 1 0
noncomputable def gtN (S : MS) : Nat := sumN (fun i => sumN (fun k => gtW S i k) 202) (gN S).toNat
theorem sumN_le {g g' : Nat → Nat} : ∀ n : Nat, (∀ j : Nat, j < n → g' j ≤ g j) → sumN g' n ≤ sumN g n := by
  intro n
  induction n with
  | zero => intro _; exact Nat.le_refl _
  | succ n ih =>
    intro h
    have a := ih (fun j hj => h j (by omega))
    have b := h n (by omega)
    show sumN g' n + g' n ≤ sumN g n + g n
    omega
theorem sumN_lt {g g' : Nat → Nat} {i : Nat} : ∀ n : Nat, (∀ j : Nat, j < n → g' j ≤ g j) → i < n → g' i < g i → sumN g' n < sumN g n := by
  intro n
  induction n with
  | zero => intro _ q; exact absurd q (Nat.not_lt_zero _)
  | succ n ih =>
    intro h hi hl
    show sumN g' n + g' n < sumN g n + g n
    by_cases e : i = n
    · have a := sumN_le n (fun j hj => h j (by omega))
      rw [e] at hl
      omega
    · have a := ih (fun j hj => h j (by omega)) (by omega) hl
      have b := h n (by omega)
      omega
theorem gtN_sm {S u : MS} (s : smO S u) : gtN u = gtN S := by
  have e : ∀ i k : Nat, gtW u i k = gtW S i k := fun i k => by
    unfold gtW
    rw [(s.tw i k).1, (s.tw i k).2, s.2.2.2.1]
    have q : (∃ r : Nat, HrP u (tgV S i k).toInt.toNat r ∧ (qI S 78 r).toInt = 167) ↔ ∃ r : Nat, HrP S (tgV S i k).toInt.toNat r ∧ (qI S 78 r).toInt = 167 := by
      constructor
      · rintro ⟨r, a, b⟩; exact ⟨r, s.hr.mp a, b⟩
      · rintro ⟨r, a, b⟩; exact ⟨r, s.hr.mpr a, b⟩
    by_cases z : ((k : Int) < wyN S i ∧ ∃ r : Nat, HrP S (tgV S i k).toInt.toNat r ∧ (qI S 78 r).toInt = 167)
    · rw [if_pos z, if_pos ⟨z.1, q.mpr z.2⟩]
    · rw [if_neg z, if_neg (fun y => z ⟨y.1, q.mp y.2⟩)]
  unfold gtN
  rw [s.gn]
  refine sumN_eq _ (fun i _ => sumN_eq _ (fun k _ => e i k))
theorem sw_op {S : MS} {o : Int32} (h : ¬ (f_isSwitch S o).toInt = 0) : o.toInt = 170 ∨ o.toInt = 171 := by
  unfold f_isSwitch f_isSwitch_J14 at h
  by_cases c1 : o.toInt = 170
  · exact Or.inl c1
  · rw [if_neg c1] at h
    by_cases c2 : o.toInt = 171
    · exact Or.inr c2
    · rw [if_neg c2] at h; exact absurd rfl h
theorem sw_is {S : MS} {o : Int32} (h : o.toInt = 170 ∨ o.toInt = 171) : ¬ (f_isSwitch S o).toInt = 0 := by
  unfold f_isSwitch f_isSwitch_J14
  by_cases c1 : o.toInt = 170
  · rw [if_pos c1]; decide
  · rw [if_neg c1, if_pos (by omega)]; decide
/-- switches are the same or gone, and words change in their tables alone -/
def swE (S u : MS) : Prop := gN u = gN S ∧ (∀ i : Nat, (qI u 78 i).toInt = 170 ∨ (qI u 78 i).toInt = 171 → qI u 78 i = qI S 78 i ∧ qI u 79 i = qI S 79 i ∧ qI u 80 i = qI S 80 i) ∧ ∀ q : Nat, (∀ j : Nat, (j : Int) < gN S → (qI S 78 j).toInt = 170 ∨ (qI S 78 j).toInt = 171 → ¬ ((qI S 79 j).toInt ≤ q ∧ (q : Int) ≤ (qI S 79 j).toInt + 2 * (qI S 80 j).toInt)) → qI u 75 q = qI S 75 q
theorem swE.rf {S : MS} : swE S S := ⟨rfl, fun _ _ => ⟨rfl, rfl, rfl⟩, fun _ _ => rfl⟩
theorem swE.tr {S u v : MS} (h : swE S u) (k : swE u v) : swE S v := by
  refine ⟨k.1.trans h.1, fun i q => ?_, fun q hq => (k.2.2 q (fun j hj sw => ?_)).trans (h.2.2 q hq)⟩
  · obtain ⟨a, b, c⟩ := k.2.1 i q
    obtain ⟨d, e, f⟩ := h.2.1 i (by rw [← a]; exact q)
    exact ⟨a.trans d, b.trans e, c.trans f⟩
  · obtain ⟨d, e, f⟩ := h.2.1 j sw
    rw [e, f]
    exact hq j (by rw [← h.1]; exact hj) (by rw [← d]; exact sw)
theorem swE.sm {S u : MS} (s : smO S u) : swE S u := ⟨s.gn, fun i _ => ⟨by rw [s.2.2.2.1], by rw [s.2.2.2.2.1], by rw [s.2.2.2.2.2.1]⟩, fun q _ => by rw [s.2.2.1]⟩
/-- a way is led on -/
theorem sp_setWay {S : MS} {L F M : Int} {l : Nat} {x k t : Int32} {r0 : Nat} (h : OpR S L F M) (ha : OpA S l) (hx : 0 ≤ x.toInt ∧ x.toInt < gN S) (hg : (qI S 81 x.toInt.toNat).toInt = 0) (hk : 0 ≤ k.toInt ∧ k.toInt < wyN S x.toInt.toNat) (ht : 0 ≤ t.toInt ∧ t.toInt ≤ l) (tg : (qI S 81 t.toInt.toNat).toInt = 0) (tn : ¬ (qI S 78 t.toInt.toNat).toInt = 167) (hr : HrP S (tgV S x.toInt.toNat k.toInt.toNat).toInt.toNat r0) (hr7 : (qI S 78 r0).toInt = 167) : w_setWay S x k t (fun u => frm [75, 79] [] S u ∧ OpR u L F M ∧ OpA u l ∧ gtN u < gtN S ∧ qI u 86 = qI S 86 ∧ swE S u) := by
  have b := h.1
  have ll := ha.1.1
  have rg : 0 ≤ x.toInt ∧ x.toInt < 1200 := by omega
  have l2 : (2 : Int32).toInt = 2 := by decide
  obtain ⟨w1, w2, w3, w4⟩ := h.wy hx
  have t4 := w4 k.toInt.toNat (by omega)
  have dj : d_isJump S (qI S 78 x.toInt.toNat) := by
    unfold d_isJump d_isJump_J14 d_isJump_J28
    simp only [ite_self]
  -- what both kinds share: every aim is the old one, or t
  have fin : ∀ D : MS, frm [75, 79] [] S D → swE S D → (∀ i : Nat, wyN D i = wyN S i) → (∀ i j : Nat, tgV D i j = tgV S i j ∨ tgV D i j = t) → tgV D x.toInt.toNat k.toInt.toNat = t → OpR D L F M → frm [75, 79] [] S D ∧ OpR D L F M ∧ OpA D l ∧ gtN D < gtN S ∧ qI D 86 = qI S 86 ∧ swE S D := fun D fD sD ew et ex rD => by
    have z := fun (a : Nat) (h1 : a ≠ 0) (h2 : a ∉ [75, 79]) => (fD.2.2.2.2.1 a h1 h2).1
    have eg : gN D = gN S := by unfold gN; rw [(fD.2.2.2.2.2 129 (by decide)).1]
    have e81 : qI D 81 = qI S 81 := z 81 (by decide) (by decide)
    have e78 : qI D 78 = qI S 78 := z 78 (by decide) (by decide)
    have ehr : ∀ i r : Nat, HrP D i r ↔ HrP S i r := fun i r => by unfold HrP; rw [eg, e81]
    have e86 : qI D 86 = qI S 86 := z 86 (by decide) (by decide)
    have ht0 : HrP S t.toInt.toNat t.toInt.toNat := ⟨Nat.le_refl _, by omega, fun _ => tg, fun j a b => by omega⟩
    have le : ∀ i j : Nat, gtW D i j ≤ gtW S i j := fun i j => by
      unfold gtW
      by_cases q : ((j : Int) < wyN D i ∧ ∃ r : Nat, HrP D (tgV D i j).toInt.toNat r ∧ (qI D 78 r).toInt = 167)
      · rw [if_pos q]
        obtain ⟨q1, r, q2, q3⟩ := q
        rw [ehr, e78] at *
        rcases et i j with e | e
        · rw [e] at q2
          rw [if_pos ⟨by rw [← ew]; exact q1, r, q2, q3⟩]
          exact Nat.le_refl _
        · rw [e] at q2
          rw [q2.uq ht0] at q3
          exact absurd q3 tn
      · rw [if_neg q]; exact Nat.zero_le _
    have lt : gtW D x.toInt.toNat k.toInt.toNat < gtW S x.toInt.toNat k.toInt.toNat := by
      unfold gtW
      rw [if_neg (fun q => by
        obtain ⟨q1, r, q2, q3⟩ := q
        rw [ex, ehr] at q2
        rw [e78, q2.uq ht0] at q3
        exact tn q3), if_pos ⟨by omega, r0, hr, hr7⟩]
      decide
    refine ⟨fD, rD, ⟨⟨by rw [eg]; exact ha.1.1, by rw [e81]; exact ha.1.2.1, by rw [eg, e81]; exact ha.1.2.2⟩, fun i j i1 i2 i3 => ?_, fun c i c1 c2 i1 i2 i3 i4 => ?_⟩, ?_, e86, sD⟩
    · rw [eg] at i1
      rw [e81] at i2
      rw [ew] at i3
      rcases et i j with e | e
      · rw [e]; exact ha.2.1 i j i1 i2 i3
      · rw [e]; exact ht.2
    · rw [(fD.2.2.2.2.2 135 (by decide)).1] at c1
      rw [e86] at c2
      rw [eg] at i1
      rw [e81] at i2
      rw [z 82 (by decide) (by decide)] at i3
      rw [z 83 (by decide) (by decide)] at i4
      rw [z 84 (by decide) (by decide)]
      exact ha.2.2 c i c1 c2 i1 i2 i3 i4
    · unfold gtN
      rw [eg]
      exact sumN_lt (i := x.toInt.toNat) _ (fun i _ => sumN_le _ (fun j _ => le i j)) (by omega) (sumN_lt (i := k.toInt.toNat) _ (fun j _ => le _ j) (by omega) lt)
  unfold w_setWay
  refine ⟨rg, dj, fun q => ⟨rg, ?_⟩, fun q => ⟨rg, fun D eD => ?_⟩⟩
  · have t3 := t4.2.2 q
    have e2 : ((2 : Int32) * k).toInt = 2 * k.toInt := by rw [t_mul (by rw [l2]; omega), l2]
    have e : (qI S 79 x.toInt.toNat + (2 : Int32) * k).toInt = (qI S 79 x.toInt.toNat).toInt + 2 * k.toInt := by rw [t_add (by rw [e2]; omega), e2]
    rw [e]
    refine ⟨⟨by omega, by omega⟩, fun D eD => ?_⟩
    have fD : frm [75, 79] [] S D := by rw [eD]; exact frm.pI (by decide)
    have d78 : qI D 78 = qI S 78 := by rw [eD, rdH (by decide)]
    have d79 : qI D 79 = qI S 79 := by rw [eD, rdH (by decide)]
    have d80 : qI D 80 = qI S 80 := by rw [eD, rdH (by decide)]
    have d75 : ∀ j : Nat, qI D 75 j = qI S 75 j ∨ (j = ((qI S 79 x.toInt.toNat).toInt + 2 * k.toInt).toNat ∧ qI D 75 j = t) := fun j => by
      rw [eD, qI_wI]
      by_cases w : j = ((qI S 79 x.toInt.toNat).toInt + 2 * k.toInt).toNat
      · rw [if_pos ⟨rfl, w⟩]; exact Or.inr ⟨w, rfl⟩
      · rw [if_neg (fun y => w y.2)]; exact Or.inl rfl
    have eg : gN D = gN S := by unfold gN; rw [(fD.2.2.2.2.2 129 (by decide)).1]
    have sD : swE S D := by
      refine ⟨eg, fun i _ => by rw [d78, d79, d80]; exact ⟨rfl, rfl, rfl⟩, fun z hz => ?_⟩
      rcases d75 z with y | y
      · exact y
      · have hk2 := hk.2
        unfold wyN at hk2
        rw [if_pos q] at hk2
        by_cases w : (f_isSwitch S (qI S 78 x.toInt.toNat)).toInt = 0
        · rw [if_pos w] at hk2; omega
        · rw [if_neg w] at hk2
          have := hz x.toInt.toNat (by omega) (sw_op w)
          omega
    refine fin D fD sD (fun i => by unfold wyN; rw [d78, d80]; rfl) (fun i j => ?_) ?_ ?_
    · unfold tgV
      rw [d78, d79]
      by_cases w : (f_isJump S (qI S 78 i)).toInt = 0
      · have w' : (f_isJump D (qI S 78 i)).toInt = 0 := w
        rw [if_pos w, if_pos w']
        rcases d75 ((qI S 79 i).toInt.toNat + 2 * j) with y | y
        · exact Or.inl y
        · exact Or.inr y.2
      · have w' : ¬ (f_isJump D (qI S 78 i)).toInt = 0 := w
        rw [if_neg w, if_neg w']
        exact Or.inl rfl
    · unfold tgV
      rw [d78, d79]
      have q' : (f_isJump D (qI S 78 x.toInt.toNat)).toInt = 0 := q
      rw [if_pos q', eD, qI_wI, if_pos ⟨rfl, by omega⟩]
    · obtain ⟨p1, p2, p3, p4, p5⟩ := h
      refine ⟨by rw [eg]; exact p1, p2, fun i hi => ?_, by rw [(fD.2.2.2.2.2 135 (by decide)).1]; exact p4, ?_⟩
      · rw [eg] at hi ⊢
        rw [d78, d79, d80]
        have r := p3 i hi
        refine ⟨r.1, r.2.1, fun w => ?_, r.2.2.2⟩
        obtain ⟨y1, y2, y3, y4, y5, y6⟩ := r.2.2.1 w
        refine ⟨y1, y2, y3, y4, fun k' hk' => ?_, y6⟩
        rcases d75 ((qI S 79 i).toInt.toNat + 2 * k') with y | y
        · rw [y]; exact y5 k' hk'
        · rw [y.2]; exact ⟨ht.1, by omega⟩
      · rw [(fD.2.2.2.2.2 135 (by decide)).1, (fD.2.2.2.2.1 82 (by decide) (by decide)).1, (fD.2.2.2.2.1 83 (by decide) (by decide)).1, (fD.2.2.2.2.1 84 (by decide) (by decide)).1, (fD.2.2.2.2.1 85 (by decide) (by decide)).1, eg]
        exact p5
  · have fD : frm [75, 79] [] S D := by rw [eD]; exact frm.pI (by decide)
    have d78 : qI D 78 = qI S 78 := by rw [eD, rdH (by decide)]
    have d75 : qI D 75 = qI S 75 := by rw [eD, rdH (by decide)]
    have d80 : qI D 80 = qI S 80 := by rw [eD, rdH (by decide)]
    have d79 : ∀ j : Nat, qI D 79 j = if j = x.toInt.toNat then t else qI S 79 j := fun j => by
      rw [eD, qI_wI]
      by_cases w : j = x.toInt.toNat
      · rw [if_pos ⟨rfl, w⟩, if_pos w]
      · rw [if_neg (fun y => w y.2), if_neg w]
    have eg : gN D = gN S := by unfold gN; rw [(fD.2.2.2.2.2 129 (by decide)).1]
    have jo := jp_op q
    have sD : swE S D := ⟨eg, fun i hi => by
      rw [d78] at hi ⊢
      rw [d79, d80]
      by_cases e : i = x.toInt.toNat
      · rw [e] at hi; omega
      · rw [if_neg e]; exact ⟨rfl, rfl, rfl⟩, fun z _ => by rw [d75]⟩
    refine fin D fD sD (fun i => by unfold wyN; rw [d78, d80]; rfl) (fun i j => ?_) ?_ ?_
    · unfold tgV
      rw [d78, d79, d75]
      by_cases e : i = x.toInt.toNat
      · rw [if_pos e]
        rw [e]
        have q' : ¬ (f_isJump D (qI S 78 x.toInt.toNat)).toInt = 0 := q
        rw [if_neg q']
        exact Or.inr rfl
      · rw [if_neg e]; exact Or.inl rfl
    · unfold tgV
      rw [d78, d79]
      have q' : ¬ (f_isJump D (qI S 78 x.toInt.toNat)).toInt = 0 := q
      rw [if_neg q', if_pos rfl]
    · obtain ⟨p1, p2, p3, p4, p5⟩ := h
      refine ⟨by rw [eg]; exact p1, p2, fun i hi => ?_, by rw [(fD.2.2.2.2.2 135 (by decide)).1]; exact p4, ?_⟩
      · rw [eg] at hi ⊢
        rw [d78, d79, d80, d75]
        by_cases e : i = x.toInt.toNat
        · rw [if_pos e, e]
          have r := p3 x.toInt.toNat (by omega)
          exact ⟨r.1, fun _ => ⟨ht.1, by omega⟩, fun w => by omega, fun w => by omega, fun w => by omega, fun w => by omega, fun w => by omega⟩
        · rw [if_neg e]
          exact p3 i hi
      · rw [(fD.2.2.2.2.2 135 (by decide)).1, (fD.2.2.2.2.1 82 (by decide) (by decide)).1, (fD.2.2.2.2.1 83 (by decide) (by decide)).1, (fD.2.2.2.2.1 84 (by decide) (by decide)).1, (fD.2.2.2.2.1 85 (by decide) (by decide)).1, eg]
        exact p5
def frT (S u : MS) : Prop := frm [75, 77, 79, 89] [139] S u ∧ swE S u
theorem sp_threaded {S : MS} {L F M : Int} {l : Nat} {x : Int32} (h : OpR S L F M) (ha : OpA S l) (hx : 0 ≤ x.toInt ∧ x.toInt < gN S) (hg : (qI S 81 x.toInt.toNat).toInt = 0) : w_threaded S x (fun r u => frT S u ∧ OpR u L F M ∧ OpA u l ∧ gtN u ≤ gtN S ∧ (¬ r.toInt = 0 → gtN u < gtN S)) := by
  have l2 : (2 : Int32).toInt = 2 := by decide
  have L4 : ∀ (c : Nat) (U : MS) (m k : Int32), (frT S U ∧ OpR U L F M ∧ OpA U l ∧ gtN U ≤ gtN S ∧ (¬ m.toInt = 0 → gtN U < gtN S)) → 0 ≤ k.toInt → (202 - k.toInt).toNat < c → w_threaded_L4 (fun r u => frT S u ∧ OpR u L F M ∧ OpA u l ∧ gtN u ≤ gtN S ∧ (¬ r.toInt = 0 → gtN u < gtN S)) c U x m k := by
    intro c
    induction c with
    | zero => intro U m k _ _ h9; exact absurd h9 (Nat.not_lt_zero _)
    | succ c ih =>
      intro U m k hU k0 hc
      have hU' := hU
      obtain ⟨⟨fU, sU⟩, rU, aU, tU, tm⟩ := hU
      have eg : gN U = gN S := by unfold gN; rw [(fU.2.2.2.2.2 129 (by decide)).1]
      have u81 : qI U 81 = qI S 81 := (fU.2.2.2.2.1 81 (by decide) (by decide)).1
      have xU : 0 ≤ x.toInt ∧ x.toInt < gN U := by rw [eg]; exact hx
      have gU : (qI U 81 x.toInt.toNat).toInt = 0 := by rw [u81]; exact hg
      have b := rU.1
      obtain ⟨w1, w2, w3, w4⟩ := rU.wy xU
      unfold w_threaded_L4 w_threaded_J64
      rw [w2]
      refine ⟨w1, fun _ => hU', fun c1 => ⟨_, fn_wayOf rU xU ⟨k0, by omega⟩, ?_⟩⟩
      have ek : (k + Int32.ofInt 1).toInt = k.toInt + 1 := by rw [t_add (by rw [lo_1]; omega), lo_1]
      rintro r V ⟨eV, r0, r1⟩
      rw [eV]
      have tl := aU.2.1 x.toInt.toNat k.toInt.toNat (by omega) gU (by omega)
      have t0 := (w4 k.toInt.toNat (by omega)).1
      have rl : r.toInt.toNat ≤ l := r1.le (by omega) aU.1.2.1
      have ll := aU.1.1
      have rg := r1.2.2.1 (by omega)
      refine ⟨_, sp_leads rU aU ⟨r0, by omega⟩ rg, ?_⟩
      rintro q W ⟨fW, hq⟩
      have sW : smO U W := smO.fm fW (by decide) (by decide) (by decide)
      have w86 : qI W 86 = qI U 86 := (fW.2.2.2.2.1 86 (by decide) (by decide)).1
      have rW := sW.r rU
      have aW := sW.a aU (fun c e => by rw [w86] at e; exact e)
      have gW := gtN_sm sW
      have fSW : frm [75, 77, 79, 89] [139] S W := fU.tr (fW.mo (by decide) (by decide))
      have sSW : swE S W := sU.tr (swE.sm sW)
      have stay : ∀ a13 : Int32, a13 = (k + Int32.ofInt 1) → w_threaded_L4 (fun r u => frT S u ∧ OpR u L F M ∧ OpA u l ∧ gtN u ≤ gtN S ∧ (¬ r.toInt = 0 → gtN u < gtN S)) c W x m a13 := fun a ea => by
        subst ea
        exact ih W m _ ⟨⟨fSW, sSW⟩, rW, aW, by rw [gW]; exact tU, by rw [gW]; exact tm⟩ (by omega) (by omega)
      refine ⟨fun _ => stay, fun c2 => ⟨fun _ => stay, fun c3 => ?_⟩⟩
      rcases hq with y | ⟨y1, y2, y3, y4⟩
      · exact absurd y c2
      · have e81 : qI W 81 = qI U 81 := sW.2.2.2.2.2.2.1
        have e78 : qI W 78 = qI U 78 := sW.2.2.2.1
        refine ⟨_, sp_setWay rW aW ⟨hx.1, by rw [sW.gn]; exact xU.2⟩ (by rw [e81]; exact gU) ⟨k0, by rw [(sW.tw _ 0).1]; omega⟩ y1 (by rw [e81]; exact y2) (by rw [e78]; exact y3) (r0 := r.toInt.toNat) (by rw [(sW.tw _ _).2]; exact sW.hr.mpr r1) (by rw [e78]; exact y4 c3), ?_⟩
        rintro X ⟨fX, rX, aX, gX, x86, xs⟩ Y eY a ea
        subst ea
        have fY : frm [77] [] X Y := by rw [eY]; exact frm.pI (by decide)
        have sY : smO X Y := smO.fm fY (by decide) (by decide) (by decide)
        have y86 : qI Y 86 = qI X 86 := (fY.2.2.2.2.1 86 (by decide) (by decide)).1
        have gY := gtN_sm sY
        refine ih Y 1 _ ⟨⟨fSW.tr ((fX.mo (by decide) (by decide)).tr (fY.mo (by decide) (by decide))), sSW.tr (xs.tr (swE.sm sY))⟩, sY.r rX, sY.a aX (fun c e => by rw [y86] at e; exact e), by rw [gY]; omega, fun _ => by rw [gY]; omega⟩ (by omega) (by omega)
  unfold w_threaded
  exact ⟨_, L4 _ S 0 0 ⟨⟨frm.rf, swE.rf⟩, h, ha, Nat.le_refl _, fun q => absurd rfl q⟩ (by decide) (Nat.lt_succ_self _)⟩
/-! rules that change rows (behind OpR, OpA, d_iw, d_lw) -/
def rwW (S : MS) (j : Nat) : Nat := if (qI S 81 j).toInt = 0 then (if (qI S 78 j).toInt = 54 ∨ (qI S 78 j).toInt = 55 ∨ (qI S 78 j).toInt = 58 then 2 else 1) else 0
/-- what is there, stores twice -/
def mN (S : MS) : Nat := sumN (rwW S) (gN S).toNat
theorem mN_sm {S u : MS} (s : smO S u) : mN u = mN S := by
  unfold mN
  rw [s.gn]
  refine sumN_eq _ (fun j _ => ?_)
  unfold rwW
  rw [s.2.2.2.1, s.2.2.2.2.2.2.1]
/-- what the rows cost when they are written -/
def wtN (S : MS) : Nat := sumN (fun i => (wtV (qI S 78 i).toInt (qI S 80 i).toInt).toNat) (gN S).toNat
def frW (S u : MS) : Prop := frm [78, 79, 80, 81] [] S u ∧ wtN u ≤ wtN S ∧ swE S u
theorem frW.rf {S : MS} : frW S S := ⟨frm.rf, Nat.le_refl _, swE.rf⟩
theorem frW.tr {S u v : MS} (h : frW S u) (k : frW u v) : frW S v := ⟨h.1.tr k.1, Nat.le_trans k.2.1 h.2.1, h.2.2.tr k.2.2⟩
theorem wt3 {o b : Int} (h : ¬ o = 132 ∧ ¬ o = 170 ∧ ¬ o = 171) : wtV o b ≤ 3 := by
  unfold wtV
  rw [if_neg h.1, if_neg (by omega)]
  exact Int.le_refl _
theorem wt_3 {o b : Int} (h : o = 170 ∨ o = 171 → 0 ≤ b) : 3 ≤ wtV o b := by
  unfold wtV
  by_cases c : o = 132
  · rw [if_pos c]; decide
  · rw [if_neg c]
    by_cases d : o = 170 ∨ o = 171
    · rw [if_pos d]; have := h d; omega
    · rw [if_neg d]; decide
theorem wtN_sm {S u : MS} (s : smO S u) : wtN u = wtN S := by
  unfold wtN
  rw [s.gn, s.2.2.2.1, s.2.2.2.2.2.1]
theorem jp_is {S : MS} {o : Int32} (h : 153 ≤ o.toInt ∧ o.toInt ≤ 167) : ¬ (f_isJump S o).toInt = 0 := by
  unfold f_isJump
  rw [if_neg (by omega), if_pos h.2]
  unfold f_isJump_J28
  decide
theorem rw_gone {U D : MS} {L F M : Int} {l j : Nat} {v : Int32} (hr : OpR U L F M) (ha : OpA U l) (hj : (j : Int) < gN U) (jl : j ≠ l) (hv : ¬ v.toInt = 0) (eD : D = wI U 81 j v) : frW U D ∧ OpR D L F M ∧ OpA D l ∧ mN D ≤ mN U ∧ ((qI U 81 j).toInt = 0 → mN D < mN U) ∧ (∀ i : Nat, i ≠ j → qI D 81 i = qI U 81 i) ∧ qI D 78 = qI U 78 ∧ qI D 79 = qI U 79 := by
  have fD : frm [81] [] U D := by rw [eD]; exact frm.pI (by decide)
  have z := fun (a : Nat) (h1 : a ≠ 0) (h2 : a ∉ [81]) => (fD.2.2.2.2.1 a h1 h2).1
  have d129 : qI D 0 129 = qI U 0 129 := (fD.2.2.2.2.2 129 (by decide)).1
  have d135 : qI D 0 135 = qI U 0 135 := (fD.2.2.2.2.2 135 (by decide)).1
  have eg : gN D = gN U := by unfold gN; rw [d129]
  have e78 : qI D 78 = qI U 78 := z 78 (by decide) (by decide)
  have e79 : qI D 79 = qI U 79 := z 79 (by decide) (by decide)
  have e80 : qI D 80 = qI U 80 := z 80 (by decide) (by decide)
  have e75 : qI D 75 = qI U 75 := z 75 (by decide) (by decide)
  have e81 : ∀ i : Nat, qI D 81 i = if i = j then v else qI U 81 i := fun i => by
    rw [eD, qI_wI]
    by_cases w : i = j
    · rw [if_pos ⟨rfl, w⟩, if_pos w]
    · rw [if_neg (fun y => w y.2), if_neg w]
  have ne : ∀ i : Nat, (qI D 81 i).toInt = 0 → (qI U 81 i).toInt = 0 := fun i q => by
    rw [e81] at q
    by_cases w : i = j
    · rw [if_pos w] at q; exact absurd q hv
    · rw [if_neg w] at q; exact q
  have ew : ∀ i : Nat, rwW D i ≤ rwW U i := fun i => by
    unfold rwW
    rw [e78]
    by_cases q : (qI D 81 i).toInt = 0
    · rw [if_pos q, if_pos (ne i q)]; exact Nat.le_refl _
    · rw [if_neg q]; exact Nat.zero_le _
  refine ⟨⟨fD.mo (by decide) (by decide), by unfold wtN; rw [eg, e78, e80]; exact Nat.le_refl _, ⟨eg, fun i _ => by rw [e78, e79, e80]; exact ⟨rfl, rfl, rfl⟩, fun z _ => by rw [e75]⟩⟩, ?_, ⟨⟨by rw [eg]; exact ha.1.1, by rw [e81, if_neg (fun q => jl q.symm)]; exact ha.1.2.1, fun i i1 i2 q => ha.1.2.2 i i1 (by rw [← eg]; exact i2) (ne i q)⟩, fun i k i1 i2 i3 => ?_, fun c i c1 c2 i1 i2 i3 i4 => ?_⟩, ?_, fun g => ?_, fun i hi => by rw [e81, if_neg hi], e78, e79⟩
  · obtain ⟨p1, p2, p3, p4, p5⟩ := hr
    unfold OpR
    rw [eg, e78, e79, e80, e75, d135, z 82 (by decide) (by decide), z 83 (by decide) (by decide), z 84 (by decide) (by decide), z 85 (by decide) (by decide)]
    exact ⟨p1, p2, p3, p4, p5⟩
  · have et : tgV D i k = tgV U i k := by unfold tgV; rw [e78, e79, e75]; rfl
    have ey : wyN D i = wyN U i := by unfold wyN; rw [e78, e80]; rfl
    rw [et]
    rw [ey] at i3
    exact ha.2.1 i k (by rw [← eg]; exact i1) (ne i i2) i3
  · rw [d135] at c1
    rw [z 86 (by decide) (by decide)] at c2
    rw [z 82 (by decide) (by decide)] at i3
    rw [z 83 (by decide) (by decide)] at i4
    rw [z 84 (by decide) (by decide)]
    exact ha.2.2 c i c1 c2 (by rw [← eg]; exact i1) (ne i i2) i3 i4
  · unfold mN
    rw [eg]
    exact sumN_le _ (fun i _ => ew i)
  · unfold mN
    rw [eg]
    refine sumN_lt (i := j) _ (fun i _ => ew i) (by omega) ?_
    unfold rwW
    rw [e81, if_pos rfl, if_neg hv, if_pos g]
    by_cases q : (qI U 78 j).toInt = 54 ∨ (qI U 78 j).toInt = 55 ∨ (qI U 78 j).toInt = 58
    · rw [if_pos q]; decide
    · rw [if_neg q]; decide
theorem rw_row {U D : MS} {L F M : Int} {l j : Nat} (hr : OpR U L F M) (ha : OpA U l) (hj : (j : Int) < gN U) (fD : frm [78, 79, 80] [] U D) (ex : ∀ i : Nat, i ≠ j → qI D 78 i = qI U 78 i ∧ qI D 79 i = qI U 79 i ∧ qI D 80 i = qI U 80 i) (rv : rV (qI U 75) 40000 (gN U) L F M (qI D 78 j) (qI D 79 j) (qI D 80 j)) (am : ∀ k : Nat, (k : Int) < wyN D j → (tgV D j k).toInt ≤ l) (ns : ¬ ((qI D 78 j).toInt = 54 ∨ (qI D 78 j).toInt = 55 ∨ (qI D 78 j).toInt = 58)) (w3 : wtV (qI D 78 j).toInt (qI D 80 j).toInt ≤ 3) : frW U D ∧ OpR D L F M ∧ OpA D l ∧ mN D ≤ mN U ∧ ((qI U 81 j).toInt = 0 → ((qI U 78 j).toInt = 54 ∨ (qI U 78 j).toInt = 55 ∨ (qI U 78 j).toInt = 58) → mN D < mN U) ∧ qI D 81 = qI U 81 := by
  have z := fun (a : Nat) (h1 : a ≠ 0) (h2 : a ∉ [78, 79, 80]) => (fD.2.2.2.2.1 a h1 h2).1
  have d129 : qI D 0 129 = qI U 0 129 := (fD.2.2.2.2.2 129 (by decide)).1
  have d135 : qI D 0 135 = qI U 0 135 := (fD.2.2.2.2.2 135 (by decide)).1
  have eg : gN D = gN U := by unfold gN; rw [d129]
  have e81 : qI D 81 = qI U 81 := z 81 (by decide) (by decide)
  have e75 : qI D 75 = qI U 75 := z 75 (by decide) (by decide)
  have ew : ∀ i : Nat, rwW D i ≤ rwW U i := fun i => by
    unfold rwW
    rw [e81]
    by_cases q : (qI U 81 i).toInt = 0
    · rw [if_pos q, if_pos q]
      by_cases w : i = j
      · rw [w, if_neg ns]
        by_cases y : (qI U 78 j).toInt = 54 ∨ (qI U 78 j).toInt = 55 ∨ (qI U 78 j).toInt = 58
        · rw [if_pos y]; decide
        · rw [if_neg y]; decide
      · rw [(ex i w).1]; exact Nat.le_refl _
    · rw [if_neg q, if_neg q]; exact Nat.le_refl _
  have wl : wtN D ≤ wtN U := by
    unfold wtN
    rw [eg]
    refine sumN_le _ (fun i _ => ?_)
    show (wtV (qI D 78 i).toInt (qI D 80 i).toInt).toNat ≤ (wtV (qI U 78 i).toInt (qI U 80 i).toInt).toNat
    by_cases w : i = j
    · rw [w]
      have := wt_3 (fun q => ((hr.2.2.1 j hj).2.2.1 q).2.1)
      omega
    · rw [(ex i w).1, (ex i w).2.2]; exact Nat.le_refl _
  refine ⟨⟨fD.mo (by decide) (by decide), wl, eg, fun i q => (by
    by_cases w : i = j
    · rw [w] at q
      have b0 := (rv.2.2.1 q).2.1
      unfold wtV at w3
      rw [if_neg (by omega), if_pos q] at w3
      omega
    · exact ex i w), fun z _ => by rw [e75]⟩, ?_, ⟨⟨by rw [eg]; exact ha.1.1, by rw [e81]; exact ha.1.2.1, by rw [eg, e81]; exact ha.1.2.2⟩, fun i k i1 i2 i3 => ?_, fun c i c1 c2 i1 i2 i3 i4 => ?_⟩, ?_, fun g st => ?_, e81⟩
  · obtain ⟨p1, p2, p3, p4, p5⟩ := hr
    refine ⟨by rw [eg]; exact p1, p2, fun i hi => ?_, by rw [d135]; exact p4, ?_⟩
    · rw [eg] at hi ⊢
      rw [e75]
      by_cases w : i = j
      · rw [w]; exact rv
      · obtain ⟨x1, x2, x3⟩ := ex i w
        rw [x1, x2, x3]
        exact p3 i hi
    · rw [eg, d135, z 82 (by decide) (by decide), z 83 (by decide) (by decide), z 84 (by decide) (by decide), z 85 (by decide) (by decide)]
      exact p5
  · by_cases w : i = j
    · rw [w] at i3 ⊢
      exact am k i3
    · obtain ⟨x1, x2, x3⟩ := ex i w
      have et : tgV D i k = tgV U i k := by unfold tgV; rw [x1, x2, e75]; rfl
      have ey : wyN D i = wyN U i := by unfold wyN; rw [x1, x3]; rfl
      rw [et]
      rw [ey] at i3
      exact ha.2.1 i k (by rw [← eg]; exact i1) (by rw [← e81]; exact i2) i3
  · rw [d135] at c1
    rw [z 86 (by decide) (by decide)] at c2
    rw [z 82 (by decide) (by decide)] at i3
    rw [z 83 (by decide) (by decide)] at i4
    rw [z 84 (by decide) (by decide)]
    exact ha.2.2 c i c1 c2 (by rw [← eg]; exact i1) (by rw [← e81]; exact i2) i3 i4
  · unfold mN
    rw [eg]
    exact sumN_le _ (fun i _ => ew i)
  · unfold mN
    rw [eg]
    refine sumN_lt (i := j) _ (fun i _ => ew i) (by omega) ?_
    unfold rwW
    rw [e81, if_pos g, if_pos g, if_neg ns, if_pos st]
    decide
/-- what a rule answers -/
def RuP (L F M : Int) (l : Nat) (S : MS) (r : Int32) (u : MS) : Prop := frW S u ∧ OpR u L F M ∧ OpA u l ∧ mN u ≤ mN S ∧ (¬ r.toInt = 0 → mN u < mN S)
theorem RuP.no {L F M : Int} {l : Nat} {S : MS} (h : OpR S L F M) (ha : OpA S l) : RuP L F M l S 0 S := ⟨frW.rf, h, ha, Nat.le_refl _, fun q => absurd rfl q⟩
theorem eqr {S u : MS} (f : frW S u) : gN u = gN S := by unfold gN; rw [(f.1.2.2.2.2.2 129 (by decide)).1]
theorem sp_goBoth {S : MS} {L F M : Int} {l : Nat} {x y : Int32} (h : OpR S L F M) (ha : OpA S l) (hx : 0 ≤ x.toInt ∧ x.toInt < gN S) (xl : x.toInt.toNat ≠ l) (hy : 0 ≤ y.toInt ∧ y.toInt < gN S) (yl : y.toInt.toNat ≠ l) (g : (qI S 81 x.toInt.toNat).toInt = 0) : w_goBoth S x y (RuP L F M l S) := by
  have b := h.1
  unfold w_goBoth
  refine ⟨⟨hx.1, by omega⟩, fun D eD => ?_⟩
  obtain ⟨f1, r1, a1, m1, n1, o1, _, _⟩ := rw_gone h ha (j := x.toInt.toNat) (by omega) xl vb1 eD
  have n2 := n1 g
  refine ⟨⟨hy.1, by omega⟩, fun E eE => ?_⟩
  obtain ⟨f2, r2, a2, m2, _⟩ := rw_gone r1 a1 (j := y.toInt.toNat) (by rw [eqr f1]; omega) yl vb1 eE
  exact ⟨f1.tr f2, r2, a2, by omega, fun _ => by omega⟩
theorem sp_become {U : MS} {L F M : Int} {l : Nat} {x op : Int32} {y : Int64} (h : OpR U L F M) (ha : OpA U l) (hx : 0 ≤ x.toInt ∧ x.toInt < gN U) (ho : op.toInt = 18 ∨ op.toInt = 20) : w_become U x op y (fun u => frW U u ∧ OpR u L F M ∧ OpA u l ∧ mN u ≤ mN U ∧ qI u 81 = qI U 81) := by
  have b := h.1
  have rg : 0 ≤ x.toInt ∧ x.toInt < 1200 := by omega
  have fin : ∀ (v w : Int32) (D E G : MS), D = wI U 78 x.toInt.toNat op → E = wI D 79 x.toInt.toNat v → G = wI E 80 x.toInt.toNat w → frW U G ∧ OpR G L F M ∧ OpA G l ∧ mN G ≤ mN U ∧ qI G 81 = qI U 81 := fun v w D E G eD eE eG => by
    have fD : frm [78, 79, 80] [] U D := by rw [eD]; exact frm.pI (by decide)
    have fE : frm [78, 79, 80] [] D E := by rw [eE]; exact frm.pI (by decide)
    have fG : frm [78, 79, 80] [] E G := by rw [eG]; exact frm.pI (by decide)
    have g78 : ∀ i : Nat, qI G 78 i = if i = x.toInt.toNat then op else qI U 78 i := fun i => by
      rw [eG, rdH (by decide), eE, rdH (by decide), eD, qI_wI]
      by_cases q : i = x.toInt.toNat
      · rw [if_pos ⟨rfl, q⟩, if_pos q]
      · rw [if_neg (fun y => q y.2), if_neg q]
    have g79 : ∀ i : Nat, i ≠ x.toInt.toNat → qI G 79 i = qI U 79 i := fun i hi => by
      rw [eG, rdH (by decide), eE, qI_wI, if_neg (fun y => hi y.2), eD, rdH (by decide)]
    have g80 : ∀ i : Nat, i ≠ x.toInt.toNat → qI G 80 i = qI U 80 i := fun i hi => by
      rw [eG, qI_wI, if_neg (fun y => hi y.2), eE, rdH (by decide), eD, rdH (by decide)]
    have eo : qI G 78 x.toInt.toNat = op := by rw [g78, if_pos rfl]
    have nj : (f_isJump G op).toInt = 0 := by
      by_cases q : (f_isJump G op).toInt = 0
      · exact q
      · have := jp_op q; omega
    have ns : (f_isSwitch G op).toInt = 0 := by
      unfold f_isSwitch f_isSwitch_J14
      rw [if_neg (by omega), if_neg (by omega)]
      rfl
    obtain ⟨w1, w2, w3, w4, w5, w6⟩ := rw_row h ha (j := x.toInt.toNat) (by omega) (fD.tr (fE.tr fG)) (fun i hi => ⟨by rw [g78, if_neg hi], g79 i hi, g80 i hi⟩) (by
      rw [eo]
      exact ⟨by unfold opW; omega, fun w => by omega, fun w => by omega, fun w => by omega, fun w => by omega, fun w => by omega, fun w => by omega⟩) (fun k hk => by
      unfold wyN at hk
      rw [eo, if_pos nj, if_pos ns] at hk
      omega) (by rw [eo]; omega) (by rw [eo]; exact wt3 (by omega))
    exact ⟨w1, w2, w3, w4, w6⟩
  unfold w_become w_become_J28
  refine ⟨rg, fun D eD => ⟨fun c1 => ⟨rg, fun E eE => ⟨fun _ => ⟨rg, fun G eG => fin _ _ D E G eD eE eG⟩, fun q => absurd c1 q⟩⟩, fun c1 => ⟨rg, fun E eE => ⟨fun q => absurd q c1, fun _ => ⟨rg, fun G eG => fin _ _ D E G eD eE eG⟩⟩⟩⟩⟩
theorem d_wa {S : MS} {x : Int32} (rg : 0 ≤ x.toInt ∧ x.toInt < 1200) : d_worthAt S x := ⟨rg, ite_T (fun _ => ⟨rg, trivial⟩) (fun _ => ⟨rg, rg, trivial⟩)⟩
theorem fo_J217 {S U : MS} {L F M : Int} {l : Nat} {x y : Int32} (f : frW S U) (h : OpR U L F M) (ha : OpA U l) (m : mN U ≤ mN S) (hx : 0 ≤ x.toInt ∧ x.toInt < gN S) (xl : x.toInt.toNat ≠ l) (hy : 0 ≤ y.toInt ∧ y.toInt < gN S) (yl : y.toInt.toNat ≠ l) (g : (qI U 81 x.toInt.toNat).toInt = 0) : w_folded_J217 (RuP L F M l S) U x y := by
  have b := h.1
  have eg := eqr f
  unfold w_folded_J217
  refine ⟨⟨hx.1, by omega⟩, fun D eD => ?_⟩
  obtain ⟨f1, r1, a1, m1, n1, _⟩ := rw_gone h ha (j := x.toInt.toNat) (by omega) xl vb1 eD
  have n2 := n1 g
  have e1 := eqr f1
  refine ⟨⟨hy.1, by omega⟩, fun E eE => ?_⟩
  obtain ⟨f2, r2, a2, m2, _⟩ := rw_gone r1 a1 (j := y.toInt.toNat) (by omega) yl vb1 eE
  exact ⟨f.tr (f1.tr f2), r2, a2, by omega, fun _ => by omega⟩
theorem sp_turnedRow {S : MS} {L F M : Int} {l : Nat} {x y : Int32} (h : OpR S L F M) (ha : OpA S l) (hx : 0 ≤ x.toInt ∧ x.toInt < gN S) (hy : 0 ≤ y.toInt ∧ y.toInt < gN S) (yl : y.toInt.toNat ≠ l) (g : (qI S 81 y.toInt.toNat).toInt = 0) : w_turnedRow S x y (RuP L F M l S) := by
  have b := h.1
  have rx : 0 ≤ x.toInt ∧ x.toInt < 1200 := by omega
  have ry : 0 ≤ y.toInt ∧ y.toInt < 1200 := by omega
  have go : ∀ (op : Int32) (v : Int64), (op.toInt = 18 ∨ op.toInt = 20) → ∃ Q24, w_become S x op v Q24 ∧ ∀ S25, Q24 S25 → w_turnedRow_J193 (RuP L F M l S) S25 y := fun op v ho => by
    refine ⟨_, sp_become h ha hx ho, ?_⟩
    rintro U ⟨f, r, a, m, e81⟩
    have eg := eqr f
    unfold w_turnedRow_J193
    refine ⟨ry, fun D eD => ?_⟩
    obtain ⟨f1, r1, a1, m1, n1, _⟩ := rw_gone r a (j := y.toInt.toNat) (by omega) yl vb1 eD
    have n2 := n1 (by rw [e81]; exact g)
    exact ⟨f.tr f1, r1, a1, by omega, fun _ => by omega⟩
  have no := RuP.no h ha
  have J145 : ∀ t : Int32, w_turnedRow_J145 (RuP L F M l S) S x y t := fun t => by
    unfold w_turnedRow_J145
    exact ⟨rx, fun _ => ⟨fun _ => no, fun _ => ⟨fun _ => no, fun _ => ⟨rx, trivial, go _ _ (Or.inl rfl)⟩⟩⟩, fun _ => no⟩
  have J110 : ∀ t : Int32, w_turnedRow_J110 (RuP L F M l S) S x y t := fun t => by
    unfold w_turnedRow_J110
    exact ⟨rx, fun _ => ⟨fun _ => ⟨d_wa rx, go _ _ (Or.inl rfl)⟩, fun _ => J145 t⟩, fun _ => J145 t⟩
  have J75 : ∀ t : Int32, w_turnedRow_J75 (RuP L F M l S) S x y t := fun t => by
    unfold w_turnedRow_J75
    exact ⟨rx, fun _ => ⟨fun _ => ⟨rx, go _ _ (Or.inr rfl)⟩, fun _ => J110 t⟩, fun _ => J110 t⟩
  have J42 : ∀ t : Int32, w_turnedRow_J42 (RuP L F M l S) S x y t := fun t => by
    unfold w_turnedRow_J42
    exact ⟨rx, fun _ => ⟨fun _ => ⟨d_wa rx, go _ _ (Or.inr rfl)⟩, fun _ => J75 t⟩, fun _ => J75 t⟩
  unfold w_turnedRow
  exact ⟨ry, fun t _ => ⟨rx, fun _ => ⟨fun _ => ⟨rx, go _ _ (Or.inl rfl)⟩, fun _ => J42 t⟩, fun _ => J42 t⟩⟩
theorem i32_0 {y : Int64} (h : -2147483648 ≤ y.toInt ∧ y.toInt ≤ 2147483647) (n : ¬ y = 0) : y.toInt32.toInt ≠ 0 := fun q => by
  rw [tl_to h] at q
  exact n (Int64.toInt_inj.mp (by rw [q]; rfl))
theorem sp_folded {S : MS} {L F M : Int} {l : Nat} {x y z : Int32} (h : OpR S L F M) (ha : OpA S l) (hx : 0 ≤ x.toInt ∧ x.toInt < gN S) (hy : 0 ≤ y.toInt ∧ y.toInt < gN S) (yl : y.toInt.toNat ≠ l) (hz : z.toInt = l) (g : (qI S 81 y.toInt.toNat).toInt = 0) : w_folded S x y z (RuP L F M l S) := by
  have b := h.1
  have rx : 0 ≤ x.toInt ∧ x.toInt < 1200 := by omega
  have ry : 0 ≤ y.toInt ∧ y.toInt < 1200 := by omega
  have no := RuP.no h ha
  unfold w_folded
  refine ⟨_, fn_behind (by omega) hy, ?_⟩
  rintro r u ⟨eu, r0, r1⟩
  subst eu
  refine ⟨fun _ => no, fun c1 => ⟨fun _ => no, fun c2 => ?_⟩⟩
  have c3 : r.toInt < gN u := by unfold gN; omega
  have rr : 0 ≤ r.toInt ∧ r.toInt < 1200 := by omega
  have go : ∀ (op : Int32) (v : Int64), (op.toInt = 18 ∨ op.toInt = 20) → ∃ Q24, w_become u x op v Q24 ∧ ∀ S25, Q24 S25 → w_folded_J217 (RuP L F M l u) S25 y r := fun op v ho => by
    refine ⟨_, sp_become h ha hx ho, ?_⟩
    rintro U ⟨f, r, a, m, e81⟩
    exact fo_J217 f r a m hy yl ⟨r0, c3⟩ (by omega) (by rw [e81]; exact g)
  have dO : ∀ o : Int32, d_isOperator u o := fun o => by
    unfold d_isOperator d_isOperator_J12 d_isOperator_J25 d_isOperator_J32
    simp only [ite_self]
  have dL : ∀ o : Int32, d_lower u o := fun o => by
    unfold d_lower d_lower_J14
    simp only [ite_self]
  have dU : ∀ o : Int32, d_upper u o := fun o => by
    unfold d_upper d_upper_J26 d_upper_J31
    simp only [ite_self]
  have J162 : ∀ v : Int64, w_folded_J162 (RuP L F M l u) u v 18 x y r := fun v => go _ _ (Or.inl rfl)
  refine ⟨⟨r0, by omega⟩, fun _ => ⟨rr, dO _, fun _ => no, fun _ => ⟨rr, fun o eo => ⟨rx, dL _, fun k1 => ⟨ry, dU _, fun k2 => ⟨d_wa rx, fun a ea => ⟨d_wa ry, fun v ev => ?_⟩⟩, fun _ => no⟩, fun _ => no⟩⟩⟩, fun _ => no⟩
  have J123 : (108 ≤ o.toInt ∧ o.toInt ≤ 113 → ¬ v = 0) → w_folded_J123 (RuP L F M l u) u x y r o a v := fun nz => by
    unfold w_folded_J123
    refine ⟨fun _ => ⟨fun _ => ⟨fun _ => J162 _, fun _ => J162 _⟩, fun _ => J162 _⟩, fun _ => ⟨rx, fun k3 => ⟨d_iw (fun w => ?_), go _ _ (Or.inl rfl)⟩, fun _ => ⟨d_lw (fun w => nz (by omega)), go _ _ (Or.inr rfl)⟩⟩⟩
    have up : (f_upper u o).toInt = 18 := by
      rcases w with w | w
      · have : o = 108 := Int32.toInt_inj.mp (by rw [w]; rfl)
        rw [this]; rfl
      · have : o = 112 := Int32.toInt_inj.mp (by rw [w]; rfl)
        rw [this]; rfl
    have v18 : v = (qI u 79 y.toInt.toNat).toInt64 := by
      rw [ev]
      unfold f_worthAt
      rw [if_pos (by rw [k2, up])]
    refine i32_0 ?_ (nz (by omega))
    rw [v18, Int32.toInt_toInt64]
    exact ⟨Int32.le_toInt _, Int.le_of_lt_add_one (Int32.toInt_lt _)⟩
  exact ⟨fun q => J123 (fun w => by omega), fun q => ⟨fun q2 => J123 (fun w => by omega), fun q2 => ⟨fun _ => no, fun q3 => J123 (fun _ => lg0 q3)⟩⟩⟩
