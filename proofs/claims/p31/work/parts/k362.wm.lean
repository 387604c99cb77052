/-! values behind a move (behind wk_val) -/
def okP (n : Int) (b : AS) (pl : Nat → TV) : Prop := ∀ k : Nat, (k : Int) < (aT b).toInt → okV n (nb (aP b k)) (pl k)
theorem okP.push {n : Int} {b : AS} {t : Int32} {pl : Nat → TV} (h : okP n b pl) (ht : 0 ≤ (aT b).toInt ∧ (aT b).toInt < 28) (hv : okV n (nb t) (pl (aT b).toInt.toNat)) : okP n (aPush t b) pl := by
  intro k hk
  rw [t_push ht] at hk
  obtain ⟨p1, p2⟩ := P_push (t := t) (a := b) ht.1
  by_cases c : k = (aT b).toInt.toNat
  · subst c
    rw [p2, nb_nb]
    exact hv
  · rw [p1 k (by omega)]
    exact h k (by omega)
/-- what a move does to the pile -/
def mvP (op : Int32) (T : Int) (pl pl' : Nat → TV) : Prop := (op.toInt = 87 → ∀ k : Nat, (k : Int) < T - 1 → pl' k = pl k) ∧ (op.toInt = 88 → ∀ k : Nat, (k : Int) < T - 2 → pl' k = pl k) ∧ (op.toInt = 89 → (∀ k : Nat, (k : Int) < T → pl' k = pl k) ∧ pl' T.toNat = nW (pl (T - 1).toNat)) ∧ (op.toInt = 90 → (∀ k : Nat, (k : Int) < T - 2 → pl' k = pl k) ∧ pl' (T - 2).toNat = nW (pl (T - 1).toNat) ∧ pl' (T - 1).toNat = nW (pl (T - 2).toNat) ∧ pl' T.toNat = nW (pl (T - 1).toNat)) ∧ (op.toInt = 92 → (∀ k : Nat, (k : Int) < T → pl' k = pl k) ∧ pl' T.toNat = nW (pl (T - 2).toNat) ∧ pl' (T + 1).toNat = nW (pl (T - 1).toNat)) ∧ (op.toInt = 95 → (∀ k : Nat, (k : Int) < T - 2 → pl' k = pl k) ∧ pl' (T - 2).toNat = nW (pl (T - 1).toNat) ∧ pl' (T - 1).toNat = nW (pl (T - 2).toNat))
theorem mvn {S : MS} {op : Int32} : ((op.toInt = 87 ∨ op.toInt = 89) → (f_moved S op).toInt = 1) ∧ ((op.toInt = 88 ∨ op.toInt = 90 ∨ op.toInt = 92 ∨ op.toInt = 95) → (f_moved S op).toInt = 2) := by
  unfold f_moved f_moved_J12 f_moved_J40
  refine ⟨fun q => ?_, fun q => ?_⟩
  · by_cases z1 : op.toInt = 87
    · rw [if_pos z1]; rfl
    · rw [if_neg z1, if_pos (by omega)]; rfl
  · rw [if_neg (by omega), if_neg (by omega)]
    by_cases z3 : op.toInt = 88
    · rw [if_pos z3]; rfl
    · rw [if_neg z3]
      by_cases z4 : op.toInt = 90
      · rw [if_pos z4]; rfl
      · rw [if_neg z4]
        by_cases z5 : op.toInt = 92
        · rw [if_pos z5]; rfl
        · rw [if_neg z5, if_pos (by omega)]; rfl
theorem mv_val {n : Int} {a : AS} {op : Int32} {pl pl' : Nat → TV} (hA : okP n a pl) (ho : op.toInt = 87 ∨ op.toInt = 88 ∨ op.toInt = 89 ∨ op.toInt = 90 ∨ op.toInt = 92 ∨ op.toInt = 95) (ht : 1 ≤ (aT a).toInt ∧ (aT a).toInt ≤ 24) (h2 : op.toInt = 87 ∨ op.toInt = 89 ∨ 2 ≤ (aT a).toInt) (hp : mvP op (aT a).toInt pl pl') : aL (aMove op a) = aL a ∧ okP n (aMove op a) pl' := by
  have tp := t_pull (a := a) ⟨ht.1, by omega⟩
  have ey : aTop a = aP a ((aT a).toInt - 1).toNat := by
    unfold aTop
    rw [show (aT a - (1 : Int32)).toInt = (aT a).toInt - 1 by rw [t_sub (by rw [li_1]; omega), li_1]]
  have vy := hA ((aT a).toInt - 1).toNat (by omega)
  rw [← ey] at vy
  obtain ⟨m87, m88, m89, m90, m92, m95⟩ := hp
  have pick : ∀ (c : Prop) [Decidable c] (d : Prop) [Decidable d] (t : Int32) (v : TV), okV n (nb t) v → okV n (nb (if c then (if d then 0 else t) else t)) v := fun c _ d _ t v hv => by
    by_cases z : c
    · rw [if_pos z]
      by_cases z2 : d
      · rw [if_pos z2]; exact okV.z0
      · rw [if_neg z2]; exact hv
    · rw [if_neg z]; exact hv
  unfold aMove
  simp only
  by_cases o : op.toInt = 87 ∨ op.toInt = 89
  · have ea : (if op.toInt = 87 then aPull a else if op.toInt = 89 then aPull a else aPull (aPull a)) = aPull a := by
      rcases o with o | o
      · rw [if_pos o]
      · rw [if_neg (by omega), if_pos o]
    rw [ea]
    generalize (if op.toInt = 87 then (1 : Int32) else if op.toInt = 89 then 1 else aTop (aPull a)) = X
    generalize (if (op.toInt = 88 ∨ op.toInt = 92) ∧ X.toInt = 2 ∧ (aTop a).toInt = 3 then (1 : Int32) else 0) = W
    have py := fun v => pick (W.toInt = 0) ((isOn (aTop a)).toInt = 0) (aTop a) v
    revert py
    generalize (if W.toInt = 0 then (if (isOn (aTop a)).toInt = 0 then 0 else aTop a) else aTop a) = y2
    generalize (if W.toInt = 0 then (if (isOn X).toInt = 0 then 0 else X) else X) = x2
    generalize (if W.toInt = 0 then (if (isOn X).toInt = 0 then (0 : Int32) else if (isOn (aTop a)).toInt = 0 then 0 else 1) else 1) = gg
    intro py
    have tn : (aT (aNeed gg (aPull a))).toInt = (aT a).toInt - 1 := tp
    have base : (∀ k : Nat, (k : Int) < (aT a).toInt - 1 → pl' k = pl k) → okP n (aNeed gg (aPull a)) pl' := fun e k hk => by
      rw [tn] at hk
      rw [e k hk]
      exact hA k (by omega)
    by_cases z : op.toInt = 87
    · rw [if_pos z]
      exact ⟨rfl, base (m87 z)⟩
    · have z9 : op.toInt = 89 := by omega
      have n1 : ¬ op.toInt = 88 := by omega
      have n2 : ¬ op.toInt = 90 := by omega
      have n3 : ¬ op.toInt = 92 := by omega
      have n4 : ¬ op.toInt = 95 := by omega
      obtain ⟨q1, q2⟩ := m89 z9
      rw [if_neg z, if_neg n1]
      unfold aMv1
      simp only [if_neg n2, if_neg n3, if_neg n4, if_pos z9]
      refine ⟨rfl, ?_⟩
      have t1 := t_push (t := y2) (a := aNeed gg (aPull a)) ⟨by omega, by omega⟩
      have e1 := (base (fun k hk => q1 k (by omega))).push (t := y2) ⟨by omega, by omega⟩ (by rw [tn, q1 _ (by omega)]; exact py _ vy)
      refine e1.push ⟨by omega, by omega⟩ ?_
      rw [t1, tn, show (aT a).toInt - 1 + 1 = (aT a).toInt by omega, q2]
      exact py _ vy.nw
  · have o1 : ¬ op.toInt = 87 := fun q => o (Or.inl q)
    have o2 : ¬ op.toInt = 89 := fun q => o (Or.inr q)
    have tp2 := t_pull (a := aPull a) ⟨by omega, by omega⟩
    have ex : aTop (aPull a) = aP a ((aT a).toInt - 2).toNat := by
      unfold aTop
      rw [show (aT (aPull a) - (1 : Int32)).toInt = (aT a).toInt - 2 by rw [t_sub (by rw [li_1]; omega), li_1]; omega]
      rfl
    have vx := hA ((aT a).toInt - 2).toNat (by omega)
    rw [← ex] at vx
    simp only [if_neg o1, if_neg o2]
    generalize (if (op.toInt = 88 ∨ op.toInt = 92) ∧ (aTop (aPull a)).toInt = 2 ∧ (aTop a).toInt = 3 then (1 : Int32) else 0) = W
    have py := fun v => pick (W.toInt = 0) ((isOn (aTop a)).toInt = 0) (aTop a) v
    have px := fun v => pick (W.toInt = 0) ((isOn (aTop (aPull a))).toInt = 0) (aTop (aPull a)) v
    revert py px
    generalize (if W.toInt = 0 then (if (isOn (aTop a)).toInt = 0 then 0 else aTop a) else aTop a) = y2
    generalize (if W.toInt = 0 then (if (isOn (aTop (aPull a))).toInt = 0 then 0 else aTop (aPull a)) else aTop (aPull a)) = x2
    generalize (if W.toInt = 0 then (if (isOn (aTop (aPull a))).toInt = 0 then (0 : Int32) else if (isOn (aTop a)).toInt = 0 then 0 else 1) else 1) = gg
    intro py px
    have tn : (aT (aNeed gg (aPull (aPull a)))).toInt = (aT a).toInt - 2 := by
      show (aT (aPull (aPull a))).toInt = _
      omega
    have base : (∀ k : Nat, (k : Int) < (aT a).toInt - 2 → pl' k = pl k) → okP n (aNeed gg (aPull (aPull a))) pl' := fun e k hk => by
      rw [tn] at hk
      rw [e k hk]
      exact hA k (by omega)
    revert tn base
    have lN : aL (aNeed gg (aPull (aPull a))) = aL a := rfl
    revert lN
    generalize aNeed gg (aPull (aPull a)) = b
    intro lN tn base
    by_cases z : op.toInt = 88
    · rw [if_pos z]
      exact ⟨lN, base (m88 z)⟩
    · rw [if_neg z]
      unfold aMv1
      by_cases z0 : op.toInt = 90
      · have n3 : ¬ op.toInt = 92 := by omega
        have n4 : ¬ op.toInt = 95 := by omega
        obtain ⟨q1, q2, q3, q4⟩ := m90 z0
        simp only [if_pos z0, if_neg n3, if_neg n4, if_neg o2]
        refine ⟨lN, ?_⟩
        have t1 := t_push (t := y2) (a := b) ⟨by omega, by omega⟩
        have t2 := t_push (t := x2) (a := aPush y2 b) ⟨by omega, by omega⟩
        have e1 := (base q1).push (t := y2) ⟨by omega, by omega⟩ (by rw [tn, q2]; exact py _ vy.nw)
        have e2 := e1.push (t := x2) ⟨by omega, by omega⟩ (by rw [t1, tn, show (aT a).toInt - 2 + 1 = (aT a).toInt - 1 by omega, q3]; exact px _ vx.nw)
        refine e2.push ⟨by omega, by omega⟩ ?_
        rw [t2, t1, tn, show (aT a).toInt - 2 + 1 + 1 = (aT a).toInt by omega, q4]
        exact py _ vy.nw
      · by_cases z2 : op.toInt = 92
        · have n4 : ¬ op.toInt = 95 := by omega
          obtain ⟨q1, q2, q3⟩ := m92 z2
          simp only [if_neg z0, if_pos z2, if_neg n4]
          refine ⟨lN, ?_⟩
          have t1 := t_push (t := x2) (a := b) ⟨by omega, by omega⟩
          have t2 := t_push (t := y2) (a := aPush x2 b) ⟨by omega, by omega⟩
          have t3 := t_push (t := x2) (a := aPush y2 (aPush x2 b)) ⟨by omega, by omega⟩
          have e1 := (base (fun k hk => q1 k (by omega))).push (t := x2) ⟨by omega, by omega⟩ (by rw [tn, q1 _ (by omega)]; exact px _ vx)
          have e2 := e1.push (t := y2) ⟨by omega, by omega⟩ (by rw [t1, tn, show (aT a).toInt - 2 + 1 = (aT a).toInt - 1 by omega, q1 _ (by omega)]; exact py _ vy)
          have e3 := e2.push (t := x2) ⟨by omega, by omega⟩ (by rw [t2, t1, tn, show (aT a).toInt - 2 + 1 + 1 = (aT a).toInt by omega, q2]; exact px _ vx.nw)
          refine e3.push ⟨by omega, by omega⟩ ?_
          rw [t3, t2, t1, tn, show (aT a).toInt - 2 + 1 + 1 + 1 = (aT a).toInt + 1 by omega, q3]
          exact py _ vy.nw
        · have n4 : op.toInt = 95 := by omega
          obtain ⟨q1, q2, q3⟩ := m95 n4
          simp only [if_neg z0, if_neg z2, if_pos n4, if_neg o2]
          refine ⟨lN, ?_⟩
          have t1 := t_push (t := y2) (a := b) ⟨by omega, by omega⟩
          have e1 := (base q1).push (t := y2) ⟨by omega, by omega⟩ (by rw [tn, q2]; exact py _ vy.nw)
          refine e1.push ⟨by omega, by omega⟩ ?_
          rw [t1, tn, show (aT a).toInt - 2 + 1 = (aT a).toInt - 1 by omega, q3]
          exact px _ vx.nw
/-! a move's height and values (behind mv_val) -/
theorem lfn {S : MS} {op : Int32} : ((op.toInt = 87 ∨ op.toInt = 88) → (f_left S op).toInt = 0) ∧ ((op.toInt = 89 ∨ op.toInt = 95) → (f_left S op).toInt = 2) ∧ (op.toInt = 90 → (f_left S op).toInt = 3) ∧ (op.toInt = 92 → (f_left S op).toInt = 4) := by
  unfold f_left f_left_J12
  refine ⟨fun q => ?_, fun q => ?_, fun q => ?_, fun q => ?_⟩
  · rw [if_neg (by omega), if_neg (by omega), if_neg (by omega), if_neg (by omega)]; rfl
  · by_cases z : op.toInt = 89
    · rw [if_pos z]; rfl
    · rw [if_neg z, if_pos (by omega)]; rfl
  · rw [if_neg (by omega), if_neg (by omega), if_pos q]; rfl
  · rw [if_neg (by omega), if_neg (by omega), if_neg (by omega), if_pos q]; rfl
theorem t_mv {S : MS} {a : AS} {op : Int32} (ho : op.toInt = 87 ∨ op.toInt = 88 ∨ op.toInt = 89 ∨ op.toInt = 90 ∨ op.toInt = 92 ∨ op.toInt = 95) (ht : 1 ≤ (aT a).toInt ∧ (aT a).toInt ≤ 24) (h2 : op.toInt = 87 ∨ op.toInt = 89 ∨ 2 ≤ (aT a).toInt) : (aT (aMove op a)).toInt = (aT a).toInt - (f_moved S op).toInt + (f_left S op).toInt := by
  have tp := t_pull (a := a) ⟨ht.1, by omega⟩
  have m := mvn (S := S) (op := op)
  have l := lfn (S := S) (op := op)
  have P := fun (t : Int32) (b : AS) (hb : 0 ≤ (aT b).toInt ∧ (aT b).toInt < 28) => t_push (t := t) (a := b) hb
  unfold aMove
  simp only
  by_cases o : op.toInt = 87 ∨ op.toInt = 89
  · have ea : (if op.toInt = 87 then aPull a else if op.toInt = 89 then aPull a else aPull (aPull a)) = aPull a := by
      rcases o with o | o
      · rw [if_pos o]
      · rw [if_neg (by omega), if_pos o]
    rw [ea, m.1 o]
    generalize (if op.toInt = 87 then (1 : Int32) else if op.toInt = 89 then 1 else aTop (aPull a)) = X
    generalize (if (op.toInt = 88 ∨ op.toInt = 92) ∧ X.toInt = 2 ∧ (aTop a).toInt = 3 then (1 : Int32) else 0) = W
    generalize (if W.toInt = 0 then (if (isOn (aTop a)).toInt = 0 then 0 else aTop a) else aTop a) = y2
    generalize (if W.toInt = 0 then (if (isOn X).toInt = 0 then 0 else X) else X) = x2
    generalize (if W.toInt = 0 then (if (isOn X).toInt = 0 then (0 : Int32) else if (isOn (aTop a)).toInt = 0 then 0 else 1) else 1) = gg
    have tn : (aT (aNeed gg (aPull a))).toInt = (aT a).toInt - 1 := tp
    by_cases z : op.toInt = 87
    · rw [if_pos z, tn, l.1 (Or.inl z)]; omega
    · have z9 : op.toInt = 89 := by omega
      have n1 : ¬ op.toInt = 88 := by omega
      have n2 : ¬ op.toInt = 90 := by omega
      have n3 : ¬ op.toInt = 92 := by omega
      have n4 : ¬ op.toInt = 95 := by omega
      rw [if_neg z, if_neg n1]
      unfold aMv1
      simp only [if_neg n2, if_neg n3, if_neg n4, if_pos z9]
      have t1 := P y2 (aNeed gg (aPull a)) ⟨by omega, by omega⟩
      rw [P y2 _ ⟨by omega, by omega⟩, t1, tn, l.2.1 (Or.inl z9)]
      omega
  · have o1 : ¬ op.toInt = 87 := fun q => o (Or.inl q)
    have o2 : ¬ op.toInt = 89 := fun q => o (Or.inr q)
    have tp2 := t_pull (a := aPull a) ⟨by omega, by omega⟩
    rw [m.2 (by omega)]
    simp only [if_neg o1, if_neg o2]
    generalize (if (op.toInt = 88 ∨ op.toInt = 92) ∧ (aTop (aPull a)).toInt = 2 ∧ (aTop a).toInt = 3 then (1 : Int32) else 0) = W
    generalize (if W.toInt = 0 then (if (isOn (aTop a)).toInt = 0 then 0 else aTop a) else aTop a) = y2
    generalize (if W.toInt = 0 then (if (isOn (aTop (aPull a))).toInt = 0 then 0 else aTop (aPull a)) else aTop (aPull a)) = x2
    generalize (if W.toInt = 0 then (if (isOn (aTop (aPull a))).toInt = 0 then (0 : Int32) else if (isOn (aTop a)).toInt = 0 then 0 else 1) else 1) = gg
    have tn : (aT (aNeed gg (aPull (aPull a)))).toInt = (aT a).toInt - 2 := by
      show (aT (aPull (aPull a))).toInt = _
      omega
    revert tn
    generalize aNeed gg (aPull (aPull a)) = b
    intro tn
    by_cases z : op.toInt = 88
    · rw [if_pos z, tn, l.1 (Or.inr z)]; omega
    · rw [if_neg z]
      unfold aMv1
      by_cases z0 : op.toInt = 90
      · have n3 : ¬ op.toInt = 92 := by omega
        have n4 : ¬ op.toInt = 95 := by omega
        simp only [if_pos z0, if_neg n3, if_neg n4, if_neg o2]
        have t1 := P y2 b ⟨by omega, by omega⟩
        have t2 := P x2 (aPush y2 b) ⟨by omega, by omega⟩
        rw [P y2 _ ⟨by omega, by omega⟩, t2, t1, tn, l.2.2.1 z0]
        omega
      · by_cases z2 : op.toInt = 92
        · have n4 : ¬ op.toInt = 95 := by omega
          simp only [if_neg z0, if_pos z2, if_neg n4]
          have t1 := P x2 b ⟨by omega, by omega⟩
          have t2 := P y2 (aPush x2 b) ⟨by omega, by omega⟩
          have t3 := P x2 (aPush y2 (aPush x2 b)) ⟨by omega, by omega⟩
          rw [P y2 _ ⟨by omega, by omega⟩, t3, t2, t1, tn, l.2.2.2 z2]
          omega
        · have n4 : op.toInt = 95 := by omega
          simp only [if_neg z0, if_neg z2, if_pos n4, if_neg o2]
          have t1 := P y2 b ⟨by omega, by omega⟩
          rw [P x2 _ ⟨by omega, by omega⟩, t1, tn, l.2.1 (Or.inr n4)]
          omega
theorem wk_mval {S : MS} {a : AS} {x : Int32} {p : Nat} {n : Int} {sl pl sl' pl' : Nat → TV} (hT : tkV S x ≤ (aT a).toInt ∧ (aT a).toInt ≤ 24) (hm : 0 < (f_moved S (f_op S x)).toInt) (hA : okA n a sl pl) (hb : (∀ k : Nat, k < 24 → nb (aL a k) = aL a k) ∧ ∀ k : Nat, (k : Int) < (aT a).toInt → nb (aP a k) = aP a k) (s1 : ∀ k : Nat, k < 24 → sl' k = sl k) (s2 : mvP (f_op S x) (aT a).toInt pl pl') :
    (∀ k : Nat, k < 24 → okV n (nb (wkT S x p a k)) (sl' k)) ∧ ∀ k : Nat, (k : Int) < (aT a).toInt - tkV S x + gvV S x → okV n (nb (wkT S x p a (24 + k))) (pl' k) := by
  have o := mv_iff.mp hm
  have eT : tkV S x = (f_moved S (f_op S x)).toInt := by unfold tkV; rw [if_pos hm]
  have eG : gvV S x = (f_left S (f_op S x)).toInt := by unfold gvV; rw [if_pos hm]
  have m := mvn (S := S) (op := f_op S x)
  have h2 : (f_op S x).toInt = 87 ∨ (f_op S x).toInt = 89 ∨ 2 ≤ (aT a).toInt := by
    by_cases z : (f_op S x).toInt = 87 ∨ (f_op S x).toInt = 89
    · omega
    · have := m.2 (by omega); omega
  have ew : wkV S x p a = aMove (f_op S x) (aL a, aP a, aT a, 1) := by
    unfold wkV aWork
    simp only
    rw [if_pos o]
  have hP : okP n (aL a, aP a, aT a, 1) pl := fun k hk => by
    show okV n (nb (aP a k)) (pl k)
    rw [hb.2 k hk]
    exact hA.2 k hk
  obtain ⟨e1, e2⟩ := mv_val (a := (aL a, aP a, aT a, 1)) hP o ⟨by show 1 ≤ (aT a).toInt; omega, hT.2⟩ h2 s2
  have e3 := t_mv (S := S) (a := (aL a, aP a, aT a, 1)) o ⟨by show 1 ≤ (aT a).toInt; omega, hT.2⟩ h2
  rw [← ew] at e1 e2 e3
  refine ⟨fun k hk => ?_, fun k hk => ?_⟩
  · have q : wkT S x p a k = aL a k := by unfold wkT; rw [if_pos hk, e1]; rfl
    rw [q, hb.1 k hk, s1 k hk]
    exact hA.1 k hk
  · have q : wkT S x p a (24 + k) = aP (wkV S x p a) k := by
      unfold wkT
      rw [if_neg (by omega), show 24 + k - 24 = k by omega]
    rw [q]
    refine e2 k ?_
    rw [e3]
    show (k : Int) < (aT a).toInt - _ + _
    omega
/-! the machine's small methods (behind wk_mval, fr_got) -/
def fN (S : MS) : Int := (qI S 0 97).toInt - 1
def fT (S : MS) : Int := (qI S 44 (fN S).toNat).toInt
def FrB (S : MS) : Prop := 1 ≤ (qI S 0 97).toInt ∧ (qI S 0 97).toInt ≤ 60
theorem FrB.e {S : MS} (h : FrB S) : (qI S 0 97 - (1 : Int32)).toInt = fN S ∧ 0 ≤ fN S ∧ fN S < 60 ∧ ((24 : Int32) * (qI S 0 97 - (1 : Int32))).toInt = 24 * fN S := by
  have q : (qI S 0 97 - (1 : Int32)).toInt = fN S := by
    obtain ⟨a, b⟩ := h
    rw [t_sub (by rw [li_1]; omega), li_1]
    rfl
  have n : 0 ≤ fN S ∧ fN S < 60 := by
    unfold fN
    obtain ⟨a, b⟩ := h
    omega
  refine ⟨q, n.1, n.2, ?_⟩
  rw [t_mul (by rw [li_24, q]; omega), li_24, q]
theorem sp_goTo {S : MS} {x : Int32} (h : FrB S) : w_goTo S x (fun u => frm [43] [] S u ∧ qI u 43 = upd (qI S 43) (fN S).toNat x) := by
  obtain ⟨e1, e2, e3, e4⟩ := h.e
  unfold w_goTo
  rw [e1]
  refine ⟨⟨e2, e3⟩, fun A eA => ?_⟩
  rw [eA]
  exact ⟨frm.pI (by decide), qI_self⟩
theorem sp_got {S : MS} {n : Int32} (h : FrB S) (hn : 1 ≤ n.toInt ∧ n.toInt ≤ fT S) (hT : fT S ≤ 24) : w_got S n (fun r u => r = qJ S 46 (24 * fN S + fT S - n.toInt).toNat ∧ frm [44] [] S u ∧ qI u 44 = upd (qI S 44) (fN S).toNat (qI S 44 (fN S).toNat - n) ∧ fT u = fT S - n.toInt) := by
  obtain ⟨e1, e2, e3, e4⟩ := h.e
  have eT : (qI S 44 (fN S).toNat - n).toInt = fT S - n.toInt := by
    unfold fT at hn hT ⊢
    exact t_sub (by omega)
  unfold w_got
  intro a2 ea
  have q : a2.toInt = fN S := by rw [ea]; exact e1
  have q4 : ((24 : Int32) * a2).toInt = 24 * fN S := by rw [ea]; exact e4
  rw [q]
  refine ⟨⟨e2, e3⟩, ⟨e2, e3⟩, fun A eA => ?_⟩
  have a44 : qI A 44 = upd (qI S 44) (fN S).toNat (qI S 44 (fN S).toNat - n) := by rw [eA]; exact qI_self
  have aT' : qI A 44 (fN S).toNat = qI S 44 (fN S).toNat - n := by rw [a44]; unfold upd; rw [if_pos rfl]
  have j46 : qJ A 46 = qJ S 46 := by rw [eA]; rfl
  have i97 : qI A 0 97 = qI S 0 97 := by rw [eA, rdH (by decide)]
  have fA : fN A = fN S := by unfold fN; rw [i97]
  have ix : ((24 : Int32) * a2 + qI A 44 (fN S).toNat).toInt = 24 * fN S + fT S - n.toInt := by
    rw [aT', t_add (by rw [q4, eT]; omega), q4, eT]
    omega
  rw [ix, j46]
  refine ⟨⟨e2, e3⟩, ⟨by omega, by omega⟩, rfl, by rw [eA]; exact frm.pI (by decide), a44, ?_⟩
  unfold fT
  rw [fA, aT', eT]
  rfl
/-- a value is put -/
def PtP (S : MS) (v : TV) (n : Int32) (u : MS) : Prop := frm [44, 46, 48] [] S u ∧ (∀ j : Nat, qW u 46 j = if j = (24 * fN S + fT S).toNat then v else if n.toInt = 2 ∧ j = (24 * fN S + fT S + 1).toNat then (qJ S 46 j, 3) else qW S 46 j) ∧ qI u 44 = upd (qI S 44) (fN S).toNat (qI S 44 (fN S).toNat + n) ∧ fT u = fT S + n.toInt
theorem sp_putT {S : MS} {v : Int64} {t n : Int32} (h : FrB S) (hn : n.toInt = 1 ∨ n.toInt = 2) (hT : 0 ≤ fT S ∧ fT S + n.toInt ≤ 24) : w_putTagged S v t n (PtP S (v, nb t) n) := by
  obtain ⟨e1, e2, e3, e4⟩ := h.e
  have eT : (qI S 44 (fN S).toNat + n).toInt = fT S + n.toInt := by
    unfold fT at hT ⊢
    exact t_add (by omega)
  have ix : ((24 : Int32) * (qI S 0 97 - 1) + qI S 44 (fN S).toNat).toInt = 24 * fN S + fT S := by
    have : (qI S 44 (fN S).toNat).toInt = fT S := rfl
    rw [t_add (by rw [e4, this]; omega), e4, this]
  unfold w_putTagged
  rw [e1]
  refine ⟨⟨e2, e3⟩, fun a7 e7 => ?_⟩
  have q7 : a7.toInt = 24 * fN S + fT S := by rw [e7]; exact ix
  have q8 : (a7 + (1 : Int32)).toInt = 24 * fN S + fT S + 1 := by rw [t_add (by rw [q7, li_1]; omega), q7, li_1]
  have fin : ∀ U : MS, frm [44, 46, 48] [] S U → qI U 44 = qI S 44 → (∀ j : Nat, qW U 46 j = if j = (24 * fN S + fT S).toNat then (v, nb t) else if n.toInt = 2 ∧ j = (24 * fN S + fT S + 1).toNat then (qJ S 46 j, 3) else qW S 46 j) → w_putTagged_J55 (PtP S (v, nb t) n) U n := fun U fU u44 u46 => by
    have i97 : qI U 0 97 = qI S 0 97 := (fU.2.2.2.2.2 97 (by decide)).1
    unfold w_putTagged_J55
    rw [i97, e1]
    refine ⟨⟨e2, e3⟩, ⟨e2, e3⟩, fun A eA => ?_⟩
    have a44 : qI A 44 = upd (qI S 44) (fN S).toNat (qI S 44 (fN S).toNat + n) := by rw [eA, qI_self, u44]
    have fA : fN A = fN S := by
      unfold fN
      rw [eA, rdH (by decide), i97]
    refine ⟨fU.tr (by rw [eA]; exact frm.pI (by decide)), fun j => ?_, a44, ?_⟩
    · have : qW A 46 = qW U 46 := by rw [eA]; exact qW_I (by decide)
      rw [this, u46]
    · unfold fT
      rw [fA, a44]
      unfold upd
      rw [if_pos rfl, eT]
      rfl
  refine ⟨⟨by omega, by omega⟩, fun A eA => ⟨⟨by omega, by omega⟩, fun B eB => ?_⟩⟩
  have fA : frm [44, 46, 48] [] S A := by rw [eA]; exact frm.pJ (by decide)
  have fB : frm [44, 46, 48] [] S B := fA.tr (by rw [eB]; exact frm.pI (by decide))
  have b44 : qI B 44 = qI S 44 := by rw [eB, rdH (by decide), eA]; rfl
  have b46 : ∀ j : Nat, qJ B 46 j = if j = (24 * fN S + fT S).toNat then v else qJ S 46 j := fun j => by
    rw [eB, qJ_wI, eA, qJ_wJ, q7]
    by_cases c : j = (24 * fN S + fT S).toNat
    · rw [if_pos c, if_pos ⟨rfl, c⟩]
    · rw [if_neg c, if_neg (fun q => c q.2)]
  have b48 : ∀ j : Nat, qI B 48 j = if j = (24 * fN S + fT S).toNat then nb t else qI S 48 j := fun j => by
    rw [eB, qI_wI, q7]
    by_cases c : j = (24 * fN S + fT S).toNat
    · rw [if_pos c, if_pos ⟨rfl, c⟩]; rfl
    · rw [if_neg c, if_neg (fun q => c q.2), eA]; rfl
  refine ⟨fun c => ⟨⟨by omega, by omega⟩, fun C eC => ?_⟩, fun c => fin B fB b44 (fun j => ?_)⟩
  · refine fin C (fB.tr (by rw [eC]; exact frm.pI (by decide))) (by rw [eC, rdH (by decide), b44]) (fun j => ?_)
    have c46 : qJ C 46 j = qJ B 46 j := by rw [eC]; rfl
    have c48 : qI C 48 j = if j = (24 * fN S + fT S + 1).toNat then 3 else qI B 48 j := by
      rw [eC, qI_wI, q8]
      by_cases y : j = (24 * fN S + fT S + 1).toNat
      · rw [if_pos y, if_pos ⟨rfl, y⟩]; decide
      · rw [if_neg y, if_neg (fun q => y q.2)]
    unfold qW
    rw [c46, show 46 + 2 = 48 from rfl, c48, b46, b48]
    by_cases y : j = (24 * fN S + fT S).toNat
    · rw [if_pos y, if_pos y, if_pos y, if_neg (by omega)]
    · rw [if_neg y, if_neg y, if_neg y]
      by_cases z : j = (24 * fN S + fT S + 1).toNat
      · rw [if_pos z, if_pos ⟨c, z⟩]
      · rw [if_neg z, if_neg (fun q => z q.2)]
  · unfold qW
    rw [show 46 + 2 = 48 from rfl, b46, b48]
    by_cases y : j = (24 * fN S + fT S).toNat
    · rw [if_pos y, if_pos y, if_pos y]
    · rw [if_neg y, if_neg y, if_neg y, if_neg (fun q => c q.1)]
theorem sp_putI {S : MS} {v : Int32} (h : FrB S) (hT : 0 ≤ fT S ∧ fT S + 1 ≤ 24) : w_putInt S v (PtP S (v.toInt64, nb 1) 1) := by
  unfold w_putInt
  exact ⟨_, sp_putT h (Or.inl li_1) ⟨hT.1, by rw [li_1]; exact hT.2⟩, fun u hu => hu⟩
/-- the tag that put gives -/
def ptT (v : Int64) (n : Int32) : Int32 := if n.toInt = 2 then nb 2 else if v.toInt = 0 then nb 6 else if v.toInt ≤ 0 then nb 5 else nb 4
theorem ptT_4 {v : Int64} {n : Int32} (h : ¬ n.toInt = 2) (h0 : 0 ≤ v.toInt) : (ptT v n).toInt = 4 ∨ (ptT v n).toInt = 6 := by
  unfold ptT
  rw [if_neg h]
  by_cases c : v.toInt = 0
  · rw [if_pos c]; exact Or.inr (by decide)
  · rw [if_neg c, if_neg (by omega)]; exact Or.inl (by decide)
theorem ptT_6 {v : Int64} {n : Int32} (h : ¬ n.toInt = 2) (h0 : v.toInt = 0) : (ptT v n).toInt = 6 := by
  unfold ptT
  rw [if_neg h, if_pos h0]; decide
theorem ptT_5 {v : Int64} {n : Int32} (h : ¬ n.toInt = 2) (h0 : v.toInt ≤ 0) : (ptT v n).toInt = 5 ∨ (ptT v n).toInt = 6 := by
  unfold ptT
  rw [if_neg h]
  by_cases c : v.toInt = 0
  · rw [if_pos c]; exact Or.inr (by decide)
  · rw [if_neg c, if_pos h0]; exact Or.inl (by decide)
theorem ptT_2 {v : Int64} {n : Int32} (h : n.toInt = 2) : (ptT v n).toInt = 2 := by
  unfold ptT
  rw [if_pos h]; decide
theorem tt_f {S : MS} {v : Int64} {n : Int32} (h : ¬ n.toInt = 2) : nb (f_thingTag S v) = ptT v n := by
  have c1 := c_cmp (x := v) (y := (0 : Int64))
  have l0 : (0 : Int64).toInt = 0 := by decide
  rw [l0] at c1
  have c2 := c_le (x := v) (y := (0 : Int64))
  rw [l0] at c2
  unfold f_thingTag ptT
  rw [if_neg h]
  by_cases c : v.toInt = 0
  · rw [if_pos c, if_pos (by omega)]; decide
  · rw [if_neg c, if_neg (by omega)]
    by_cases d : v.toInt ≤ 0
    · rw [if_pos d, if_pos (c2.mpr d)]; decide
    · rw [if_neg d, if_neg (fun q => d (c2.mp q))]; decide
theorem sp_putV {S : MS} {v : Int64} {n : Int32} (h : FrB S) (hn : n.toInt = 1 ∨ n.toInt = 2) (hT : 0 ≤ fT S ∧ fT S + n.toInt ≤ 24) : w_put S v n (PtP S (v, ptT v n) n) := by
  have d : d_thingTag S v := by
    unfold d_thingTag
    simp
  unfold w_put
  exact ⟨fun c => ⟨_, sp_putT h hn hT, fun u hu => by unfold ptT; rw [if_pos c]; exact hu⟩, fun c => ⟨d, _, sp_putT h hn hT, fun u hu => by rw [← tt_f (S := S) c]; exact hu⟩⟩
/-! enter (behind sp_putT, fr_enter) -/
def EnP (S : MS) (m : Int32) (u : MS) : Prop := frm [42, 43, 44, 45, 47] [97] S u ∧ (qI u 0 97).toInt = (qI S 0 97).toInt + 1 ∧ qI u 42 = upd (qI S 42) (qI S 0 97).toInt.toNat m ∧ qI u 43 = upd (qI S 43) (qI S 0 97).toInt.toNat 0 ∧ qI u 44 = upd (qI S 44) (qI S 0 97).toInt.toNat 0 ∧ ∀ j : Nat, qW u 45 j = if 24 * (qI S 0 97).toInt ≤ (j : Int) ∧ (j : Int) < 24 * (qI S 0 97).toInt + 24 then (0, 0) else qW S 45 j
theorem sp_enter {S : MS} {m : Int32} (h : 0 ≤ (qI S 0 97).toInt ∧ (qI S 0 97).toInt < 60) : w_enter S m (EnP S m) := by
  have L : ∀ (c : Nat) (U : MS) (k : Int32), (0 ≤ k.toInt ∧ k.toInt ≤ 24) → frm [42, 43, 44, 45, 47] [97] S U → qI U 0 97 = qI S 0 97 → (qI U 42 = upd (qI S 42) (qI S 0 97).toInt.toNat m ∧ qI U 43 = upd (qI S 43) (qI S 0 97).toInt.toNat 0 ∧ qI U 44 = upd (qI S 44) (qI S 0 97).toInt.toNat 0) → (∀ j : Nat, qW U 45 j = if 24 * (qI S 0 97).toInt ≤ (j : Int) ∧ (j : Int) < 24 * (qI S 0 97).toInt + k.toInt then (0, 0) else qW S 45 j) → (24 - k.toInt).toNat < c → w_enter_L32 (EnP S m) c U k := by
    intro c
    induction c with
    | zero => intro U k _ _ _ _ _ h9; exact absurd h9 (Nat.not_lt_zero _)
    | succ c ih =>
      intro U k hk fU u97 ur u45 hc
      have ek : (k + Int32.ofInt 1).toInt = k.toInt + 1 := by rw [t_add (by rw [lo_1]; omega), lo_1]
      have em : ((24 : Int32) * qI S 0 97).toInt = 24 * (qI S 0 97).toInt := by rw [t_mul (by rw [li_24]; omega), li_24]
      have ix : ((24 : Int32) * qI S 0 97 + k).toInt = 24 * (qI S 0 97).toInt + k.toInt := by rw [t_add (by rw [em]; omega), em]
      unfold w_enter_L32
      rw [u97]
      refine ⟨fun q A eA => ?_, fun q => ?_⟩
      · have e24 : k.toInt = 24 := by omega
        refine ⟨fU.tr (by rw [eA]; exact frm.pI0 (by decide)), ?_, by rw [eA, rdH (by decide)]; exact ur.1, by rw [eA, rdH (by decide)]; exact ur.2.1, by rw [eA, rdH (by decide)]; exact ur.2.2, fun j => ?_⟩
        · rw [eA, qI_wI, if_pos ⟨rfl, rfl⟩, t_add (by rw [li_1]; omega), li_1]
        · have : qW A 45 = qW U 45 := by rw [eA]; exact qW_I (by decide)
          rw [this, u45, e24]
      · rw [ix]
        refine ⟨⟨by omega, by omega⟩, fun A eA => ?_⟩
        have a97 : qI A 0 97 = qI S 0 97 := by rw [eA]; exact u97
        rw [a97, ix]
        refine ⟨⟨by omega, by omega⟩, fun B eB a18 e18 => ?_⟩
        subst e18
        refine ih B _ ⟨by omega, by omega⟩ (fU.tr ((show frm [42, 43, 44, 45, 47] [97] U A by rw [eA]; exact frm.pJ (by decide)).tr (by rw [eB]; exact frm.pI (by decide)))) (by rw [eB, rdH (by decide), a97]) ?_ (fun j => ?_) (by omega)
        · rw [eB, rdH (by decide), rdH (by decide), rdH (by decide), eA]
          exact ur
        · have bJ : qJ B 45 j = if j = (24 * (qI S 0 97).toInt + k.toInt).toNat then 0 else qJ U 45 j := by
            rw [eB, qJ_wI, eA, qJ_wJ]
            by_cases y : j = (24 * (qI S 0 97).toInt + k.toInt).toNat
            · rw [if_pos y, if_pos ⟨rfl, y⟩]
            · rw [if_neg y, if_neg (fun q => y q.2)]
          have bI : qI B 47 j = if j = (24 * (qI S 0 97).toInt + k.toInt).toNat then 0 else qI U 47 j := by
            rw [eB, qI_wI]
            by_cases y : j = (24 * (qI S 0 97).toInt + k.toInt).toNat
            · rw [if_pos y, if_pos ⟨rfl, y⟩]; decide
            · rw [if_neg y, if_neg (fun q => y q.2), eA]; rfl
          have bW : qW B 45 j = if j = (24 * (qI S 0 97).toInt + k.toInt).toNat then (0, 0) else qW U 45 j := by
            unfold qW
            rw [bJ, show 45 + 2 = 47 from rfl, bI]
            split <;> rfl
          rw [bW, u45, ek]
          by_cases c1 : j = (24 * (qI S 0 97).toInt + k.toInt).toNat
          · rw [if_pos c1, if_pos ⟨by omega, by omega⟩]
          · rw [if_neg c1]
            by_cases c2 : 24 * (qI S 0 97).toInt ≤ (j : Int) ∧ (j : Int) < 24 * (qI S 0 97).toInt + k.toInt
            · rw [if_pos c2, if_pos ⟨c2.1, by omega⟩]
            · rw [if_neg c2, if_neg (fun w => c2 ⟨w.1, by omega⟩)]
  unfold w_enter
  refine ⟨h, fun A eA => ?_⟩
  have a97 : qI A 0 97 = qI S 0 97 := by rw [eA, rdH (by decide)]
  rw [a97]
  refine ⟨h, fun B eB => ?_⟩
  have b97 : qI B 0 97 = qI S 0 97 := by rw [eB, rdH (by decide), a97]
  rw [b97]
  refine ⟨h, fun C eC => ?_⟩
  have c97 : qI C 0 97 = qI S 0 97 := by rw [eC, rdH (by decide), b97]
  refine ⟨_, L _ C 0 (by decide) ?_ c97 ⟨?_, ?_, ?_⟩ (fun j => ?_) (Nat.lt_succ_self _)⟩
  · exact (show frm [42, 43, 44, 45, 47] [97] S A by rw [eA]; exact frm.pI (by decide)).tr ((show frm [42, 43, 44, 45, 47] [97] A B by rw [eB]; exact frm.pI (by decide)).tr (by rw [eC]; exact frm.pI (by decide)))
  · rw [eC, rdH (by decide), eB, rdH (by decide), eA, qI_self]
  · rw [eC, rdH (by decide), eB, qI_self, eA, rdH (by decide)]
  · rw [eC, qI_self, eB, rdH (by decide), eA, rdH (by decide)]
  · rw [li_0, if_neg (by omega)]
    rw [eC, qW_I (by decide), eB, qW_I (by decide), eA, qW_I (by decide)]
