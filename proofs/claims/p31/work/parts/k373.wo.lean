/-! pops, puts, workOne (behind sp_got, sp_putV, FrB.mv) -/
/-- d places are taken off the top frame's pile -/
def PpP (S : MS) (d : Int) (u : MS) : Prop := frm [44] [] S u ∧ fT u = fT S - d ∧ ∀ j : Nat, j ≠ (fN S).toNat → qI u 44 j = qI S 44 j
theorem PpP.rf {S : MS} : PpP S 0 S := ⟨frm.rf, by omega, fun _ _ => rfl⟩
theorem sp_pop {S U : MS} {d : Int} {n : Int32} (h : FrB S) (p : PpP S d U) (d0 : 0 ≤ d) (hn : 1 ≤ n.toInt ∧ d + n.toInt ≤ fT S) (hT : fT S ≤ 24) : w_got U n (fun r u => PpP S (d + n.toInt) u ∧ r = qJ S 46 (24 * fN S + fT S - d - n.toInt).toNat) := by
  obtain ⟨f1, t1, o1⟩ := p
  have m := h.mv f1
  have st := sp_got (n := n) m.1 ⟨hn.1, by omega⟩ (by omega)
  unfold w_got at st ⊢
  intro a2 ea
  obtain ⟨s1, s2, s3⟩ := st a2 ea
  refine ⟨s1, s2, fun A eA => ?_⟩
  obtain ⟨s4, s5, s6⟩ := s3 A eA
  refine ⟨s4, s5, ?_⟩
  obtain ⟨q1, q2, q3, q4⟩ := s6
  refine ⟨⟨f1.tr (q2.mo (by decide) (by decide)), by rw [q4, t1]; omega, fun j hj => ?_⟩, ?_⟩
  · rw [q3, m.2]
    unfold upd
    rw [if_neg hj]
    exact o1 j hj
  · rw [q1, m.2, t1, (f1.2.2.2.2.1 46 (by decide) (by decide)).2.1]
    rw [show 24 * fN S + (fT S - d) - n.toInt = 24 * fN S + fT S - d - n.toInt by omega]
/-- behind d places that were taken the value v is put on g places -/
def PuP (S : MS) (d g : Int) (v : TV) (u : MS) : Prop := frm [44, 46, 48] [] S u ∧ fT u = fT S - d + g ∧ (∀ j : Nat, j ≠ (fN S).toNat → qI u 44 j = qI S 44 j) ∧ (∀ j : Nat, (j : Int) < 24 * fN S + fT S - d → qW u 46 j = qW S 46 j) ∧ qW u 46 (24 * fN S + fT S - d).toNat = v ∧ (g = 2 → (qW u 46 (24 * fN S + fT S - d + 1).toNat).2.toInt = 3)
theorem PpP.pu {S U u : MS} {d : Int} {v : TV} {n : Int32} (h : FrB S) (p : PpP S d U) (q : PtP U v n u) (hT : 0 ≤ fT S - d) : PuP S d n.toInt v u := by
  obtain ⟨f1, t1, o1⟩ := p
  have m := h.mv f1
  have e2 := h.e
  obtain ⟨q1, q2, q3, q4⟩ := q
  rw [m.2, t1] at q2
  have j46 : qW U 46 = qW S 46 := fW f1 (h := 46) (by decide) (by decide) (by decide)
  refine ⟨(f1.mo (by decide) (by decide)).tr q1, by rw [q4, t1], fun j hj => ?_, fun j hj => ?_, ?_, fun g2 => ?_⟩
  · rw [q3, m.2]
    unfold upd
    rw [if_neg hj]
    exact o1 j hj
  · rw [q2, if_neg (by omega), if_neg (by omega), j46]
  · rw [q2, if_pos (by rw [show 24 * fN S + (fT S - d) = 24 * fN S + fT S - d by omega])]
  · rw [q2, if_neg (by omega), if_pos ⟨g2, by omega⟩]
    show (3 : Int32).toInt = 3
    decide
theorem sp_psh {S U : MS} {d : Int} {v : Int64} {n : Int32} (h : FrB S) (p : PpP S d U) (hn : n.toInt = 1 ∨ n.toInt = 2) (hT : 0 ≤ fT S - d ∧ fT S - d + n.toInt ≤ 24) : ∃ Q, w_put U v n Q ∧ ∀ u, Q u → PuP S d n.toInt (v, ptT v n) u :=
  ⟨_, sp_putV (h.mv p.1).1 hn (by rw [p.2.1]; exact hT), fun _ q => p.pu h q hT.1⟩
theorem sp_pst {S U : MS} {d : Int} {v : Int64} {t n : Int32} (h : FrB S) (p : PpP S d U) (hn : n.toInt = 1 ∨ n.toInt = 2) (hT : 0 ≤ fT S - d ∧ fT S - d + n.toInt ≤ 24) : ∃ Q, w_putTagged U v t n Q ∧ ∀ u, Q u → PuP S d n.toInt (v, nb t) u :=
  ⟨_, sp_putT (h.mv p.1).1 hn (by rw [p.2.1]; exact hT), fun _ q => p.pu h q hT.1⟩
theorem sp_psi {S U : MS} {d : Int} {v : Int32} (h : FrB S) (p : PpP S d U) (hT : 0 ≤ fT S - d ∧ fT S - d + 1 ≤ 24) : ∃ Q, w_putInt U v Q ∧ ∀ u, Q u → PuP S d 1 (v.toInt64, nb 1) u :=
  ⟨_, sp_putI (h.mv p.1).1 (by rw [p.2.1]; exact hT), fun _ q => by have z := p.pu h q hT.1; rw [li_1] at z; exact z⟩
theorem nb1v : (nb 1).toInt = 1 := by decide
theorem i64_int (v : Int32) : -2147483648 ≤ v.toInt64.toInt ∧ v.toInt64.toInt ≤ 2147483647 := by
  have a := v.minValue_le_toInt
  have b := v.toInt_lt
  rw [Int32.toInt_toInt64]
  have c : Int32.minValue.toInt = -2147483648 := by decide
  omega
theorem ite_T {c : Prop} [Decidable c] {p q : Prop} (h1 : c → p) (h2 : ¬ c → q) : if c then p else q := by
  by_cases z : c
  · rw [if_pos z]; exact h1 z
  · rw [if_neg z]; exact h2 z
theorem d_iw {S : MS} {o x y : Int32} (h : o.toInt = 108 ∨ o.toInt = 112 → y.toInt ≠ 0) : d_intWork S o x y := by
  unfold d_intWork
  exact ite_T (fun _ => trivial) (fun _ => ite_T (fun _ => trivial) (fun _ => ite_T (fun _ => trivial) (fun _ => ite_T (fun _ => trivial) (fun _ => ite_T (fun _ => trivial) (fun _ => ite_T (fun _ => trivial) (fun _ => ite_T (fun _ => trivial) (fun _ => ite_T (fun _ => trivial) (fun _ => ite_T (fun _ => trivial) (fun _ => ite_T (fun _ => trivial) (fun _ => ite_T (fun _ => trivial) (fun _ => ite_T (fun _ => trivial) (fun _ => ite_T (fun c => ite_T (fun _ => trivial) (fun _ => ⟨h (Or.inl c), trivial⟩)) (fun _ => ite_T (fun _ => trivial) (fun _ => ite_T (fun _ => trivial) (fun _ => ite_T (fun _ => trivial) (fun _ => ite_T (fun c => ite_T (fun _ => trivial) (fun _ => ⟨h (Or.inr c), trivial⟩)) (fun _ => trivial)))))))))))))))))
theorem d_lw {S : MS} {o : Int32} {x y : Int64} (h : o.toInt = 109 ∨ o.toInt = 113 → ¬ y = 0) : d_longWork S o x y := by
  unfold d_longWork
  exact ite_T (fun _ => trivial) (fun _ => ite_T (fun _ => trivial) (fun _ => ite_T (fun _ => trivial) (fun _ => ite_T (fun _ => trivial) (fun _ => ite_T (fun _ => trivial) (fun _ => ite_T (fun _ => trivial) (fun _ => ite_T (fun _ => trivial) (fun _ => ite_T (fun _ => trivial) (fun _ => ite_T (fun _ => trivial) (fun _ => ite_T (fun _ => trivial) (fun _ => ite_T (fun _ => trivial) (fun _ => ite_T (fun _ => trivial) (fun _ => ite_T (fun c => ite_T (fun _ => trivial) (fun _ => ⟨h (Or.inl c), trivial⟩)) (fun _ => ite_T (fun _ => trivial) (fun _ => ite_T (fun _ => trivial) (fun _ => ite_T (fun _ => trivial) (fun _ => ite_T (fun c => ite_T (fun _ => trivial) (fun _ => ⟨h (Or.inr c), trivial⟩)) (fun _ => trivial)))))))))))))))))
/-- what an arithmetic instruction takes and gives -/
def tkN (op : Int) : Int := if op = 116 then 1 else if op = 117 then 2 else if op = 148 then 4 else if 120 ≤ op ∧ op ≤ 125 then (if op % 2 = 0 then 2 else 3) else if op % 2 = 0 then 2 else 4
def gvN (op : Int) : Int := if op = 148 then 1 else if op % 2 = 0 then 1 else 2
def isAr (op : Int) : Prop := (96 ≤ op ∧ op ≤ 131) ∨ op = 148
theorem par2 {x : Int32} (h : 0 ≤ x.toInt ∧ x.toInt ≤ 1000) : (x - x / (2 : Int32) * (2 : Int32)).toInt = x.toInt % 2 := by
  have l2 : (2 : Int32).toInt = 2 := by decide
  have ed : (x / (2 : Int32)).toInt = x.toInt / 2 := by
    rw [Int32.toInt_div, l2, Int.tdiv_eq_ediv_of_nonneg h.1]
    rw [Int.bmod_def]
    omega
  have em : (x / (2 : Int32) * (2 : Int32)).toInt = x.toInt / 2 * 2 := by
    rw [t_mul (by rw [ed, l2]; omega), ed, l2]
  rw [t_sub (by rw [em]; omega), em]
  omega
/-- a value was put, an int where one place is given -/
def WoP (S : MS) (op : Int) (u : MS) : Prop := ∃ v : TV, PuP S (tkN op) (gvN op) v u ∧ (gvN op = 1 → (-2147483648 ≤ v.1.toInt ∧ v.1.toInt ≤ 2147483647) ∧ v.2.toInt = 1) ∧ (gvN op = 2 → v.2.toInt = 2)
theorem lg0 {y : Int64} (h : ¬ (lg_cmp y 0).toInt = 0) : ¬ y = 0 := fun q => h (by rw [q]; decide)
theorem sp_workOne {S : MS} {op : Int32} {Qt : MS → Prop} (h : FrB S) (ho : isAr op.toInt) (hT : tkN op.toInt ≤ fT S ∧ fT S ≤ 24) (hy : op.toInt = 108 ∨ op.toInt = 112 → -2147483648 ≤ (qJ S 46 (24 * fN S + fT S - 1).toNat).toInt ∧ (qJ S 46 (24 * fN S + fT S - 1).toNat).toInt ≤ 2147483647) (ht : ∀ u : MS, PpP S (tkN op.toInt) u → ∃ Q, w_throwError u 0 Q ∧ ∀ w, Q w → Qt w) : w_workOne S op (fun r u => (r.toInt = 0 → Qt u) ∧ (¬ r.toInt = 0 → WoP S op.toInt u)) := by
  have hr : 0 ≤ op.toInt ∧ op.toInt ≤ 1000 := by unfold isAr at ho; omega
  have l2 : (2 : Int32).toInt = 2 := by decide
  have yes : ∀ (u : MS) (v : TV) (g : Int), PuP S (tkN op.toInt) g v u → g = gvN op.toInt → (gvN op.toInt = 1 → (-2147483648 ≤ v.1.toInt ∧ v.1.toInt ≤ 2147483647) ∧ v.2.toInt = 1) → (gvN op.toInt = 2 → v.2.toInt = 2) → (((1 : Int32).toInt = 0 → Qt u) ∧ (¬ (1 : Int32).toInt = 0 → WoP S op.toInt u)) := fun u v g p eg hv hw => ⟨fun z => absurd z (by decide), fun _ => ⟨v, by rw [← eg]; exact p, hv, hw⟩⟩
  have f105 : ∀ (U : MS) (t w : Int32) (y : Int64) (d : Int), PpP S d U → (t.toInt = 1 ∨ t.toInt = 2) → 0 ≤ d → d + t.toInt = tkN op.toInt → (w.toInt = 0 → gvN op.toInt = 1) → (¬ w.toInt = 0 → op.toInt = 148 ∨ gvN op.toInt = 2) → (op.toInt = 108 ∨ op.toInt = 112 → w.toInt = 0 ∧ -2147483648 ≤ y.toInt ∧ y.toInt ≤ 2147483647) → ¬ op.toInt = 116 → ¬ op.toInt = 117 → w_workOne_J105 (fun r u => (r.toInt = 0 → Qt u) ∧ (¬ r.toInt = 0 → WoP S op.toInt u)) U t op w y := fun U t w y d pU tt d0 ed w0 w1 hyy n6 n7 => by
    unfold w_workOne_J105
    refine ⟨_, sp_pop h pU d0 ⟨by omega, by omega⟩ hT.2, ?_⟩
    rintro x A ⟨pA, -⟩
    rw [ed] at pA
    have hg : gvN op.toInt = 1 ∨ gvN op.toInt = 2 := by unfold gvN; split; exact Or.inl rfl; split; exact Or.inl rfl; exact Or.inr rfl
    have tg : fT S - tkN op.toInt + gvN op.toInt ≤ 24 := by
      have : gvN op.toInt ≤ tkN op.toInt := by
        unfold gvN tkN
        rw [if_neg n6, if_neg n7]
        repeat' split
        all_goals omega
      omega
    have int1 : ∀ v : Int32, gvN op.toInt = 1 → ∃ Q, w_putInt A v Q ∧ ∀ u, Q u → (((1 : Int32).toInt = 0 → Qt u) ∧ (¬ (1 : Int32).toInt = 0 → WoP S op.toInt u)) := fun v g1 => by
      obtain ⟨Q, a, b⟩ := sp_psi (v := v) h pA ⟨by omega, by omega⟩
      exact ⟨Q, a, fun u hu => yes u _ _ (b u hu) g1.symm (fun _ => ⟨i64_int v, nb1v⟩) (fun z => by omega)⟩
    have j171 : ¬ op.toInt = 148 → (op.toInt = 108 ∨ op.toInt = 112 ∨ op.toInt = 109 ∨ op.toInt = 113 → ¬ (lg_cmp y 0).toInt = 0) → w_workOne_J171 (fun r u => (r.toInt = 0 → Qt u) ∧ (¬ r.toInt = 0 → WoP S op.toInt u)) A op w y x := fun n148 hz => by
      unfold w_workOne_J171
      refine ⟨fun c => ⟨?_, int1 _ (w0 c)⟩, fun c => ⟨?_, ?_⟩⟩
      · have y32 : op.toInt = 108 ∨ op.toInt = 112 → ¬ (y.toInt32).toInt = 0 := fun q z => by
          have a := hyy q
          have b := lg0 (hz (by omega))
          apply b
          apply Int64.toInt_inj.mp
          rw [Int64.toInt_toInt32] at z
          have e : y.toInt.bmod (2 ^ 32) = y.toInt := by rw [Int.bmod_def]; omega
          rw [e] at z
          rw [z]; rfl
        exact d_iw y32
      · exact d_lw (fun q => lg0 (hz (by omega)))
      · have g2 := (w1 c).resolve_left n148
        obtain ⟨Q, a, b⟩ := sp_psh (v := f_longWork A op x y) (n := 2) h pA (Or.inr l2) ⟨by omega, by rw [l2]; omega⟩
        refine ⟨Q, a, fun u hu => yes u _ _ (b u hu) (by rw [l2, g2]) (fun z => by omega) (fun _ => ptT_2 l2)⟩
    refine ⟨fun c => ?_, fun c => ⟨fun c1 => j171 c (fun z => by omega), fun c1 => ⟨fun c2 => j171 c (fun z => by omega), fun c2 => ⟨fun c3 => ?_, fun c3 => j171 c (fun _ => c3)⟩⟩⟩⟩
    · have g1 : gvN op.toInt = 1 := by unfold gvN; rw [if_pos c]
      exact ⟨fun _ => ⟨fun _ => int1 _ g1, fun _ => int1 _ g1⟩, fun _ => int1 _ g1⟩
    · obtain ⟨Q, a, b⟩ := ht A pA
      exact ⟨Q, a, fun u hu => ⟨fun _ => b u hu, fun z => absurd rfl z⟩⟩
  have f94 : ∀ (U : MS) (w : Int32) (y : Int64) (d : Int), PpP S d U → 0 ≤ d → d + (if w.toInt = 0 then 1 else 2) = tkN op.toInt → (w.toInt = 0 → gvN op.toInt = 1) → (¬ w.toInt = 0 → op.toInt = 148 ∨ gvN op.toInt = 2) → (op.toInt = 108 ∨ op.toInt = 112 → w.toInt = 0 ∧ -2147483648 ≤ y.toInt ∧ y.toInt ≤ 2147483647) → ¬ op.toInt = 116 → ¬ op.toInt = 117 → w_workOne_J94 (fun r u => (r.toInt = 0 → Qt u) ∧ (¬ r.toInt = 0 → WoP S op.toInt u)) U y op w := fun U w y d pU d0 ed w0 w1 hyy n6 n7 => by
    unfold w_workOne_J94
    refine ⟨fun c => f105 U 1 w y d pU (Or.inl li_1) d0 (by rw [if_pos c] at ed; rw [li_1]; exact ed) w0 w1 hyy n6 n7, fun c => f105 U 2 w y d pU (Or.inr l2) d0 (by rw [if_neg c] at ed; rw [l2]; exact ed) w0 w1 hyy n6 n7⟩
  have f19 : ∀ w : Int32, (w.toInt = 0 → ¬ op.toInt = 148 ∧ op.toInt % 2 = 0) → (¬ w.toInt = 0 → op.toInt = 148 ∨ op.toInt % 2 = 1) → w_workOne_J19 (fun r u => (r.toInt = 0 → Qt u) ∧ (¬ r.toInt = 0 → WoP S op.toInt u)) S w op := fun w a0 a1 => by
    have w0 : w.toInt = 0 → gvN op.toInt = 1 := fun c => by unfold gvN; rw [if_neg (a0 c).1, if_pos (a0 c).2]
    have w1 : ¬ w.toInt = 0 → op.toInt = 148 ∨ gvN op.toInt = 2 := fun c => by
      by_cases z : op.toInt = 148
      · exact Or.inl z
      · have := (a1 c).resolve_left z
        refine Or.inr ?_
        unfold gvN
        rw [if_neg z, if_neg (by omega)]
    have j32 : (op.toInt = 116 ∨ op.toInt = 117) → w_workOne_J32 (fun r u => (r.toInt = 0 → Qt u) ∧ (¬ r.toInt = 0 → WoP S op.toInt u)) S w := fun c => by
      unfold w_workOne_J32 w_gotInt
      refine ⟨fun z => ?_, fun z => ?_⟩
      · have e6 : op.toInt = 116 := by have := (a0 z).2; omega
        have tk : tkN op.toInt = 1 := by unfold tkN; rw [if_pos e6]
        refine ⟨fun _ u => PpP S 1 u, ⟨_, sp_pop (n := 1) h PpP.rf (by decide) ⟨by decide, by rw [li_1]; omega⟩ hT.2, fun r u hu => by have q := hu.1; rw [li_1] at q; exact q⟩, fun r A pA => ?_⟩
        obtain ⟨Q, a, b⟩ := sp_psi (v := -r) h pA ⟨by omega, by omega⟩
        exact ⟨Q, a, fun u hu => yes u ((-r).toInt64, nb 1) _ (by rw [tk]; exact b u hu) (w0 z).symm (fun _ => ⟨i64_int (-r), nb1v⟩) (fun y => by have := w0 z; omega)⟩
      · have e7 : op.toInt = 117 := by have := a1 z; omega
        have tk : tkN op.toInt = 2 := by unfold tkN; rw [if_neg (by omega), if_pos e7]
        have g2 : gvN op.toInt = 2 := by unfold gvN; rw [if_neg (by omega), if_neg (by omega)]
        refine ⟨_, sp_pop (n := 2) h PpP.rf (by decide) ⟨by decide, by rw [l2]; omega⟩ hT.2, ?_⟩
        rintro r A ⟨pA, -⟩
        rw [l2] at pA
        obtain ⟨Q, a, b⟩ := sp_psh (v := -r) (n := 2) h pA (Or.inr l2) ⟨by omega, by rw [l2]; omega⟩
        exact ⟨Q, a, fun u hu => yes u (-r, ptT (-r) 2) _ (by rw [tk]; exact b u hu) (by rw [l2, g2]) (fun z => by omega) (fun _ => ptT_2 l2)⟩
    have j81 : ¬ op.toInt = 116 → ¬ op.toInt = 117 → ¬ (120 ≤ op.toInt ∧ op.toInt ≤ 125) → w_workOne_J81 (fun r u => (r.toInt = 0 → Qt u) ∧ (¬ r.toInt = 0 → WoP S op.toInt u)) S op w := fun n6 n7 n8 => by
      unfold w_workOne_J81 w_workOne_J91
      refine ⟨fun z => ?_, fun z => ?_⟩
      · have tk : tkN op.toInt = 2 := by unfold tkN; rw [if_neg n6, if_neg n7, if_neg (a0 z).1, if_neg n8, if_pos (a0 z).2]
        refine ⟨_, sp_pop (n := 1) h PpP.rf (by decide) ⟨by decide, by rw [li_1]; omega⟩ hT.2, ?_⟩
        rintro y A ⟨pA, ey⟩
        rw [li_1] at pA ey
        refine f94 A w y _ pA (by decide) (by rw [if_pos z, tk]; rfl) w0 w1 (fun q => ⟨z, ?_⟩) n6 n7
        rw [ey, show 24 * fN S + fT S - 0 - 1 = 24 * fN S + fT S - 1 by omega]
        exact hy q
      · have tk : tkN op.toInt = 4 := by
          unfold tkN
          rw [if_neg n6, if_neg n7]
          by_cases q : op.toInt = 148
          · rw [if_pos q]
          · rw [if_neg q, if_neg n8, if_neg (by have := a1 z; omega)]
        refine ⟨_, sp_pop (n := 2) h PpP.rf (by decide) ⟨by decide, by rw [l2]; omega⟩ hT.2, ?_⟩
        rintro y A ⟨pA, ey⟩
        rw [l2] at pA
        refine f94 A w y _ pA (by decide) (by rw [if_neg z, tk]; rfl) w0 w1 (fun q => ?_) n6 n7
        have := a1 z
        omega
    unfold w_workOne_J19
    refine ⟨fun c => j32 (Or.inl c), fun c6 => ⟨fun c => j32 (Or.inr c), fun c7 => ⟨fun c => j81 c6 c7 (by omega), fun c8 => ⟨fun c => j81 c6 c7 (by omega), fun c9 => ?_⟩⟩⟩⟩
    have s8 : 120 ≤ op.toInt ∧ op.toInt ≤ 125 := by omega
    have n48 : ¬ op.toInt = 148 := by omega
    have tk : tkN op.toInt = if op.toInt % 2 = 0 then 2 else 3 := by unfold tkN; rw [if_neg c6, if_neg c7, if_neg n48, if_pos s8]
    have ge : 2 ≤ tkN op.toInt := by rw [tk]; split <;> omega
    refine ⟨_, sp_pop (n := 1) h PpP.rf (by decide) ⟨by decide, by rw [li_1]; omega⟩ hT.2, ?_⟩
    rintro y A ⟨pA, ey⟩
    rw [li_1] at pA
    refine f94 A w y _ pA (by decide) ?_ w0 w1 (fun q => by omega) c6 c7
    rw [tk]
    by_cases z : w.toInt = 0
    · rw [if_pos z, if_pos (a0 z).2]; rfl
    · have := (a1 z).resolve_left n48
      rw [if_neg z, if_neg (by omega)]; rfl
  have e2 := par2 hr
  unfold w_workOne w_workOne_J14
  rw [e2]
  refine ⟨fun c => f19 1 (fun z => absurd z (by decide)) (fun _ => Or.inl c), fun c => ⟨fun c1 => f19 1 (fun z => absurd z (by decide)) (fun _ => Or.inr c1), fun c1 => f19 0 (fun _ => ⟨c, by omega⟩) (fun z => absurd rfl z)⟩⟩
/-! the machine's state (behind FrTop.go, FrMid.mv, sp_throw, wk_val, wk_mval, VfI, ArI) -/
theorem VfI.fm {S u : MS} {f : Nat} {W J : List Nat} (h : VfI S f) (k : frm W J S u) (hW : ∀ w ∈ W, w ≤ 92) : VfI u f := by
  have kb := big_frm k hW
  obtain ⟨⟨h1, h2⟩, ⟨St, R, nc, a1, a2, a3, a4, a5, a6, a7, a8⟩, h3⟩ := h
  have f92 := h1.1.1
  have eR := (kb f f92).2.2.1
  refine ⟨⟨?_, by rw [k.2.2.1]; exact h2⟩, ⟨St, R, nc, by rw [k.2.2.1]; exact a1, by rw [eR]; exact a2, by rw [k.1]; exact a3, by rw [k.2.1]; exact a4, by rw [eR]; exact a5, by rw [k.2.2.1]; exact a6, by rw [k.1]; exact a7, by rw [k.2.1]; exact a8⟩, fun m hm => ?_⟩
  · unfold FlR
    rw [k.1, k.2.1, eR]
    exact h1
  · rw [(kb f f92).1] at hm
    obtain ⟨U, s, p, b1, b2, b3, b4, b5, b6, b7, b8, b9, b10⟩ := h3 m hm
    refine ⟨U, s, p, by rw [(kb (f + 6) (by omega)).2.2.1]; exact b1, by rw [(kb (f + 7) (by omega)).2.2.1]; exact b2, b3.mk2 f92 kb, b4, b5, b6, b7, fun a ha => (b8 a ha).s (kb a ha.1), fun a ha hq => ?_, b10.mk2 f92 kb⟩
    have z := b9 a ha hq
    have q := kb a ha
    exact ⟨fun j hj => by rw [q.1]; exact z.1 j hj, fun j hj => by rw [q.2.2.1]; exact z.2.1 j hj, by rw [q.2.2.2.1]; exact z.2.2.1, by rw [q.2.2.2.2]; exact z.2.2.2⟩
theorem TxI.fm {S u : MS} {W J : List Nat} (h : TxI S) (k : frm W J S u) (hW : ∀ w ∈ W, w ≤ 92) : TxI u := fun i hi => by
  have kb := big_frm k hW (TXB + 2 * i + 1) (by have : TXB = 10000000 := rfl; omega)
  rw [kb.1, kb.2.2.2.1, kb.2.2.2.2]
  exact h i hi
theorem ArI.eq {S u : MS} (h : ArI S) (e1 : qI u 0 85 = qI S 0 85) (e2 : qI u 0 86 = qI S 0 86) (e3 : qI u 39 = qI S 39) (e4 : qI u 40 = qI S 40) : ArI u := by
  unfold ArI
  rw [e1, e2, e3, e4]
  exact h
/-- fields that hold arrays hold some that are made -/
def FvI (S : MS) (f : Nat) : Prop := ∀ i s : Nat, (i : Int) < (qI S f 3).toInt → qR S (f + 3) i = some s → 92 < s → (qI S (s + 1) 0).toInt = 65 → 0 ≤ (qJ S 37 i).toInt ∧ (qJ S 37 i).toInt ≤ (qI S 0 85).toInt
theorem FvI.eq {S u : MS} {f : Nat} (h : FvI S f) (f92 : 92 < f) (kb : ∀ h : Nat, 92 < h → sm5 S u h) (e1 : (qI S 0 85).toInt ≤ (qI u 0 85).toInt) (e2 : qJ u 37 = qJ S 37) : FvI u f := fun i s hi hs h92 hc => by
  rw [(kb f f92).1] at hi
  rw [(kb (f + 3) (by omega)).2.2.1] at hs
  rw [(kb (s + 1) (by omega)).1] at hc
  have q := h i s hi hs h92 hc
  rw [e2]
  exact ⟨q.1, by omega⟩
def McB (S : MS) (f : Nat) : Prop := (92 < f ∧ qR S 0 80 = some f) ∧ FlI S f ∧ VfI S f ∧ TxI S ∧ qI S 0 96 = 0
theorem McB.fm {S u : MS} {f : Nat} {W J : List Nat} (h : McB S f) (k : frm W J S u) (hW : ∀ w ∈ W, w ≤ 92) (hJ : 80 ∉ J ∧ 96 ∉ J) : McB u f := ⟨⟨h.1.1, by rw [(k.2.2.2.2.2 80 hJ.1).2.2]; exact h.1.2⟩, h.2.1.fm h.1.1 k hW, h.2.2.1.fm k hW, h.2.2.2.1.fm k hW, by rw [(k.2.2.2.2.2 96 hJ.2).1]; exact h.2.2.2.2⟩
/-- the machine runs -/
def McI (S : MS) (f : Nat) : Prop := FrB S ∧ McB S f ∧ (ArI S ∧ FvI S f) ∧ FrTop S f (fN S).toNat (qI S 0 85).toInt ∧ ∀ i : Nat, (i : Int) < fN S → FrMid S f i (qI S 0 85).toInt
def LcW : List Nat := [37, 38, 39, 40, 43, 44, 45, 46, 47, 48]
def LcJ : List Nat := [47, 48, 49, 50, 51, 52, 53, 54, 85, 86]
/-- only the top frame's own places change -/
def LcP (S u : MS) : Prop := frm LcW LcJ S u ∧ (∀ j : Nat, j ≠ (fN S).toNat → qI u 43 j = qI S 43 j ∧ qI u 44 j = qI S 44 j) ∧ ∀ j : Nat, (j : Int) < 24 * fN S → qW u 45 j = qW S 45 j ∧ qW u 46 j = qW S 46 j
theorem LcP.n {S u : MS} (h : LcP S u) : fN u = fN S ∧ qI u 0 97 = qI S 0 97 := by
  have e := (h.1.2.2.2.2.2 97 (by decide)).1
  exact ⟨by unfold fN; rw [e], e⟩
theorem LcP.b {S u : MS} (h : LcP S u) (k : FrB S) : FrB u := by
  unfold FrB
  rw [h.n.2]
  exact k
theorem LcP.rf {S : MS} : LcP S S := ⟨frm.rf, fun _ _ => ⟨rfl, rfl⟩, fun _ _ => ⟨rfl, rfl⟩⟩
theorem LcP.tr {S u v : MS} (h : LcP S u) (k : LcP u v) : LcP S v := by
  have e := h.n.1
  refine ⟨h.1.tr k.1, fun j hj => ?_, fun j hj => ?_⟩
  · have a := h.2.1 j hj
    have b := k.2.1 j (by rw [e]; exact hj)
    exact ⟨b.1.trans a.1, b.2.trans a.2⟩
  · have a := h.2.2 j hj
    have b := k.2.2 j (by rw [e]; exact hj)
    exact ⟨b.1.trans a.1, b.2.trans a.2⟩
theorem LcP.fm {S u : MS} {W J : List Nat} (k : frm W J S u) (hW : W.all (fun x => LcW.contains x) = true) (hJ : J.all (fun x => LcJ.contains x) = true) (h43 : 43 ∉ W) (h44 : 44 ∉ W) (h45 : 45 ∉ W) (h46 : 46 ∉ W) (h47 : 47 ∉ W) (h48 : 48 ∉ W) : LcP S u :=
  ⟨k.mo hW hJ, fun j _ => ⟨by rw [(k.2.2.2.2.1 43 (by decide) h43).1], by rw [(k.2.2.2.2.1 44 (by decide) h44).1]⟩, fun j _ => ⟨by rw [fW k (h := 45) (by decide) h45 h47], by rw [fW k (h := 46) (by decide) h46 h48]⟩⟩
theorem LcP.pp {S u : MS} {d : Int} (p : PpP S d u) : LcP S u :=
  ⟨p.1.mo (by decide) (by decide), fun j hj => ⟨by rw [(p.1.2.2.2.2.1 43 (by decide) (by decide)).1], p.2.2 j hj⟩, fun j _ => ⟨by rw [fW p.1 (h := 45) (by decide) (by decide) (by decide)], by rw [fW p.1 (h := 46) (by decide) (by decide) (by decide)]⟩⟩
theorem LcP.pu {S u : MS} {d g : Int} {v : TV} (p : PuP S d g v u) (hd : d ≤ fT S) : LcP S u :=
  ⟨p.1.mo (by decide) (by decide), fun j hj => ⟨by rw [(p.1.2.2.2.2.1 43 (by decide) (by decide)).1], p.2.2.1 j hj⟩, fun j hj => ⟨by rw [fW p.1 (h := 45) (by decide) (by decide) (by decide)], p.2.2.2.1 j (by omega)⟩⟩
/-- the top frame goes to a place -/
def GtP (S : MS) (x : Int32) (u : MS) : Prop := frm [43] [] S u ∧ qI u 43 = upd (qI S 43) (fN S).toNat x
theorem LcP.gt {S u : MS} {x : Int32} (p : GtP S x u) : LcP S u :=
  ⟨p.1.mo (by decide) (by decide), fun j hj => ⟨by rw [p.2]; unfold upd; rw [if_neg hj], by rw [(p.1.2.2.2.2.1 44 (by decide) (by decide)).1]⟩, fun j _ => ⟨by rw [fW p.1 (h := 45) (by decide) (by decide) (by decide)], by rw [fW p.1 (h := 46) (by decide) (by decide) (by decide)]⟩⟩
theorem LcW92 : ∀ w ∈ LcW, w ≤ 92 := by decide
theorem Mc.go {S u : MS} {f : Nat} {U : MS} {s p : Nat} {a : AS} (h : McI S f) (L : LcP S u) (hU : FrU S f (fN S).toNat U s p a) (hA : ArI u) (hF : FvI u f) (n85 : (qI S 0 85).toInt ≤ (qI u 0 85).toInt) {y : Int} {t : Nat → Int32} (hj : 0 ≤ (qI u 43 (fN S).toNat).toInt ∧ (qI u 43 (fN S).toNat).toInt < (qI U 0 52).toInt) (hn : nxT U (qI u 43 (fN S).toNat).toInt.toNat y t) (hy : 0 ≤ y) (eT : (qI u 44 (fN S).toNat).toInt = y) (v1 : ∀ k : Nat, k < 24 → okV (qI u 0 85).toInt (nb (t k)) (slF u (fN S).toNat k)) (v2 : ∀ k : Nat, (k : Int) < y → okV (qI u 0 85).toInt (nb (t (24 + k))) (plF u (fN S).toNat k)) : McI u f := by
  obtain ⟨h1, h2, h3, h4, h5⟩ := h
  have kb := big_frm L.1 LcW92
  have e42 : qI u 42 = qI S 42 := (L.1.2.2.2.2.1 42 (by decide) (by decide)).1
  have e2 := h1.e
  refine ⟨L.b h1, h2.fm L.1 LcW92 (by decide), ⟨hA, hF⟩, ?_, fun i hi => ?_⟩
  · rw [L.n.1]
    exact FrTop.go hU kb (by rw [e42]) hj hn hy eT hA.1.1 v1 v2
  · rw [L.n.1] at hi
    have a1 := L.2.1 i (by omega)
    refine (h5 i hi).mv n85 kb ⟨by rw [e42], by rw [e42]⟩ a1.1 a1.2 (fun k hk => ?_) (fun k hk => ?_)
    · exact (L.2.2 _ (by omega)).1
    · exact (L.2.2 _ (by omega)).2
theorem FrU.stay {S u : MS} {f i : Nat} {U : MS} {s p : Nat} {a : AS} (h : FrU S f i U s p a) (hk : ∀ h : Nat, 92 < h → sm5 S u h) (e42 : qI u 42 i = qI S 42 i) (e43 : qI u 43 i = qI S 43 i) : FrU u f i U s p a := by
  obtain ⟨f92, g1, g2, g3, g4, g5, g6, g7, g8⟩ := h
  refine ⟨f92, ?_, ?_, ?_, g4, g5, ⟨fun a ha => (g6.1 a ha).s (hk a ha.1), fun a ha hq => ?_⟩, by rw [e43]; exact g7, by rw [e43]; exact g8⟩
  · rw [e42, (hk f f92).1]; exact g1
  · rw [e42, (hk (f + 6) (by omega)).2.2.1, (hk (f + 7) (by omega)).2.2.1]; exact g2
  · rw [e42]; exact g3.mk2 f92 hk
  · have z := g6.2 a ha hq
    have q := hk a ha
    exact ⟨fun j hj => by rw [q.1]; exact z.1 j hj, fun j hj => by rw [q.2.2.1]; exact z.2.1 j hj, by rw [q.2.2.2.1]; exact z.2.2.1, by rw [q.2.2.2.2]; exact z.2.2.2⟩
/-- what a step leaves -/
def McQ (f : Nat) (u : MS) : Prop := (McB u f ∧ ArI u ∧ FvI u f) ∧ (0 ≤ (qI u 0 98).toInt ∨ McI u f)
theorem McI.q {u : MS} {f : Nat} (h : McI u f) : McQ f u := ⟨⟨h.2.1, h.2.2.1⟩, Or.inr h⟩
theorem Mc.th {S u : MS} {f : Nat} {U : MS} {s p : Nat} {a : AS} (h : McI S f) (L : LcP S u) (hU : FrU S f (fN S).toNat U s p a) (e43 : qI u 43 (fN S).toNat = qI S 43 (fN S).toNat) (hA : ArI u) (hF : FvI u f) (n85 : (qI S 0 85).toInt ≤ (qI u 0 85).toInt) (v1 : ∀ k : Nat, k < 24 → okV (qI u 0 85).toInt (aL a k) (slF u (fN S).toNat k)) {e : Int32} (he : 0 ≤ e.toInt) : ∃ Q, w_throwError u e Q ∧ ∀ w, Q w → McQ f w := by
  obtain ⟨h1, h2, h3, h4, h5⟩ := h
  have kb := big_frm L.1 LcW92
  have e42 : qI u 42 = qI S 42 := (L.1.2.2.2.2.1 42 (by decide) (by decide)).1
  have e2 := h1.e
  have B := h2.fm L.1 LcW92 (by decide)
  have t := sp_throw (e := e) (n := (qI u 0 85).toInt) he (L.b h1) B.2.1 B.1.2 hA.1.1 (by rw [L.n.1]; exact ⟨U, s, p, a, hU.stay kb (by rw [e42]) e43, v1⟩) (fun i hi => by
    rw [L.n.1] at hi
    have a1 := L.2.1 i (by omega)
    refine (h5 i hi).mv n85 kb ⟨by rw [e42], by rw [e42]⟩ a1.1 a1.2 (fun k hk => ?_) (fun k hk => ?_)
    · exact (L.2.2 _ (by omega)).1
    · exact (L.2.2 _ (by omega)).2)
  refine ⟨_, t, ?_⟩
  rintro w ⟨fw, hw⟩
  have e85 : qI w 0 85 = qI u 0 85 := (fw.2.2.2.2.2 85 (by decide)).1
  have Bw := B.fm fw (by decide) (by decide)
  have Aw : ArI w := hA.eq e85 (fw.2.2.2.2.2 86 (by decide)).1 (fw.2.2.2.2.1 39 (by decide) (by decide)).1 (fw.2.2.2.2.1 40 (by decide) (by decide)).1
  have Fw : FvI w f := hF.eq B.1.1 (big_frm fw (by decide)) (by rw [e85]; exact Int.le_refl _) (fw.2.2.2.2.1 37 (by decide) (by decide)).2.1
  refine ⟨⟨Bw, Aw, Fw⟩, ?_⟩
  rcases hw with q | ⟨q1, q2, q3, q4, q5⟩
  · exact Or.inl (by omega)
  · exact Or.inr ⟨q2, Bw, ⟨Aw, Fw⟩, by rw [e85]; exact q4, by rw [e85]; exact q5⟩
/-! at an instruction (behind Mc.go, Mc.th, wk_val, wk_mval, smM) -/
def xS (S : MS) : Int32 := qI S 43 (fN S).toNat
/-- the machine stands at S before an instruction, and at V when it has looked and watched -/
def InS (S V : MS) (f : Nat) (U : MS) (s p : Nat) (a : AS) : Prop := McI S f ∧ frm [] [47, 48, 49, 50, 51, 52, 53, 54] S V ∧ FrU S f (fN S).toNat U s p a ∧ (qI S 44 (fN S).toNat).toInt = (aT a).toInt ∧ okA (qI S 0 85).toInt a (slF S (fN S).toNat) (plF S (fN S).toNat) ∧ smM U V
theorem InS.v {S V U : MS} {f s p : Nat} {a : AS} (i : InS S V f U s p a) : FrB S ∧ FrB V ∧ fN V = fN S ∧ fT S = (aT a).toInt ∧ fT V = (aT a).toInt ∧ LcP S V ∧ (0 ≤ fN S ∧ fN S < 60) := by
  obtain ⟨h1, h2, h3, h4, h5, h6⟩ := i
  have L : LcP S V := LcP.fm h2 (by decide) (by decide) (by decide) (by decide) (by decide) (by decide) (by decide) (by decide)
  have e := h1.1.e
  refine ⟨h1.1, L.b h1.1, L.n.1, h4, ?_, L, e.2.1, e.2.2.1⟩
  unfold fT
  rw [L.n.1, (h2.2.2.2.2.1 44 (by decide) (by decide)).1]
  exact h4
theorem InS.t {S V U : MS} {f s p : Nat} {a : AS} (i : InS S V f U s p a) : LkI U ∧ TxI U ∧ (0 ≤ (xS S).toInt ∧ (xS S).toInt < (qI U 0 52).toInt) ∧ StT U (xS S) p a ∧ (tkV U (xS S) ≤ (aT a).toInt ∧ (aT a).toInt ≤ 24 ∧ (aT a).toInt - tkV U (xS S) + gvV U (xS S) ≤ 24) ∧ (0 ≤ tkV U (xS S) ∧ 0 ≤ gvV U (xS S)) := by
  obtain ⟨h1, h2, ⟨g0, g1, g2, g3, g4, g5, g6, g7, g8⟩, h4, h5, h6⟩ := i
  have b := b_tg g4.1 g7 g4.2.1
  have c := g8.2.2.1
  unfold xS
  exact ⟨g4.1, g4.2.1, g7, g8, ⟨c.1, by omega, by omega⟩, b.1.1, b.2.1⟩
theorem InS.op {S V U : MS} {f s p : Nat} {a : AS} (i : InS S V f U s p a) (x : Int32) : f_op V x = f_op U x ∧ f_first V x = f_first U x ∧ f_second V x = f_second U x := i.2.2.2.2.2.op i.t.1 x
theorem go_on {S : MS} {o : Int32} (h : ¬ o.toInt = 167 ∧ ¬ o.toInt = 170 ∧ ¬ o.toInt = 171 ∧ ¬ o.toInt = 172 ∧ ¬ o.toInt = 173 ∧ ¬ o.toInt = 176 ∧ ¬ o.toInt = 177 ∧ ¬ o.toInt = 191) : (f_goesOn S o).toInt ≠ 0 := by
  obtain ⟨h1, h2, h3, h4, h5, h6, h7, h8⟩ := h
  unfold f_goesOn
  rw [if_neg h1, if_neg h2, if_neg h3, if_neg h4, if_neg h5, if_neg h6, if_neg h7, if_neg h8]
  decide
/-- a place that may follow -/
def NxP (S U : MS) (p : Nat) (a : AS) (y : Int32) : Prop := (0 ≤ y.toInt ∧ y.toInt < (qI U 0 52).toInt) ∧ nxT U y.toInt.toNat ((aT a).toInt - tkV U (xS S) + gvV U (xS S)) (wkT U (xS S) p a)
theorem InS.nx {S V U : MS} {f s p : Nat} {a : AS} (i : InS S V f U s p a) (g : (f_goesOn U (f_op U (xS S))).toInt ≠ 0) : NxP S U p a (xS S + 1) := by
  obtain ⟨k, t, hx, st, -, -⟩ := i.t
  have z := st.2.2.2.1 g
  have cn := k.cnt
  have e : (xS S + (1 : Int32)).toInt = (xS S).toInt + 1 := by rw [t_add (by rw [li_1]; omega), li_1]
  refine ⟨⟨by omega, by omega⟩, ?_⟩
  rw [e, show ((xS S).toInt + 1).toNat = (xS S).toInt.toNat + 1 by omega]
  exact z.2
theorem InS.wy {S V U : MS} {f s p : Nat} {a : AS} (i : InS S V f U s p a) {k : Int32} (k0 : 0 ≤ k.toInt) (k1 : k.toInt < (f_ways U (xS S)).toInt) : NxP S U p a (f_way U (xS S) k) := by
  obtain ⟨kk, t, hx, st, -, -⟩ := i.t
  exact ⟨((kk.ways hx).2.2 k k0 k1).2, st.2.2.2.2.1 k k0 k1⟩
theorem InS.go {S V U u : MS} {f s p : Nat} {a : AS} (i : InS S V f U s p a) (L : LcP S u) (hA : ArI u) (hF : FvI u f) (n85 : (qI S 0 85).toInt ≤ (qI u 0 85).toInt) (hm : ¬ 0 < (f_moved U (f_op U (xS S))).toInt) (hn : NxP S U p a (qI u 43 (fN S).toNat)) (eT : (qI u 44 (fN S).toNat).toInt = (aT a).toInt - tkV U (xS S) + gvV U (xS S))
    (s1 : ∀ k : Nat, k < 24 → (isSt (f_op U (xS S)) ∨ (f_op U (xS S)).toInt = 132 → k ≠ (f_first U (xS S)).toInt.toNat) → ((f_op U (xS S)).toInt = 55 → k ≠ (f_first U (xS S)).toInt.toNat + 1) → slF u (fN S).toNat k = slF S (fN S).toNat k) (s5 : (f_op U (xS S)).toInt = 54 → okV (qI u 0 85).toInt (nb 1) (slF u (fN S).toNat (f_first U (xS S)).toInt.toNat)) (s7 : (f_op U (xS S)).toInt = 55 → okV (qI u 0 85).toInt (nb 2) (slF u (fN S).toNat (f_first U (xS S)).toInt.toNat) ∧ okV (qI u 0 85).toInt (nb 3) (slF u (fN S).toNat ((f_first U (xS S)).toInt.toNat + 1))) (s6 : (f_op U (xS S)).toInt = 132 → okV (qI u 0 85).toInt (aL a (f_first U (xS S)).toInt.toNat) (slF u (fN S).toNat (f_first U (xS S)).toInt.toNat)) (s2 : (f_op U (xS S)).toInt = 58 → slF u (fN S).toNat (f_first U (xS S)).toInt.toNat = nW (plF S (fN S).toNat ((aT a).toInt - 1).toNat))
    (s3 : ∀ k : Nat, (k : Int) < (aT a).toInt - tkV U (xS S) → plF u (fN S).toNat k = plF S (fN S).toNat k)
    (s4 : ∀ j : Nat, j < qN U (f_givesOf U (xS S) + 1) → okV (qI u 0 85).toInt (nb (ltT (qI U (f_givesOf U (xS S) + 1) j) (thV U (xS S) a))) (plF u (fN S).toNat ((aT a).toInt - tkV U (xS S) + plc (qI U (f_givesOf U (xS S) + 1)) j).toNat) ∧ ((qI U (f_givesOf U (xS S) + 1) j).toInt = 74 → (plF u (fN S).toNat ((aT a).toInt - tkV U (xS S) + plc (qI U (f_givesOf U (xS S) + 1)) j + 1).toNat).2.toInt = 3)) : McI u f := by
  obtain ⟨k, t, hx, st, hT, h0⟩ := i.t
  obtain ⟨h1, h2, h3, h4, h5, h6⟩ := i
  have w := wk_val (p := p) (n' := (qI u 0 85).toInt) (sl' := slF u (fN S).toNat) (pl' := plF u (fN S).toNat) k t hx ⟨hT.1, hT.2.1, by omega⟩ hm n85 h5 st.1.nb s1 s5 s7 s6 s2 s3 s4
  exact Mc.go h1 L h3 hA hF n85 hn.1 hn.2 (by omega) eT w.1 w.2
theorem InS.mv {S V U u : MS} {f s p : Nat} {a : AS} (i : InS S V f U s p a) (L : LcP S u) (hA : ArI u) (hF : FvI u f) (n85 : (qI S 0 85).toInt = (qI u 0 85).toInt) (hm : 0 < (f_moved U (f_op U (xS S))).toInt) (hn : NxP S U p a (qI u 43 (fN S).toNat)) (eT : (qI u 44 (fN S).toNat).toInt = (aT a).toInt - tkV U (xS S) + gvV U (xS S))
    (s1 : ∀ k : Nat, k < 24 → slF u (fN S).toNat k = slF S (fN S).toNat k) (s2 : mvP (f_op U (xS S)) (aT a).toInt (plF S (fN S).toNat) (plF u (fN S).toNat)) : McI u f := by
  obtain ⟨k, t, hx, st, hT, h0⟩ := i.t
  obtain ⟨h1, h2, h3, h4, h5, h6⟩ := i
  have w := wk_mval (p := p) (sl' := slF u (fN S).toNat) (pl' := plF u (fN S).toNat) ⟨hT.1, hT.2.1⟩ hm h5 st.1.nb s1 s2
  rw [n85] at w
  exact Mc.go h1 L h3 hA hF (by omega) hn.1 hn.2 (by omega) eT w.1 w.2
/-- nothing but the frames changes -/
theorem InS.af {S V U u : MS} {f s p : Nat} {a : AS} (i : InS S V f U s p a) (k : frm [43, 44, 45, 46, 47, 48] [47, 48, 49, 50, 51, 52, 53, 54] S u) : ArI u ∧ FvI u f ∧ qI u 0 85 = qI S 0 85 := by
  have e85 : qI u 0 85 = qI S 0 85 := (k.2.2.2.2.2 85 (by decide)).1
  obtain ⟨h1, -⟩ := i
  exact ⟨h1.2.2.1.1.eq e85 (k.2.2.2.2.2 86 (by decide)).1 (k.2.2.2.2.1 39 (by decide) (by decide)).1 (k.2.2.2.2.1 40 (by decide) (by decide)).1, h1.2.2.1.2.eq h1.2.1.1.1 (big_frm k (by decide)) (by rw [e85]; exact Int.le_refl _) (k.2.2.2.2.1 37 (by decide) (by decide)).2.1, e85⟩
/-- a value is put, and the frame goes on -/
theorem InS.pu {S V U u w : MS} {f s p : Nat} {a : AS} {v : TV} {y : Int32} (i : InS S V f U s p a) (hm : ¬ 0 < (f_moved U (f_op U (xS S))).toInt) (no : ¬ isSt (f_op U (xS S)) ∧ ¬ (f_op U (xS S)).toInt = 132) (P : PuP V (tkV U (xS S)) (gvV U (xS S)) v u) (G : GtP u y w) (hn : NxP S U p a y) (g1 : qN U (f_givesOf U (xS S) + 1) = 1) (hv : okV (qI S 0 85).toInt (nb (ltT (qI U (f_givesOf U (xS S) + 1) 0) (thV U (xS S) a))) v) : McI w f := by
  obtain ⟨b0, b1, b2, b3, b4, L1, b5⟩ := i.v
  obtain ⟨k, t, hx, st, hT, h0⟩ := i.t
  have L2 := LcP.pu P (by omega)
  have L3 := LcP.gt G
  have L := (L1.tr L2).tr L3
  have eu : fN u = fN S := by rw [L2.n.1, b2]
  have fr : frm [43, 44, 45, 46, 47, 48] [47, 48, 49, 50, 51, 52, 53, 54] S w := (i.2.1.mo (by decide) (by decide)).tr ((P.1.mo (by decide) (by decide)).tr (G.1.mo (by decide) (by decide)))
  obtain ⟨hA, hF, e85⟩ := i.af fr
  obtain ⟨p1, p2, p3, p4, p5, p6⟩ := P
  have e43 : qI w 43 (fN S).toNat = y := by rw [G.2, eu]; unfold upd; rw [if_pos rfl]
  have e44 : qI w 44 = qI u 44 := (G.1.2.2.2.2.1 44 (by decide) (by decide)).1
  have e45 : qW w 45 = qW S 45 := by rw [fW G.1 (h := 45) (by decide) (by decide) (by decide), fW p1 (h := 45) (by decide) (by decide) (by decide), fW i.2.1 (h := 45) (by decide) (by decide) (by decide)]
  have e46 : qW w 46 = qW u 46 := fW G.1 (h := 46) (by decide) (by decide) (by decide)
  have v46 : qW V 46 = qW S 46 := fW i.2.1 (h := 46) (by decide) (by decide) (by decide)
  rw [b2, b4] at p4 p5 p6
  refine i.go L hA hF (by rw [e85]; exact Int.le_refl _) hm (by rw [e43]; exact hn) ?_ (fun k _ _ _ => by unfold slF; rw [e45]) (fun q => absurd (Or.inl q) no.1) (fun q => absurd (Or.inr (Or.inl q)) no.1) (fun q => absurd q no.2) (fun q => absurd (Or.inr (Or.inr q)) no.1) (fun k hk => ?_) (fun j hj => ?_)
  · rw [e44]
    unfold fT at p2
    rw [eu, b2] at p2
    have b4' : (qI V 44 (fN S).toNat).toInt = (aT a).toInt := by unfold fT at b4; rw [b2] at b4; exact b4
    rw [p2, b4']
  · unfold plF
    rw [e46, p4 _ (by omega), v46]
  · have j0 : j = 0 := by omega
    subst j0
    have z0 : plc (qI U (f_givesOf U (xS S) + 1)) 0 = 0 := rfl
    have e : plF w (fN S).toNat ((aT a).toInt - tkV U (xS S) + 0).toNat = v := by
      unfold plF
      rw [e46, ← p5]
      rw [show 24 * (fN S).toNat + ((aT a).toInt - tkV U (xS S) + 0).toNat = (24 * fN S + (aT a).toInt - tkV U (xS S)).toNat by omega]
    rw [z0]
    refine ⟨by rw [e, e85]; exact hv, fun q => ?_⟩
    have g2 : gvV U (xS S) = 2 := by
      unfold gvV plS
      rw [if_neg hm, g1]
      show 0 + (if (qI U (f_givesOf U (xS S) + 1) 0).toInt = 74 then (2 : Int) else 1) = 2
      rw [if_pos q]
      rfl
    have z := p6 g2
    unfold plF
    rw [e46, show 24 * (fN S).toNat + ((aT a).toInt - tkV U (xS S) + 0 + 1).toNat = (24 * fN S + (aT a).toInt - tkV U (xS S) + 1).toNat by omega]
    exact z
/-- values are taken, and the frame goes on -/
theorem InS.pp {S V U u w : MS} {f s p : Nat} {a : AS} {y : Int32} (i : InS S V f U s p a) (hm : ¬ 0 < (f_moved U (f_op U (xS S))).toInt) (no : ¬ isSt (f_op U (xS S)) ∧ ¬ (f_op U (xS S)).toInt = 132) (P : PpP V (tkV U (xS S)) u) (G : GtP u y w) (hn : NxP S U p a y) (g0 : qN U (f_givesOf U (xS S) + 1) = 0) : McI w f := by
  obtain ⟨b0, b1, b2, b3, b4, L1, b5⟩ := i.v
  obtain ⟨k, t, hx, st, hT, h0⟩ := i.t
  have L2 := LcP.pp P
  have L3 := LcP.gt G
  have L := (L1.tr L2).tr L3
  have eu : fN u = fN S := by rw [L2.n.1, b2]
  have fr : frm [43, 44, 45, 46, 47, 48] [47, 48, 49, 50, 51, 52, 53, 54] S w := (i.2.1.mo (by decide) (by decide)).tr ((P.1.mo (by decide) (by decide)).tr (G.1.mo (by decide) (by decide)))
  obtain ⟨hA, hF, e85⟩ := i.af fr
  obtain ⟨p1, p2, p3⟩ := P
  have gv0 : gvV U (xS S) = 0 := by
    unfold gvV plS
    rw [if_neg hm, g0]
    rfl
  have e43 : qI w 43 (fN S).toNat = y := by rw [G.2, eu]; unfold upd; rw [if_pos rfl]
  have e44 : qI w 44 = qI u 44 := (G.1.2.2.2.2.1 44 (by decide) (by decide)).1
  have e45 : qW w 45 = qW S 45 := by rw [fW G.1 (h := 45) (by decide) (by decide) (by decide), fW p1 (h := 45) (by decide) (by decide) (by decide), fW i.2.1 (h := 45) (by decide) (by decide) (by decide)]
  have e46 : qW w 46 = qW S 46 := by rw [fW G.1 (h := 46) (by decide) (by decide) (by decide), fW p1 (h := 46) (by decide) (by decide) (by decide), fW i.2.1 (h := 46) (by decide) (by decide) (by decide)]
  refine i.go L hA hF (by rw [e85]; exact Int.le_refl _) hm (by rw [e43]; exact hn) ?_ (fun k _ _ _ => by unfold slF; rw [e45]) (fun q => absurd (Or.inl q) no.1) (fun q => absurd (Or.inr (Or.inl q)) no.1) (fun q => absurd q no.2) (fun q => absurd (Or.inr (Or.inr q)) no.1) (fun k hk => by unfold plF; rw [e46]) (fun j hj => by omega)
  rw [e44]
  unfold fT at p2
  rw [eu, b2] at p2
  have b4' : (qI V 44 (fN S).toNat).toInt = (aT a).toInt := by unfold fT at b4; rw [b2] at b4; exact b4
  rw [p2, b4', gv0]
  omega
/-- an error is thrown when d places are taken -/
theorem InS.th {S V U u : MS} {f s p : Nat} {a : AS} {d : Int} {e : Int32} (he : 0 ≤ e.toInt) (i : InS S V f U s p a) (P : PpP V d u) : ∃ Q, w_throwError u e Q ∧ ∀ w, Q w → McQ f w := by
  obtain ⟨b0, b1, b2, b3, b4, L1, b5⟩ := i.v
  have L := L1.tr (LcP.pp P)
  have fr : frm [43, 44, 45, 46, 47, 48] [47, 48, 49, 50, 51, 52, 53, 54] S u := (i.2.1.mo (by decide) (by decide)).tr (P.1.mo (by decide) (by decide))
  obtain ⟨hA, hF, e85⟩ := i.af fr
  refine Mc.th i.1 L i.2.2.1 ?_ hA hF (by rw [e85]; exact Int.le_refl _) (fun k hk => ?_) he
  · rw [(P.1.2.2.2.2.1 43 (by decide) (by decide)).1, (i.2.1.2.2.2.2.1 43 (by decide) (by decide)).1]
  · rw [e85]
    unfold slF
    rw [fW P.1 (h := 45) (by decide) (by decide) (by decide), fW i.2.1 (h := 45) (by decide) (by decide) (by decide)]
    exact i.2.2.2.2.1.1 k hk
/-! jumps and arithmetic together (behind tg_96, tkN, opW) -/
theorem tg_jump {S : MS} {x : Int32} (t : TxI S) (h : (153 ≤ (f_op S x).toInt ∧ (f_op S x).toInt ≤ 167) ∨ (f_op S x).toInt = 198 ∨ (f_op S x).toInt = 199) : tkV S x = (if (f_op S x).toInt = 167 then 0 else if 159 ≤ (f_op S x).toInt ∧ (f_op S x).toInt ≤ 166 then 2 else 1) ∧ f_givesOf S x = 10000032 := by
  by_cases q153 : (f_op S x).toInt = 153
  · obtain ⟨⟨a1, a2⟩, a3, a4⟩ := tg_153 q153 t
    exact ⟨by rw [a3, q153]; decide, a2⟩
  by_cases q154 : (f_op S x).toInt = 154
  · obtain ⟨⟨a1, a2⟩, a3, a4⟩ := tg_154 q154 t
    exact ⟨by rw [a3, q154]; decide, a2⟩
  by_cases q155 : (f_op S x).toInt = 155
  · obtain ⟨⟨a1, a2⟩, a3, a4⟩ := tg_155 q155 t
    exact ⟨by rw [a3, q155]; decide, a2⟩
  by_cases q156 : (f_op S x).toInt = 156
  · obtain ⟨⟨a1, a2⟩, a3, a4⟩ := tg_156 q156 t
    exact ⟨by rw [a3, q156]; decide, a2⟩
  by_cases q157 : (f_op S x).toInt = 157
  · obtain ⟨⟨a1, a2⟩, a3, a4⟩ := tg_157 q157 t
    exact ⟨by rw [a3, q157]; decide, a2⟩
  by_cases q158 : (f_op S x).toInt = 158
  · obtain ⟨⟨a1, a2⟩, a3, a4⟩ := tg_158 q158 t
    exact ⟨by rw [a3, q158]; decide, a2⟩
  by_cases q159 : (f_op S x).toInt = 159
  · obtain ⟨⟨a1, a2⟩, a3, a4⟩ := tg_159 q159 t
    exact ⟨by rw [a3, q159]; decide, a2⟩
  by_cases q160 : (f_op S x).toInt = 160
  · obtain ⟨⟨a1, a2⟩, a3, a4⟩ := tg_160 q160 t
    exact ⟨by rw [a3, q160]; decide, a2⟩
  by_cases q161 : (f_op S x).toInt = 161
  · obtain ⟨⟨a1, a2⟩, a3, a4⟩ := tg_161 q161 t
    exact ⟨by rw [a3, q161]; decide, a2⟩
  by_cases q162 : (f_op S x).toInt = 162
  · obtain ⟨⟨a1, a2⟩, a3, a4⟩ := tg_162 q162 t
    exact ⟨by rw [a3, q162]; decide, a2⟩
  by_cases q163 : (f_op S x).toInt = 163
  · obtain ⟨⟨a1, a2⟩, a3, a4⟩ := tg_163 q163 t
    exact ⟨by rw [a3, q163]; decide, a2⟩
  by_cases q164 : (f_op S x).toInt = 164
  · obtain ⟨⟨a1, a2⟩, a3, a4⟩ := tg_164 q164 t
    exact ⟨by rw [a3, q164]; decide, a2⟩
  by_cases q165 : (f_op S x).toInt = 165
  · obtain ⟨⟨a1, a2⟩, a3, a4⟩ := tg_165 q165 t
    exact ⟨by rw [a3, q165]; decide, a2⟩
  by_cases q166 : (f_op S x).toInt = 166
  · obtain ⟨⟨a1, a2⟩, a3, a4⟩ := tg_166 q166 t
    exact ⟨by rw [a3, q166]; decide, a2⟩
  by_cases q167 : (f_op S x).toInt = 167
  · obtain ⟨⟨a1, a2⟩, a3, a4⟩ := tg_167 q167 t
    exact ⟨by rw [a3, q167]; decide, a2⟩
  by_cases q198 : (f_op S x).toInt = 198
  · obtain ⟨⟨a1, a2⟩, a3, a4⟩ := tg_198 q198 t
    exact ⟨by rw [a3, q198]; decide, a2⟩
  by_cases q199 : (f_op S x).toInt = 199
  · obtain ⟨⟨a1, a2⟩, a3, a4⟩ := tg_199 q199 t
    exact ⟨by rw [a3, q199]; decide, a2⟩
  exfalso
  omega
theorem tg_ar {S : MS} {x : Int32} (t : TxI S) (h : (96 ≤ (f_op S x).toInt ∧ (f_op S x).toInt ≤ 119 ∧ (f_op S x).toInt % 4 < 2) ∨ (120 ≤ (f_op S x).toInt ∧ (f_op S x).toInt ≤ 131) ∨ (f_op S x).toInt = 148) : tkV S x = tkN (f_op S x).toInt ∧ gvV S x = gvN (f_op S x).toInt ∧ f_givesOf S x = (if gvN (f_op S x).toInt = 1 then 10000016 else 10000022) := by
  by_cases q96 : (f_op S x).toInt = 96
  · obtain ⟨⟨a1, a2⟩, a3, a4⟩ := tg_96 q96 t
    exact ⟨by rw [a3, q96]; decide, by rw [a4, q96]; decide, by rw [a2, q96]; decide⟩
  by_cases q97 : (f_op S x).toInt = 97
  · obtain ⟨⟨a1, a2⟩, a3, a4⟩ := tg_97 q97 t
    exact ⟨by rw [a3, q97]; decide, by rw [a4, q97]; decide, by rw [a2, q97]; decide⟩
  by_cases q100 : (f_op S x).toInt = 100
  · obtain ⟨⟨a1, a2⟩, a3, a4⟩ := tg_100 q100 t
    exact ⟨by rw [a3, q100]; decide, by rw [a4, q100]; decide, by rw [a2, q100]; decide⟩
  by_cases q101 : (f_op S x).toInt = 101
  · obtain ⟨⟨a1, a2⟩, a3, a4⟩ := tg_101 q101 t
    exact ⟨by rw [a3, q101]; decide, by rw [a4, q101]; decide, by rw [a2, q101]; decide⟩
  by_cases q104 : (f_op S x).toInt = 104
  · obtain ⟨⟨a1, a2⟩, a3, a4⟩ := tg_104 q104 t
    exact ⟨by rw [a3, q104]; decide, by rw [a4, q104]; decide, by rw [a2, q104]; decide⟩
  by_cases q105 : (f_op S x).toInt = 105
  · obtain ⟨⟨a1, a2⟩, a3, a4⟩ := tg_105 q105 t
    exact ⟨by rw [a3, q105]; decide, by rw [a4, q105]; decide, by rw [a2, q105]; decide⟩
  by_cases q108 : (f_op S x).toInt = 108
  · obtain ⟨⟨a1, a2⟩, a3, a4⟩ := tg_108 q108 t
    exact ⟨by rw [a3, q108]; decide, by rw [a4, q108]; decide, by rw [a2, q108]; decide⟩
  by_cases q109 : (f_op S x).toInt = 109
  · obtain ⟨⟨a1, a2⟩, a3, a4⟩ := tg_109 q109 t
    exact ⟨by rw [a3, q109]; decide, by rw [a4, q109]; decide, by rw [a2, q109]; decide⟩
  by_cases q112 : (f_op S x).toInt = 112
  · obtain ⟨⟨a1, a2⟩, a3, a4⟩ := tg_112 q112 t
    exact ⟨by rw [a3, q112]; decide, by rw [a4, q112]; decide, by rw [a2, q112]; decide⟩
  by_cases q113 : (f_op S x).toInt = 113
  · obtain ⟨⟨a1, a2⟩, a3, a4⟩ := tg_113 q113 t
    exact ⟨by rw [a3, q113]; decide, by rw [a4, q113]; decide, by rw [a2, q113]; decide⟩
  by_cases q116 : (f_op S x).toInt = 116
  · obtain ⟨⟨a1, a2⟩, a3, a4⟩ := tg_116 q116 t
    exact ⟨by rw [a3, q116]; decide, by rw [a4, q116]; decide, by rw [a2, q116]; decide⟩
  by_cases q117 : (f_op S x).toInt = 117
  · obtain ⟨⟨a1, a2⟩, a3, a4⟩ := tg_117 q117 t
    exact ⟨by rw [a3, q117]; decide, by rw [a4, q117]; decide, by rw [a2, q117]; decide⟩
  by_cases q120 : (f_op S x).toInt = 120
  · obtain ⟨⟨a1, a2⟩, a3, a4⟩ := tg_120 q120 t
    exact ⟨by rw [a3, q120]; decide, by rw [a4, q120]; decide, by rw [a2, q120]; decide⟩
  by_cases q121 : (f_op S x).toInt = 121
  · obtain ⟨⟨a1, a2⟩, a3, a4⟩ := tg_121 q121 t
    exact ⟨by rw [a3, q121]; decide, by rw [a4, q121]; decide, by rw [a2, q121]; decide⟩
  by_cases q122 : (f_op S x).toInt = 122
  · obtain ⟨⟨a1, a2⟩, a3, a4⟩ := tg_122 q122 t
    exact ⟨by rw [a3, q122]; decide, by rw [a4, q122]; decide, by rw [a2, q122]; decide⟩
  by_cases q123 : (f_op S x).toInt = 123
  · obtain ⟨⟨a1, a2⟩, a3, a4⟩ := tg_123 q123 t
    exact ⟨by rw [a3, q123]; decide, by rw [a4, q123]; decide, by rw [a2, q123]; decide⟩
  by_cases q124 : (f_op S x).toInt = 124
  · obtain ⟨⟨a1, a2⟩, a3, a4⟩ := tg_124 q124 t
    exact ⟨by rw [a3, q124]; decide, by rw [a4, q124]; decide, by rw [a2, q124]; decide⟩
  by_cases q125 : (f_op S x).toInt = 125
  · obtain ⟨⟨a1, a2⟩, a3, a4⟩ := tg_125 q125 t
    exact ⟨by rw [a3, q125]; decide, by rw [a4, q125]; decide, by rw [a2, q125]; decide⟩
  by_cases q126 : (f_op S x).toInt = 126
  · obtain ⟨⟨a1, a2⟩, a3, a4⟩ := tg_126 q126 t
    exact ⟨by rw [a3, q126]; decide, by rw [a4, q126]; decide, by rw [a2, q126]; decide⟩
  by_cases q127 : (f_op S x).toInt = 127
  · obtain ⟨⟨a1, a2⟩, a3, a4⟩ := tg_127 q127 t
    exact ⟨by rw [a3, q127]; decide, by rw [a4, q127]; decide, by rw [a2, q127]; decide⟩
  by_cases q128 : (f_op S x).toInt = 128
  · obtain ⟨⟨a1, a2⟩, a3, a4⟩ := tg_128 q128 t
    exact ⟨by rw [a3, q128]; decide, by rw [a4, q128]; decide, by rw [a2, q128]; decide⟩
  by_cases q129 : (f_op S x).toInt = 129
  · obtain ⟨⟨a1, a2⟩, a3, a4⟩ := tg_129 q129 t
    exact ⟨by rw [a3, q129]; decide, by rw [a4, q129]; decide, by rw [a2, q129]; decide⟩
  by_cases q130 : (f_op S x).toInt = 130
  · obtain ⟨⟨a1, a2⟩, a3, a4⟩ := tg_130 q130 t
    exact ⟨by rw [a3, q130]; decide, by rw [a4, q130]; decide, by rw [a2, q130]; decide⟩
  by_cases q131 : (f_op S x).toInt = 131
  · obtain ⟨⟨a1, a2⟩, a3, a4⟩ := tg_131 q131 t
    exact ⟨by rw [a3, q131]; decide, by rw [a4, q131]; decide, by rw [a2, q131]; decide⟩
  by_cases q148 : (f_op S x).toInt = 148
  · obtain ⟨⟨a1, a2⟩, a3, a4⟩ := tg_148 q148 t
    exact ⟨by rw [a3, q148]; decide, by rw [a4, q148]; decide, by rw [a2, q148]; decide⟩
  exfalso
  omega
