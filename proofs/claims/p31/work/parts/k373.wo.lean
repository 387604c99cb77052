/-! pops, puts, workOne (behind sp_got, sp_putV, FrB.mv) -/
/-- d places are taken off the top frame's pile -/
def PpP (S : MS) (d : Int) (u : MS) : Prop := frm [44] [] S u ∧ fT u = fT S - d ∧ ∀ j : Nat, j ≠ (fN S).toNat → qI u 44 j = qI S 44 j
theorem PpP.rf {S : MS} : PpP S 0 S := ⟨frm.rf, by omega, fun _ _ => rfl⟩
theorem sp_pop {S U : MS} {d : Int} {n : Int32} (h : FrB S) (p : PpP S d U) (d0 : 0 ≤ d) (hn : 1 ≤ n.toInt ∧ d + n.toInt ≤ fT S) (hT : fT S ≤ 24) : w_got U n (fun r u => PpP S (d + n.toInt) u ∧ r = qJ S 46 (24 * fN S + fT S - d - n.toInt).toNat) := by
  obtain ⟨f1, t1, o1⟩ := p
  have m := h.mv f1
  have st := sp_got (n := n) m.1 ⟨hn.1, by omega⟩ (by omega)
  unfold w_got at st ⊢
  intro a2 ea
  obtain ⟨s1, s2, s3⟩ := st a2 ea
  refine ⟨s1, s2, fun A eA => ?_⟩
  obtain ⟨s4, s5, s6⟩ := s3 A eA
  refine ⟨s4, s5, ?_⟩
  obtain ⟨q1, q2, q3, q4⟩ := s6
  refine ⟨⟨f1.tr (q2.mo (by decide) (by decide)), by rw [q4, t1]; omega, fun j hj => ?_⟩, ?_⟩
  · rw [q3, m.2]
    unfold upd
    rw [if_neg hj]
    exact o1 j hj
  · rw [q1, m.2, t1, (f1.2.2.2.2.1 46 (by decide) (by decide)).2.1]
    rw [show 24 * fN S + (fT S - d) - n.toInt = 24 * fN S + fT S - d - n.toInt by omega]
/-- behind d places that were taken the value v is put on g places -/
def PuP (S : MS) (d g : Int) (v : TV) (u : MS) : Prop := frm [44, 46, 48] [] S u ∧ fT u = fT S - d + g ∧ (∀ j : Nat, j ≠ (fN S).toNat → qI u 44 j = qI S 44 j) ∧ (∀ j : Nat, (j : Int) < 24 * fN S + fT S - d → qW u 46 j = qW S 46 j) ∧ qW u 46 (24 * fN S + fT S - d).toNat = v ∧ (g = 2 → (qW u 46 (24 * fN S + fT S - d + 1).toNat).2.toInt = 3)
theorem PpP.pu {S U u : MS} {d : Int} {v : TV} {n : Int32} (h : FrB S) (p : PpP S d U) (q : PtP U v n u) (hT : 0 ≤ fT S - d) : PuP S d n.toInt v u := by
  obtain ⟨f1, t1, o1⟩ := p
  have m := h.mv f1
  have e2 := h.e
  obtain ⟨q1, q2, q3, q4⟩ := q
  rw [m.2, t1] at q2
  have j46 : qW U 46 = qW S 46 := fW f1 (h := 46) (by decide) (by decide) (by decide)
  refine ⟨(f1.mo (by decide) (by decide)).tr q1, by rw [q4, t1], fun j hj => ?_, fun j hj => ?_, ?_, fun g2 => ?_⟩
  · rw [q3, m.2]
    unfold upd
    rw [if_neg hj]
    exact o1 j hj
  · rw [q2, if_neg (by omega), if_neg (by omega), j46]
  · rw [q2, if_pos (by rw [show 24 * fN S + (fT S - d) = 24 * fN S + fT S - d by omega])]
  · rw [q2, if_neg (by omega), if_pos ⟨g2, by omega⟩]
    show (3 : Int32).toInt = 3
    decide
theorem sp_psh {S U : MS} {d : Int} {v : Int64} {n : Int32} (h : FrB S) (p : PpP S d U) (hn : n.toInt = 1 ∨ n.toInt = 2) (hT : 0 ≤ fT S - d ∧ fT S - d + n.toInt ≤ 24) : ∃ Q, w_put U v n Q ∧ ∀ u, Q u → PuP S d n.toInt (v, ptT v n) u :=
  ⟨_, sp_putV (h.mv p.1).1 hn (by rw [p.2.1]; exact hT), fun _ q => p.pu h q hT.1⟩
theorem sp_pst {S U : MS} {d : Int} {v : Int64} {t n : Int32} (h : FrB S) (p : PpP S d U) (hn : n.toInt = 1 ∨ n.toInt = 2) (hT : 0 ≤ fT S - d ∧ fT S - d + n.toInt ≤ 24) : ∃ Q, w_putTagged U v t n Q ∧ ∀ u, Q u → PuP S d n.toInt (v, nb t) u :=
  ⟨_, sp_putT (h.mv p.1).1 hn (by rw [p.2.1]; exact hT), fun _ q => p.pu h q hT.1⟩
theorem sp_psi {S U : MS} {d : Int} {v : Int32} (h : FrB S) (p : PpP S d U) (hT : 0 ≤ fT S - d ∧ fT S - d + 1 ≤ 24) : ∃ Q, w_putInt U v Q ∧ ∀ u, Q u → PuP S d 1 (v.toInt64, nb 1) u :=
  ⟨_, sp_putI (h.mv p.1).1 (by rw [p.2.1]; exact hT), fun _ q => by have z := p.pu h q hT.1; rw [li_1] at z; exact z⟩
theorem nb1v : (nb 1).toInt = 1 := by decide
theorem i64_int (v : Int32) : -2147483648 ≤ v.toInt64.toInt ∧ v.toInt64.toInt ≤ 2147483647 := by
  have a := v.minValue_le_toInt
  have b := v.toInt_lt
  rw [Int32.toInt_toInt64]
  have c : Int32.minValue.toInt = -2147483648 := by decide
  omega
theorem ite_T {c : Prop} [Decidable c] {p q : Prop} (h1 : c → p) (h2 : ¬ c → q) : if c then p else q := by
  by_cases z : c
  · rw [if_pos z]; exact h1 z
  · rw [if_neg z]; exact h2 z
theorem d_iw {S : MS} {o x y : Int32} (h : o.toInt = 108 ∨ o.toInt = 112 → y.toInt ≠ 0) : d_intWork S o x y := by
  unfold d_intWork
  exact ite_T (fun _ => trivial) (fun _ => ite_T (fun _ => trivial) (fun _ => ite_T (fun _ => trivial) (fun _ => ite_T (fun _ => trivial) (fun _ => ite_T (fun _ => trivial) (fun _ => ite_T (fun _ => trivial) (fun _ => ite_T (fun _ => trivial) (fun _ => ite_T (fun _ => trivial) (fun _ => ite_T (fun _ => trivial) (fun _ => ite_T (fun _ => trivial) (fun _ => ite_T (fun _ => trivial) (fun _ => ite_T (fun _ => trivial) (fun _ => ite_T (fun c => ite_T (fun _ => trivial) (fun _ => ⟨h (Or.inl c), trivial⟩)) (fun _ => ite_T (fun _ => trivial) (fun _ => ite_T (fun _ => trivial) (fun _ => ite_T (fun _ => trivial) (fun _ => ite_T (fun c => ite_T (fun _ => trivial) (fun _ => ⟨h (Or.inr c), trivial⟩)) (fun _ => trivial)))))))))))))))))
theorem d_lw {S : MS} {o : Int32} {x y : Int64} (h : o.toInt = 109 ∨ o.toInt = 113 → ¬ y = 0) : d_longWork S o x y := by
  unfold d_longWork
  exact ite_T (fun _ => trivial) (fun _ => ite_T (fun _ => trivial) (fun _ => ite_T (fun _ => trivial) (fun _ => ite_T (fun _ => trivial) (fun _ => ite_T (fun _ => trivial) (fun _ => ite_T (fun _ => trivial) (fun _ => ite_T (fun _ => trivial) (fun _ => ite_T (fun _ => trivial) (fun _ => ite_T (fun _ => trivial) (fun _ => ite_T (fun _ => trivial) (fun _ => ite_T (fun _ => trivial) (fun _ => ite_T (fun _ => trivial) (fun _ => ite_T (fun c => ite_T (fun _ => trivial) (fun _ => ⟨h (Or.inl c), trivial⟩)) (fun _ => ite_T (fun _ => trivial) (fun _ => ite_T (fun _ => trivial) (fun _ => ite_T (fun _ => trivial) (fun _ => ite_T (fun c => ite_T (fun _ => trivial) (fun _ => ⟨h (Or.inr c), trivial⟩)) (fun _ => trivial)))))))))))))))))
/-- what an arithmetic instruction takes and gives -/
def tkN (op : Int) : Int := if op = 116 then 1 else if op = 117 then 2 else if op = 148 then 4 else if 120 ≤ op ∧ op ≤ 125 then (if op % 2 = 0 then 2 else 3) else if op % 2 = 0 then 2 else 4
def gvN (op : Int) : Int := if op = 148 then 1 else if op % 2 = 0 then 1 else 2
def isAr (op : Int) : Prop := (96 ≤ op ∧ op ≤ 131) ∨ op = 148
theorem par2 {x : Int32} (h : 0 ≤ x.toInt ∧ x.toInt ≤ 1000) : (x - x / (2 : Int32) * (2 : Int32)).toInt = x.toInt % 2 := by
  have l2 : (2 : Int32).toInt = 2 := by decide
  have ed : (x / (2 : Int32)).toInt = x.toInt / 2 := by
    rw [Int32.toInt_div, l2, Int.tdiv_eq_ediv_of_nonneg h.1]
    rw [Int.bmod_def]
    omega
  have em : (x / (2 : Int32) * (2 : Int32)).toInt = x.toInt / 2 * 2 := by
    rw [t_mul (by rw [ed, l2]; omega), ed, l2]
  rw [t_sub (by rw [em]; omega), em]
  omega
/-- a value was put, an int where one place is given -/
def WoP (S : MS) (op : Int) (u : MS) : Prop := ∃ v : TV, PuP S (tkN op) (gvN op) v u ∧ (gvN op = 1 → (-2147483648 ≤ v.1.toInt ∧ v.1.toInt ≤ 2147483647) ∧ v.2.toInt = 1) ∧ (gvN op = 2 → v.2.toInt = 2)
theorem lg0 {y : Int64} (h : ¬ (lg_cmp y 0).toInt = 0) : ¬ y = 0 := fun q => h (by rw [q]; decide)
theorem sp_workOne {S : MS} {op : Int32} {Qt : MS → Prop} (h : FrB S) (ho : isAr op.toInt) (hT : tkN op.toInt ≤ fT S ∧ fT S ≤ 24) (hy : op.toInt = 108 ∨ op.toInt = 112 → -2147483648 ≤ (qJ S 46 (24 * fN S + fT S - 1).toNat).toInt ∧ (qJ S 46 (24 * fN S + fT S - 1).toNat).toInt ≤ 2147483647) (ht : ∀ u : MS, PpP S (tkN op.toInt) u → ∃ Q, w_throwError u 0 Q ∧ ∀ w, Q w → Qt w) : w_workOne S op (fun r u => (r.toInt = 0 → Qt u) ∧ (¬ r.toInt = 0 → WoP S op.toInt u)) := by
  have hr : 0 ≤ op.toInt ∧ op.toInt ≤ 1000 := by unfold isAr at ho; omega
  have l2 : (2 : Int32).toInt = 2 := by decide
  have yes : ∀ (u : MS) (v : TV) (g : Int), PuP S (tkN op.toInt) g v u → g = gvN op.toInt → (gvN op.toInt = 1 → (-2147483648 ≤ v.1.toInt ∧ v.1.toInt ≤ 2147483647) ∧ v.2.toInt = 1) → (gvN op.toInt = 2 → v.2.toInt = 2) → (((1 : Int32).toInt = 0 → Qt u) ∧ (¬ (1 : Int32).toInt = 0 → WoP S op.toInt u)) := fun u v g p eg hv hw => ⟨fun z => absurd z (by decide), fun _ => ⟨v, by rw [← eg]; exact p, hv, hw⟩⟩
  have f105 : ∀ (U : MS) (t w : Int32) (y : Int64) (d : Int), PpP S d U → (t.toInt = 1 ∨ t.toInt = 2) → 0 ≤ d → d + t.toInt = tkN op.toInt → (w.toInt = 0 → gvN op.toInt = 1) → (¬ w.toInt = 0 → op.toInt = 148 ∨ gvN op.toInt = 2) → (op.toInt = 108 ∨ op.toInt = 112 → w.toInt = 0 ∧ -2147483648 ≤ y.toInt ∧ y.toInt ≤ 2147483647) → ¬ op.toInt = 116 → ¬ op.toInt = 117 → w_workOne_J105 (fun r u => (r.toInt = 0 → Qt u) ∧ (¬ r.toInt = 0 → WoP S op.toInt u)) U t op w y := fun U t w y d pU tt d0 ed w0 w1 hyy n6 n7 => by
    unfold w_workOne_J105
    refine ⟨_, sp_pop h pU d0 ⟨by omega, by omega⟩ hT.2, ?_⟩
    rintro x A ⟨pA, -⟩
    rw [ed] at pA
    have hg : gvN op.toInt = 1 ∨ gvN op.toInt = 2 := by unfold gvN; split; exact Or.inl rfl; split; exact Or.inl rfl; exact Or.inr rfl
    have tg : fT S - tkN op.toInt + gvN op.toInt ≤ 24 := by
      have : gvN op.toInt ≤ tkN op.toInt := by
        unfold gvN tkN
        rw [if_neg n6, if_neg n7]
        repeat' split
        all_goals omega
      omega
    have int1 : ∀ v : Int32, gvN op.toInt = 1 → ∃ Q, w_putInt A v Q ∧ ∀ u, Q u → (((1 : Int32).toInt = 0 → Qt u) ∧ (¬ (1 : Int32).toInt = 0 → WoP S op.toInt u)) := fun v g1 => by
      obtain ⟨Q, a, b⟩ := sp_psi (v := v) h pA ⟨by omega, by omega⟩
      exact ⟨Q, a, fun u hu => yes u _ _ (b u hu) g1.symm (fun _ => ⟨i64_int v, nb1v⟩) (fun z => by omega)⟩
    have j171 : ¬ op.toInt = 148 → (op.toInt = 108 ∨ op.toInt = 112 ∨ op.toInt = 109 ∨ op.toInt = 113 → ¬ (lg_cmp y 0).toInt = 0) → w_workOne_J171 (fun r u => (r.toInt = 0 → Qt u) ∧ (¬ r.toInt = 0 → WoP S op.toInt u)) A op w y x := fun n148 hz => by
      unfold w_workOne_J171
      refine ⟨fun c => ⟨?_, int1 _ (w0 c)⟩, fun c => ⟨?_, ?_⟩⟩
      · have y32 : op.toInt = 108 ∨ op.toInt = 112 → ¬ (y.toInt32).toInt = 0 := fun q z => by
          have a := hyy q
          have b := lg0 (hz (by omega))
          apply b
          apply Int64.toInt_inj.mp
          rw [Int64.toInt_toInt32] at z
          have e : y.toInt.bmod (2 ^ 32) = y.toInt := by rw [Int.bmod_def]; omega
          rw [e] at z
          rw [z]; rfl
        exact d_iw y32
      · exact d_lw (fun q => lg0 (hz (by omega)))
      · have g2 := (w1 c).resolve_left n148
        obtain ⟨Q, a, b⟩ := sp_psh (v := f_longWork A op x y) (n := 2) h pA (Or.inr l2) ⟨by omega, by rw [l2]; omega⟩
        refine ⟨Q, a, fun u hu => yes u _ _ (b u hu) (by rw [l2, g2]) (fun z => by omega) (fun _ => ptT_2 l2)⟩
    refine ⟨fun c => ?_, fun c => ⟨fun c1 => j171 c (fun z => by omega), fun c1 => ⟨fun c2 => j171 c (fun z => by omega), fun c2 => ⟨fun c3 => ?_, fun c3 => j171 c (fun _ => c3)⟩⟩⟩⟩
    · have g1 : gvN op.toInt = 1 := by unfold gvN; rw [if_pos c]
      exact ⟨fun _ => ⟨fun _ => int1 _ g1, fun _ => int1 _ g1⟩, fun _ => int1 _ g1⟩
    · obtain ⟨Q, a, b⟩ := ht A pA
      exact ⟨Q, a, fun u hu => ⟨fun _ => b u hu, fun z => absurd rfl z⟩⟩
  have f94 : ∀ (U : MS) (w : Int32) (y : Int64) (d : Int), PpP S d U → 0 ≤ d → d + (if w.toInt = 0 then 1 else 2) = tkN op.toInt → (w.toInt = 0 → gvN op.toInt = 1) → (¬ w.toInt = 0 → op.toInt = 148 ∨ gvN op.toInt = 2) → (op.toInt = 108 ∨ op.toInt = 112 → w.toInt = 0 ∧ -2147483648 ≤ y.toInt ∧ y.toInt ≤ 2147483647) → ¬ op.toInt = 116 → ¬ op.toInt = 117 → w_workOne_J94 (fun r u => (r.toInt = 0 → Qt u) ∧ (¬ r.toInt = 0 → WoP S op.toInt u)) U y op w := fun U w y d pU d0 ed w0 w1 hyy n6 n7 => by
    unfold w_workOne_J94
    refine ⟨fun c => f105 U 1 w y d pU (Or.inl li_1) d0 (by rw [if_pos c] at ed; rw [li_1]; exact ed) w0 w1 hyy n6 n7, fun c => f105 U 2 w y d pU (Or.inr l2) d0 (by rw [if_neg c] at ed; rw [l2]; exact ed) w0 w1 hyy n6 n7⟩
  have f19 : ∀ w : Int32, (w.toInt = 0 → ¬ op.toInt = 148 ∧ op.toInt % 2 = 0) → (¬ w.toInt = 0 → op.toInt = 148 ∨ op.toInt % 2 = 1) → w_workOne_J19 (fun r u => (r.toInt = 0 → Qt u) ∧ (¬ r.toInt = 0 → WoP S op.toInt u)) S w op := fun w a0 a1 => by
    have w0 : w.toInt = 0 → gvN op.toInt = 1 := fun c => by unfold gvN; rw [if_neg (a0 c).1, if_pos (a0 c).2]
    have w1 : ¬ w.toInt = 0 → op.toInt = 148 ∨ gvN op.toInt = 2 := fun c => by
      by_cases z : op.toInt = 148
      · exact Or.inl z
      · have := (a1 c).resolve_left z
        refine Or.inr ?_
        unfold gvN
        rw [if_neg z, if_neg (by omega)]
    have j32 : (op.toInt = 116 ∨ op.toInt = 117) → w_workOne_J32 (fun r u => (r.toInt = 0 → Qt u) ∧ (¬ r.toInt = 0 → WoP S op.toInt u)) S w := fun c => by
      unfold w_workOne_J32 w_gotInt
      refine ⟨fun z => ?_, fun z => ?_⟩
      · have e6 : op.toInt = 116 := by have := (a0 z).2; omega
        have tk : tkN op.toInt = 1 := by unfold tkN; rw [if_pos e6]
        refine ⟨fun _ u => PpP S 1 u, ⟨_, sp_pop (n := 1) h PpP.rf (by decide) ⟨by decide, by rw [li_1]; omega⟩ hT.2, fun r u hu => by have q := hu.1; rw [li_1] at q; exact q⟩, fun r A pA => ?_⟩
        obtain ⟨Q, a, b⟩ := sp_psi (v := -r) h pA ⟨by omega, by omega⟩
        exact ⟨Q, a, fun u hu => yes u ((-r).toInt64, nb 1) _ (by rw [tk]; exact b u hu) (w0 z).symm (fun _ => ⟨i64_int (-r), nb1v⟩) (fun y => by have := w0 z; omega)⟩
      · have e7 : op.toInt = 117 := by have := a1 z; omega
        have tk : tkN op.toInt = 2 := by unfold tkN; rw [if_neg (by omega), if_pos e7]
        have g2 : gvN op.toInt = 2 := by unfold gvN; rw [if_neg (by omega), if_neg (by omega)]
        refine ⟨_, sp_pop (n := 2) h PpP.rf (by decide) ⟨by decide, by rw [l2]; omega⟩ hT.2, ?_⟩
        rintro r A ⟨pA, -⟩
        rw [l2] at pA
        obtain ⟨Q, a, b⟩ := sp_psh (v := -r) (n := 2) h pA (Or.inr l2) ⟨by omega, by rw [l2]; omega⟩
        exact ⟨Q, a, fun u hu => yes u (-r, ptT (-r) 2) _ (by rw [tk]; exact b u hu) (by rw [l2, g2]) (fun z => by omega) (fun _ => ptT_2 l2)⟩
    have j81 : ¬ op.toInt = 116 → ¬ op.toInt = 117 → ¬ (120 ≤ op.toInt ∧ op.toInt ≤ 125) → w_workOne_J81 (fun r u => (r.toInt = 0 → Qt u) ∧ (¬ r.toInt = 0 → WoP S op.toInt u)) S op w := fun n6 n7 n8 => by
      unfold w_workOne_J81 w_workOne_J91
      refine ⟨fun z => ?_, fun z => ?_⟩
      · have tk : tkN op.toInt = 2 := by unfold tkN; rw [if_neg n6, if_neg n7, if_neg (a0 z).1, if_neg n8, if_pos (a0 z).2]
        refine ⟨_, sp_pop (n := 1) h PpP.rf (by decide) ⟨by decide, by rw [li_1]; omega⟩ hT.2, ?_⟩
        rintro y A ⟨pA, ey⟩
        rw [li_1] at pA ey
        refine f94 A w y _ pA (by decide) (by rw [if_pos z, tk]; rfl) w0 w1 (fun q => ⟨z, ?_⟩) n6 n7
        rw [ey, show 24 * fN S + fT S - 0 - 1 = 24 * fN S + fT S - 1 by omega]
        exact hy q
      · have tk : tkN op.toInt = 4 := by
          unfold tkN
          rw [if_neg n6, if_neg n7]
          by_cases q : op.toInt = 148
          · rw [if_pos q]
          · rw [if_neg q, if_neg n8, if_neg (by have := a1 z; omega)]
        refine ⟨_, sp_pop (n := 2) h PpP.rf (by decide) ⟨by decide, by rw [l2]; omega⟩ hT.2, ?_⟩
        rintro y A ⟨pA, ey⟩
        rw [l2] at pA
        refine f94 A w y _ pA (by decide) (by rw [if_neg z, tk]; rfl) w0 w1 (fun q => ?_) n6 n7
        have := a1 z
        omega
    unfold w_workOne_J19
    refine ⟨fun c => j32 (Or.inl c), fun c6 => ⟨fun c => j32 (Or.inr c), fun c7 => ⟨fun c => j81 c6 c7 (by omega), fun c8 => ⟨fun c => j81 c6 c7 (by omega), fun c9 => ?_⟩⟩⟩⟩
    have s8 : 120 ≤ op.toInt ∧ op.toInt ≤ 125 := by omega
    have n48 : ¬ op.toInt = 148 := by omega
    have tk : tkN op.toInt = if op.toInt % 2 = 0 then 2 else 3 := by unfold tkN; rw [if_neg c6, if_neg c7, if_neg n48, if_pos s8]
    have ge : 2 ≤ tkN op.toInt := by rw [tk]; split <;> omega
    refine ⟨_, sp_pop (n := 1) h PpP.rf (by decide) ⟨by decide, by rw [li_1]; omega⟩ hT.2, ?_⟩
    rintro y A ⟨pA, ey⟩
    rw [li_1] at pA
    refine f94 A w y _ pA (by decide) ?_ w0 w1 (fun q => by omega) c6 c7
    rw [tk]
    by_cases z : w.toInt = 0
    · rw [if_pos z, if_pos (a0 z).2]; rfl
    · have := (a1 z).resolve_left n48
      rw [if_neg z, if_neg (by omega)]; rfl
  have e2 := par2 hr
  unfold w_workOne w_workOne_J14
  rw [e2]
  refine ⟨fun c => f19 1 (fun z => absurd z (by decide)) (fun _ => Or.inl c), fun c => ⟨fun c1 => f19 1 (fun z => absurd z (by decide)) (fun _ => Or.inr c1), fun c1 => f19 0 (fun _ => ⟨c, by omega⟩) (fun z => absurd rfl z)⟩⟩
/-! the machine's state (behind FrTop.go, FrMid.mv, sp_throw, wk_val, wk_mval, VfI, ArI) -/
theorem VfI.fm {S u : MS} {f : Nat} {W J : List Nat} (h : VfI S f) (k : frm W J S u) (hW : ∀ w ∈ W, w ≤ 92) : VfI u f := by
  have kb := big_frm k hW
  obtain ⟨⟨h1, h2⟩, ⟨St, R, nc, a1, a2, a3, a4, a5, a6, a7, a8⟩, h3⟩ := h
  have f92 := h1.1.1
  have eR := (kb f f92).2.2.1
  refine ⟨⟨?_, by rw [k.2.2.1]; exact h2⟩, ⟨St, R, nc, by rw [k.2.2.1]; exact a1, by rw [eR]; exact a2, by rw [k.1]; exact a3, by rw [k.2.1]; exact a4, by rw [eR]; exact a5, by rw [k.2.2.1]; exact a6, by rw [k.1]; exact a7, by rw [k.2.1]; exact a8⟩, fun m hm => ?_⟩
  · unfold FlR
    rw [k.1, k.2.1, eR]
    exact h1
  · rw [(kb f f92).1] at hm
    obtain ⟨U, s, p, b1, b2, b3, b4, b5, b6, b7, b8, b9, b10⟩ := h3 m hm
    refine ⟨U, s, p, by rw [(kb (f + 6) (by omega)).2.2.1]; exact b1, by rw [(kb (f + 7) (by omega)).2.2.1]; exact b2, b3.mk2 f92 kb, b4, b5, b6, b7, fun a ha => (b8 a ha).s (kb a ha.1), fun a ha hq => ?_, b10.mk2 f92 kb⟩
    have z := b9 a ha hq
    have q := kb a ha
    exact ⟨fun j hj => by rw [q.1]; exact z.1 j hj, fun j hj => by rw [q.2.2.1]; exact z.2.1 j hj, by rw [q.2.2.2.1]; exact z.2.2.1, by rw [q.2.2.2.2]; exact z.2.2.2⟩
theorem TxI.fm {S u : MS} {W J : List Nat} (h : TxI S) (k : frm W J S u) (hW : ∀ w ∈ W, w ≤ 92) : TxI u := fun i hi => by
  have kb := big_frm k hW (TXB + 2 * i + 1) (by have : TXB = 10000000 := rfl; omega)
  rw [kb.1, kb.2.2.2.1, kb.2.2.2.2]
  exact h i hi
theorem ArI.eq {S u : MS} (h : ArI S) (e1 : qI u 0 85 = qI S 0 85) (e2 : qI u 0 86 = qI S 0 86) (e3 : qI u 39 = qI S 39) (e4 : qI u 40 = qI S 40) : ArI u := by
  unfold ArI
  rw [e1, e2, e3, e4]
  exact h
/-- fields that hold arrays hold some that are made -/
def FvI (S : MS) (f : Nat) : Prop := ∀ i s : Nat, (i : Int) < (qI S f 3).toInt → qR S (f + 3) i = some s → 92 < s → (qI S (s + 1) 0).toInt = 65 → 0 ≤ (qJ S 37 i).toInt ∧ (qJ S 37 i).toInt ≤ (qI S 0 85).toInt
theorem FvI.eq {S u : MS} {f : Nat} (h : FvI S f) (f92 : 92 < f) (kb : ∀ h : Nat, 92 < h → sm5 S u h) (e1 : (qI S 0 85).toInt ≤ (qI u 0 85).toInt) (e2 : qJ u 37 = qJ S 37) : FvI u f := fun i s hi hs h92 hc => by
  rw [(kb f f92).1] at hi
  rw [(kb (f + 3) (by omega)).2.2.1] at hs
  rw [(kb (s + 1) (by omega)).1] at hc
  have q := h i s hi hs h92 hc
  rw [e2]
  exact ⟨q.1, by omega⟩
def McB (S : MS) (f : Nat) : Prop := (92 < f ∧ qR S 0 80 = some f) ∧ FlI S f ∧ VfI S f ∧ TxI S ∧ qI S 0 96 = 0
theorem McB.fm {S u : MS} {f : Nat} {W J : List Nat} (h : McB S f) (k : frm W J S u) (hW : ∀ w ∈ W, w ≤ 92) (hJ : 80 ∉ J ∧ 96 ∉ J) : McB u f := ⟨⟨h.1.1, by rw [(k.2.2.2.2.2 80 hJ.1).2.2]; exact h.1.2⟩, h.2.1.fm h.1.1 k hW, h.2.2.1.fm k hW, h.2.2.2.1.fm k hW, by rw [(k.2.2.2.2.2 96 hJ.2).1]; exact h.2.2.2.2⟩
/-- the machine runs -/
def McI (S : MS) (f : Nat) : Prop := FrB S ∧ McB S f ∧ (ArI S ∧ FvI S f) ∧ FrTop S f (fN S).toNat (qI S 0 85).toInt ∧ ∀ i : Nat, (i : Int) < fN S → FrMid S f i (qI S 0 85).toInt
def LcW : List Nat := [37, 38, 39, 40, 43, 44, 45, 46, 47, 48]
def LcJ : List Nat := [47, 48, 49, 50, 51, 52, 53, 54, 85, 86]
/-- only the top frame's own places change -/
def LcP (S u : MS) : Prop := frm LcW LcJ S u ∧ (∀ j : Nat, j ≠ (fN S).toNat → qI u 43 j = qI S 43 j ∧ qI u 44 j = qI S 44 j) ∧ ∀ j : Nat, (j : Int) < 24 * fN S → qW u 45 j = qW S 45 j ∧ qW u 46 j = qW S 46 j
theorem LcP.n {S u : MS} (h : LcP S u) : fN u = fN S ∧ qI u 0 97 = qI S 0 97 := by
  have e := (h.1.2.2.2.2.2 97 (by decide)).1
  exact ⟨by unfold fN; rw [e], e⟩
theorem LcP.b {S u : MS} (h : LcP S u) (k : FrB S) : FrB u := by
  unfold FrB
  rw [h.n.2]
  exact k
theorem LcP.rf {S : MS} : LcP S S := ⟨frm.rf, fun _ _ => ⟨rfl, rfl⟩, fun _ _ => ⟨rfl, rfl⟩⟩
theorem LcP.tr {S u v : MS} (h : LcP S u) (k : LcP u v) : LcP S v := by
  have e := h.n.1
  refine ⟨h.1.tr k.1, fun j hj => ?_, fun j hj => ?_⟩
  · have a := h.2.1 j hj
    have b := k.2.1 j (by rw [e]; exact hj)
    exact ⟨b.1.trans a.1, b.2.trans a.2⟩
  · have a := h.2.2 j hj
    have b := k.2.2 j (by rw [e]; exact hj)
    exact ⟨b.1.trans a.1, b.2.trans a.2⟩
theorem LcP.fm {S u : MS} {W J : List Nat} (k : frm W J S u) (hW : W.all (fun x => LcW.contains x) = true) (hJ : J.all (fun x => LcJ.contains x) = true) (h43 : 43 ∉ W) (h44 : 44 ∉ W) (h45 : 45 ∉ W) (h46 : 46 ∉ W) (h47 : 47 ∉ W) (h48 : 48 ∉ W) : LcP S u :=
  ⟨k.mo hW hJ, fun j _ => ⟨by rw [(k.2.2.2.2.1 43 (by decide) h43).1], by rw [(k.2.2.2.2.1 44 (by decide) h44).1]⟩, fun j _ => ⟨by rw [fW k (h := 45) (by decide) h45 h47], by rw [fW k (h := 46) (by decide) h46 h48]⟩⟩
theorem LcP.pp {S u : MS} {d : Int} (p : PpP S d u) : LcP S u :=
  ⟨p.1.mo (by decide) (by decide), fun j hj => ⟨by rw [(p.1.2.2.2.2.1 43 (by decide) (by decide)).1], p.2.2 j hj⟩, fun j _ => ⟨by rw [fW p.1 (h := 45) (by decide) (by decide) (by decide)], by rw [fW p.1 (h := 46) (by decide) (by decide) (by decide)]⟩⟩
theorem LcP.pu {S u : MS} {d g : Int} {v : TV} (p : PuP S d g v u) (hd : d ≤ fT S) : LcP S u :=
  ⟨p.1.mo (by decide) (by decide), fun j hj => ⟨by rw [(p.1.2.2.2.2.1 43 (by decide) (by decide)).1], p.2.2.1 j hj⟩, fun j hj => ⟨by rw [fW p.1 (h := 45) (by decide) (by decide) (by decide)], p.2.2.2.1 j (by omega)⟩⟩
/-- the top frame goes to a place -/
def GtP (S : MS) (x : Int32) (u : MS) : Prop := frm [43] [] S u ∧ qI u 43 = upd (qI S 43) (fN S).toNat x
theorem LcP.gt {S u : MS} {x : Int32} (p : GtP S x u) : LcP S u :=
  ⟨p.1.mo (by decide) (by decide), fun j hj => ⟨by rw [p.2]; unfold upd; rw [if_neg hj], by rw [(p.1.2.2.2.2.1 44 (by decide) (by decide)).1]⟩, fun j _ => ⟨by rw [fW p.1 (h := 45) (by decide) (by decide) (by decide)], by rw [fW p.1 (h := 46) (by decide) (by decide) (by decide)]⟩⟩
theorem LcW92 : ∀ w ∈ LcW, w ≤ 92 := by decide
theorem Mc.go {S u : MS} {f : Nat} {U : MS} {s p : Nat} {a : AS} (h : McI S f) (L : LcP S u) (hU : FrU S f (fN S).toNat U s p a) (hA : ArI u) (hF : FvI u f) (n85 : (qI S 0 85).toInt ≤ (qI u 0 85).toInt) {y : Int} {t : Nat → Int32} (hj : 0 ≤ (qI u 43 (fN S).toNat).toInt ∧ (qI u 43 (fN S).toNat).toInt < (qI U 0 52).toInt) (hn : nxT U (qI u 43 (fN S).toNat).toInt.toNat y t) (hy : 0 ≤ y) (eT : (qI u 44 (fN S).toNat).toInt = y) (v1 : ∀ k : Nat, k < 24 → okV (qI u 0 85).toInt (nb (t k)) (slF u (fN S).toNat k)) (v2 : ∀ k : Nat, (k : Int) < y → okV (qI u 0 85).toInt (nb (t (24 + k))) (plF u (fN S).toNat k)) : McI u f := by
  obtain ⟨h1, h2, h3, h4, h5⟩ := h
  have kb := big_frm L.1 LcW92
  have e42 : qI u 42 = qI S 42 := (L.1.2.2.2.2.1 42 (by decide) (by decide)).1
  have e2 := h1.e
  refine ⟨L.b h1, h2.fm L.1 LcW92 (by decide), ⟨hA, hF⟩, ?_, fun i hi => ?_⟩
  · rw [L.n.1]
    exact FrTop.go hU kb (by rw [e42]) hj hn hy eT hA.1.1 v1 v2
  · rw [L.n.1] at hi
    have a1 := L.2.1 i (by omega)
    refine (h5 i hi).mv n85 kb ⟨by rw [e42], by rw [e42]⟩ a1.1 a1.2 (fun k hk => ?_) (fun k hk => ?_)
    · exact (L.2.2 _ (by omega)).1
    · exact (L.2.2 _ (by omega)).2
theorem FrU.stay {S u : MS} {f i : Nat} {U : MS} {s p : Nat} {a : AS} (h : FrU S f i U s p a) (hk : ∀ h : Nat, 92 < h → sm5 S u h) (e42 : qI u 42 i = qI S 42 i) (e43 : qI u 43 i = qI S 43 i) : FrU u f i U s p a := by
  obtain ⟨f92, g1, g2, g3, g4, g5, g6, g7, g8⟩ := h
  refine ⟨f92, ?_, ?_, ?_, g4, g5, ⟨fun a ha => (g6.1 a ha).s (hk a ha.1), fun a ha hq => ?_⟩, by rw [e43]; exact g7, by rw [e43]; exact g8⟩
  · rw [e42, (hk f f92).1]; exact g1
  · rw [e42, (hk (f + 6) (by omega)).2.2.1, (hk (f + 7) (by omega)).2.2.1]; exact g2
  · rw [e42]; exact g3.mk2 f92 hk
  · have z := g6.2 a ha hq
    have q := hk a ha
    exact ⟨fun j hj => by rw [q.1]; exact z.1 j hj, fun j hj => by rw [q.2.2.1]; exact z.2.1 j hj, by rw [q.2.2.2.1]; exact z.2.2.1, by rw [q.2.2.2.2]; exact z.2.2.2⟩
/-- what a step leaves -/
def McQ (f : Nat) (u : MS) : Prop := (McB u f ∧ ArI u ∧ FvI u f) ∧ (0 ≤ (qI u 0 98).toInt ∨ McI u f)
theorem McI.q {u : MS} {f : Nat} (h : McI u f) : McQ f u := ⟨⟨h.2.1, h.2.2.1⟩, Or.inr h⟩
theorem Mc.th {S u : MS} {f : Nat} {U : MS} {s p : Nat} {a : AS} (h : McI S f) (L : LcP S u) (hU : FrU S f (fN S).toNat U s p a) (e43 : qI u 43 (fN S).toNat = qI S 43 (fN S).toNat) (hA : ArI u) (hF : FvI u f) (n85 : (qI S 0 85).toInt ≤ (qI u 0 85).toInt) (v1 : ∀ k : Nat, k < 24 → okV (qI u 0 85).toInt (aL a k) (slF u (fN S).toNat k)) {e : Int32} (he : 0 ≤ e.toInt) : ∃ Q, w_throwError u e Q ∧ ∀ w, Q w → McQ f w := by
  obtain ⟨h1, h2, h3, h4, h5⟩ := h
  have kb := big_frm L.1 LcW92
  have e42 : qI u 42 = qI S 42 := (L.1.2.2.2.2.1 42 (by decide) (by decide)).1
  have e2 := h1.e
  have B := h2.fm L.1 LcW92 (by decide)
  have t := sp_throw (e := e) (n := (qI u 0 85).toInt) he (L.b h1) B.2.1 B.1.2 hA.1.1 (by rw [L.n.1]; exact ⟨U, s, p, a, hU.stay kb (by rw [e42]) e43, v1⟩) (fun i hi => by
    rw [L.n.1] at hi
    have a1 := L.2.1 i (by omega)
    refine (h5 i hi).mv n85 kb ⟨by rw [e42], by rw [e42]⟩ a1.1 a1.2 (fun k hk => ?_) (fun k hk => ?_)
    · exact (L.2.2 _ (by omega)).1
    · exact (L.2.2 _ (by omega)).2)
  refine ⟨_, t, ?_⟩
  rintro w ⟨fw, hw⟩
  have e85 : qI w 0 85 = qI u 0 85 := (fw.2.2.2.2.2 85 (by decide)).1
  have Bw := B.fm fw (by decide) (by decide)
  have Aw : ArI w := hA.eq e85 (fw.2.2.2.2.2 86 (by decide)).1 (fw.2.2.2.2.1 39 (by decide) (by decide)).1 (fw.2.2.2.2.1 40 (by decide) (by decide)).1
  have Fw : FvI w f := hF.eq B.1.1 (big_frm fw (by decide)) (by rw [e85]; exact Int.le_refl _) (fw.2.2.2.2.1 37 (by decide) (by decide)).2.1
  refine ⟨⟨Bw, Aw, Fw⟩, ?_⟩
  rcases hw with q | ⟨q1, q2, q3, q4, q5⟩
  · exact Or.inl (by omega)
  · exact Or.inr ⟨q2, Bw, ⟨Aw, Fw⟩, by rw [e85]; exact q4, by rw [e85]; exact q5⟩
/-! at an instruction (behind Mc.go, Mc.th, wk_val, wk_mval, smM) -/
def xS (S : MS) : Int32 := qI S 43 (fN S).toNat
/-- the machine stands at S before an instruction, and at V when it has looked and watched -/
def InS (S V : MS) (f : Nat) (U : MS) (s p : Nat) (a : AS) : Prop := McI S f ∧ frm [] [47, 48, 49, 50, 51, 52, 53, 54] S V ∧ FrU S f (fN S).toNat U s p a ∧ (qI S 44 (fN S).toNat).toInt = (aT a).toInt ∧ okA (qI S 0 85).toInt a (slF S (fN S).toNat) (plF S (fN S).toNat) ∧ smM U V
theorem InS.v {S V U : MS} {f s p : Nat} {a : AS} (i : InS S V f U s p a) : FrB S ∧ FrB V ∧ fN V = fN S ∧ fT S = (aT a).toInt ∧ fT V = (aT a).toInt ∧ LcP S V ∧ (0 ≤ fN S ∧ fN S < 60) := by
  obtain ⟨h1, h2, h3, h4, h5, h6⟩ := i
  have L : LcP S V := LcP.fm h2 (by decide) (by decide) (by decide) (by decide) (by decide) (by decide) (by decide) (by decide)
  have e := h1.1.e
  refine ⟨h1.1, L.b h1.1, L.n.1, h4, ?_, L, e.2.1, e.2.2.1⟩
  unfold fT
  rw [L.n.1, (h2.2.2.2.2.1 44 (by decide) (by decide)).1]
  exact h4
theorem InS.t {S V U : MS} {f s p : Nat} {a : AS} (i : InS S V f U s p a) : LkI U ∧ TxI U ∧ (0 ≤ (xS S).toInt ∧ (xS S).toInt < (qI U 0 52).toInt) ∧ StT U (xS S) p a ∧ (tkV U (xS S) ≤ (aT a).toInt ∧ (aT a).toInt ≤ 24 ∧ (aT a).toInt - tkV U (xS S) + gvV U (xS S) ≤ 24) ∧ (0 ≤ tkV U (xS S) ∧ 0 ≤ gvV U (xS S)) := by
  obtain ⟨h1, h2, ⟨g0, g1, g2, g3, g4, g5, g6, g7, g8⟩, h4, h5, h6⟩ := i
  have b := b_tg g4.1 g7 g4.2.1
  have c := g8.2.2.1
  unfold xS
  exact ⟨g4.1, g4.2.1, g7, g8, ⟨c.1, by omega, by omega⟩, b.1.1, b.2.1⟩
theorem InS.op {S V U : MS} {f s p : Nat} {a : AS} (i : InS S V f U s p a) (x : Int32) : f_op V x = f_op U x ∧ f_first V x = f_first U x ∧ f_second V x = f_second U x := i.2.2.2.2.2.op i.t.1 x
theorem go_on {S : MS} {o : Int32} (h : ¬ o.toInt = 167 ∧ ¬ o.toInt = 170 ∧ ¬ o.toInt = 171 ∧ ¬ o.toInt = 172 ∧ ¬ o.toInt = 173 ∧ ¬ o.toInt = 176 ∧ ¬ o.toInt = 177 ∧ ¬ o.toInt = 191) : (f_goesOn S o).toInt ≠ 0 := by
  obtain ⟨h1, h2, h3, h4, h5, h6, h7, h8⟩ := h
  unfold f_goesOn
  rw [if_neg h1, if_neg h2, if_neg h3, if_neg h4, if_neg h5, if_neg h6, if_neg h7, if_neg h8]
  decide
/-- a place that may follow -/
def NxP (S U : MS) (p : Nat) (a : AS) (y : Int32) : Prop := (0 ≤ y.toInt ∧ y.toInt < (qI U 0 52).toInt) ∧ nxT U y.toInt.toNat ((aT a).toInt - tkV U (xS S) + gvV U (xS S)) (wkT U (xS S) p a)
theorem InS.nx {S V U : MS} {f s p : Nat} {a : AS} (i : InS S V f U s p a) (g : (f_goesOn U (f_op U (xS S))).toInt ≠ 0) : NxP S U p a (xS S + 1) := by
  obtain ⟨k, t, hx, st, -, -⟩ := i.t
  have z := st.2.2.2.1 g
  have cn := k.cnt
  have e : (xS S + (1 : Int32)).toInt = (xS S).toInt + 1 := by rw [t_add (by rw [li_1]; omega), li_1]
  refine ⟨⟨by omega, by omega⟩, ?_⟩
  rw [e, show ((xS S).toInt + 1).toNat = (xS S).toInt.toNat + 1 by omega]
  exact z.2
theorem InS.wy {S V U : MS} {f s p : Nat} {a : AS} (i : InS S V f U s p a) {k : Int32} (k0 : 0 ≤ k.toInt) (k1 : k.toInt < (f_ways U (xS S)).toInt) : NxP S U p a (f_way U (xS S) k) := by
  obtain ⟨kk, t, hx, st, -, -⟩ := i.t
  exact ⟨((kk.ways hx).2.2 k k0 k1).2, st.2.2.2.2.1 k k0 k1⟩
theorem InS.go {S V U u : MS} {f s p : Nat} {a : AS} (i : InS S V f U s p a) (L : LcP S u) (hA : ArI u) (hF : FvI u f) (n85 : (qI S 0 85).toInt ≤ (qI u 0 85).toInt) (hm : ¬ 0 < (f_moved U (f_op U (xS S))).toInt) (hn : NxP S U p a (qI u 43 (fN S).toNat)) (eT : (qI u 44 (fN S).toNat).toInt = (aT a).toInt - tkV U (xS S) + gvV U (xS S))
    (s1 : ∀ k : Nat, k < 24 → (isSt (f_op U (xS S)) ∨ (f_op U (xS S)).toInt = 132 → k ≠ (f_first U (xS S)).toInt.toNat) → ((f_op U (xS S)).toInt = 55 → k ≠ (f_first U (xS S)).toInt.toNat + 1) → slF u (fN S).toNat k = slF S (fN S).toNat k) (s5 : (f_op U (xS S)).toInt = 54 → okV (qI u 0 85).toInt (nb 1) (slF u (fN S).toNat (f_first U (xS S)).toInt.toNat)) (s7 : (f_op U (xS S)).toInt = 55 → okV (qI u 0 85).toInt (nb 2) (slF u (fN S).toNat (f_first U (xS S)).toInt.toNat) ∧ okV (qI u 0 85).toInt (nb 3) (slF u (fN S).toNat ((f_first U (xS S)).toInt.toNat + 1))) (s6 : (f_op U (xS S)).toInt = 132 → okV (qI u 0 85).toInt (aL a (f_first U (xS S)).toInt.toNat) (slF u (fN S).toNat (f_first U (xS S)).toInt.toNat)) (s2 : (f_op U (xS S)).toInt = 58 → slF u (fN S).toNat (f_first U (xS S)).toInt.toNat = nW (plF S (fN S).toNat ((aT a).toInt - 1).toNat))
    (s3 : ∀ k : Nat, (k : Int) < (aT a).toInt - tkV U (xS S) → plF u (fN S).toNat k = plF S (fN S).toNat k)
    (s4 : ∀ j : Nat, j < qN U (f_givesOf U (xS S) + 1) → okV (qI u 0 85).toInt (nb (ltT (qI U (f_givesOf U (xS S) + 1) j) (thV U (xS S) a))) (plF u (fN S).toNat ((aT a).toInt - tkV U (xS S) + plc (qI U (f_givesOf U (xS S) + 1)) j).toNat) ∧ ((qI U (f_givesOf U (xS S) + 1) j).toInt = 74 → (plF u (fN S).toNat ((aT a).toInt - tkV U (xS S) + plc (qI U (f_givesOf U (xS S) + 1)) j + 1).toNat).2.toInt = 3)) : McI u f := by
  obtain ⟨k, t, hx, st, hT, h0⟩ := i.t
  obtain ⟨h1, h2, h3, h4, h5, h6⟩ := i
  have w := wk_val (p := p) (n' := (qI u 0 85).toInt) (sl' := slF u (fN S).toNat) (pl' := plF u (fN S).toNat) k t hx ⟨hT.1, hT.2.1, by omega⟩ hm n85 h5 st.1.nb s1 s5 s7 s6 s2 s3 s4
  exact Mc.go h1 L h3 hA hF n85 hn.1 hn.2 (by omega) eT w.1 w.2
theorem InS.mv {S V U u : MS} {f s p : Nat} {a : AS} (i : InS S V f U s p a) (L : LcP S u) (hA : ArI u) (hF : FvI u f) (n85 : (qI S 0 85).toInt = (qI u 0 85).toInt) (hm : 0 < (f_moved U (f_op U (xS S))).toInt) (hn : NxP S U p a (qI u 43 (fN S).toNat)) (eT : (qI u 44 (fN S).toNat).toInt = (aT a).toInt - tkV U (xS S) + gvV U (xS S))
    (s1 : ∀ k : Nat, k < 24 → slF u (fN S).toNat k = slF S (fN S).toNat k) (s2 : mvP (f_op U (xS S)) (aT a).toInt (plF S (fN S).toNat) (plF u (fN S).toNat)) : McI u f := by
  obtain ⟨k, t, hx, st, hT, h0⟩ := i.t
  obtain ⟨h1, h2, h3, h4, h5, h6⟩ := i
  have w := wk_mval (p := p) (sl' := slF u (fN S).toNat) (pl' := plF u (fN S).toNat) ⟨hT.1, hT.2.1⟩ hm h5 st.1.nb s1 s2
  rw [n85] at w
  exact Mc.go h1 L h3 hA hF (by omega) hn.1 hn.2 (by omega) eT w.1 w.2
/-- nothing but the frames changes -/
theorem InS.af {S V U u : MS} {f s p : Nat} {a : AS} (i : InS S V f U s p a) (k : frm [43, 44, 45, 46, 47, 48] [47, 48, 49, 50, 51, 52, 53, 54] S u) : ArI u ∧ FvI u f ∧ qI u 0 85 = qI S 0 85 := by
  have e85 : qI u 0 85 = qI S 0 85 := (k.2.2.2.2.2 85 (by decide)).1
  obtain ⟨h1, -⟩ := i
  exact ⟨h1.2.2.1.1.eq e85 (k.2.2.2.2.2 86 (by decide)).1 (k.2.2.2.2.1 39 (by decide) (by decide)).1 (k.2.2.2.2.1 40 (by decide) (by decide)).1, h1.2.2.1.2.eq h1.2.1.1.1 (big_frm k (by decide)) (by rw [e85]; exact Int.le_refl _) (k.2.2.2.2.1 37 (by decide) (by decide)).2.1, e85⟩
/-- a value is put, and the frame goes on -/
theorem InS.pu {S V U u w : MS} {f s p : Nat} {a : AS} {v : TV} {y : Int32} (i : InS S V f U s p a) (hm : ¬ 0 < (f_moved U (f_op U (xS S))).toInt) (no : ¬ isSt (f_op U (xS S)) ∧ ¬ (f_op U (xS S)).toInt = 132) (P : PuP V (tkV U (xS S)) (gvV U (xS S)) v u) (G : GtP u y w) (hn : NxP S U p a y) (g1 : qN U (f_givesOf U (xS S) + 1) = 1) (hv : okV (qI S 0 85).toInt (nb (ltT (qI U (f_givesOf U (xS S) + 1) 0) (thV U (xS S) a))) v) : McI w f := by
  obtain ⟨b0, b1, b2, b3, b4, L1, b5⟩ := i.v
  obtain ⟨k, t, hx, st, hT, h0⟩ := i.t
  have L2 := LcP.pu P (by omega)
  have L3 := LcP.gt G
  have L := (L1.tr L2).tr L3
  have eu : fN u = fN S := by rw [L2.n.1, b2]
  have fr : frm [43, 44, 45, 46, 47, 48] [47, 48, 49, 50, 51, 52, 53, 54] S w := (i.2.1.mo (by decide) (by decide)).tr ((P.1.mo (by decide) (by decide)).tr (G.1.mo (by decide) (by decide)))
  obtain ⟨hA, hF, e85⟩ := i.af fr
  obtain ⟨p1, p2, p3, p4, p5, p6⟩ := P
  have e43 : qI w 43 (fN S).toNat = y := by rw [G.2, eu]; unfold upd; rw [if_pos rfl]
  have e44 : qI w 44 = qI u 44 := (G.1.2.2.2.2.1 44 (by decide) (by decide)).1
  have e45 : qW w 45 = qW S 45 := by rw [fW G.1 (h := 45) (by decide) (by decide) (by decide), fW p1 (h := 45) (by decide) (by decide) (by decide), fW i.2.1 (h := 45) (by decide) (by decide) (by decide)]
  have e46 : qW w 46 = qW u 46 := fW G.1 (h := 46) (by decide) (by decide) (by decide)
  have v46 : qW V 46 = qW S 46 := fW i.2.1 (h := 46) (by decide) (by decide) (by decide)
  rw [b2, b4] at p4 p5 p6
  refine i.go L hA hF (by rw [e85]; exact Int.le_refl _) hm (by rw [e43]; exact hn) ?_ (fun k _ _ _ => by unfold slF; rw [e45]) (fun q => absurd (Or.inl q) no.1) (fun q => absurd (Or.inr (Or.inl q)) no.1) (fun q => absurd q no.2) (fun q => absurd (Or.inr (Or.inr q)) no.1) (fun k hk => ?_) (fun j hj => ?_)
  · rw [e44]
    unfold fT at p2
    rw [eu, b2] at p2
    have b4' : (qI V 44 (fN S).toNat).toInt = (aT a).toInt := by unfold fT at b4; rw [b2] at b4; exact b4
    rw [p2, b4']
  · unfold plF
    rw [e46, p4 _ (by omega), v46]
  · have j0 : j = 0 := by omega
    subst j0
    have z0 : plc (qI U (f_givesOf U (xS S) + 1)) 0 = 0 := rfl
    have e : plF w (fN S).toNat ((aT a).toInt - tkV U (xS S) + 0).toNat = v := by
      unfold plF
      rw [e46, ← p5]
      rw [show 24 * (fN S).toNat + ((aT a).toInt - tkV U (xS S) + 0).toNat = (24 * fN S + (aT a).toInt - tkV U (xS S)).toNat by omega]
    rw [z0]
    refine ⟨by rw [e, e85]; exact hv, fun q => ?_⟩
    have g2 : gvV U (xS S) = 2 := by
      unfold gvV plS
      rw [if_neg hm, g1]
      show 0 + (if (qI U (f_givesOf U (xS S) + 1) 0).toInt = 74 then (2 : Int) else 1) = 2
      rw [if_pos q]
      rfl
    have z := p6 g2
    unfold plF
    rw [e46, show 24 * (fN S).toNat + ((aT a).toInt - tkV U (xS S) + 0 + 1).toNat = (24 * fN S + (aT a).toInt - tkV U (xS S) + 1).toNat by omega]
    exact z
/-- values are taken, and the frame goes on -/
theorem InS.pp {S V U u w : MS} {f s p : Nat} {a : AS} {y : Int32} (i : InS S V f U s p a) (hm : ¬ 0 < (f_moved U (f_op U (xS S))).toInt) (no : ¬ isSt (f_op U (xS S)) ∧ ¬ (f_op U (xS S)).toInt = 132) (P : PpP V (tkV U (xS S)) u) (G : GtP u y w) (hn : NxP S U p a y) (g0 : qN U (f_givesOf U (xS S) + 1) = 0) : McI w f := by
  obtain ⟨b0, b1, b2, b3, b4, L1, b5⟩ := i.v
  obtain ⟨k, t, hx, st, hT, h0⟩ := i.t
  have L2 := LcP.pp P
  have L3 := LcP.gt G
  have L := (L1.tr L2).tr L3
  have eu : fN u = fN S := by rw [L2.n.1, b2]
  have fr : frm [43, 44, 45, 46, 47, 48] [47, 48, 49, 50, 51, 52, 53, 54] S w := (i.2.1.mo (by decide) (by decide)).tr ((P.1.mo (by decide) (by decide)).tr (G.1.mo (by decide) (by decide)))
  obtain ⟨hA, hF, e85⟩ := i.af fr
  obtain ⟨p1, p2, p3⟩ := P
  have gv0 : gvV U (xS S) = 0 := by
    unfold gvV plS
    rw [if_neg hm, g0]
    rfl
  have e43 : qI w 43 (fN S).toNat = y := by rw [G.2, eu]; unfold upd; rw [if_pos rfl]
  have e44 : qI w 44 = qI u 44 := (G.1.2.2.2.2.1 44 (by decide) (by decide)).1
  have e45 : qW w 45 = qW S 45 := by rw [fW G.1 (h := 45) (by decide) (by decide) (by decide), fW p1 (h := 45) (by decide) (by decide) (by decide), fW i.2.1 (h := 45) (by decide) (by decide) (by decide)]
  have e46 : qW w 46 = qW S 46 := by rw [fW G.1 (h := 46) (by decide) (by decide) (by decide), fW p1 (h := 46) (by decide) (by decide) (by decide), fW i.2.1 (h := 46) (by decide) (by decide) (by decide)]
  refine i.go L hA hF (by rw [e85]; exact Int.le_refl _) hm (by rw [e43]; exact hn) ?_ (fun k _ _ _ => by unfold slF; rw [e45]) (fun q => absurd (Or.inl q) no.1) (fun q => absurd (Or.inr (Or.inl q)) no.1) (fun q => absurd q no.2) (fun q => absurd (Or.inr (Or.inr q)) no.1) (fun k hk => by unfold plF; rw [e46]) (fun j hj => by omega)
  rw [e44]
  unfold fT at p2
  rw [eu, b2] at p2
  have b4' : (qI V 44 (fN S).toNat).toInt = (aT a).toInt := by unfold fT at b4; rw [b2] at b4; exact b4
  rw [p2, b4', gv0]
  omega
/-- an error is thrown when d places are taken -/
theorem InS.th {S V U u : MS} {f s p : Nat} {a : AS} {d : Int} {e : Int32} (he : 0 ≤ e.toInt) (i : InS S V f U s p a) (P : PpP V d u) : ∃ Q, w_throwError u e Q ∧ ∀ w, Q w → McQ f w := by
  obtain ⟨b0, b1, b2, b3, b4, L1, b5⟩ := i.v
  have L := L1.tr (LcP.pp P)
  have fr : frm [43, 44, 45, 46, 47, 48] [47, 48, 49, 50, 51, 52, 53, 54] S u := (i.2.1.mo (by decide) (by decide)).tr (P.1.mo (by decide) (by decide))
  obtain ⟨hA, hF, e85⟩ := i.af fr
  refine Mc.th i.1 L i.2.2.1 ?_ hA hF (by rw [e85]; exact Int.le_refl _) (fun k hk => ?_) he
  · rw [(P.1.2.2.2.2.1 43 (by decide) (by decide)).1, (i.2.1.2.2.2.2.1 43 (by decide) (by decide)).1]
  · rw [e85]
    unfold slF
    rw [fW P.1 (h := 45) (by decide) (by decide) (by decide), fW i.2.1 (h := 45) (by decide) (by decide) (by decide)]
    exact i.2.2.2.2.1.1 k hk
/-! jumps and arithmetic together (behind tg_96, tkN, opW) -/
theorem tg_jump {S : MS} {x : Int32} (t : TxI S) (h : (153 ≤ (f_op S x).toInt ∧ (f_op S x).toInt ≤ 167) ∨ (f_op S x).toInt = 198 ∨ (f_op S x).toInt = 199) : tkV S x = (if (f_op S x).toInt = 167 then 0 else if 159 ≤ (f_op S x).toInt ∧ (f_op S x).toInt ≤ 166 then 2 else 1) ∧ f_givesOf S x = 10000032 := by
  by_cases q153 : (f_op S x).toInt = 153
  · obtain ⟨⟨a1, a2⟩, a3, a4⟩ := tg_153 q153 t
    exact ⟨by rw [a3, q153]; decide, a2⟩
  by_cases q154 : (f_op S x).toInt = 154
  · obtain ⟨⟨a1, a2⟩, a3, a4⟩ := tg_154 q154 t
    exact ⟨by rw [a3, q154]; decide, a2⟩
  by_cases q155 : (f_op S x).toInt = 155
  · obtain ⟨⟨a1, a2⟩, a3, a4⟩ := tg_155 q155 t
    exact ⟨by rw [a3, q155]; decide, a2⟩
  by_cases q156 : (f_op S x).toInt = 156
  · obtain ⟨⟨a1, a2⟩, a3, a4⟩ := tg_156 q156 t
    exact ⟨by rw [a3, q156]; decide, a2⟩
  by_cases q157 : (f_op S x).toInt = 157
  · obtain ⟨⟨a1, a2⟩, a3, a4⟩ := tg_157 q157 t
    exact ⟨by rw [a3, q157]; decide, a2⟩
  by_cases q158 : (f_op S x).toInt = 158
  · obtain ⟨⟨a1, a2⟩, a3, a4⟩ := tg_158 q158 t
    exact ⟨by rw [a3, q158]; decide, a2⟩
  by_cases q159 : (f_op S x).toInt = 159
  · obtain ⟨⟨a1, a2⟩, a3, a4⟩ := tg_159 q159 t
    exact ⟨by rw [a3, q159]; decide, a2⟩
  by_cases q160 : (f_op S x).toInt = 160
  · obtain ⟨⟨a1, a2⟩, a3, a4⟩ := tg_160 q160 t
    exact ⟨by rw [a3, q160]; decide, a2⟩
  by_cases q161 : (f_op S x).toInt = 161
  · obtain ⟨⟨a1, a2⟩, a3, a4⟩ := tg_161 q161 t
    exact ⟨by rw [a3, q161]; decide, a2⟩
  by_cases q162 : (f_op S x).toInt = 162
  · obtain ⟨⟨a1, a2⟩, a3, a4⟩ := tg_162 q162 t
    exact ⟨by rw [a3, q162]; decide, a2⟩
  by_cases q163 : (f_op S x).toInt = 163
  · obtain ⟨⟨a1, a2⟩, a3, a4⟩ := tg_163 q163 t
    exact ⟨by rw [a3, q163]; decide, a2⟩
  by_cases q164 : (f_op S x).toInt = 164
  · obtain ⟨⟨a1, a2⟩, a3, a4⟩ := tg_164 q164 t
    exact ⟨by rw [a3, q164]; decide, a2⟩
  by_cases q165 : (f_op S x).toInt = 165
  · obtain ⟨⟨a1, a2⟩, a3, a4⟩ := tg_165 q165 t
    exact ⟨by rw [a3, q165]; decide, a2⟩
  by_cases q166 : (f_op S x).toInt = 166
  · obtain ⟨⟨a1, a2⟩, a3, a4⟩ := tg_166 q166 t
    exact ⟨by rw [a3, q166]; decide, a2⟩
  by_cases q167 : (f_op S x).toInt = 167
  · obtain ⟨⟨a1, a2⟩, a3, a4⟩ := tg_167 q167 t
    exact ⟨by rw [a3, q167]; decide, a2⟩
  by_cases q198 : (f_op S x).toInt = 198
  · obtain ⟨⟨a1, a2⟩, a3, a4⟩ := tg_198 q198 t
    exact ⟨by rw [a3, q198]; decide, a2⟩
  by_cases q199 : (f_op S x).toInt = 199
  · obtain ⟨⟨a1, a2⟩, a3, a4⟩ := tg_199 q199 t
    exact ⟨by rw [a3, q199]; decide, a2⟩
  exfalso
  omega
theorem tg_ar {S : MS} {x : Int32} (t : TxI S) (h : (96 ≤ (f_op S x).toInt ∧ (f_op S x).toInt ≤ 119 ∧ (f_op S x).toInt % 4 < 2) ∨ (120 ≤ (f_op S x).toInt ∧ (f_op S x).toInt ≤ 131) ∨ (f_op S x).toInt = 148) : tkV S x = tkN (f_op S x).toInt ∧ gvV S x = gvN (f_op S x).toInt ∧ f_givesOf S x = (if gvN (f_op S x).toInt = 1 then 10000016 else 10000022) := by
  by_cases q96 : (f_op S x).toInt = 96
  · obtain ⟨⟨a1, a2⟩, a3, a4⟩ := tg_96 q96 t
    exact ⟨by rw [a3, q96]; decide, by rw [a4, q96]; decide, by rw [a2, q96]; decide⟩
  by_cases q97 : (f_op S x).toInt = 97
  · obtain ⟨⟨a1, a2⟩, a3, a4⟩ := tg_97 q97 t
    exact ⟨by rw [a3, q97]; decide, by rw [a4, q97]; decide, by rw [a2, q97]; decide⟩
  by_cases q100 : (f_op S x).toInt = 100
  · obtain ⟨⟨a1, a2⟩, a3, a4⟩ := tg_100 q100 t
    exact ⟨by rw [a3, q100]; decide, by rw [a4, q100]; decide, by rw [a2, q100]; decide⟩
  by_cases q101 : (f_op S x).toInt = 101
  · obtain ⟨⟨a1, a2⟩, a3, a4⟩ := tg_101 q101 t
    exact ⟨by rw [a3, q101]; decide, by rw [a4, q101]; decide, by rw [a2, q101]; decide⟩
  by_cases q104 : (f_op S x).toInt = 104
  · obtain ⟨⟨a1, a2⟩, a3, a4⟩ := tg_104 q104 t
    exact ⟨by rw [a3, q104]; decide, by rw [a4, q104]; decide, by rw [a2, q104]; decide⟩
  by_cases q105 : (f_op S x).toInt = 105
  · obtain ⟨⟨a1, a2⟩, a3, a4⟩ := tg_105 q105 t
    exact ⟨by rw [a3, q105]; decide, by rw [a4, q105]; decide, by rw [a2, q105]; decide⟩
  by_cases q108 : (f_op S x).toInt = 108
  · obtain ⟨⟨a1, a2⟩, a3, a4⟩ := tg_108 q108 t
    exact ⟨by rw [a3, q108]; decide, by rw [a4, q108]; decide, by rw [a2, q108]; decide⟩
  by_cases q109 : (f_op S x).toInt = 109
  · obtain ⟨⟨a1, a2⟩, a3, a4⟩ := tg_109 q109 t
    exact ⟨by rw [a3, q109]; decide, by rw [a4, q109]; decide, by rw [a2, q109]; decide⟩
  by_cases q112 : (f_op S x).toInt = 112
  · obtain ⟨⟨a1, a2⟩, a3, a4⟩ := tg_112 q112 t
    exact ⟨by rw [a3, q112]; decide, by rw [a4, q112]; decide, by rw [a2, q112]; decide⟩
  by_cases q113 : (f_op S x).toInt = 113
  · obtain ⟨⟨a1, a2⟩, a3, a4⟩ := tg_113 q113 t
    exact ⟨by rw [a3, q113]; decide, by rw [a4, q113]; decide, by rw [a2, q113]; decide⟩
  by_cases q116 : (f_op S x).toInt = 116
  · obtain ⟨⟨a1, a2⟩, a3, a4⟩ := tg_116 q116 t
    exact ⟨by rw [a3, q116]; decide, by rw [a4, q116]; decide, by rw [a2, q116]; decide⟩
  by_cases q117 : (f_op S x).toInt = 117
  · obtain ⟨⟨a1, a2⟩, a3, a4⟩ := tg_117 q117 t
    exact ⟨by rw [a3, q117]; decide, by rw [a4, q117]; decide, by rw [a2, q117]; decide⟩
  by_cases q120 : (f_op S x).toInt = 120
  · obtain ⟨⟨a1, a2⟩, a3, a4⟩ := tg_120 q120 t
    exact ⟨by rw [a3, q120]; decide, by rw [a4, q120]; decide, by rw [a2, q120]; decide⟩
  by_cases q121 : (f_op S x).toInt = 121
  · obtain ⟨⟨a1, a2⟩, a3, a4⟩ := tg_121 q121 t
    exact ⟨by rw [a3, q121]; decide, by rw [a4, q121]; decide, by rw [a2, q121]; decide⟩
  by_cases q122 : (f_op S x).toInt = 122
  · obtain ⟨⟨a1, a2⟩, a3, a4⟩ := tg_122 q122 t
    exact ⟨by rw [a3, q122]; decide, by rw [a4, q122]; decide, by rw [a2, q122]; decide⟩
  by_cases q123 : (f_op S x).toInt = 123
  · obtain ⟨⟨a1, a2⟩, a3, a4⟩ := tg_123 q123 t
    exact ⟨by rw [a3, q123]; decide, by rw [a4, q123]; decide, by rw [a2, q123]; decide⟩
  by_cases q124 : (f_op S x).toInt = 124
  · obtain ⟨⟨a1, a2⟩, a3, a4⟩ := tg_124 q124 t
    exact ⟨by rw [a3, q124]; decide, by rw [a4, q124]; decide, by rw [a2, q124]; decide⟩
  by_cases q125 : (f_op S x).toInt = 125
  · obtain ⟨⟨a1, a2⟩, a3, a4⟩ := tg_125 q125 t
    exact ⟨by rw [a3, q125]; decide, by rw [a4, q125]; decide, by rw [a2, q125]; decide⟩
  by_cases q126 : (f_op S x).toInt = 126
  · obtain ⟨⟨a1, a2⟩, a3, a4⟩ := tg_126 q126 t
    exact ⟨by rw [a3, q126]; decide, by rw [a4, q126]; decide, by rw [a2, q126]; decide⟩
  by_cases q127 : (f_op S x).toInt = 127
  · obtain ⟨⟨a1, a2⟩, a3, a4⟩ := tg_127 q127 t
    exact ⟨by rw [a3, q127]; decide, by rw [a4, q127]; decide, by rw [a2, q127]; decide⟩
  by_cases q128 : (f_op S x).toInt = 128
  · obtain ⟨⟨a1, a2⟩, a3, a4⟩ := tg_128 q128 t
    exact ⟨by rw [a3, q128]; decide, by rw [a4, q128]; decide, by rw [a2, q128]; decide⟩
  by_cases q129 : (f_op S x).toInt = 129
  · obtain ⟨⟨a1, a2⟩, a3, a4⟩ := tg_129 q129 t
    exact ⟨by rw [a3, q129]; decide, by rw [a4, q129]; decide, by rw [a2, q129]; decide⟩
  by_cases q130 : (f_op S x).toInt = 130
  · obtain ⟨⟨a1, a2⟩, a3, a4⟩ := tg_130 q130 t
    exact ⟨by rw [a3, q130]; decide, by rw [a4, q130]; decide, by rw [a2, q130]; decide⟩
  by_cases q131 : (f_op S x).toInt = 131
  · obtain ⟨⟨a1, a2⟩, a3, a4⟩ := tg_131 q131 t
    exact ⟨by rw [a3, q131]; decide, by rw [a4, q131]; decide, by rw [a2, q131]; decide⟩
  by_cases q148 : (f_op S x).toInt = 148
  · obtain ⟨⟨a1, a2⟩, a3, a4⟩ := tg_148 q148 t
    exact ⟨by rw [a3, q148]; decide, by rw [a4, q148]; decide, by rw [a2, q148]; decide⟩
  exfalso
  omega
/-! jumps, switches, arithmetic (behind InS.pp, InS.pu, tg_jump, tg_ar, sp_jump, sp_chosen, sp_workOne) -/
theorem smM.fm {U V A : MS} {W J : List Nat} (h : smM U V) (k : frm W J V A) (hW : ∀ w ∈ W, w ≤ 92) (hJ : ∀ j ∈ J, j < 47 ∨ 54 < j) : smM U A := by
  have kb := big_frm k hW
  obtain ⟨⟨h1, h2⟩, h3, h4⟩ := h
  refine ⟨⟨fun a ha => (h1 a ha).s (kb a ha.1), fun a ha hq => ?_⟩, fun j a b => ?_, fun j a b => ?_⟩
  · have z := h2 a ha hq
    have q := kb a ha
    exact ⟨fun j hj => by rw [q.1]; exact z.1 j hj, fun j hj => by rw [q.2.2.1]; exact z.2.1 j hj, by rw [q.2.2.2.1]; exact z.2.2.1, by rw [q.2.2.2.2]; exact z.2.2.2⟩
  · rw [(k.2.2.2.2.2 j (fun z => by have := hJ j z; omega)).2.2]; exact h3 j a b
  · rw [(k.2.2.2.2.2 j (fun z => by have := hJ j z; omega)).1]; exact h4 j a b
theorem jp_op {S : MS} {o : Int32} (h : ¬ (f_isJump S o).toInt = 0) : (153 ≤ o.toInt ∧ o.toInt ≤ 167) ∨ o.toInt = 198 ∨ o.toInt = 199 := by
  unfold f_isJump f_isJump_J14 f_isJump_J28 at h
  by_cases c1 : o.toInt < 153
  · rw [if_pos c1] at h
    by_cases c2 : o.toInt = 198
    · exact Or.inr (Or.inl c2)
    · rw [if_neg c2] at h
      by_cases c3 : o.toInt = 199
      · exact Or.inr (Or.inr c3)
      · rw [if_neg c3] at h; exact absurd rfl h
  · rw [if_neg c1] at h
    by_cases c4 : o.toInt ≤ 167
    · exact Or.inl ⟨by omega, c4⟩
    · rw [if_neg c4] at h
      by_cases c2 : o.toInt = 198
      · exact Or.inr (Or.inl c2)
      · rw [if_neg c2] at h
        by_cases c3 : o.toInt = 199
        · exact Or.inr (Or.inr c3)
        · rw [if_neg c3] at h; exact absurd rfl h
theorem jp_1 {S : MS} {o : Int32} (h : (153 ≤ o.toInt ∧ o.toInt ≤ 167) ∨ o.toInt = 198 ∨ o.toInt = 199) : (f_isJump S o).toInt = 1 := by
  unfold f_isJump f_isJump_J14 f_isJump_J28
  by_cases c1 : o.toInt < 153
  · omega
  · rw [if_neg c1]
    by_cases c4 : o.toInt ≤ 167
    · rw [if_pos c4]; rfl
    · rw [if_neg c4]
      by_cases c2 : o.toInt = 198
      · rw [if_pos c2]; rfl
      · rw [if_neg c2, if_pos (by omega)]; rfl
/-- values are taken and the frame goes on, in one -/
theorem InS.pj {S V U w : MS} {f s p : Nat} {a : AS} {y : Int32} (i : InS S V f U s p a) (hm : ¬ 0 < (f_moved U (f_op U (xS S))).toInt) (no : ¬ isSt (f_op U (xS S)) ∧ ¬ (f_op U (xS S)).toInt = 132) (k : frm [43, 44] [] V w) (eT : fT w = fT V - tkV U (xS S)) (o44 : ∀ j : Nat, j ≠ (fN V).toNat → qI w 44 j = qI V 44 j) (e43 : qI w 43 = upd (qI V 43) (fN V).toNat y) (hn : NxP S U p a y) (g0 : qN U (f_givesOf U (xS S) + 1) = 0) : McI w f := by
  obtain ⟨b0, b1, b2, b3, b4, L1, b5⟩ := i.v
  obtain ⟨kk, t, hx, st, hT, h0⟩ := i.t
  have L2 : LcP V w := ⟨k.mo (by decide) (by decide), fun j hj => ⟨by rw [e43]; unfold upd; rw [if_neg hj], o44 j hj⟩, fun j _ => ⟨by rw [fW k (h := 45) (by decide) (by decide) (by decide)], by rw [fW k (h := 46) (by decide) (by decide) (by decide)]⟩⟩
  have L := L1.tr L2
  have eu : fN w = fN S := by rw [L2.n.1, b2]
  have fr : frm [43, 44, 45, 46, 47, 48] [47, 48, 49, 50, 51, 52, 53, 54] S w := (i.2.1.mo (by decide) (by decide)).tr (k.mo (by decide) (by decide))
  obtain ⟨hA, hF, e85⟩ := i.af fr
  have gv0 : gvV U (xS S) = 0 := by
    unfold gvV plS
    rw [if_neg hm, g0]
    rfl
  have e43' : qI w 43 (fN S).toNat = y := by rw [e43, b2]; unfold upd; rw [if_pos rfl]
  have e45 : qW w 45 = qW S 45 := by rw [fW k (h := 45) (by decide) (by decide) (by decide), fW i.2.1 (h := 45) (by decide) (by decide) (by decide)]
  have e46 : qW w 46 = qW S 46 := by rw [fW k (h := 46) (by decide) (by decide) (by decide), fW i.2.1 (h := 46) (by decide) (by decide) (by decide)]
  refine i.go L hA hF (by rw [e85]; exact Int.le_refl _) hm (by rw [e43']; exact hn) ?_ (fun k _ _ _ => by unfold slF; rw [e45]) (fun q => absurd (Or.inl q) no.1) (fun q => absurd (Or.inr (Or.inl q)) no.1) (fun q => absurd q no.2) (fun q => absurd (Or.inr (Or.inr q)) no.1) (fun k hk => by unfold plF; rw [e46]) (fun j hj => by omega)
  rw [b4] at eT
  unfold fT at eT
  rw [eu] at eT
  rw [eT, gv0]
  omega
theorem InS.jump {S V U : MS} {f s p : Nat} {a : AS} (i : InS S V f U s p a) (hj : ¬ (f_isJump V (f_op V (xS S))).toInt = 0) : ∃ Q, w_jump V (xS S) (f_op V (xS S)) (f_first V (xS S)) Q ∧ ∀ w, Q w → McQ f w := by
  obtain ⟨b0, b1, b2, b3, b4, L1, b5⟩ := i.v
  obtain ⟨kk, t, hx, st, hT, h0⟩ := i.t
  have o := jp_op hj
  rw [(i.op _).1] at o
  obtain ⟨t1, t2⟩ := tg_jump t o
  have l1 := tx_l1 t
  have g0 : qN U (f_givesOf U (xS S) + 1) = 0 := by rw [t2]; exact l1.2.2.2.2.2.2.2.2.2.2.2.1
  have nm : ¬ 0 < (f_moved U (f_op U (xS S))).toInt := fun z => by have := mv_iff.mp z; omega
  have no : ¬ isSt (f_op U (xS S)) ∧ ¬ (f_op U (xS S)).toInt = 132 := by unfold isSt; omega
  rw [(i.op _).1, (i.op _).2.1]
  refine ⟨_, sp_jump b1 ⟨by rw [← t1, b4]; exact hT.1, by rw [b4]; exact hT.2.1⟩, ?_⟩
  rintro w ⟨k, eT, o44, hg⟩
  rw [← t1] at eT
  have j1 := jp_1 (S := U) o
  have ew : (f_ways U (xS S)).toInt = 1 := by
    unfold f_ways
    rw [if_neg (by rw [j1]; decide)]
    rfl
  have ef : f_way U (xS S) 0 = f_first U (xS S) := by
    unfold f_way
    rw [if_neg (by rw [j1]; decide)]
  rcases hg with q | ⟨q1, q⟩
  · refine (i.pj nm no k eT o44 q ?_ g0).q
    have := i.wy (k := 0) (by decide) (by rw [ew]; decide)
    rw [ef] at this
    exact this
  · refine (i.pj nm no k eT o44 q (i.nx (go_on ?_)) g0).q
    omega
theorem InS.switch {S V U : MS} {f s p : Nat} {a : AS} {Q : MS → Prop} (i : InS S V f U s p a) (kV : LkI V) (ho : (f_op U (xS S)).toInt = 170 ∨ (f_op U (xS S)).toInt = 171) (hQ : ∀ w, McQ f w → Q w) : ∃ Q62, w_gotInt V Q62 ∧ ∀ r63 S64, Q62 r63 S64 → (∃ Q66, w_chosen S64 (xS S) r63 Q66 ∧ ∀ r67 S68, Q66 r67 S68 → (∃ Q70, w_goTo S68 r67 Q70 ∧ ∀ S71, Q70 S71 → Q S71)) := by
  obtain ⟨b0, b1, b2, b3, b4, L1, b5⟩ := i.v
  obtain ⟨kk, t, hx, st, hT, h0⟩ := i.t
  have tt : tkV U (xS S) = 1 ∧ f_givesOf U (xS S) = 10000032 := by
    rcases ho with q | q
    · have z := tg_170 q t; exact ⟨z.2.1, z.1.2⟩
    · have z := tg_171 q t; exact ⟨z.2.1, z.1.2⟩
  obtain ⟨t1, t2⟩ := tt
  have l1 := tx_l1 t
  have g0 : qN U (f_givesOf U (xS S) + 1) = 0 := by rw [t2]; exact l1.2.2.2.2.2.2.2.2.2.2.2.1
  have nm : ¬ 0 < (f_moved U (f_op U (xS S))).toInt := fun z => by have := mv_iff.mp z; omega
  have no : ¬ isSt (f_op U (xS S)) ∧ ¬ (f_op U (xS S)).toInt = 132 := by unfold isSt; omega
  refine ⟨fun _ u => PpP V 1 u, ?_, fun r A pA => ?_⟩
  · unfold w_gotInt
    refine ⟨_, sp_pop (n := 1) b1 PpP.rf (by decide) ⟨by decide, by rw [li_1]; omega⟩ (by omega), fun r u hu => ?_⟩
    have z := hu.1
    rw [li_1] at z
    exact z
  · have mA := i.2.2.2.2.2.fm pA.1 (by decide) (fun j hj => absurd hj (by simp))
    have kA : LkI A := kV.mv (smL.fm pA.1 (by decide) (fun j hj => absurd hj (by simp)))
    have oA := (mA.op kk (xS S)).1
    have wA := fun c => mA.wy kk (xS S) c
    have cA : qI A 0 52 = qI U 0 52 := mA.2.2 52 (by decide) (by decide)
    refine ⟨_, sp_chosen kA (by rw [cA]; exact hx) (by rw [oA]; exact ho), ?_⟩
    rintro y B ⟨eB, k, k0, k1, ey⟩
    subst eB
    rw [(wA 0).1] at k1
    rw [(wA k).2] at ey
    refine ⟨_, sp_goTo (b1.mv pA.1).1, fun w hw => hQ w ?_⟩
    rw [ey] at hw
    exact (i.pp nm no (by rw [t1]; exact pA) hw (i.wy k0 k1) g0).q
theorem opW_ar {t : Int} (h : opW t) (k : 96 ≤ t ∧ t ≤ 131 ∨ t = 148) : (96 ≤ t ∧ t ≤ 119 ∧ t % 4 < 2) ∨ (120 ≤ t ∧ t ≤ 131) ∨ t = 148 := by
  by_cases c : 120 ≤ t
  · omega
  · unfold opW at h
    omega
theorem InS.work {S V U : MS} {f s p : Nat} {a : AS} {Q : MS → Prop} (i : InS S V f U s p a) (ho : isAr (f_op U (xS S)).toInt) (hQ : ∀ w, McQ f w → Q w) : w_step_J85 Q V (xS S) (f_op V (xS S)) := by
  obtain ⟨b0, b1, b2, b3, b4, L1, b5⟩ := i.v
  obtain ⟨kk, t, hx, st, hT, h0⟩ := i.t
  obtain ⟨_, _, _, _, _, _, rv, -, -⟩ := kk.rv hx
  obtain ⟨t1, t2, t3⟩ := tg_ar t (opW_ar rv.1 ho)
  have l1 := tx_l1 t
  have nm : ¬ 0 < (f_moved U (f_op U (xS S))).toInt := fun z => by have := mv_iff.mp z; unfold isAr at ho; omega
  have no : ¬ isSt (f_op U (xS S)) ∧ ¬ (f_op U (xS S)).toInt = 132 := by unfold isSt; unfold isAr at ho; omega
  have v46 : qJ V 46 = qJ S 46 := (i.2.1.2.2.2.2.1 46 (by decide) (by decide)).2.1
  rw [(i.op _).1]
  unfold w_step_J85
  refine ⟨_, sp_workOne (Qt := McQ f) b1 ho ⟨by rw [← t1, b4]; exact hT.1, by rw [b4]; exact hT.2.1⟩ (fun q => ?_) (fun u pu => i.th (by decide) pu), fun r u hu => ⟨fun c => hQ u (hu.1 c), fun c => ?_⟩⟩
  · obtain ⟨b, -, -, -, -, -, wd⟩ := wk_dec (p := p) (a := a) kk t hx ⟨hT.1, hT.2.1, by omega⟩ nm
    have w3 := (wd st.2.1).2.2
    have tk2 : f_takesOf U (xS S) = 10000010 ∧ tkV U (xS S) = 2 := by
      rcases q with q | q
      · have z := tg_108 q t; exact ⟨z.1.1, z.2.1⟩
      · have z := tg_112 q t; exact ⟨z.1.1, z.2.1⟩
    rw [tk2.1, tk2.2] at w3
    have n2 : qN U 10000011 = 2 ∧ (qI U 10000011 0).toInt = 73 ∧ (qI U 10000011 1).toInt = 73 := l1.1
    have w4 := (w3 1 (by rw [n2.1]; decide)).2.1 n2.2.2
    have pc : plc (qI U 10000011) 1 = 1 := by
      show 0 + (if (qI U 10000011 0).toInt = 74 then (2 : Int) else 1) = 1
      rw [n2.2.1]; decide
    have pc' : plc (qI U (10000010 + 1)) 1 = 1 := pc
    rw [pc'] at w4
    have tl : 2 ≤ (aT a).toInt := by rw [tk2.2] at hT; exact hT.1
    have ok := i.2.2.2.2.1.2 ((aT a).toInt - 2 + 1).toNat (by omega)
    have o1 := ok.2.2.1 w4
    unfold plF at o1
    rw [b2, b4, v46, show (24 * fN S + (aT a).toInt - 1).toNat = 24 * (fN S).toNat + ((aT a).toInt - 2 + 1).toNat by omega]
    exact o1
  · obtain ⟨v, P, hv⟩ := hu.2 c
    rw [← t1, ← t2] at P
    have g := go_on (S := U) (o := f_op U (xS S)) (by unfold isAr at ho; omega)
    have bu : FrB u := (LcP.pu P (by rw [b4]; exact hT.1)).b b1
    refine ⟨_, sp_goTo bu, fun w hw => hQ w ?_⟩
    refine (i.pu nm no P hw (i.nx g) ?_ ?_).q
    · rw [t3]
      split
      · exact l1.2.2.2.1.1
      · exact l1.2.2.2.2.2.2.1.1
    · rw [t3]
      split
      · rename_i g1
        have c1 : (qI U (10000016 + 1) 0).toInt = 73 := l1.2.2.2.1.2
        exact gv_l.1 c1 (hv.1 g1).1 (hv.1 g1).2
      · rename_i g1
        have c1 : (qI U (10000022 + 1) 0).toInt = 74 := l1.2.2.2.2.2.2.1.2
        have g12 : gvN (f_op U (xS S)).toInt = 1 ∨ gvN (f_op U (xS S)).toInt = 2 := by unfold gvN; split; exact Or.inl rfl; split; exact Or.inl rfl; exact Or.inr rfl
        have g2 := g12.resolve_left g1
        exact gv_l.2.1 c1 (hv.2 g2)
/-! leave (behind InS.th, wk_dec, FrMid.mv) -/
theorem okV.zero {n : Int} {t : Int32} (h : 0 ≤ n) : okV n t ((0 : Int64), t) := by
  have e : (((0 : Int64), t) : TV).1.toInt = 0 := (show (0 : Int64).toInt = 0 by decide)
  exact ⟨fun _ => by rw [e]; omega, fun _ => e, fun _ => by rw [e]; omega, fun _ => by rw [e]; omega, Or.inl rfl⟩
theorem gv_184 {U : MS} {x : Int32} (h : (f_op U x).toInt = 184) : f_givesOf U x = qO U (qO U (qO U 0 47) 11) (f_first U x).toInt.toNat := by
  unfold f_givesOf f_givesOf_J18 f_givesOf_J47
  rw [if_neg (by omega), if_neg (by omega), if_neg (by omega), if_pos (by omega), if_neg (by omega), if_neg (by omega), if_neg (by omega), if_neg (by omega), if_neg (by omega), if_neg (by omega), if_neg (by omega), if_neg (by omega), if_neg (by omega), if_neg (by omega), if_neg (by omega), if_neg (by omega), if_neg (by omega), if_neg (by omega), if_pos h]
theorem tk_184 {U : MS} {x : Int32} (h : (f_op U x).toInt = 184) : f_takesOf U x = qO U (qO U (qO U 0 47) 10) (f_first U x).toInt.toNat := by
  unfold f_takesOf f_takesOf_J18 f_takesOf_J47 f_takesOf_J75 f_takesOf_J93 f_takesOf_J111
  rw [if_neg (by omega), if_neg (by omega), if_neg (by omega), if_pos (by omega), if_neg (by omega), if_pos (by omega), if_neg (by omega), if_pos (by omega), if_neg (by omega), if_pos (by omega), if_neg (by omega), if_neg (by omega), if_neg (by omega), if_neg (by omega), if_neg (by omega), if_neg (by omega), if_neg (by omega), if_neg (by omega), if_neg (by omega), if_neg (by omega), if_neg (by omega), if_neg (by omega), if_neg (by omega), if_neg (by omega), if_neg (by omega), if_neg (by omega), if_neg (by omega), if_neg (by omega), if_neg (by omega), if_neg (by omega), if_neg (by omega), if_pos h]
/-- texts of the stage's methods, as a looked-at state has them -/
theorem FrU.own {S : MS} {f i : Nat} {U : MS} {s p : Nat} {a : AS} (h : FrU S f i U s p a) : qO U 0 47 = f ∧ (qO U f 7 = f + 3 ∧ qO U f 10 = f + 6 ∧ qO U f 11 = f + 7) ∧ (∀ j : Nat, qR U (f + 3) j = qR S (f + 3) j) ∧ (∀ j : Nat, qR U (f + 6) j = qR S (f + 6) j) ∧ (∀ j : Nat, qR U (f + 7) j = qR S (f + 7) j) ∧ ∀ t : Nat, okH U (t + 1) → qI U (t + 1) = qI S (t + 1) ∧ qN U (t + 1) = qN S (t + 1) := by
  obtain ⟨f92, g1, g2, g3, g4, g5, g6, g7, g8⟩ := h
  have o : qO U 0 47 = f := by unfold qO; rw [g3.1.1.1]; rfl
  obtain ⟨⟨⟨n1, -⟩, -⟩, L, F, M, nc, ts, cn, -, -, -, -, g, -⟩ := g4.1
  rw [o] at n1 g
  refine ⟨o, ⟨?_, ?_, ?_⟩, fun j => ?_, fun j => ?_, fun j => ?_, fun t ht => ?_⟩
  · unfold qO; rw [g.1]; rfl
  · unfold qO; rw [g.2.1]; rfl
  · unfold qO; rw [g.2.2]; rfl
  · rw [(g6.1 _ n1.2.1).2.2.1]
  · rw [(g6.1 _ n1.2.2.1).2.2.1]
  · rw [(g6.1 _ n1.2.2.2).2.2.1]
  · have z := g6.1 _ ht
    exact ⟨z.1.symm, z.2.2.2.2.symm⟩
theorem FrMid.ret {S D : MS} {f i p : Nat} {n : Int} (h : FrMid S f i n) (n0 : 0 ≤ n) (kb : ∀ h : Nat, 92 < h → sm5 S D h) (hp : qR S (f + 7) (qI S 42 (i + 1)).toInt.toNat = some p) (e42 : qI D 42 i = qI S 42 i) (e43 : qI D 43 i = qI S 43 i + 1) (e44 : (qI D 44 i).toInt = (qI S 44 i).toInt + plS S p) (e45 : ∀ k : Nat, k < 24 → slF D i k = slF S i k) (e46 : ∀ k : Nat, (k : Int) < (qI S 44 i).toInt → plF D i k = plF S i k) (hv : qN S (p + 1) = 0 ∨ (qN S (p + 1) = 1 ∧ (∀ th : Int32, okV n (nb (ltT (qI S (p + 1) 0) th)) (plF D i (qI S 44 i).toInt.toNat)) ∧ ((qI S (p + 1) 0).toInt = 74 → (plF D i ((qI S 44 i).toInt + 1).toNat).2.toInt = 3))) : FrTop D f i n := by
  obtain ⟨U, s', p', a, hF, h1, h2, h3, h4, h5⟩ := h
  obtain ⟨w1, w2, w3, w4, w5, w6⟩ := hF.own
  have hF' := hF
  obtain ⟨f92, g1, g2, g3, g4, g5, g6, g7, g8⟩ := hF
  have eg : f_givesOf U (qI S 43 i) = p := by
    rw [gv_184 h1, w1, w2.2.2, h2]
    unfold qO
    rw [w5, hp]
    rfl
  have gS := g4.1.gv g7 g4.2.1
  rw [eg] at gS
  have wp := w6 p gS.1
  have nm : ¬ 0 < (f_moved U (f_op U (qI S 43 i))).toInt := fun z => by have := mv_iff.mp z; omega
  have egv : gvV U (qI S 43 i) = plS S p := by
    unfold gvV
    rw [if_neg nm, eg]
    unfold plS
    rw [wp.1, wp.2]
  have bt := b_tg g4.1 g7 g4.2.1
  have st := g8.2.2.1
  have cn := g4.1.cnt
  have ex : (qI S 43 i + (1 : Int32)).toInt = (qI S 43 i).toInt + 1 := by rw [t_add (by rw [li_1]; omega), li_1]
  have nx := g8.2.2.2.1 (go_on (S := U) (o := f_op U (qI S 43 i)) (by omega))
  have t24 : (aT a).toInt ≤ 24 := by omega
  have no : ¬ isSt (f_op U (qI S 43 i)) := by unfold isSt; omega
  have wv := wk_val (p := p') (n := n) (n' := n) (sl := slF S i) (pl := fun k => if (k : Int) < (aT a).toInt - tkV U (qI S 43 i) then plF S i k else ((0 : Int64), aP a k)) (sl' := slF D i) (pl' := plF D i) g4.1 g4.2.1 g7 ⟨st.1, t24, by omega⟩ nm (Int.le_refl _) ⟨h4, fun k hk => by
      show okV n (aP a k) (if (k : Int) < (aT a).toInt - tkV U (qI S 43 i) then plF S i k else ((0 : Int64), aP a k))
      by_cases c : (k : Int) < (aT a).toInt - tkV U (qI S 43 i)
      · rw [if_pos c]; exact h5 k c
      · rw [if_neg c]; exact okV.zero n0⟩ g8.1.nb (fun k hk _ _ => e45 k hk) (fun q => by omega) (fun q => by omega) (fun q => by omega) (fun q => by omega) (fun k hk => by
      show plF D i k = if (k : Int) < (aT a).toInt - tkV U (qI S 43 i) then plF S i k else ((0 : Int64), aP a k)
      rw [if_pos hk]
      exact e46 k (by omega)) (fun j hj => by
      rw [eg, wp.2] at hj
      rw [eg, wp.1]
      rcases hv with q | ⟨q1, q2, q3⟩
      · omega
      · have j0 : j = 0 := by omega
        subst j0
        have z0 : plc (qI S (p + 1)) 0 = 0 := rfl
        rw [z0, Int.add_zero, ← h3]
        exact ⟨q2 _, q3⟩)
  refine FrTop.go hF' kb e42 (y := (aT a).toInt - tkV U (qI S 43 i) + gvV U (qI S 43 i)) (by rw [e43]; exact ⟨by omega, by omega⟩) (by rw [e43, ex, show ((qI S 43 i).toInt + 1).toNat = (qI S 43 i).toInt.toNat + 1 by omega]; exact nx.2) (by omega) (by rw [e44, h3, egv]) n0 wv.1 wv.2
theorem sEq_T {S : MS} {a b : Nat} (h : ¬ (sEq S a b).toInt = 0) : sEqP S a b := by
  unfold sEq at h
  by_cases z : sEqP S a b
  · exact z
  · rw [if_neg z] at h; exact absurd rfl h
def LvN (op : Int) : Int := if op = 177 then 0 else if op = 173 then 2 else 1
theorem InS.leave {S V U : MS} {f s p : Nat} {a : AS} {Q : MS → Prop} (i : InS S V f U s p a) (ho : (f_op U (xS S)).toInt = 172 ∨ (f_op U (xS S)).toInt = 173 ∨ (f_op U (xS S)).toInt = 176 ∨ (f_op U (xS S)).toInt = 177) (hQ : ∀ w, McQ f w → Q w) : w_step_J154 Q V (f_op V (xS S)) := by
  obtain ⟨b0, b1, b2, b3, b4, L1, b5⟩ := i.v
  obtain ⟨kk, t, hx, st, hT, h0⟩ := i.t
  have l1 := tx_l1 t
  have nm : ¬ 0 < (f_moved U (f_op U (xS S))).toInt := fun z => by have := mv_iff.mp z; omega
  obtain ⟨b, -, -, -, -, -, wd⟩ := wk_dec (p := p) (a := a) kk t hx ⟨hT.1, hT.2.1, by omega⟩ nm
  obtain ⟨wd1, -, wd3⟩ := wd st.2.1
  have rm := sEq_T (wd1 ho)
  have hI := i.1
  have hU := i.2.2.1
  obtain ⟨w1, w2, w3, w4, w5, w6⟩ := hU.own
  have hU' := hU
  obtain ⟨f92, g1, g2, g3, g4, g5, g6, g7, g8⟩ := hU
  have wp := w6 p g4.2.2.2.2.2.2.2
  -- what is given, by its letters
  have gl : plS S p = LvN (f_op U (xS S)).toInt ∧ tkV U (xS S) = LvN (f_op U (xS S)).toInt ∧ (((f_op U (xS S)).toInt = 177 → qN S (p + 1) = 0) ∧ ((f_op U (xS S)).toInt = 172 → qN S (p + 1) = 1 ∧ (qI S (p + 1) 0).toInt = 73) ∧ ((f_op U (xS S)).toInt = 173 → qN S (p + 1) = 1 ∧ (qI S (p + 1) 0).toInt = 74) ∧ ((f_op U (xS S)).toInt = 176 → qN S (p + 1) = 1 ∧ (qI S (p + 1) 0).toInt = 65)) := by
    have one : ∀ (T : Nat) (c : Int), sEqP U p T → qN U (T + 1) = 1 → (qI U (T + 1) 0).toInt = c → (qN S (p + 1) = 1 ∧ (qI S (p + 1) 0).toInt = c) ∧ plS S p = if c = 74 then 2 else 1 := fun T c q n1 c1 => by
      have e1 : qN S (p + 1) = 1 := by rw [← wp.2, q.1, n1]
      have e2 : (qI S (p + 1) 0).toInt = c := by rw [← wp.1, q.2 0 (by rw [q.1, n1]; decide), c1]
      refine ⟨⟨e1, e2⟩, ?_⟩
      unfold plS
      rw [e1]
      show 0 + (if (qI S (p + 1) 0).toInt = 74 then (2 : Int) else 1) = _
      rw [e2, Int.zero_add]
    rcases ho with q | q | q | q
    · rw [if_pos q] at rm
      have z := one _ 73 rm l1.2.2.2.1.1 l1.2.2.2.1.2
      have tt := (tg_172 q t).2.1
      rw [q]
      exact ⟨z.2, tt, fun z => by omega, fun _ => z.1, fun z => by omega, fun z => by omega⟩
    · rw [if_neg (by omega), if_pos q] at rm
      have z := one _ 74 rm l1.2.2.2.2.2.2.1.1 l1.2.2.2.2.2.2.1.2
      have tt := (tg_173 q t).2.1
      rw [q]
      exact ⟨z.2, tt, fun z => by omega, fun z => by omega, fun _ => z.1, fun z => by omega⟩
    · rw [if_neg (by omega), if_neg (by omega), if_pos q] at rm
      have z := one _ 65 rm l1.2.2.2.2.2.2.2.2.2.1.1 l1.2.2.2.2.2.2.2.2.2.1.2
      have tt := (tg_176 q t).2.1
      rw [q]
      exact ⟨z.2, tt, fun z => by omega, fun z => by omega, fun z => by omega, fun _ => z.1⟩
    · rw [if_neg (by omega), if_neg (by omega), if_neg (by omega)] at rm
      have tt := (tg_177 q t).2.1
      have e1 : qN S (p + 1) = 0 := by rw [← wp.2, rm.1]; exact l1.2.2.2.2.2.2.2.2.2.2.2.1
      rw [q]
      refine ⟨?_, tt, fun _ => e1, fun z => by omega, fun z => by omega, fun z => by omega⟩
      unfold plS
      rw [e1]
      rfl
  obtain ⟨gl1, gl2, gl7, gl3, gl4, gl6⟩ := gl
  have v46 : qW V 46 = qW S 46 := fW i.2.1 (h := 46) (by decide) (by decide) (by decide)
  have r46 : qJ V 46 = qJ S 46 := (i.2.1.2.2.2.2.1 46 (by decide) (by decide)).2.1
  have e97S : (qI S 0 97).toInt = fN S + 1 := by unfold fN; omega
  -- behind the pops
  have j27 : ∀ (A : MS) (v : Int64), PpP V (LvN (f_op U (xS S)).toInt) A → ((f_op U (xS S)).toInt = 176 → 0 ≤ v.toInt ∧ v.toInt ≤ (qI S 0 85).toInt) → w_leave_J27 (McQ f) A v (f_op U (xS S)) := fun A v pA hv => by
    unfold w_leave_J27
    intro B eB
    have fSA : frm [43, 44, 45, 46, 47, 48] [47, 48, 49, 50, 51, 52, 53, 54] S A := (i.2.1.mo (by decide) (by decide)).tr (pA.1.mo (by decide) (by decide))
    have a97 : qI A 0 97 = qI S 0 97 := (fSA.2.2.2.2.2 97 (by decide)).1
    have fSB : frm [43, 44, 45, 46, 47, 48] [47, 48, 49, 50, 51, 52, 53, 54, 97] S B := (fSA.mo (by decide) (by decide)).tr (by rw [eB]; exact frm.pI0 (by decide))
    have b97 : (qI B 0 97).toInt = fN S := by
      rw [eB, qI_wI, if_pos ⟨rfl, rfl⟩, a97]
      exact b0.e.1
    have af : ∀ D : MS, frm [43, 44, 45, 46, 47, 48] [47, 48, 49, 50, 51, 52, 53, 54, 97, 98, 101] S D → McB D f ∧ ArI D ∧ FvI D f ∧ qI D 0 85 = qI S 0 85 := fun D k => by
      have e85 : qI D 0 85 = qI S 0 85 := (k.2.2.2.2.2 85 (by decide)).1
      exact ⟨hI.2.1.fm k (by decide) (by decide), hI.2.2.1.1.eq e85 (k.2.2.2.2.2 86 (by decide)).1 (k.2.2.2.2.1 39 (by decide) (by decide)).1 (k.2.2.2.2.1 40 (by decide) (by decide)).1, hI.2.2.1.2.eq f92 (big_frm k (by decide)) (by rw [e85]; exact Int.le_refl _) (k.2.2.2.2.1 37 (by decide) (by decide)).2.1, e85⟩
    refine ⟨fun c C eC D eD => ?_, fun c => ?_⟩
    · have fSD : frm [43, 44, 45, 46, 47, 48] [47, 48, 49, 50, 51, 52, 53, 54, 97, 98, 101] S D := (fSB.mo (by decide) (by decide)).tr ((show frm [43, 44, 45, 46, 47, 48] [47, 48, 49, 50, 51, 52, 53, 54, 97, 98, 101] B C by rw [eC]; exact frm.pI0 (by decide)).tr (by rw [eD]; exact frm.pJ0 (by decide)))
      obtain ⟨x1, x2, x3, x4⟩ := af D fSD
      refine ⟨⟨x1, x2, x3⟩, Or.inl ?_⟩
      have : qI D 0 98 = 0 := by rw [eD, qI_wJ, eC, qI_wI, if_pos ⟨rfl, rfl⟩]
      rw [this]
      decide
    · have bB : FrB B := ⟨by omega, by omega⟩
      have nB : fN B = fN S - 1 := by unfold fN; rw [b97]; rfl
      have B44 : ∀ j : Nat, j ≠ (fN S).toNat → qI B 44 j = qI S 44 j := fun j hj => by
        rw [eB, rdH (by decide), pA.2.2 j (by rw [b2]; exact hj), (i.2.1.2.2.2.2.1 44 (by decide) (by decide)).1]
      have B46 : qW B 46 = qW S 46 := by rw [eB, qW_I (by decide), fW pA.1 (h := 46) (by decide) (by decide) (by decide), v46]
      have tB : fT B = (qI S 44 ((fN S).toNat - 1)).toInt := by
        unfold fT
        rw [nB, show (fN S - 1).toNat = (fN S).toNat - 1 by omega, B44 _ (by omega)]
      have mid := hI.2.2.2.2 ((fN S).toNat - 1) (by omega)
      have i1 : (fN S).toNat - 1 + 1 = (fN S).toNat := by omega
      have tr : 0 ≤ fT B ∧ fT B + LvN (f_op U (xS S)).toInt ≤ 24 := by
        obtain ⟨U', s', p', a', hF, m1, m2, m3, m4, m5⟩ := mid
        obtain ⟨z1, z2, z3, z4, z5, z6⟩ := hF.own
        obtain ⟨-, -, -, -, k4, k5, -, k7, k8⟩ := hF
        have eg : f_givesOf U' (qI S 43 ((fN S).toNat - 1)) = p := by
          rw [gv_184 m1, z1, z2.2.2, m2, i1]
          unfold qO
          rw [z5, g2.2]
          rfl
        have gS := k4.1.gv k7 k4.2.1
        rw [eg] at gS
        have zp := z6 p gS.1
        have nm' : ¬ 0 < (f_moved U' (f_op U' (qI S 43 ((fN S).toNat - 1)))).toInt := fun z => by have := mv_iff.mp z; omega
        have egv : gvV U' (qI S 43 ((fN S).toNat - 1)) = plS S p := by
          unfold gvV
          rw [if_neg nm', eg]
          unfold plS
          rw [zp.1, zp.2]
        have bt := b_tg k4.1 k7 k4.2.1
        have q := k8.2.2.1
        rw [tB, m3]
        rw [gl1] at egv
        omega
      have fin : ∀ E : MS, frm [44, 46, 48] [] B E → (∀ j : Nat, j ≠ (fN B).toNat → qI E 44 j = qI B 44 j) → fT E = fT B + LvN (f_op U (xS S)).toInt → (∀ j : Nat, (j : Int) < 24 * fN B + fT B → qW E 46 j = qW B 46 j) → (¬ (f_op U (xS S)).toInt = 177 → (∀ th : Int32, okV (qI S 0 85).toInt (nb (ltT (qI S (p + 1) 0) th)) (qW E 46 (24 * fN B + fT B).toNat)) ∧ ((qI S (p + 1) 0).toInt = 74 → (qW E 46 (24 * fN B + fT B + 1).toNat).2.toInt = 3)) → w_leave_J96 (McQ f) E := fun E fE o44 eT e46 hvv => by
        have mE := bB.mv fE
        obtain ⟨y1, y2, y3, y4⟩ := mE.1.e
        have E43 : qI E 43 = qI S 43 := by rw [(fE.2.2.2.2.1 43 (by decide) (by decide)).1, eB, rdH (by decide), (pA.1.2.2.2.2.1 43 (by decide) (by decide)).1, (i.2.1.2.2.2.2.1 43 (by decide) (by decide)).1]
        unfold w_leave_J96
        refine ⟨⟨by omega, by omega⟩, _, sp_goTo mE.1, ?_⟩
        rintro D ⟨fD, d43⟩
        rw [y1, E43, mE.2] at d43
        have fSD : frm [43, 44, 45, 46, 47, 48] [47, 48, 49, 50, 51, 52, 53, 54, 97, 98, 101] S D := (fSB.mo (by decide) (by decide)).tr ((fE.mo (by decide) (by decide)).tr (fD.mo (by decide) (by decide)))
        obtain ⟨x1, x2, x3, x4⟩ := af D fSD
        have kb := big_frm fSD (by decide)
        have D97 : qI D 0 97 = qI B 0 97 := by rw [(fD.2.2.2.2.2 97 (by decide)).1, (fE.2.2.2.2.2 97 (by decide)).1]
        have nD : fN D = fN S - 1 := by unfold fN; rw [D97, b97]; rfl
        have D42 : qI D 42 = qI S 42 := (fSD.2.2.2.2.1 42 (by decide) (by decide)).1
        have D44 : qI D 44 = qI E 44 := (fD.2.2.2.2.1 44 (by decide) (by decide)).1
        have D45 : qW D 45 = qW S 45 := by rw [fW fD (h := 45) (by decide) (by decide) (by decide), fW fE (h := 45) (by decide) (by decide) (by decide), eB, qW_I (by decide), fW pA.1 (h := 45) (by decide) (by decide) (by decide), fW i.2.1 (h := 45) (by decide) (by decide) (by decide)]
        have D46 : qW D 46 = qW E 46 := fW fD (h := 46) (by decide) (by decide) (by decide)
        have nBn : (fN B).toNat = (fN S).toNat - 1 := by omega
        have vpos : (24 * fN B + fT B).toNat = 24 * ((fN S).toNat - 1) + (qI S 44 ((fN S).toNat - 1)).toInt.toNat := by omega
        have vpo2 : (24 * fN B + fT B + 1).toNat = 24 * ((fN S).toNat - 1) + ((qI S 44 ((fN S).toNat - 1)).toInt + 1).toNat := by omega
        refine ⟨⟨x1, x2, x3⟩, Or.inr ⟨⟨by rw [D97]; exact bB.1, by rw [D97]; exact bB.2⟩, x1, ⟨x2, x3⟩, ?_, fun j hj => ?_⟩⟩
        · rw [nD, x4, show (fN S - 1).toNat = (fN S).toNat - 1 by omega]
          refine mid.ret hI.2.2.1.1.1.1 kb (by rw [i1]; exact g2.2) (by rw [D42]) (by rw [d43, nBn]; unfold upd; rw [if_pos rfl]) ?_ (fun k _ => by unfold slF; rw [D45]) (fun k hk => ?_) ?_
          · rw [D44, gl1, ← tB, ← eT]
            unfold fT
            rw [mE.2, nBn]
          · unfold plF
            rw [D46, e46 _ (by omega), B46]
          · unfold plF
            rw [D46, ← vpos, ← vpo2]
            rcases ho with q | q | q | q
            · exact Or.inr ⟨(gl3 q).1, hvv (by omega)⟩
            · exact Or.inr ⟨(gl4 q).1, hvv (by omega)⟩
            · exact Or.inr ⟨(gl6 q).1, hvv (by omega)⟩
            · exact Or.inl (gl7 q)
        · rw [nD] at hj
          rw [x4]
          refine (hI.2.2.2.2 j (by omega)).mv (Int.le_refl _) kb ⟨by rw [D42], by rw [D42]⟩ ?_ ?_ (fun k _ => ?_) (fun k hk => ?_)
          · rw [d43, nBn]; unfold upd; rw [if_neg (by omega)]
          · rw [D44, o44 j (by omega), B44 j (by omega)]
          · unfold slF; rw [D45]
          · unfold plF; rw [D46, e46 _ (by omega), B46]
      have ptf : ∀ (E : MS) (v' : TV) (g : Int32), PtP B v' g E → g.toInt = LvN (f_op U (xS S)).toInt → ((qI S (p + 1) 0).toInt = 74 → g.toInt = 2) → (∀ th : Int32, okV (qI S 0 85).toInt (nb (ltT (qI S (p + 1) 0) th)) v') → w_leave_J96 (McQ f) E := fun E v' g q eg q2 q6 => by
        obtain ⟨r1, r2, r3, r4⟩ := q
        have at_ : qW E 46 (24 * fN B + fT B).toNat = v' := by rw [r2, if_pos rfl]
        refine fin E r1 (fun j hj => by rw [r3]; unfold upd; rw [if_neg hj]) (by rw [r4, eg]) (fun j hj => by rw [r2, if_neg (by omega), if_neg (by omega)]) (fun _ => ⟨fun th => by rw [at_]; exact q6 th, fun z => ?_⟩)
        rw [r2, if_neg (by omega), if_pos ⟨q2 z, rfl⟩]
        show (3 : Int32).toInt = 3
        decide
      have l2 : (2 : Int32).toInt = 2 := by decide
      refine ⟨fun c2 => ⟨_, sp_putI bB ⟨tr.1, by rw [c2] at tr; exact tr.2⟩, fun E hE => ptf E _ 1 hE (by rw [c2]; rfl) (fun z => by have := (gl3 c2).2; omega) (fun th => gv_l.1 (gl3 c2).2 (i64_int _) nb1v)⟩, fun c2 => ⟨fun c7 => ?_, fun c7 => ⟨fun c3 => ?_, fun c3 => ?_⟩⟩⟩
      · refine fin B frm.rf (fun _ _ => rfl) (by rw [c7]; show fT B = fT B + 0; omega) (fun _ _ => rfl) (fun z => absurd c7 z)
      · unfold w_leave_J93
        exact ⟨_, sp_putV bB (Or.inr l2) ⟨tr.1, by rw [c3] at tr; rw [l2]; exact tr.2⟩, fun E hE => ptf E _ 2 hE (by rw [c3]; rfl) (fun _ => l2) (fun th => gv_l.2.1 (gl4 c3).2 (ptT_2 l2))⟩
      · have c6 : (f_op U (xS S)).toInt = 176 := by omega
        unfold w_leave_J93
        exact ⟨_, sp_putV bB (Or.inl li_1) ⟨tr.1, by rw [c6] at tr; rw [li_1]; exact tr.2⟩, fun E hE => ptf E _ 1 hE (by rw [c6]; rfl) (fun z => by have := (gl6 c6).2; omega) (fun th => gv_l.2.2.1 (gl6 c6).2 (hv c6) (ptT_4 (by decide) (hv c6).1))⟩
  rw [(i.op _).1]
  unfold w_step_J154
  refine ⟨McQ f, ?_, hQ⟩
  have l2 : (2 : Int32).toInt = 2 := by decide
  have v176 : ∀ v : Int64, v = qJ V 46 (24 * fN V + fT V - 0 - 1).toNat → (f_op U (xS S)).toInt = 176 → 0 ≤ v.toInt ∧ v.toInt ≤ (qI S 0 85).toInt := fun v ev q => by
    have z := tg_176 q t
    rw [z.1.1, z.2.1] at wd3
    have la : qN U 10000029 = 1 ∧ (qI U 10000029 0).toInt = 65 := l1.2.2.2.2.2.2.2.2.2.1
    have w := (wd3 0 (by rw [la.1]; decide)).1 la.2
    have z0 : plc (qI U (10000028 + 1)) 0 = 0 := rfl
    rw [z0] at w
    have t1 : 1 ≤ (aT a).toInt := by have := hT.1; rw [z.2.1] at this; exact this
    have ok := i.2.2.2.2.1.2 ((aT a).toInt - 1 + 0).toNat (by omega)
    have ee : v = (plF S (fN S).toNat ((aT a).toInt - 1 + 0).toNat).1 := by
      rw [ev, b2, b4, r46]
      unfold plF qW
      rw [show (24 * fN S + (aT a).toInt - 0 - 1).toNat = 24 * (fN S).toNat + ((aT a).toInt - 1 + 0).toNat by omega]
    rw [ee]
    have n0 := hI.2.2.1.1.1.1
    rcases w with w | w
    · exact ok.1 w
    · have := ok.2.1 w
      omega
  unfold w_leave
  refine ⟨fun c => j27 V 0 (by rw [c]; exact PpP.rf) (fun z => by omega), fun c => ⟨fun c3 => ?_, fun c3 => ?_⟩⟩
  · unfold w_leave_J24
    have hl : LvN (f_op U (xS S)).toInt = 2 := by rw [c3]; rfl
    refine ⟨_, sp_pop (n := 2) b1 PpP.rf (by decide) ⟨by decide, by rw [l2]; omega⟩ (by omega), ?_⟩
    rintro v A ⟨pA, ev⟩
    rw [l2] at pA
    exact j27 A v (by rw [hl]; exact pA) (fun z => by omega)
  · unfold w_leave_J24
    have hl : LvN (f_op U (xS S)).toInt = 1 := by unfold LvN; rw [if_neg c, if_neg c3]
    refine ⟨_, sp_pop (n := 1) b1 PpP.rf (by decide) ⟨by decide, by rw [li_1]; omega⟩ (by omega), ?_⟩
    rintro v A ⟨pA, ev⟩
    rw [li_1] at pA ev
    exact j27 A v (by rw [hl]; exact pA) (v176 v ev)
/-! called (behind FrMid.ret, sp_enter, fn_places, VmI.st) -/
theorem FrU.rv {S : MS} {f i : Nat} {U : MS} {s p : Nat} {a : AS} (h : FrU S f i U s p a) (hf : FlI S f) : ∃ (T : Nat → Int32) (ts N L : Int), rV T ts N L (qI S f 3).toInt (qI S f 4).toInt (f_op U (qI S 43 i)) (f_first U (qI S 43 i)) (f_second U (qI S 43 i)) := by
  obtain ⟨f92, g1, g2, g3, g4, g5, g6, g7, g8⟩ := h
  obtain ⟨-, -, -, -, -, R, T, C, nc, ts, cn, r1, r2, r3, r4, r5, r6⟩ := hf
  obtain ⟨-, -, -, mt⟩ := r6 (qI S 42 i).toInt.toNat (by omega)
  have e48 : qO U 0 48 = R := by unfold qO; rw [g3.1.1.2.1, r2.1]; rfl
  have ok := g4.1.1.1.2.1
  rw [e48] at ok
  have eR := (g6.1 R ok).1
  have e51 := g3.1.2.1
  have e52 := g3.1.2.2.1
  have ix := lk_ix g4.1 g7
  have q := mt.2.2.2.1 (qI S 43 i).toInt.toNat (by rw [← e52]; omega)
  have f0 := mt.1
  rw [← e51] at q f0
  unfold rOK at q
  refine ⟨qI S T, ts, (qI S (f + 11) (qI S 42 i).toInt.toNat).toInt, (qI S (f + 9) (qI S 42 i).toInt.toNat).toInt, ?_⟩
  unfold f_op f_first f_second
  rw [e48, ix.1, ix.2.1, ix.2.2, ← eR]
  rw [show (3 * ((qI U 0 51).toInt + (qI S 43 i).toInt)).toNat = 3 * ((qI U 0 51).toInt.toNat + (qI S 43 i).toInt.toNat) by omega, show (3 * ((qI U 0 51).toInt + (qI S 43 i).toInt) + 1).toNat = 3 * ((qI U 0 51).toInt.toNat + (qI S 43 i).toInt.toNat) + 1 by omega, show (3 * ((qI U 0 51).toInt + (qI S 43 i).toInt) + 2).toNat = 3 * ((qI U 0 51).toInt.toNat + (qI S 43 i).toInt.toNat) + 2 by omega]
  exact q
/-- what lies where a letter's argument is to lie -/
def agV (n : Int) (c : Int32) (v w : TV) : Prop := (c.toInt = 73 → okV n (nb 1) v) ∧ (c.toInt = 74 → okV n (nb 2) v ∧ okV n (nb 3) w) ∧ (¬ c.toInt = 73 → ¬ c.toInt = 74 → okV n (nb 4) v)
theorem parL_v {g : Nat → Int32} {n : Int} {v : Nat → TV} : ∀ N : Nat, (∀ i : Nat, i < N → agV n (g i) (v (plc g i).toNat) (v ((plc g i).toNat + 1))) → ∀ k : Nat, okV n (nb (parL g N k)) (v k) := by
  intro N
  induction N with
  | zero => intro _ k; exact okV.z0
  | succ N ih =>
    intro h k
    have q := h N (by omega)
    have r := ih (fun i hi => h i (by omega)) k
    show okV n (nb ((if (g N).toInt = 73 then upd (parL g N) (plc g N).toNat 1 else if (g N).toInt = 74 then upd (upd (parL g N) (plc g N).toNat 2) ((plc g N).toNat + 1) 3 else upd (parL g N) (plc g N).toNat 4) k)) (v k)
    by_cases c1 : (g N).toInt = 73
    · rw [if_pos c1]
      unfold upd
      by_cases e : k = (plc g N).toNat
      · rw [if_pos e, e]; exact q.1 c1
      · rw [if_neg e]; exact r
    · rw [if_neg c1]
      by_cases c2 : (g N).toInt = 74
      · rw [if_pos c2]
        unfold upd
        by_cases e : k = (plc g N).toNat + 1
        · rw [if_pos e, e]; exact (q.2.1 c2).2
        · rw [if_neg e]
          by_cases e2 : k = (plc g N).toNat
          · rw [if_pos e2, e2]; exact (q.2.1 c2).1
          · rw [if_neg e2]; exact r
      · rw [if_neg c2]
        unfold upd
        by_cases e : k = (plc g N).toNat
        · rw [if_pos e, e]
          exact q.2.2 c1 c2
        · rw [if_neg e]; exact r
theorem plc_lt {g : Nat → Int32} {i N : Nat} (h : i < N) : plc g i + 1 ≤ plc g N := by
  induction N with
  | zero => exact absurd h (Nat.not_lt_zero _)
  | succ N ih =>
    have e : plc g (N + 1) = plc g N + if (g N).toInt = 74 then 2 else 1 := rfl
    by_cases c : i = N
    · rw [e, c]; split <;> omega
    · have := ih (by omega)
      rw [e]; split <;> omega
/-- a new frame, whose slots hold values of what the method takes -/
theorem VmA.top {S u : MS} {f i m : Nat} {n : Int} (h : VmA S f m) (f92 : 92 < f) (n0 : 0 ≤ n) (kb : ∀ h : Nat, 92 < h → sm5 S u h) (hm : (qI u 42 i).toInt.toNat = m ∧ 0 ≤ (qI u 42 i).toInt ∧ (qI u 42 i).toInt < (qI S f 4).toInt) (e43 : qI u 43 i = 0) (e44 : qI u 44 i = 0) (hv : ∀ s : Nat, qR S (f + 6) m = some s → ∀ k : Nat, k < 24 → okV n (nb (parL (qI S (s + 1)) (qN S (s + 1)) k)) (slF u i k)) : FrTop u f i n := by
  obtain ⟨U, s, p, h1, h2, h3, h4, h5, h6, h7, h8, h9, h10⟩ := h
  have sU := h5.2.2.2.2.1
  have z := h8 _ sU
  have T := h5.2.1
  have H := h5.1
  have cn := h4.cnt
  have l0 : (0 : Int32).toInt = 0 := rfl
  have hx : 0 ≤ (0 : Int32).toInt ∧ (0 : Int32).toInt < (qI U 0 52).toInt := ⟨by decide, by rw [l0]; omega⟩
  obtain ⟨b, hb⟩ := h5.st h4 h6 h7 hx T.2.1
  have y := h5.2.2.1.ht hx T.1 T.2.1
  have ht := htV_one y.1 H.2.1
  have bT : (aT b).toInt = 0 := by rw [hb.1.2.2]; exact ht
  refine ⟨U, s, p, b, ⟨f92, ?_, ?_, ?_, ⟨h4, h6, h5⟩, h7, ⟨fun a ha => (h8 a ha).s (kb a ha.1), fun a ha hq => ?_⟩, by rw [e43]; exact hx, by rw [e43]; exact hb⟩, by rw [e44, bT]; rfl, fun k hk => ?_, fun k hk => by omega⟩
  · rw [(kb f f92).1]; exact hm.2
  · rw [hm.1, (kb (f + 6) (by omega)).2.2.1, (kb (f + 7) (by omega)).2.2.1]; exact ⟨h1, h2⟩
  · rw [hm.1]; exact LoK.mk2 ⟨h3, h10⟩ f92 kb
  · have z := h9 a ha hq
    have q := kb a ha
    exact ⟨fun j hj => by rw [q.1]; exact z.1 j hj, fun j hj => by rw [q.2.2.1]; exact z.2.1 j hj, by rw [q.2.2.2.1]; exact z.2.2.1, by rw [q.2.2.2.2]; exact z.2.2.2⟩
  · have sb := h5.2.2.2.1 (by show 0 ≤ htV (qI U 22 0); have e : htV (qI U 22 0) = 0 := ht; omega) k hk
    rw [nb_8, ← z.1, ← z.2.2.2.2] at sb
    have v := hv s h1 k hk
    have sn := sb_nb sb
    rw [nb_nb] at sn
    have e := hb.1.1 k hk
    rw [show 48 * (0 : Int32).toInt.toNat + k = k by show 48 * 0 + k = k; omega] at e
    rw [e]
    exact v.sb sn n0
theorem sp_called_L {E : MS} {Q : MS → Prop} {a21 r2 : Int32} {F n : Int} (hF : 0 ≤ F ∧ F < 60) (h97 : (qI E 0 97).toInt = F + 1) (hn : 0 ≤ n ∧ n ≤ 8) (er : r2.toInt = n) (ha : 0 ≤ a21.toInt ∧ a21.toInt + n ≤ 1440) (hQ : ∀ D : MS, frm [45, 47] [] E D → (∀ j : Nat, qW D 45 j = if 24 * F ≤ (j : Int) ∧ (j : Int) < 24 * F + n then nW (qW E 46 (a21.toInt.toNat + (j - (24 * F).toNat))) else qW E 45 j) → Q D) : ∃ c, w_called_L88 Q c E a21 r2 0 := by
  have Lp : ∀ (c : Nat) (D : MS) (k : Int32), frm [45, 47] [] E D → (0 ≤ k.toInt ∧ k.toInt ≤ n) → (∀ j : Nat, qW D 45 j = if 24 * F ≤ (j : Int) ∧ (j : Int) < 24 * F + k.toInt then nW (qW E 46 (a21.toInt.toNat + (j - (24 * F).toNat))) else qW E 45 j) → (n - k.toInt).toNat < c → w_called_L88 Q c D a21 r2 k := by
    intro c
    induction c with
    | zero => intro D k _ _ _ h9; exact absurd h9 (Nat.not_lt_zero _)
    | succ c ih =>
      intro D k fD hk hD hc
      have d97 : (qI D 0 97).toInt = F + 1 := by rw [(fD.2.2.2.2.2 97 (by decide)).1, h97]
      have D46 : qW D 46 = qW E 46 := fW fD (h := 46) (by decide) (by decide) (by decide)
      have bD : FrB D := ⟨by omega, by omega⟩
      have nD : fN D = F := by unfold fN; omega
      unfold w_called_L88
      refine ⟨fun z => ?_, fun z => ?_⟩
      · have ek : k.toInt = n := by omega
        rw [ek] at hD
        exact hQ D fD hD
      · have kl : k.toInt < n := by omega
        have ek : (k + Int32.ofInt 1).toInt = k.toInt + 1 := by rw [t_add (by rw [lo_1]; omega), lo_1]
        obtain ⟨z1, z2, z3, z4⟩ := bD.e
        rw [nD] at z1 z2 z3 z4
        have sl : ∀ W : MS, qI W 0 97 = qI D 0 97 → (f_slot W k).toInt = 24 * F + k.toInt := fun W eW => by
          unfold f_slot
          rw [eW, t_add (by rw [z4]; omega), z4]
        have pi : (a21 + k).toInt = a21.toInt + k.toInt := t_add (by omega)
        rw [sl D rfl, pi]
        refine ⟨trivial, ⟨by omega, by omega⟩, ⟨by omega, by omega⟩, fun X eX => ?_⟩
        have x97 : qI X 0 97 = qI D 0 97 := by rw [eX]; rfl
        rw [sl X x97]
        refine ⟨trivial, ⟨by omega, by omega⟩, ⟨by omega, by omega⟩, fun Y eY a53 e53 => ?_⟩
        subst e53
        refine ih Y _ (fD.tr ((show frm [45, 47] [] D X by rw [eX]; exact frm.pJ (by decide)).tr (by rw [eY]; exact frm.pI (by decide)))) ⟨by omega, by omega⟩ (fun j => ?_) (by omega)
        have yJ : qJ Y 45 j = if j = (24 * F + k.toInt).toNat then qJ D 46 (a21.toInt + k.toInt).toNat else qJ D 45 j := by
          rw [eY, qJ_wI, eX, qJ_wJ]
          by_cases e : j = (24 * F + k.toInt).toNat
          · rw [if_pos e, if_pos ⟨rfl, e⟩]
          · rw [if_neg e, if_neg (fun q => e q.2)]
        have yI : qI Y 47 j = if j = (24 * F + k.toInt).toNat then nb (qI D 48 (a21.toInt + k.toInt).toNat) else qI D 47 j := by
          rw [eY, qI_wI]
          by_cases e : j = (24 * F + k.toInt).toNat
          · rw [if_pos e, if_pos ⟨rfl, e⟩, eX]; rfl
          · rw [if_neg e, if_neg (fun q => e q.2), eX]; rfl
        have yW : qW Y 45 j = if j = (24 * F + k.toInt).toNat then nW (qW D 46 (a21.toInt + k.toInt).toNat) else qW D 45 j := by
          unfold qW nW
          rw [yJ, show 45 + 2 = 47 from rfl, yI]
          split <;> rfl
        rw [yW, ek, D46]
        by_cases e : j = (24 * F + k.toInt).toNat
        · rw [if_pos e, if_pos (by omega)]
          rw [show (a21.toInt + k.toInt).toNat = a21.toInt.toNat + (j - (24 * F).toNat) by omega]
        · rw [if_neg e, hD]
          by_cases e2 : 24 * F ≤ (j : Int) ∧ (j : Int) < 24 * F + k.toInt
          · rw [if_pos e2, if_pos (by omega)]
          · rw [if_neg e2, if_neg (by omega)]
  have l0 : (0 : Int32).toInt = 0 := rfl
  exact ⟨_, Lp _ E 0 frm.rf ⟨by decide, by rw [l0]; exact hn.1⟩ (fun j => by rw [if_neg (by rw [l0]; omega)]) (Nat.lt_succ_self _)⟩
set_option maxHeartbeats 4000000 in
theorem InS.called {S V U : MS} {f s p : Nat} {a : AS} {Q : MS → Prop} (i : InS S V f U s p a) (ho : (f_op U (xS S)).toInt = 184) (hQ : ∀ w, McQ f w → Q w) : ∃ Q59, w_called V (f_first V (xS S)) Q59 ∧ ∀ w, Q59 w → Q w := by
  obtain ⟨b0, b1, b2, b3, b4, L1, b5⟩ := i.v
  obtain ⟨kk, t, hx, st, hT, h0⟩ := i.t
  have hI := i.1
  have hU := i.2.2.1
  have hU' := hU
  obtain ⟨w1, w2, w3, w4, w5, w6⟩ := hU.own
  obtain ⟨T', ts', N', L', rv⟩ := hU.rv hI.2.1.2.1
  obtain ⟨f92, g1, g2, g3, g4, g5, g6, g7, g8⟩ := hU
  have nm : ¬ 0 < (f_moved U (f_op U (xS S))).toInt := fun z => by have := mv_iff.mp z; omega
  have mr : 0 ≤ (f_first U (xS S)).toInt ∧ (f_first U (xS S)).toInt < (qI S f 4).toInt := rv.2.2.2.2.2.2 ho
  have vm := hI.2.1.2.2.1.2.2 (f_first U (xS S)).toInt.toNat (by omega)
  obtain ⟨b, -, -, -, -, -, wd⟩ := wk_dec (p := p) (a := a) kk t hx ⟨hT.1, hT.2.1, by omega⟩ nm
  obtain ⟨-, -, wd3⟩ := wd st.2.1
  obtain ⟨sm, hsm⟩ : ∃ sm : Nat, qR S (f + 6) (f_first U (xS S)).toInt.toNat = some sm := by
    obtain ⟨_, sm, _, q, _⟩ := vm
    exact ⟨sm, q⟩
  have et : f_takesOf U (xS S) = sm := by
    rw [tk_184 ho, w1, w2.2.1]
    unfold qO
    rw [w4, hsm]
    rfl
  have tS := kk.tk hx t
  rw [et] at tS wd3
  obtain ⟨ts1, ts2, ts3, ts4, ts5⟩ := tS
  have wp := w6 sm ts1
  have etk : tkV U (xS S) = plS S sm := by
    unfold tkV
    rw [if_neg nm, et]
    unfold plS
    rw [wp.1, wp.2]
  have pl8 : plS S sm ≤ 8 := by unfold plS at ts5 ⊢; rw [← wp.1, ← wp.2]; exact ts5
  have n8 : qN S (sm + 1) ≤ 8 := by rw [← wp.2]; exact ts2
  have lt : ∀ j : Nat, j < qN S (sm + 1) → 0 ≤ (qI S (sm + 1) j).toInt ∧ (qI S (sm + 1) j).toInt ≤ 127 := fun j hj => by
    have := ts3 j (by rw [wp.2]; exact hj)
    rw [wp.1] at this
    omega
  have k92 : 92 < sm + 1 := ts1.1
  have fl := hI.2.1.2.1
  have FR := fl.1.2.2
  have r5 := FR 5 (by decide)
  have q10 : qR S f 10 = some (f + 6) := r5.1
  have n6 : qN S (f + 6) = 24 := r5.2.1
  have m24 := fl.2.2.2.1.2.2
  have kV := big_frm i.2.1 (by simp)
  have V80 : qR V 0 80 = some f := by rw [(i.2.1.2.2.2.2.2 80 (by decide)).2.2]; exact hI.2.1.1.2
  have o80 : qO V 0 80 = f := by unfold qO; rw [V80]; rfl
  have o10 : qO V f 10 = f + 6 := by unfold qO; rw [(kV f f92).2.2.1, q10]; rfl
  have rV6 : qR V (f + 6) (f_first U (xS S)).toInt.toNat = some sm := by rw [(kV _ (by omega)).2.2.1]; exact hsm
  have o6 : qO V (f + 6) (f_first U (xS S)).toInt.toNat = sm := by unfold qO; rw [rV6]; rfl
  have v46 : qW V 46 = qW S 46 := fW i.2.1 (h := 46) (by decide) (by decide) (by decide)
  have v45 : qW V 45 = qW S 45 := fW i.2.1 (h := 45) (by decide) (by decide) (by decide)
  have v44 : qI V 44 = qI S 44 := (i.2.1.2.2.2.2.1 44 (by decide) (by decide)).1
  have v43 : qI V 43 = qI S 43 := (i.2.1.2.2.2.2.1 43 (by decide) (by decide)).1
  have v42 : qI V 42 = qI S 42 := (i.2.1.2.2.2.2.1 42 (by decide) (by decide)).1
  have v97 : qI V 0 97 = qI S 0 97 := (i.2.1.2.2.2.2.2 97 (by decide)).1
  have e97 : (qI S 0 97).toInt = fN S + 1 := by unfold fN; omega
  have af : ∀ D : MS, frm [42, 43, 44, 45, 46, 47, 48] [47, 48, 49, 50, 51, 52, 53, 54, 97, 98] S D → McB D f ∧ ArI D ∧ FvI D f ∧ qI D 0 85 = qI S 0 85 := fun D k => by
    have e85 : qI D 0 85 = qI S 0 85 := (k.2.2.2.2.2 85 (by decide)).1
    exact ⟨hI.2.1.fm k (by decide) (by decide), hI.2.2.1.1.eq e85 (k.2.2.2.2.2 86 (by decide)).1 (k.2.2.2.2.1 39 (by decide) (by decide)).1 (k.2.2.2.2.1 40 (by decide) (by decide)).1, hI.2.2.1.2.eq f92 (big_frm k (by decide)) (by rw [e85]; exact Int.le_refl _) (k.2.2.2.2.1 37 (by decide) (by decide)).2.1, e85⟩
  rw [(i.op _).2.1]
  refine ⟨McQ f, ?_, hQ⟩
  unfold w_called
  refine ⟨fun c D eD => ?_, fun c => ?_⟩
  · obtain ⟨x1, x2, x3, x4⟩ := af D ((i.2.1.mo (by decide) (by decide)).tr (by rw [eD]; exact frm.pI0 (by decide)))
    refine ⟨⟨x1, x2, x3⟩, Or.inl ?_⟩
    have : qI D 0 98 = 3 := by rw [eD, qI_wI, if_pos ⟨rfl, rfl⟩]
    rw [this]
    decide
  · rw [v97, e97] at c
    obtain ⟨y1, y2, y3, y4⟩ := b1.e
    rw [b2] at y1 y2 y3 y4
    have eV44 : (qI V 44 (fN S).toNat).toInt = (aT a).toInt := by unfold fT at b4; rw [b2] at b4; exact b4
    have vs := kV (sm + 1) k92
    have plV : plS V sm = plS S sm := by unfold plS; rw [vs.1, vs.2.2.2.2]
    rw [o80, o10, o6, y1]
    refine ⟨V80, by rw [(kV f f92).2.2.1]; exact q10, ⟨mr.1, by rw [(kV (f + 6) (by omega)).2.2.2.2, n6]; omega⟩, rV6, trivial, ⟨y2, y3⟩, _, fn_places (by rw [vs.2.2.2.2]; omega) (by rw [vs.1, vs.2.2.2.2]; exact lt), ?_⟩
    rintro r V' ⟨eV', er⟩
    have eV2 := eV'.symm
    subst eV2
    rw [plV] at er
    intro a21 e21 a25 e25
    have s0 : (f_slot V (0 : Int32)).toInt = 24 * fN S := by
      unfold f_slot
      have l0 : (0 : Int32).toInt = 0 := rfl
      rw [t_add (by rw [y4, l0]; omega), y4, l0]
      omega
    have q21 : a21.toInt = 24 * fN S + (aT a).toInt - plS S sm := by
      have z : (f_slot V (0 : Int32) + qI V 44 (fN S).toNat).toInt = 24 * fN S + (aT a).toInt := by rw [t_add (by rw [s0, eV44]; omega), s0, eV44]
      rw [e21, t_sub (by rw [z, er]; omega), z, er]
    have q25 : a25.toInt = (aT a).toInt - plS S sm := by
      rw [e25, t_sub (by rw [q21, y4]; omega), q21, y4]
      omega
    rw [y1]
    refine ⟨⟨y2, y3⟩, fun A eA => ?_⟩
    have fA : frm [44] [] V A := by rw [eA]; exact frm.pI (by decide)
    have a97 : (qI A 0 97).toInt = fN S + 1 := by rw [eA, rdH (by decide), v97, e97]
    refine ⟨_, sp_enter (m := f_first U (xS S)) ⟨by omega, by omega⟩, ?_⟩
    rintro E ⟨fE, c97, c42, c43, c44, c45⟩
    rw [a97] at c97 c42 c43 c44 c45
    have A42 : qI A 42 = qI S 42 := by rw [eA, rdH (by decide), v42]
    have A43 : qI A 43 = qI S 43 := by rw [eA, rdH (by decide), v43]
    have A45 : qW A 45 = qW S 45 := by rw [eA, qW_I (by decide), v45]
    have E46 : qW E 46 = qW S 46 := by rw [fW fE (h := 46) (by decide) (by decide) (by decide), eA, qW_I (by decide), v46]
    rw [A42] at c42
    rw [A43] at c43
    rw [A45] at c45
    have fSE : frm [42, 43, 44, 45, 46, 47, 48] [47, 48, 49, 50, 51, 52, 53, 54, 97, 98] S E := (i.2.1.mo (by decide) (by decide)).tr ((fA.mo (by decide) (by decide)).tr (fE.mo (by decide) (by decide)))
    have kE := big_frm fSE (by decide)
    have es := kE (sm + 1) k92
    have plE : plS E sm = plS S sm := by unfold plS; rw [es.1, es.2.2.2.2]
    refine ⟨_, fn_places (by rw [es.2.2.2.2]; omega) (by rw [es.1, es.2.2.2.2]; exact lt), ?_⟩
    rintro r2 E' ⟨eE', er2⟩
    have eE2 := eE'.symm
    subst eE2
    rw [plE] at er2
    have eNn : (fN S + 1).toNat = (fN S).toNat + 1 := by omega
    -- the arguments are laid into the new frame
    have l0 : (0 : Int32).toInt = 0 := rfl
    refine sp_called_L (F := fN S + 1) (n := plS S sm) ⟨by omega, by omega⟩ c97 ⟨by unfold plS; have := plc_ge (g := qI S (sm + 1)) (qN S (sm + 1)); omega, pl8⟩ er2 ⟨by omega, by omega⟩ (fun D fD hD => ?_)
    rw [q21, E46] at hD
    have d97 : (qI D 0 97).toInt = fN S + 1 + 1 := by rw [(fD.2.2.2.2.2 97 (by decide)).1, c97]
    have D46 : qW D 46 = qW S 46 := by rw [fW fD (h := 46) (by decide) (by decide) (by decide), E46]
    have bD : FrB D := ⟨by omega, by omega⟩
    have nD : fN D = fN S + 1 := by unfold fN; omega
    have fSD : frm [42, 43, 44, 45, 46, 47, 48] [47, 48, 49, 50, 51, 52, 53, 54, 97, 98] S D := fSE.tr (fD.mo (by decide) (by decide))
    obtain ⟨x1, x2, x3, x4⟩ := af D fSD
    have kb := big_frm fSD (by decide)
    have D42 : qI D 42 = upd (qI S 42) (fN S + 1).toNat (f_first U (xS S)) := by rw [(fD.2.2.2.2.1 42 (by decide) (by decide)).1, c42]
    have D43 : qI D 43 = upd (qI S 43) (fN S + 1).toNat 0 := by rw [(fD.2.2.2.2.1 43 (by decide) (by decide)).1, c43]
    have D44 : qI D 44 = upd (qI A 44) (fN S + 1).toNat 0 := by rw [(fD.2.2.2.2.1 44 (by decide) (by decide)).1, c44]
    have A44 : qI A 44 = upd (qI S 44) (fN S).toNat a25 := by rw [eA, qI_self, v44]
    have low : ∀ j : Nat, (j : Int) < 24 * (fN S + 1) → qW D 45 j = qW S 45 j := fun j hj => by rw [hD, if_neg (by omega), c45, if_neg (by omega)]
    have lo42 : ∀ j : Nat, j ≤ (fN S).toNat → qI D 42 j = qI S 42 j := fun j hj => by rw [D42]; unfold upd; rw [if_neg (by omega)]
    have lo43 : ∀ j : Nat, j ≤ (fN S).toNat → qI D 43 j = qI S 43 j := fun j hj => by rw [D43]; unfold upd; rw [if_neg (by omega)]
    refine ⟨⟨x1, x2, x3⟩, Or.inr ⟨bD, x1, ⟨x2, x3⟩, ?_, fun j hj => ?_⟩⟩
    · rw [nD, x4, eNn]
      have at42 : qI D 42 ((fN S).toNat + 1) = f_first U (xS S) := by rw [D42, eNn]; unfold upd; rw [if_pos rfl]
      refine vm.top f92 hI.2.2.1.1.1.1 kb ⟨by rw [at42], by rw [at42]; exact mr⟩ (by rw [D43, eNn]; unfold upd; rw [if_pos rfl]) (by rw [D44, eNn]; unfold upd; rw [if_pos rfl]) (fun s2 hs2 k2 hk2 => ?_)
      rw [hsm] at hs2
      have es2 : s2 = sm := by injection hs2 with z; exact z.symm
      subst es2
      refine parL_v (v := slF D ((fN S).toNat + 1)) _ (fun j hj => ?_) k2
      have pj := plc_lt (g := qI S (s2 + 1)) hj
      have pj0 := plc_ge (g := qI S (s2 + 1)) j
      have epl : plS S s2 = plc (qI S (s2 + 1)) (qN S (s2 + 1)) := rfl
      have ev : slF D ((fN S).toNat + 1) (plc (qI S (s2 + 1)) j).toNat = nW (plF S (fN S).toNat ((aT a).toInt - tkV U (xS S) + plc (qI S (s2 + 1)) j).toNat) := by
        unfold slF plF
        rw [hD, if_pos (by omega)]
        rw [show (24 * fN S + (aT a).toInt - plS S s2).toNat + (24 * ((fN S).toNat + 1) + (plc (qI S (s2 + 1)) j).toNat - (24 * (fN S + 1)).toNat) = 24 * (fN S).toNat + ((aT a).toInt - tkV U (xS S) + plc (qI S (s2 + 1)) j).toNat by rw [etk]; omega]
      have w := wd3 j (by rw [wp.2]; exact hj)
      rw [wp.1] at w
      have ok := i.2.2.2.2.1.2 ((aT a).toInt - tkV U (xS S) + plc (qI S (s2 + 1)) j).toNat (by rw [etk]; omega)
      have nbP := st.1.nb.2
      have okn := ok
      rw [← nbP _ (by rw [etk]; omega)] at okn
      have okw := okn.nw
      rw [nbP _ (by rw [etk]; omega)] at okw
      rw [ev]
      refine ⟨fun q => ?_, fun q => ?_, fun q1 q2 => ?_⟩
      · have e1 : aP a ((aT a).toInt - tkV U (xS S) + plc (qI S (s2 + 1)) j).toNat = nb 1 := Int32.toInt_inj.mp (by rw [w.2.1 q]; decide)
        rw [e1] at okw
        exact okw
      · have pl2 : plc (qI S (s2 + 1)) (j + 1) = plc (qI S (s2 + 1)) j + 2 := by
          show plc (qI S (s2 + 1)) j + (if (qI S (s2 + 1) j).toInt = 74 then (2 : Int) else 1) = _
          rw [if_pos q]
        have pl3 : plc (qI S (s2 + 1)) (j + 1) ≤ plc (qI S (s2 + 1)) (qN S (s2 + 1)) := by
          by_cases y : j + 1 = qN S (s2 + 1)
          · rw [y]; exact Int.le_refl _
          · have := plc_lt (g := qI S (s2 + 1)) (show j + 1 < qN S (s2 + 1) by omega); omega
        have ev2 : slF D ((fN S).toNat + 1) ((plc (qI S (s2 + 1)) j).toNat + 1) = nW (plF S (fN S).toNat ((aT a).toInt - tkV U (xS S) + plc (qI S (s2 + 1)) j + 1).toNat) := by
          unfold slF plF
          rw [hD, if_pos (by omega)]
          rw [show (24 * fN S + (aT a).toInt - plS S s2).toNat + (24 * ((fN S).toNat + 1) + ((plc (qI S (s2 + 1)) j).toNat + 1) - (24 * (fN S + 1)).toNat) = 24 * (fN S).toNat + ((aT a).toInt - tkV U (xS S) + plc (qI S (s2 + 1)) j + 1).toNat by rw [etk]; omega]
        have ok2 := i.2.2.2.2.1.2 ((aT a).toInt - tkV U (xS S) + plc (qI S (s2 + 1)) j + 1).toNat (by rw [etk]; omega)
        have okn2 := ok2
        rw [← nbP _ (by rw [etk]; omega)] at okn2
        have okw2 := okn2.nw
        rw [nbP _ (by rw [etk]; omega)] at okw2
        have w2 := w.2.2.2.2 q
        have e1 : aP a ((aT a).toInt - tkV U (xS S) + plc (qI S (s2 + 1)) j).toNat = nb 2 := Int32.toInt_inj.mp (by rw [w2.1]; decide)
        have e3 : aP a ((aT a).toInt - tkV U (xS S) + plc (qI S (s2 + 1)) j + 1).toNat = nb 3 := Int32.toInt_inj.mp (by rw [w2.2]; decide)
        rw [e1] at okw
        rw [e3] at okw2
        rw [ev2]
        exact ⟨okw, okw2⟩
      have lj := lt j hj
      have l3 := ts3 j (by rw [wp.2]; exact hj)
      rw [wp.1] at l3
      have q65 : (qI S (s2 + 1) j).toInt = 65 := by
        have vv := vm
        obtain ⟨U2, s3, p3, v1, v2, v3, v4, v5, v6, v7, v8, v9⟩ := vv
        have fm := fl.2.2.2.2.2
        obtain ⟨R, T, C, nc, ts, cn, -, -, -, -, -, r6⟩ := fm
        obtain ⟨⟨pl, ⟨t1, t2, t3, t4, -, -, -, -, -, -, u3, -, -, -, ⟨-, n', g', sI, -, ls, -⟩, -⟩, -⟩, -⟩ := r6 (f_first U (xS S)).toInt.toNat (by omega)
        rw [hsm] at u3
        have e3 : s2 = t3 := by injection u3
        subst e3
        have z1 := ls j (by rw [← sI.2.2.1]; exact hj)
        rw [← sI.2.2.2 j (by rw [← sI.2.2.1]; exact hj)] at z1
        omega
      have n0 := hI.2.2.1.1.1.1
      rcases w.1 q65 with q | q
      · have e1 : aP a ((aT a).toInt - tkV U (xS S) + plc (qI S (s2 + 1)) j).toNat = nb 4 := Int32.toInt_inj.mp (by rw [q]; decide)
        rw [e1] at okw
        exact okw
      · exact okw.sb (Or.inr (Or.inr ⟨q, Or.inl (by decide)⟩)) n0
    · rw [nD] at hj
      rw [x4]
      by_cases ej : j = (fN S).toNat
      · subst ej
        have stay := hU'.stay kb (lo42 _ (Nat.le_refl _)) (lo43 _ (Nat.le_refl _))
        refine ⟨U, s, p, a, stay, ?_, ?_, ?_, fun k2 hk2 => ?_, fun k2 hk2 => ?_⟩
        · rw [lo43 _ (Nat.le_refl _)]; exact ho
        · rw [lo43 _ (Nat.le_refl _), D42, eNn]
          unfold upd
          rw [if_pos rfl]
          rfl
        · rw [lo43 _ (Nat.le_refl _), D44]
          unfold upd
          rw [if_neg (by omega), A44]
          unfold upd
          rw [if_pos rfl, q25, ← etk]
          rfl
        · unfold slF
          rw [low _ (by omega)]
          exact i.2.2.2.2.1.1 k2 hk2
        · rw [lo43 _ (Nat.le_refl _)] at hk2
          unfold plF
          rw [D46]
          refine i.2.2.2.2.1.2 k2 ?_
          have : tkV U (qI S 43 (fN S).toNat) = tkV U (xS S) := rfl
          omega
      · refine (hI.2.2.2.2 j (by omega)).mv (Int.le_refl _) kb ⟨lo42 _ (by omega), lo42 _ (by omega)⟩ (lo43 _ (by omega)) ?_ (fun k2 hk2 => ?_) (fun k2 hk2 => ?_)
        · rw [D44]
          unfold upd
          rw [if_neg (by omega), A44]
          unfold upd
          rw [if_neg (by omega)]
        · unfold slF; rw [low _ (by omega)]
        · unfold plF; rw [D46]
