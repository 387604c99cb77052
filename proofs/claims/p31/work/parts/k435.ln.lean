/-! how long a row is when written (behind sp_nO, loV) -/
def pLn (U : MS) (a : Int32) (n : Int) : Prop := ((-1 ≤ a.toInt ∧ a.toInt ≤ 5) ∧ n = 1) ∨ (¬ (-1 ≤ a.toInt ∧ a.toInt ≤ 5) ∧ (-128 ≤ a.toInt ∧ a.toInt ≤ 127) ∧ n = 2) ∨ (¬ (-128 ≤ a.toInt ∧ a.toInt ≤ 127) ∧ (-32768 ≤ a.toInt ∧ a.toInt ≤ 32767) ∧ n = 3) ∨ (¬ (-32768 ≤ a.toInt ∧ a.toInt ≤ 32767) ∧ ∃ r : Int32, NuK U 3 0 0 a.toInt64 10000032 r ∧ (r.toInt ≤ 255 ∧ n = 2 ∨ 255 < r.toInt ∧ n = 3))
def LnV (U : MS) (op a b : Int32) (o n : Int) : Prop := (op.toInt = 18 → pLn U a n) ∧ (op.toInt = 20 → ((lg_cmp (loV a b) 0).toInt = 0 ∨ (lg_cmp (loV a b) 1).toInt = 0) ∧ n = 1 ∨ (¬ (lg_cmp (loV a b) 0).toInt = 0 ∧ ¬ (lg_cmp (loV a b) 1).toInt = 0) ∧ n = 3) ∧ ((op.toInt = 21 ∨ op.toInt = 22 ∨ op.toInt = 25 ∨ op.toInt = 54 ∨ op.toInt = 55 ∨ op.toInt = 58) → a.toInt < 4 ∧ n = 1 ∨ 4 ≤ a.toInt ∧ n = 2) ∧ (op.toInt = 132 → (-128 ≤ b.toInt ∧ b.toInt ≤ 127) ∧ n = 3 ∨ ¬ (-128 ≤ b.toInt ∧ b.toInt ≤ 127) ∧ n = 6) ∧ (op.toInt = 170 → n = 16 - o % 4 + 4 * b.toInt) ∧ (op.toInt = 171 → n = 12 - o % 4 + 8 * b.toInt) ∧ ((op.toInt = 178 ∨ op.toInt = 179 ∨ op.toInt = 184) → n = 3) ∧ (op.toInt = 188 → n = 2) ∧ (((153 ≤ op.toInt ∧ op.toInt ≤ 167) ∨ op.toInt = 198 ∨ op.toInt = 199) → n = 3) ∧ (¬ (op.toInt = 18 ∨ op.toInt = 20 ∨ (op.toInt = 21 ∨ op.toInt = 22 ∨ op.toInt = 25 ∨ op.toInt = 54 ∨ op.toInt = 55 ∨ op.toInt = 58) ∨ op.toInt = 132 ∨ op.toInt = 170 ∨ op.toInt = 171 ∨ (op.toInt = 178 ∨ op.toInt = 179 ∨ op.toInt = 184) ∨ op.toInt = 188 ∨ ((153 ≤ op.toInt ∧ op.toInt ≤ 167) ∨ op.toInt = 198 ∨ op.toInt = 199)) → n = 1)
theorem LnV.c18 {U : MS} {op a b : Int32} {o n : Int} (h : op.toInt = 18) (c : pLn U a n) : LnV U op a b o n := ⟨fun _ => c, fun z => absurd z (by omega), fun z => absurd z (by omega), fun z => absurd z (by omega), fun z => absurd z (by omega), fun z => absurd z (by omega), fun z => absurd z (by omega), fun z => absurd z (by omega), fun z => absurd z (by omega), fun z => absurd z (by omega)⟩
theorem LnV.o18 {U : MS} {op a b : Int32} {o n : Int} (h : LnV U op a b o n) (q : op.toInt = 18) : pLn U a n := h.1 q
theorem LnV.c20 {U : MS} {op a b : Int32} {o n : Int} (h : op.toInt = 20) (c : ((lg_cmp (loV a b) 0).toInt = 0 ∨ (lg_cmp (loV a b) 1).toInt = 0) ∧ n = 1 ∨ (¬ (lg_cmp (loV a b) 0).toInt = 0 ∧ ¬ (lg_cmp (loV a b) 1).toInt = 0) ∧ n = 3) : LnV U op a b o n := ⟨fun z => absurd z (by omega), fun _ => c, fun z => absurd z (by omega), fun z => absurd z (by omega), fun z => absurd z (by omega), fun z => absurd z (by omega), fun z => absurd z (by omega), fun z => absurd z (by omega), fun z => absurd z (by omega), fun z => absurd z (by omega)⟩
theorem LnV.o20 {U : MS} {op a b : Int32} {o n : Int} (h : LnV U op a b o n) (q : op.toInt = 20) : ((lg_cmp (loV a b) 0).toInt = 0 ∨ (lg_cmp (loV a b) 1).toInt = 0) ∧ n = 1 ∨ (¬ (lg_cmp (loV a b) 0).toInt = 0 ∧ ¬ (lg_cmp (loV a b) 1).toInt = 0) ∧ n = 3 := h.2.1 q
theorem LnV.cL {U : MS} {op a b : Int32} {o n : Int} (h : (op.toInt = 21 ∨ op.toInt = 22 ∨ op.toInt = 25 ∨ op.toInt = 54 ∨ op.toInt = 55 ∨ op.toInt = 58)) (c : a.toInt < 4 ∧ n = 1 ∨ 4 ≤ a.toInt ∧ n = 2) : LnV U op a b o n := ⟨fun z => absurd z (by omega), fun z => absurd z (by omega), fun _ => c, fun z => absurd z (by omega), fun z => absurd z (by omega), fun z => absurd z (by omega), fun z => absurd z (by omega), fun z => absurd z (by omega), fun z => absurd z (by omega), fun z => absurd z (by omega)⟩
theorem LnV.oL {U : MS} {op a b : Int32} {o n : Int} (h : LnV U op a b o n) (q : (op.toInt = 21 ∨ op.toInt = 22 ∨ op.toInt = 25 ∨ op.toInt = 54 ∨ op.toInt = 55 ∨ op.toInt = 58)) : a.toInt < 4 ∧ n = 1 ∨ 4 ≤ a.toInt ∧ n = 2 := h.2.2.1 q
theorem LnV.c132 {U : MS} {op a b : Int32} {o n : Int} (h : op.toInt = 132) (c : (-128 ≤ b.toInt ∧ b.toInt ≤ 127) ∧ n = 3 ∨ ¬ (-128 ≤ b.toInt ∧ b.toInt ≤ 127) ∧ n = 6) : LnV U op a b o n := ⟨fun z => absurd z (by omega), fun z => absurd z (by omega), fun z => absurd z (by omega), fun _ => c, fun z => absurd z (by omega), fun z => absurd z (by omega), fun z => absurd z (by omega), fun z => absurd z (by omega), fun z => absurd z (by omega), fun z => absurd z (by omega)⟩
theorem LnV.o132 {U : MS} {op a b : Int32} {o n : Int} (h : LnV U op a b o n) (q : op.toInt = 132) : (-128 ≤ b.toInt ∧ b.toInt ≤ 127) ∧ n = 3 ∨ ¬ (-128 ≤ b.toInt ∧ b.toInt ≤ 127) ∧ n = 6 := h.2.2.2.1 q
theorem LnV.c170 {U : MS} {op a b : Int32} {o n : Int} (h : op.toInt = 170) (c : n = 16 - o % 4 + 4 * b.toInt) : LnV U op a b o n := ⟨fun z => absurd z (by omega), fun z => absurd z (by omega), fun z => absurd z (by omega), fun z => absurd z (by omega), fun _ => c, fun z => absurd z (by omega), fun z => absurd z (by omega), fun z => absurd z (by omega), fun z => absurd z (by omega), fun z => absurd z (by omega)⟩
theorem LnV.o170 {U : MS} {op a b : Int32} {o n : Int} (h : LnV U op a b o n) (q : op.toInt = 170) : n = 16 - o % 4 + 4 * b.toInt := h.2.2.2.2.1 q
theorem LnV.c171 {U : MS} {op a b : Int32} {o n : Int} (h : op.toInt = 171) (c : n = 12 - o % 4 + 8 * b.toInt) : LnV U op a b o n := ⟨fun z => absurd z (by omega), fun z => absurd z (by omega), fun z => absurd z (by omega), fun z => absurd z (by omega), fun z => absurd z (by omega), fun _ => c, fun z => absurd z (by omega), fun z => absurd z (by omega), fun z => absurd z (by omega), fun z => absurd z (by omega)⟩
theorem LnV.o171 {U : MS} {op a b : Int32} {o n : Int} (h : LnV U op a b o n) (q : op.toInt = 171) : n = 12 - o % 4 + 8 * b.toInt := h.2.2.2.2.2.1 q
theorem LnV.cM {U : MS} {op a b : Int32} {o n : Int} (h : (op.toInt = 178 ∨ op.toInt = 179 ∨ op.toInt = 184)) (c : n = 3) : LnV U op a b o n := ⟨fun z => absurd z (by omega), fun z => absurd z (by omega), fun z => absurd z (by omega), fun z => absurd z (by omega), fun z => absurd z (by omega), fun z => absurd z (by omega), fun _ => c, fun z => absurd z (by omega), fun z => absurd z (by omega), fun z => absurd z (by omega)⟩
theorem LnV.oM {U : MS} {op a b : Int32} {o n : Int} (h : LnV U op a b o n) (q : (op.toInt = 178 ∨ op.toInt = 179 ∨ op.toInt = 184)) : n = 3 := h.2.2.2.2.2.2.1 q
theorem LnV.c188 {U : MS} {op a b : Int32} {o n : Int} (h : op.toInt = 188) (c : n = 2) : LnV U op a b o n := ⟨fun z => absurd z (by omega), fun z => absurd z (by omega), fun z => absurd z (by omega), fun z => absurd z (by omega), fun z => absurd z (by omega), fun z => absurd z (by omega), fun z => absurd z (by omega), fun _ => c, fun z => absurd z (by omega), fun z => absurd z (by omega)⟩
theorem LnV.o188 {U : MS} {op a b : Int32} {o n : Int} (h : LnV U op a b o n) (q : op.toInt = 188) : n = 2 := h.2.2.2.2.2.2.2.1 q
theorem LnV.cJ {U : MS} {op a b : Int32} {o n : Int} (h : ((153 ≤ op.toInt ∧ op.toInt ≤ 167) ∨ op.toInt = 198 ∨ op.toInt = 199)) (c : n = 3) : LnV U op a b o n := ⟨fun z => absurd z (by omega), fun z => absurd z (by omega), fun z => absurd z (by omega), fun z => absurd z (by omega), fun z => absurd z (by omega), fun z => absurd z (by omega), fun z => absurd z (by omega), fun z => absurd z (by omega), fun _ => c, fun z => absurd z (by omega)⟩
theorem LnV.oJ {U : MS} {op a b : Int32} {o n : Int} (h : LnV U op a b o n) (q : ((153 ≤ op.toInt ∧ op.toInt ≤ 167) ∨ op.toInt = 198 ∨ op.toInt = 199)) : n = 3 := h.2.2.2.2.2.2.2.2.1 q
theorem LnV.cO {U : MS} {op a b : Int32} {o n : Int} (h : ¬ (op.toInt = 18 ∨ op.toInt = 20 ∨ (op.toInt = 21 ∨ op.toInt = 22 ∨ op.toInt = 25 ∨ op.toInt = 54 ∨ op.toInt = 55 ∨ op.toInt = 58) ∨ op.toInt = 132 ∨ op.toInt = 170 ∨ op.toInt = 171 ∨ (op.toInt = 178 ∨ op.toInt = 179 ∨ op.toInt = 184) ∨ op.toInt = 188 ∨ ((153 ≤ op.toInt ∧ op.toInt ≤ 167) ∨ op.toInt = 198 ∨ op.toInt = 199))) (c : n = 1) : LnV U op a b o n := ⟨fun z => absurd z (by omega), fun z => absurd z (by omega), fun z => absurd z (by omega), fun z => absurd z (by omega), fun z => absurd z (by omega), fun z => absurd z (by omega), fun z => absurd z (by omega), fun z => absurd z (by omega), fun z => absurd z (by omega), fun _ => c⟩
theorem LnV.oO {U : MS} {op a b : Int32} {o n : Int} (h : LnV U op a b o n) (q : ¬ (op.toInt = 18 ∨ op.toInt = 20 ∨ (op.toInt = 21 ∨ op.toInt = 22 ∨ op.toInt = 25 ∨ op.toInt = 54 ∨ op.toInt = 55 ∨ op.toInt = 58) ∨ op.toInt = 132 ∨ op.toInt = 170 ∨ op.toInt = 171 ∨ (op.toInt = 178 ∨ op.toInt = 179 ∨ op.toInt = 184) ∨ op.toInt = 188 ∨ ((153 ≤ op.toInt ∧ op.toInt ≤ 167) ∨ op.toInt = 198 ∨ op.toInt = 199))) : n = 1 := h.2.2.2.2.2.2.2.2.2 q
theorem LnV.my {U V : MS} {op a b : Int32} {o n : Int} (h : LnV U op a b o n) (y : BkY U V) (hB : BkI U) : LnV V op a b o n := by
  refine ⟨fun q => ?_, h.2⟩
  rcases h.1 q with z | z | z | ⟨z, r, z1, z2⟩
  · exact Or.inl z
  · exact Or.inr (Or.inl z)
  · exact Or.inr (Or.inr (Or.inl z))
  · exact Or.inr (Or.inr (Or.inr ⟨z, r, z1.my y hB (by decide), z2⟩))
theorem LnV.wt {U : MS} {op a b : Int32} {o n : Int} (h : LnV U op a b o n) (hb : op.toInt = 170 ∨ op.toInt = 171 → 0 ≤ b.toInt) (ho : 0 ≤ o) : 1 ≤ n ∧ n ≤ wtV op.toInt b.toInt := by
  by_cases c1 : op.toInt = 132
  · have := h.o132 c1
    unfold wtV
    rw [if_pos c1]
    omega
  · by_cases c2 : op.toInt = 170
    · have e := h.o170 c2
      have := hb (Or.inl c2)
      unfold wtV
      rw [if_neg c1, if_pos (Or.inl c2)]
      omega
    · by_cases c3 : op.toInt = 171
      · have e := h.o171 c3
        have := hb (Or.inr c3)
        unfold wtV
        rw [if_neg c1, if_pos (Or.inr c3)]
        omega
      · have e3 : wtV op.toInt b.toInt = 3 := by unfold wtV; rw [if_neg c1, if_neg (by omega)]
        rw [e3]
        by_cases c4 : op.toInt = 18
        · rcases h.o18 c4 with z | z | z | ⟨_, r, _, z⟩
          · omega
          · omega
          · omega
          · omega
        · by_cases c5 : op.toInt = 20
          · rcases h.o20 c5 with z | z
            · have := z.2; omega
            · have := z.2; omega
          · by_cases c6 : (op.toInt = 21 ∨ op.toInt = 22 ∨ op.toInt = 25 ∨ op.toInt = 54 ∨ op.toInt = 55 ∨ op.toInt = 58)
            · have := h.oL c6; omega
            · by_cases c7 : (op.toInt = 178 ∨ op.toInt = 179 ∨ op.toInt = 184)
              · have := h.oM c7; omega
              · by_cases c8 : op.toInt = 188
                · have := h.o188 c8; omega
                · by_cases c9 : ((153 ≤ op.toInt ∧ op.toInt ≤ 167) ∨ op.toInt = 198 ∨ op.toInt = 199)
                  · have := h.oJ c9; omega
                  · have := h.oO (fun z => by
                      rcases z with z | z | z | z | z | z | z | z | z
                      · exact c4 z
                      · exact c5 z
                      · exact c6 z
                      · exact c1 z
                      · exact c2 z
                      · exact c3 z
                      · exact c7 z
                      · exact c8 z
                      · exact c9 z)
                    omega
def LnP (U : MS) (x : Int32) (o n : Int) : Prop := LnV U (f_op U x) (f_first U x) (f_second U x) o n
section LNX
variable {NL : List Nat} {kp : Prop} {AL : List (MS → Prop)}
def ByP (NL : List Nat) (kp : Prop) (AL : List (MS → Prop)) (S : MS) (x : Int32) (o : Int) (r : Int32) (u : MS) : Prop := WrI NL kp AL u ∧ BkX S u ∧ LnP u x o r.toInt
theorem sp_by {p : Nat} {S : MS} {x o : Int32} (cf : CfI NL kp AL p S) (h : WrI NL kp AL S) (k : LkF kp AL p S) (hx : 0 ≤ x.toInt ∧ x.toInt < (qI S 0 52).toInt) (ho : 0 ≤ o.toInt ∧ o.toInt ≤ 100000) : w_bytesOf S x o (ByP NL kp AL S x o.toInt) (fun _ => ¬ kp) := by
  have p60 : 60 ≤ p := by have := cf.2.1.1; omega
  obtain ⟨dop, dfi, dse⟩ := k.1.dop hx
  obtain ⟨L, F, M, ts, rb, rt, rv, -, -⟩ := k.1.rv hx
  have l1 : (1 : Int32).toInt = 1 := by decide
  have l2 : (2 : Int32).toInt = 2 := by decide
  have l3 : (3 : Int32).toInt = 3 := by decide
  have l6 : (6 : Int32).toInt = 6 := by decide
  have own : ∀ r : Int32, LnV S (f_op S x) (f_first S x) (f_second S x) o.toInt r.toInt → ByP NL kp AL S x o.toInt r S := fun r hr => ⟨h, BkX.rf, hr⟩
  have lo : f_longOf S x = loV (f_first S x) (f_second S x) := rfl
  have sf := f_swF (S := S) ho.1 ho.2
  have js : ∀ a : Int32, (f_isJump S a).toInt = 0 → ¬ ((153 ≤ a.toInt ∧ a.toInt ≤ 167) ∨ a.toInt = 198 ∨ a.toInt = 199) := fun a q z => by
    unfold f_isJump f_isJump_J14 f_isJump_J28 at q
    rcases z with z | z | z
    · rw [if_neg (by omega), if_pos (by omega)] at q; exact absurd q (by decide)
    · rw [if_neg (by omega), if_neg (by omega), if_pos (by omega)] at q; exact absurd q (by decide)
    · rw [if_neg (by omega), if_neg (by omega), if_neg (by omega), if_pos (by omega)] at q; exact absurd q (by decide)
  have dj : ∀ a : Int32, d_isJump S a := fun a => by
    unfold d_isJump d_isJump_J14 d_isJump_J28
    simp only [ite_self]
  unfold w_bytesOf
  refine ⟨dop, fun op eo => ⟨dfi, fun a ea => ?_⟩⟩
  subst eo
  subst ea
  have loc : ((f_op S x).toInt = 21 ∨ (f_op S x).toInt = 22 ∨ (f_op S x).toInt = 25 ∨ (f_op S x).toInt = 54 ∨ (f_op S x).toInt = 55 ∨ (f_op S x).toInt = 58) → ((4 ≤ (f_first S x).toInt → ByP NL kp AL S x o.toInt 2 S) ∧ (¬ 4 ≤ (f_first S x).toInt → ByP NL kp AL S x o.toInt 1 S)) := fun q => ⟨fun z => own 2 (LnV.cL q (Or.inr ⟨z, l2⟩)), fun z => own 1 (LnV.cL q (Or.inl ⟨by omega, l1⟩))⟩
  have m3 : ((f_op S x).toInt = 178 ∨ (f_op S x).toInt = 179 ∨ (f_op S x).toInt = 184) → ByP NL kp AL S x o.toInt 3 S := fun q => own 3 (LnV.cM q l3)
  refine ⟨fun e => ?_, fun e1 => ⟨fun e => ?_, fun e2 => ⟨fun e => loc (by omega), fun e3 => ⟨fun e => loc (by omega), fun e4 => ⟨fun e => loc (by omega), fun e5 => ⟨fun e => loc (by omega), fun e6 => ⟨fun e => loc (by omega), fun e7 => ⟨fun e => loc (by omega), fun e8 => ⟨fun e => ⟨dse, by_rg2.2, fun z => own 6 (LnV.c132 e (Or.inr ⟨by_rg2.1.mp z, l6⟩)), fun z => own 3 (LnV.c132 e (Or.inl ⟨?_, l3⟩))⟩, fun e9 => ⟨fun e => ⟨trivial, dse, ?_⟩, fun e10 => ⟨fun e => ⟨trivial, dse, ?_⟩, fun e11 => ⟨fun e => m3 (by omega), fun e12 => ⟨fun e => m3 (by omega), fun e13 => ⟨fun e => m3 (by omega), fun e14 => ⟨fun e => own 2 (LnV.c188 e l2), fun e15 => ⟨dj _, fun z => ?_, fun z => own 3 (LnV.cJ (jp_op z) l3)⟩⟩⟩⟩⟩⟩⟩⟩⟩⟩⟩⟩⟩⟩⟩⟩
  · have j160 : ¬ (-1 ≤ (f_first S x).toInt ∧ (f_first S x).toInt ≤ 5) → w_bytesOf_J160 (ByP NL kp AL S x o.toInt) (fun _ => ¬ kp) S x (f_first S x) := fun ns => by
      unfold w_bytesOf_J160
      refine ⟨by_rg2.2, fun z1 => ⟨sh_rg.2, fun z2 => ?_, fun z2 => ?_⟩, fun z1 => ?_⟩
      · have nsh := sh_rg.1.mp z2
        refine ⟨_, _, sp_nO cf h k hx, ?_, fun u q => q⟩
        rintro r u ⟨u1, u2, u3, u4⟩
        have nk := u4 e nsh
        have s := smD.fm u2.1 (by decide) (by decide)
        have so := s.op k.1 x
        have mk : ∀ m : Int32, (r.toInt ≤ 255 ∧ m.toInt = 2 ∨ 255 < r.toInt ∧ m.toInt = 3) → ByP NL kp AL S x o.toInt m u := fun m hm => ⟨u1, u2, by
          unfold LnP
          rw [so.1, so.2.1, so.2.2]
          exact LnV.c18 e (Or.inr (Or.inr (Or.inr ⟨nsh, r, nk, hm⟩)))⟩
        exact ⟨fun z => mk 2 (Or.inl ⟨z, l2⟩), fun z => mk 3 (Or.inr ⟨by omega, l3⟩)⟩
      · have sh : -32768 ≤ (f_first S x).toInt ∧ (f_first S x).toInt ≤ 32767 := Classical.byContradiction (fun q => z2 (sh_rg.1.mpr q))
        exact own 3 (LnV.c18 e (Or.inr (Or.inr (Or.inl ⟨by_rg2.1.mp z1, sh, l3⟩))))
      · have bb : -128 ≤ (f_first S x).toInt ∧ (f_first S x).toInt ≤ 127 := Classical.byContradiction (fun q => z1 (by_rg2.1.mpr q))
        exact own 2 (LnV.c18 e (Or.inr (Or.inl ⟨ns, bb, l2⟩)))
    exact ⟨fun z => j160 (by omega), fun z => ⟨fun z2 => j160 (by omega), fun z2 => own 1 (LnV.c18 e (Or.inl ⟨by omega, l1⟩))⟩⟩
  · have dl : d_longOf S x := ⟨dfi, dse, trivial⟩
    rw [lo]
    exact ⟨dl, fun z => own 1 (LnV.c20 e (Or.inl ⟨Or.inl z, l1⟩)), fun z0 => ⟨dl, fun z => own 1 (LnV.c20 e (Or.inl ⟨Or.inr z, l1⟩)), fun z1 => own 3 (LnV.c20 e (Or.inr ⟨⟨z0, z1⟩, l3⟩))⟩⟩
  · exact Classical.byContradiction (fun q => z (by_rg2.1.mpr q))
  · have b := rv.2.2.1 (Or.inl e)
    have b12 : (12 : Int32).toInt = 12 := by decide
    have t1 : (f_switchFrom S o - o).toInt = 4 - o.toInt % 4 := by rw [t_sub (by omega), sf]; omega
    have t2 : (f_switchFrom S o - o + (12 : Int32)).toInt = 16 - o.toInt % 4 := by rw [t_add (by rw [t1, b12]; omega), t1, b12]; omega
    have t3 : ((4 : Int32) * f_second S x).toInt = 4 * (f_second S x).toInt := by rw [t_mul (by rw [li_4]; omega), li_4]
    exact own _ (LnV.c170 e (by rw [t_add (by rw [t2, t3]; omega), t2, t3]))
  · have b := rv.2.2.1 (Or.inr e)
    have b8 : (8 : Int32).toInt = 8 := by decide
    have t1 : (f_switchFrom S o - o).toInt = 4 - o.toInt % 4 := by rw [t_sub (by omega), sf]; omega
    have t2 : (f_switchFrom S o - o + (8 : Int32)).toInt = 12 - o.toInt % 4 := by rw [t_add (by rw [t1, b8]; omega), t1, b8]; omega
    have t3 : ((8 : Int32) * f_second S x).toInt = 8 * (f_second S x).toInt := by rw [t_mul (by rw [b8]; omega), b8]
    exact own _ (LnV.c171 e (by rw [t_add (by rw [t2, t3]; omega), t2, t3]))
  · have nj := js _ z
    exact own 1 (LnV.cO (fun q => by
      rcases q with q | q | q | q | q | q | q | q | q
      · exact e1 q
      · exact e2 q
      · omega
      · exact e9 q
      · exact e10 q
      · exact e11 q
      · omega
      · exact e15 q
      · exact nj q) l1)
end LNX
/-! how writing fails, with the bytes (behind sp_nO, sp_by, eK) -/
theorem eb_nO {kp : Prop} {S : MS} {x : Int32} {Q K : Int32 → MS → Prop} (h : w_needOf S x Q (fun _ => ¬ kp)) (b : ByO S) {S0 : MS} (f : frm WA JM S0 S) (k : ∀ (r : Int32) (u : MS), Q r u → K r u) : ∃ Q9 E9, w_needOf S x Q9 E9 ∧ (∀ (r : Int32) (u : MS), Q9 r u → K r u) ∧ ∀ u : MS, E9 u → eK kp S0 u := ⟨_, _, fr_needOf h, fun r u z => k r u z.1, fun u z => ⟨z.1, b.fm z.2 (by decide) (by decide), f.tr (z.2.mo (by decide) (by decide))⟩⟩
theorem eb_nm {kp : Prop} {S : MS} {p : Nat} {Q K : Int32 → MS → Prop} (h : w_nameNumber S p Q (fun _ => ¬ kp)) (b : ByO S) {S0 : MS} (f : frm WA JM S0 S) (k : ∀ (r : Int32) (u : MS), Q r u → K r u) : ∃ Q9 E9, w_nameNumber S p Q9 E9 ∧ (∀ (r : Int32) (u : MS), Q9 r u → K r u) ∧ ∀ u : MS, E9 u → eK kp S0 u := ⟨_, _, fr_nameNumber h, fun r u z => k r u z.1, fun u z => ⟨z.1, b.fm z.2 (by decide) (by decide), f.tr (z.2.mo (by decide) (by decide))⟩⟩
theorem eb_cls {kp : Prop} {S : MS} {p : Nat} {Q K : Int32 → MS → Prop} (h : w_classNumber S p Q (fun _ => ¬ kp)) (b : ByO S) {S0 : MS} (f : frm WA JM S0 S) (k : ∀ (r : Int32) (u : MS), Q r u → K r u) : ∃ Q9 E9, w_classNumber S p Q9 E9 ∧ (∀ (r : Int32) (u : MS), Q9 r u → K r u) ∧ ∀ u : MS, E9 u → eK kp S0 u := ⟨_, _, fr_classNumber h, fun r u z => k r u z.1, fun u z => ⟨z.1, b.fm z.2 (by decide) (by decide), f.tr (z.2.mo (by decide) (by decide))⟩⟩
theorem eb_by {kp : Prop} {S : MS} {x o : Int32} {Q K : Int32 → MS → Prop} (h : w_bytesOf S x o Q (fun _ => ¬ kp)) (b : ByO S) {S0 : MS} (f : frm WA JM S0 S) (k : ∀ (r : Int32) (u : MS), Q r u → K r u) : ∃ Q9 E9, w_bytesOf S x o Q9 E9 ∧ (∀ (r : Int32) (u : MS), Q9 r u → K r u) ∧ ∀ u : MS, E9 u → eK kp S0 u := ⟨_, _, fr_bytesOf h, fun r u z => k r u z.1, fun u z => ⟨z.1, b.fm z.2 (by decide) (by decide), f.tr (z.2.mo (by decide) (by decide))⟩⟩
theorem eb_co {kp : Prop} {S : MS} {p : Nat} {Q K : MS → Prop} (h : w_collect S p Q (fun _ => ¬ kp)) (b : ByO S) {S0 : MS} (f : frm WA JM S0 S) (k : ∀ u : MS, Q u → K u) : ∃ Q9 E9, w_collect S p Q9 E9 ∧ (∀ u : MS, Q9 u → K u) ∧ ∀ u : MS, E9 u → eK kp S0 u := ⟨_, _, fr_collect h, fun u z => k u z.1, fun u z => ⟨z.1, b.fm z.2 (by decide) (by decide), f.tr (z.2.mo (by decide) (by decide))⟩⟩
/-! a row is written (behind sp_by, sp_outN, jp_op, sw_op) -/
def Wx (NL : List Nat) (kp : Prop) (AL : List (MS → Prop)) (S : MS) (n : Int) (u : MS) : Prop := frm [28, 29, 30, 31, 32, 33, 34, 35] [7, 8, 73, 74, 77] S u ∧ (OuI u ∧ oS u = oS S + n ∧ wH u = wH S) ∧ (∀ j : Nat, (j : Int) < oS S → qI u (wH S) j = qI S (wH S) j) ∧ WrI NL kp AL u ∧ BkY S u
section WXX
variable {NL : List Nat} {kp : Prop} {AL : List (MS → Prop)}
theorem Wx.rf {S : MS} (h : WrI NL kp AL S) (o : OuI S) : Wx NL kp AL S 0 S := ⟨frm.rf, ⟨o, by omega, rfl⟩, fun _ _ => rfl, h, BkX.rf.y⟩
theorem Wx.tr {S u v : MS} {a b : Int} (h : Wx NL kp AL S a u) (k : Wx NL kp AL u b v) (ha : 0 ≤ a) : Wx NL kp AL S (a + b) v := by
  obtain ⟨h1, ⟨h2, h3, h4⟩, h5, h6, h7⟩ := h
  obtain ⟨k1, ⟨k2, k3, k4⟩, k5, k6, k7⟩ := k
  refine ⟨h1.tr k1, ⟨k2, by omega, k4.trans h4⟩, fun j hj => ?_, k6, h7.tr k7⟩
  have := k5 j (by omega)
  rw [h4] at this
  rw [this]
  exact h5 j hj
theorem Wx.o {S u : MS} {n : Int} (w : Wo S n u) (h : WrI NL kp AL S) (cf : CfS NL kp AL) : Wx NL kp AL S n u := ⟨w.1.mo (by decide) (by decide), ⟨w.2.1, w.2.2.1, w.2.2.2.1⟩, w.2.2.2.2, h.f9 cf w.1 (by decide) (by decide), (BkY.f9 w.1 (by decide) (by decide)).1⟩
theorem Wx.b {S u : MS} (x : BkX S u) (h : WrI NL kp AL u) (o : OuI S) : Wx NL kp AL S 0 u := by
  obtain ⟨a, b, c⟩ := o.fm x.1 (by decide) (by decide) (by decide) (by decide) (by decide)
  refine ⟨x.1.mo (by decide) (by decide), ⟨a, by omega, c⟩, fun j _ => ?_, h, x.y⟩
  have w := o.wh
  rw [(x.1.2.2.2.2.1 (wH S) (by omega) (by rcases w with q | q <;> rw [q] <;> decide)).1]
/-- n more bytes, whatever they are -/
theorem sp_ob {S : MS} {v : Int64} {n : Int32} {m : Int} {Q : MS → Prop} (cf : CfS NL kp AL) (h : WrI NL kp AL S) (o : OuI S) (e : n.toInt = m) (hn : 0 ≤ m ∧ m ≤ 8) (hr : oS S + m ≤ 131072) (hQ : ∀ u, Wx NL kp AL S m u → Q u) : ∃ Q1, w_out S v n Q1 ∧ ∀ u, Q1 u → Q u := ⟨_, sp_outN o e hn hr, fun u hu => hQ u (Wx.o hu h cf)⟩
theorem sp_oL {S : MS} {x1 x2 x3 : Int32} {n : Int} (cf : CfS NL kp AL) (h : WrI NL kp AL S) (o : OuI S) (hn : x2.toInt < 4 ∧ n = 1 ∨ 4 ≤ x2.toInt ∧ n = 2) (hr : oS S + n ≤ 131072) : w_outLocal S x1 x2 x3 (Wx NL kp AL S n) := by
  unfold w_outLocal
  refine ⟨fun z => ?_, fun z => ?_⟩
  · have e : n = 2 := by omega
    subst e
    exact sp_ob cf h o (by decide) (by decide) hr (fun u hu => hu)
  · have e : n = 1 := by omega
    subst e
    exact sp_ob cf h o (by decide) (by decide) hr (fun u hu => hu)
theorem Wx.lk {S u : MS} {n : Int} {p : Nat} (w : Wx NL kp AL S n u) (cf : CfI NL kp AL p S) (k : LkF kp AL p S) : CfI NL kp AL p u ∧ LkF kp AL p u ∧ (∀ x : Int32, f_op u x = f_op S x ∧ f_first u x = f_first S x ∧ f_second u x = f_second S x) ∧ qI u 36 = qI S 36 ∧ qI u 0 52 = qI S 0 52 := by
  have p60 : 60 ≤ p := by have := cf.2.1.1; omega
  have s := smD.fm w.1 (by decide) (by decide)
  exact ⟨cf.fm w.1 (by decide), k.fm p60 w.1 (by decide) (by decide), fun x => s.op k.1 x, (w.1.2.2.2.2.1 36 (by decide) (by decide)).1, (s.2 52 (by decide) (by decide)).1⟩
theorem sp_oP {p : Nat} {S : MS} {x : Int32} {n : Int} (cf : CfI NL kp AL p S) (h : WrI NL kp AL S) (k : LkF kp AL p S) (o : OuI S) (hx : 0 ≤ x.toInt ∧ x.toInt < (qI S 0 52).toInt) (e18 : (f_op S x).toInt = 18) (hn : pLn S (f_first S x) n) (hr : oS S + n ≤ 131072) : w_outPush S x (f_first S x) (Wx NL kp AL S n) (eK kp S) := by
  have cS := cf.1
  have j22 : ¬ (-1 ≤ (f_first S x).toInt ∧ (f_first S x).toInt ≤ 5) → w_outPush_J22 (Wx NL kp AL S n) (eK kp S) S x (f_first S x) := fun ns => by
    unfold w_outPush_J22
    refine ⟨by_rg2.2, fun z1 => ⟨sh_rg.2, fun z2 => ?_, fun z2 => ?_⟩, fun z1 => ?_⟩
    · have nsh := sh_rg.1.mp z2
      obtain ⟨r0, nk0, hn0⟩ : ∃ r : Int32, NuK S 3 0 0 (f_first S x).toInt64 10000032 r ∧ (r.toInt ≤ 255 ∧ n = 2 ∨ 255 < r.toInt ∧ n = 3) := by
        rcases hn with z | z | z | z
        · exact absurd z.1 ns
        · exact absurd z.2.1 (by_rg2.1.mp z1)
        · exact absurd z.2.1 nsh
        · exact z.2
      refine eb_nO (sp_nO cf h k hx) o.2.2.1 frm.rf ?_
      rintro r u ⟨u1, u2, u3, u4⟩
      have er : r = r0 := (u4 e18 nsh).uq (nk0.mv u2 h.1 (by decide))
      subst er
      have wu : Wx NL kp AL S 0 u := Wx.b u2 u1 o
      obtain ⟨cfu, ku, so, _, e52⟩ := wu.lk cf k
      have ou := wu.2.1.1
      have eo := wu.2.1.2.1
      refine ⟨fun z => ?_, fun z => ?_⟩
      · have e : n = 3 := by omega
        refine eb_nO (sp_nO cfu u1 ku (by rw [e52]; exact hx)) ou.2.2.1 (wu.1.mo (by decide) (by decide)) ?_
        rintro r2 v ⟨v1, v2, _⟩
        have wv : Wx NL kp AL u 0 v := Wx.b v2 v1 ou
        refine sp_ob cS v1 wv.2.1.1 (m := 3) (by decide) (by decide) (by have := wv.2.1.2.1; omega) (fun y hy => ?_)
        rw [e]
        exact (wu.tr wv (by decide)).tr hy (by decide)
      · have e : n = 2 := by omega
        refine eb_nO (sp_nO cfu u1 ku (by rw [e52]; exact hx)) ou.2.2.1 (wu.1.mo (by decide) (by decide)) ?_
        rintro r2 v ⟨v1, v2, _⟩
        have wv : Wx NL kp AL u 0 v := Wx.b v2 v1 ou
        refine sp_ob cS v1 wv.2.1.1 (m := 2) (by decide) (by decide) (by have := wv.2.1.2.1; omega) (fun y hy => ?_)
        rw [e]
        exact (wu.tr wv (by decide)).tr hy (by decide)
    · have nb := by_rg2.1.mp z1
      have e : n = 3 := by
        rcases hn with z | z | z | z
        · exact absurd z.1 ns
        · exact absurd z.2.1 nb
        · exact z.2.2
        · exact absurd (sh_rg.1.mpr z.1) z2
      subst e
      exact sp_ob cS h o (by decide) (by decide) hr (fun u hu => hu)
    · have e : n = 2 := by
        rcases hn with z | z | z | z
        · exact absurd z.1 ns
        · exact z.2.2
        · exact absurd (by_rg2.1.mpr z.1) z1
        · exact absurd (by_rg2.1.mpr (fun y => z.1 ⟨by omega, by omega⟩)) z1
      subst e
      exact sp_ob cS h o (by decide) (by decide) hr (fun u hu => hu)
  unfold w_outPush
  refine ⟨fun z => j22 (by omega), fun z => ⟨fun z2 => j22 (by omega), fun z2 => ?_⟩⟩
  have e : n = 1 := by
    rcases hn with y | y | y | y
    · exact y.2
    · exact absurd ⟨by omega, by omega⟩ y.1
    · exact absurd ⟨by omega, by omega⟩ y.1
    · exact absurd ⟨by omega, by omega⟩ y.1
  subst e
  exact sp_ob cS h o (by decide) (by decide) hr (fun u hu => hu)
theorem sp_oSw {p : Nat} {S : MS} {x o : Int32} {n : Int} (cf : CfI NL kp AL p S) (h : WrI NL kp AL S) (k : LkF kp AL p S) (ou : OuI S) (hx : 0 ≤ x.toInt ∧ x.toInt < (qI S 0 52).toInt) (ho : 0 ≤ o.toInt ∧ o.toInt ≤ 100000) (sw : (f_op S x).toInt = 170 ∨ (f_op S x).toInt = 171) (hn : LnV S (f_op S x) (f_first S x) (f_second S x) o.toInt n) (hr : oS S + n ≤ 131072) : w_outSwitch S x o (Wx NL kp AL S n) := by
  have cS := cf.1
  obtain ⟨dop, dfi, dse⟩ := k.1.dop hx
  obtain ⟨L, F, M, ts, rb, rt, rv, -, -⟩ := k.1.rv hx
  have b := rv.2.2.1 sw
  have sf := f_swF (S := S) ho.1 ho.2
  have cnt := k.1.cnt
  -- a state later: all that is read is the same
  have sm : ∀ (U : MS) (m : Int), Wx NL kp AL S m U → d_op U x ∧ d_first U x ∧ d_second U x ∧ f_op U x = f_op S x ∧ f_first U x = f_first S x ∧ f_second U x = f_second S x ∧ qR U 0 49 = some (qO U 0 49) ∧ qO U 0 49 = qO S 0 49 ∧ qN U (qO S 0 49) = ts ∧ qI U (qO S 0 49) = qI S (qO S 0 49) := fun U m w => by
    obtain ⟨cU, kU, so, _, e52⟩ := w.lk cf k
    have s := smD.fm w.1 (by decide) (by decide)
    have d := kU.1.dop (x := x) (by rw [e52]; exact hx)
    have z := s.1.1 _ k.1.1.1.2.2.1
    exact ⟨d.1, d.2.1, d.2.2, (so x).1, (so x).2.1, (so x).2.2, kU.1.1.2.2.2.1, s.qo (by decide) (by decide), by rw [z.2.2.2.2]; exact rt.1, z.1⟩
  have way : ∀ j : Nat, (j : Int) ≤ (f_second S x).toInt → 0 ≤ (qI S (qO S 0 49) ((f_first S x).toInt.toNat + 2 * j)).toInt ∧ (qI S (qO S 0 49) ((f_first S x).toInt.toNat + 2 * j)).toInt < 1297 := fun j hj => by
    have := b.2.2.2.2.1 j hj
    omega
  have l4 : (4 : Int32).toInt = 4 := li_4
  -- what is left: pairs
  have rest : ∀ (each : Int), ((f_op S x).toInt = 171 → each = 8) → ((f_op S x).toInt ≠ 171 → each = 4) → ∀ (c : Nat) (U : MS) (j : Int32), (0 ≤ j.toInt ∧ j.toInt ≤ (f_second S x).toInt) → Wx NL kp AL S (n - each * ((f_second S x).toInt - j.toInt)) U → ((f_second S x).toInt - j.toInt).toNat < c → w_outSwitch_L114 (Wx NL kp AL S n) c U x o (f_first S x) (f_second S x) j := by
    intro each h8 h4 c
    induction c with
    | zero => intro U j _ _ h9; exact absurd h9 (Nat.not_lt_zero _)
    | succ c ih =>
      intro U j j0 wU hc
      obtain ⟨d1, d2, d3, so, sa, sb, r49, o49, n49, i49⟩ := sm U _ wU
      unfold w_outSwitch_L114
      refine ⟨fun z => ?_, fun z => ?_⟩
      · rw [show (f_second S x).toInt - j.toInt = 0 by omega, Int.mul_zero, Int.sub_zero] at wU
        exact wU
      · have hU := wU.2.2.2.1
        have oU := wU.2.1.1
        have eU := wU.2.1.2.1
        have e2 : ((2 : Int32) * j).toInt = 2 * j.toInt := by rw [t_mul (by rw [li_2]; omega), li_2]
        have ei : (j + Int32.ofInt 1).toInt = j.toInt + 1 := by rw [t_add (by rw [lo_1]; omega), lo_1]
        have a2 : (f_first S x + (2 : Int32)).toInt = (f_first S x).toInt + 2 := by rw [t_add (by rw [li_2]; omega), li_2]
        have a1 : (f_first S x + (1 : Int32)).toInt = (f_first S x).toInt + 1 := by rw [t_add (by rw [li_1]; omega), li_1]
        have i2 : (f_first S x + (2 : Int32) + (2 : Int32) * j).toInt = (f_first S x).toInt + 2 + 2 * j.toInt := by rw [t_add (by omega), a2, e2]
        have i1 : (f_first S x + (1 : Int32) + (2 : Int32) * j).toInt = (f_first S x).toInt + 1 + 2 * j.toInt := by rw [t_add (by omega), a1, e2]
        have eb : 4 ≤ each ∧ each ≤ 8 := by
          by_cases q : (f_op S x).toInt = 171
          · have := h8 q; omega
          · have := h4 q; omega
        have room : oS U + each ≤ 131072 := by
          have e3 : each * ((f_second S x).toInt - j.toInt) = each * ((f_second S x).toInt - j.toInt - 1) + each := by
            rw [show (f_second S x).toInt - j.toInt = ((f_second S x).toInt - j.toInt - 1) + 1 by omega, Int.mul_add, Int.mul_one, show (f_second S x).toInt - j.toInt - 1 + 1 - 1 = (f_second S x).toInt - j.toInt - 1 by omega]
          have e4 : 0 ≤ each * ((f_second S x).toInt - j.toInt - 1) := Int.mul_nonneg (by omega) (by omega)
          omega
        have nxt : n - each * ((f_second S x).toInt - (j + Int32.ofInt 1).toInt) = n - each * ((f_second S x).toInt - j.toInt) + each := by
          have e3 : each * ((f_second S x).toInt - j.toInt) = each * ((f_second S x).toInt - (j.toInt + 1)) + each := by
            rw [show (f_second S x).toInt - j.toInt = ((f_second S x).toInt - (j.toInt + 1)) + 1 by omega, Int.mul_add, Int.mul_one]
          rw [ei]
          omega
        have nn : 0 ≤ n - each * ((f_second S x).toInt - j.toInt) := by have := h; have := oU.2.2.2.1; have := ou.2.2.2.1; have := wU.2.2.1; exact (by
            have q : oS S ≤ oS U := Classical.byContradiction (fun q => by
              have t1 := hn.wt (fun _ => b.2.1) ho.1
              by_cases q1 : (f_op S x).toInt = 171
              · have := hn.o171 q1
                have := h8 q1
                subst this
                omega
              · have := hn.o170 (by omega)
                have := h4 q1
                subst this
                omega)
            omega)
        have j151 : ∀ (V : MS) (d : Int), Wx NL kp AL U d V → 0 ≤ d → d + 4 = each → w_outSwitch_J151 (Wx NL kp AL S n) (w_outSwitch_L114 (Wx NL kp AL S n) c) V x o (f_first S x) (f_second S x) j := fun V d wV d0 hd => by
          have wSV := wU.tr wV nn
          obtain ⟨_, _, _, _, _, _, q49, p49, m49, t49⟩ := sm V _ wSV
          unfold w_outSwitch_J151
          rw [p49, i2, t49]
          have w := way (j.toInt.toNat + 1) (by omega)
          rw [show (f_first S x).toInt.toNat + 2 * (j.toInt.toNat + 1) = ((f_first S x).toInt + 2 + 2 * j.toInt).toNat by omega] at w
          refine ⟨by rw [← p49]; exact q49, ⟨by omega, by rw [m49]; omega⟩, w, ?_⟩
          refine sp_ob cS wV.2.2.2.1 wV.2.1.1 (m := 4) (by decide) (by decide) (by have := wV.2.1.2.1; omega) (fun Y hY a ea => ?_)
          subst ea
          refine ih Y _ (by omega) ?_ (by omega)
          rw [nxt, ← hd]
          have := wSV.tr hY (by omega)
          rw [show n - each * ((f_second S x).toInt - j.toInt) + d + 4 = n - each * ((f_second S x).toInt - j.toInt) + (d + 4) by omega] at this
          rw [hd] at this ⊢
          exact this
        refine ⟨d1, fun q => ?_, fun q => ?_⟩
        · rw [so] at q
          rw [o49, i1]
          refine ⟨by rw [← o49]; exact r49, ⟨by omega, by rw [n49]; omega⟩, ?_⟩
          have := h8 q
          exact sp_ob cS hU oU (m := 4) (by decide) (by decide) (by omega) (fun V hV => j151 V 4 hV (by decide) (by omega))
        · rw [so] at q
          have := h4 q
          exact j151 U 0 (Wx.rf hU oU) (by decide) (by omega)
  unfold w_outSwitch
  have t1 := hn.wt (fun _ => b.2.1) ho.1
  have pad : (f_switchFrom S o - o - (1 : Int32)).toInt = 3 - o.toInt % 4 := by
    have e : (f_switchFrom S o - o).toInt = 4 - o.toInt % 4 := by rw [t_sub (by omega), sf]; omega
    rw [t_sub (by rw [e, li_1]; omega), e, li_1]
    omega
  have nb : n = 16 - o.toInt % 4 + 4 * (f_second S x).toInt ∧ (f_op S x).toInt = 170 ∨ n = 12 - o.toInt % 4 + 8 * (f_second S x).toInt ∧ (f_op S x).toInt = 171 := by
    rcases sw with q | q
    · exact Or.inl ⟨hn.o170 q, q⟩
    · exact Or.inr ⟨hn.o171 q, q⟩
  refine ⟨dop, sp_ob cS h ou (m := 1) (by decide) (by decide) (by omega) (fun A wA => ⟨trivial, ?_⟩)⟩
  have oA := wA.2.1.2.1
  refine sp_ob cS wA.2.2.2.1 wA.2.1.1 (m := 3 - o.toInt % 4) pad (by omega) (by omega) (fun B wB => ?_)
  have wSB := wA.tr wB (by decide)
  obtain ⟨_, d2, d3, so, sa, sb, r49, o49, n49, i49⟩ := sm B _ wSB
  rw [sa, sb]
  refine ⟨d2, fun a ea => ⟨d3, fun m em => ?_⟩⟩
  subst ea
  subst em
  rw [o49, i49]
  have w0 := way 0 (by omega)
  rw [Nat.mul_zero, Nat.add_zero] at w0
  have oB := wSB.2.1.2.1
  refine ⟨by rw [← o49]; exact r49, ⟨b.1, by rw [n49]; omega⟩, w0, ?_⟩
  refine sp_ob cS wSB.2.2.2.1 wSB.2.1.1 (m := 4) (by decide) (by decide) (by omega) (fun C wC => ?_)
  have wSC := wSB.tr wC (by omega)
  have oC := wSC.2.1.2.1
  obtain ⟨d1, _, _, so', _, _, q49, p49, m49, t49⟩ := sm C _ wSC
  rw [so']
  have a1 : (f_first S x + (1 : Int32)).toInt = (f_first S x).toInt + 1 := by rw [t_add (by rw [li_1]; omega), li_1]
  refine ⟨d1, fun q => ?_, fun q => ?_⟩
  · have b1 := b.2.2.2.2.2 q
    rw [p49, a1]
    refine ⟨by rw [← p49]; exact q49, ⟨by omega, by rw [m49]; omega⟩, ?_⟩
    refine sp_ob cS wSC.2.2.2.1 wSC.2.1.1 (m := 4) (by decide) (by decide) (by omega) (fun D wD => ?_)
    have wSD := wSC.tr wD (by omega)
    have oD := wSD.2.1.2.1
    obtain ⟨_, _, _, _, _, _, q49', p49', m49', t49'⟩ := sm D _ wSD
    rw [p49']
    refine ⟨by rw [← p49']; exact q49', ⟨by omega, by rw [m49']; omega⟩, ?_⟩
    refine sp_ob cS wSD.2.2.2.1 wSD.2.1.1 (m := 4) (by decide) (by decide) (by omega) (fun E wE => ?_)
    have wSE := wSD.tr wE (by omega)
    unfold w_outSwitch_J111
    refine ⟨_, rest 4 (fun z => by omega) (fun _ => rfl) _ E 0 ⟨by decide, by show (0 : Int) ≤ _; omega⟩ ?_ (Nat.lt_succ_self _)⟩
    have e : n - 4 * ((f_second S x).toInt - (0 : Int32).toInt) = 0 + 1 + (3 - o.toInt % 4) + 4 + 4 + 4 := by
      show n - 4 * ((f_second S x).toInt - 0) = _
      omega
    rw [e]
    have : (0 : Int) + 1 + (3 - o.toInt % 4) + 4 + 4 + 4 = 1 + (3 - o.toInt % 4) + 4 + 4 + 4 := by omega
    rw [this]
    exact wSE
  · refine sp_ob cS wSC.2.2.2.1 wSC.2.1.1 (m := 4) (by decide) (by decide) (by omega) (fun E wE => ?_)
    have wSE := wSC.tr wE (by omega)
    unfold w_outSwitch_J111
    refine ⟨_, rest 8 (fun _ => rfl) (fun z => by omega) _ E 0 ⟨by decide, by show (0 : Int) ≤ _; omega⟩ ?_ (Nat.lt_succ_self _)⟩
    have e : n - 8 * ((f_second S x).toInt - (0 : Int32).toInt) = 1 + (3 - o.toInt % 4) + 4 + 4 := by
      show n - 8 * ((f_second S x).toInt - 0) = _
      omega
    rw [e]
    exact wSE
end WXX
/-! outRow, leastStack, leastLocals (behind sp_oP, sp_oSw, sp_oL, fn_ht, fn_hb_d) -/
section ORX
variable {NL : List Nat} {kp : Prop} {AL : List (MS → Prop)}
theorem sp_oR {p : Nat} {S : MS} {x : Int32} {n : Int} (cf : CfI NL kp AL p S) (h : WrI NL kp AL S) (k : LkF kp AL p S) (ou : OuI S) (hx : 0 ≤ x.toInt ∧ x.toInt < (qI S 0 52).toInt) (ho : 0 ≤ (qI S 36 x.toInt.toNat).toInt ∧ (qI S 36 x.toInt.toNat).toInt ≤ 100000) (hn : LnP S x (qI S 36 x.toInt.toNat).toInt n) (hr : oS S + n ≤ 131072) : w_outRow S x (Wx NL kp AL S n) (eK kp S) := by
  have cS := cf.1
  have cnt := k.1.cnt
  obtain ⟨dop, dfi, dse⟩ := k.1.dop hx
  obtain ⟨L, F, M, ts, rb, rt, rv, -, -⟩ := k.1.rv hx
  unfold LnP at hn
  have lo : f_longOf S x = loV (f_first S x) (f_second S x) := rfl
  have dl : d_longOf S x := ⟨dfi, dse, trivial⟩
  have dj : ∀ a : Int32, d_isJump S a ∧ d_isSwitch S a := fun a => by
    unfold d_isJump d_isJump_J14 d_isJump_J28 d_isSwitch d_isSwitch_J14
    simp only [ite_self]
    exact ⟨trivial, trivial⟩
  have js : ∀ a : Int32, (f_isJump S a).toInt = 0 → ¬ ((153 ≤ a.toInt ∧ a.toInt ≤ 167) ∨ a.toInt = 198 ∨ a.toInt = 199) := fun a q z => by
    unfold f_isJump f_isJump_J14 f_isJump_J28 at q
    rcases z with z | z | z
    · rw [if_neg (by omega), if_pos (by omega)] at q; exact absurd q (by decide)
    · rw [if_neg (by omega), if_neg (by omega), if_pos (by omega)] at q; exact absurd q (by decide)
    · rw [if_neg (by omega), if_neg (by omega), if_neg (by omega), if_pos (by omega)] at q; exact absurd q (by decide)
  have ss : ∀ a : Int32, (f_isSwitch S a).toInt = 0 → a.toInt ≠ 170 ∧ a.toInt ≠ 171 := fun a q => by
    unfold f_isSwitch f_isSwitch_J14 at q
    refine ⟨fun z => ?_, fun z => ?_⟩
    · rw [if_pos z] at q; exact absurd q (by decide)
    · by_cases y : a.toInt = 170
      · omega
      · rw [if_neg y, if_pos z] at q; exact absurd q (by decide)
  have nO : ∀ (g : Int32 → Int64), n = 3 → ∃ Q1 E1, w_needOf S x Q1 E1 ∧ (∀ r U, Q1 r U → ∃ Q2, w_out U (g r) (3 : Int32) Q2 ∧ ∀ V, Q2 V → Wx NL kp AL S n V) ∧ ∀ u, E1 u → eK kp S u := fun g e => by
    refine eb_nO (sp_nO cf h k hx) ou.2.2.1 frm.rf ?_
    rintro r u ⟨u1, u2, _⟩
    have wu : Wx NL kp AL S 0 u := Wx.b u2 u1 ou
    refine sp_ob cS u1 wu.2.1.1 (m := 3) (by decide) (by decide) (by have := wu.2.1.2.1; omega) (fun y hy => ?_)
    rw [e]
    exact wu.tr hy (by decide)
  unfold w_outRow
  refine ⟨dop, fun op eo => ⟨dfi, fun a ea => ⟨⟨hx.1, by omega⟩, fun o eo2 => ?_⟩⟩⟩
  subst eo
  subst ea
  rw [← eo2] at ho hn
  clear eo2
  have loc : ∀ t : Int32, ((f_op S x).toInt = 21 ∨ (f_op S x).toInt = 22 ∨ (f_op S x).toInt = 25 ∨ (f_op S x).toInt = 54 ∨ (f_op S x).toInt = 55 ∨ (f_op S x).toInt = 58) → ∃ Q1, w_outLocal S (f_op S x) (f_first S x) t Q1 ∧ ∀ u, Q1 u → Wx NL kp AL S n u := fun t q => ⟨_, sp_oL cS h ou (hn.oL q) hr, fun u hu => hu⟩
  have j243 : ¬ (f_op S x).toInt = 18 → ¬ (f_op S x).toInt = 20 → ¬ ((f_op S x).toInt = 21 ∨ (f_op S x).toInt = 22 ∨ (f_op S x).toInt = 25 ∨ (f_op S x).toInt = 54 ∨ (f_op S x).toInt = 55 ∨ (f_op S x).toInt = 58) → ((f_op S x).toInt = 132 → ¬ (-128 ≤ (f_second S x).toInt ∧ (f_second S x).toInt ≤ 127)) → w_outRow_J243 (Wx NL kp AL S n) (eK kp S) S x (f_op S x) (f_first S x) o := fun n18 n20 nl n132 => by
    unfold w_outRow_J243
    refine ⟨fun e => ?_, fun e9 => ⟨(dj _).2, fun s0 => ⟨(dj _).1, fun z0 => ?_, fun z0 => ?_⟩, fun s0 => ?_⟩⟩
    · have e6 : n = 6 := by
        rcases hn.o132 e with z | z
        · exact absurd z.1 (n132 e)
        · exact z.2
      subst e6
      refine sp_ob cS h ou (m := 2) (by decide) (by decide) (by omega) (fun A wA => ?_)
      refine sp_ob cS wA.2.2.2.1 wA.2.1.1 (m := 2) (by decide) (by decide) (by have := wA.2.1.2.1; omega) (fun B wB => ?_)
      have wSB := wA.tr wB (by decide)
      obtain ⟨_, kB, _, _, e52⟩ := wSB.lk cf k
      refine ⟨(kB.1.dop (x := x) (by rw [e52]; exact hx)).2.2, ?_⟩
      refine sp_ob cS wSB.2.2.2.1 wSB.2.1.1 (m := 2) (by decide) (by decide) (by have := wSB.2.1.2.1; omega) (fun C wC => ?_)
      exact wSB.tr wC (by decide)
    · have nj := js _ z0
      obtain ⟨s1, s2⟩ := ss _ s0
      refine ⟨fun e => ?_, fun e1 => ⟨fun e => ?_, fun e2 => ⟨fun e => ?_, fun e3 => ⟨fun e => ?_, fun e4 => ?_⟩⟩⟩⟩
      · unfold w_outRow_J349
        exact nO (fun r => (((f_op S x) <<< ((16 : Int32) &&& 31)) ||| r).toInt64) (hn.oM (by omega))
      · unfold w_outRow_J349
        exact nO (fun r => (((f_op S x) <<< ((16 : Int32) &&& 31)) ||| r).toInt64) (hn.oM (by omega))
      · unfold w_outRow_J349
        exact nO (fun r => (((f_op S x) <<< ((16 : Int32) &&& 31)) ||| r).toInt64) (hn.oM (by omega))
      · have e2' := hn.o188 e
        subst e2'
        exact sp_ob cS h ou (m := 2) (by decide) (by decide) hr (fun u hu => hu)
      · have e1' := hn.oO (fun q => by
          rcases q with q | q | q | q | q | q | q | q | q
          · exact n18 q
          · exact n20 q
          · exact nl q
          · exact e9 q
          · exact s1 q
          · exact s2 q
          · omega
          · exact e4 q
          · exact nj q)
        subst e1'
        exact sp_ob cS h ou (m := 1) (by decide) (by decide) hr (fun u hu => hu)
    · have j := jp_op z0
      have e3 := hn.oJ j
      subst e3
      have aim := rv.2.1 j
      refine sp_ob cS h ou (m := 1) (by decide) (by decide) (by omega) (fun A wA => ⟨⟨aim.1, by omega⟩, ?_⟩)
      refine sp_ob cS wA.2.2.2.1 wA.2.1.1 (m := 2) (by decide) (by decide) (by have := wA.2.1.2.1; omega) (fun B wB => ?_)
      exact wA.tr wB (by decide)
    · exact ⟨_, sp_oSw cf h k ou hx ho (sw_op s0) hn hr, fun u hu => hu⟩
  refine ⟨fun e => ⟨_, _, sp_oP cf h k ou hx e (hn.o18 e) hr, fun u hu => hu, fun u q => q⟩, fun e1 => ⟨fun e => ?_, fun e2 => ⟨fun e => ?_, fun e3 => ⟨fun e => ?_, fun e4 => ⟨fun e => ?_, fun e5 => ⟨fun e => ?_, fun e6 => ⟨fun e => ?_, fun e7 => ⟨fun e => ?_, fun e8 => ⟨fun e => ⟨dse, by_rg2.2, fun z => j243 e1 e2 (by omega) (fun _ => by_rg2.1.mp z), fun z => ⟨dse, ?_⟩⟩, fun e9 => j243 e1 e2 (by omega) (fun q => absurd q e9)⟩⟩⟩⟩⟩⟩⟩⟩⟩
  · have j61 : ((lg_cmp (loV (f_first S x) (f_second S x)) 0).toInt = 0 ∨ (lg_cmp (loV (f_first S x) (f_second S x)) 1).toInt = 0) → w_outRow_J61 (Wx NL kp AL S n) (eK kp S) S x := fun q => by
      have e1' : n = 1 := by
        rcases hn.o20 e with z | z
        · exact z.2
        · rcases q with q | q
          · exact absurd q z.1.1
          · exact absurd q z.1.2
      subst e1'
      unfold w_outRow_J61
      exact ⟨dl, sp_ob cS h ou (m := 1) (by decide) (by decide) hr (fun u hu => hu)⟩
    rw [lo]
    refine ⟨dl, fun z => j61 (Or.inl z), fun z0 => ⟨dl, fun z => j61 (Or.inr z), fun z1 => ?_⟩⟩
    refine nO (fun r => ((1310720 : Int32) ||| r).toInt64) ?_
    rcases hn.o20 e with z | z
    · rcases z.1 with y | y
      · exact absurd y z0
      · exact absurd y z1
    · exact z.2
  · unfold w_outRow_J114 w_outRow_J141
    exact ⟨fun _ => loc _ (by omega), fun _ => ⟨fun _ => loc _ (by omega), fun _ => loc _ (by omega)⟩⟩
  · unfold w_outRow_J114 w_outRow_J141
    exact ⟨fun _ => loc _ (by omega), fun _ => ⟨fun _ => loc _ (by omega), fun _ => loc _ (by omega)⟩⟩
  · unfold w_outRow_J114 w_outRow_J141
    exact ⟨fun _ => loc _ (by omega), fun _ => ⟨fun _ => loc _ (by omega), fun _ => loc _ (by omega)⟩⟩
  · unfold w_outRow_J165 w_outRow_J192
    exact ⟨fun _ => loc _ (by omega), fun _ => ⟨fun _ => loc _ (by omega), fun _ => loc _ (by omega)⟩⟩
  · unfold w_outRow_J165 w_outRow_J192
    exact ⟨fun _ => loc _ (by omega), fun _ => ⟨fun _ => loc _ (by omega), fun _ => loc _ (by omega)⟩⟩
  · unfold w_outRow_J165 w_outRow_J192
    exact ⟨fun _ => loc _ (by omega), fun _ => ⟨fun _ => loc _ (by omega), fun _ => loc _ (by omega)⟩⟩
  · have e3' : n = 3 := by
      rcases hn.o132 e with y | y
      · exact y.2
      · exact absurd (by_rg2.1.mpr y.1) z
    subst e3'
    exact sp_ob cS h ou (m := 3) (by decide) (by decide) hr (fun u hu => hu)
end ORX
theorem lowF_le {v : Int32} : ∀ m k : Nat, lowF v m k ≤ k + m := by
  intro m
  induction m with
  | zero => intro k; exact Nat.le_refl _
  | succ m ih =>
    intro k
    have := ih (k + 1)
    unfold lowF
    split <;> omega
theorem ht_rg {v : Int32} : htV v ≤ 32 := by
  have := lowF_le (v := v) 32 0
  unfold htV
  split
  · omega
  · split <;> omega
theorem sp_lS {S : MS} (k : LkD S) (t : TxI S) : w_leastStack S (fun _ u => frm [22] [56, 57] S u) := by
  have cn := k.cnt
  unfold w_leastStack
  refine ⟨_, sp_findHeights_d k t (by decide), ?_⟩
  rintro A ⟨fA, _⟩
  have s := smD.fm fA (by decide) (by decide)
  have kA := k.mv s
  have tA : TxI A := s.tx t
  have e52 : qI A 0 52 = qI S 0 52 := (s.2 52 (by decide) (by decide)).1
  have L : ∀ (c : Nat) (m i : Int32), 0 ≤ i.toInt → (1296 - i.toInt).toNat < c → w_leastStack_L10 (fun _ u => frm [22] [56, 57] S u) c A m i := by
    intro c
    induction c with
    | zero => intro m i _ h9; exact absurd h9 (Nat.not_lt_zero _)
    | succ c ih =>
      intro m i i0 hc
      unfold w_leastStack_L10
      refine ⟨fun _ => fA, fun c1 => ?_⟩
      have ir : 0 ≤ i.toInt ∧ i.toInt < (qI A 0 52).toInt := ⟨i0, by omega⟩
      have ei : (i + Int32.ofInt 1).toInt = i.toInt + 1 := by rw [t_add (by rw [lo_1]; rw [e52] at c1; omega), lo_1]
      have nx : ∀ m' : Int32, w_leastStack_J43 (fun _ u => frm [22] [56, 57] S u) (w_leastStack_L10 (fun _ u => frm [22] [56, 57] S u) c) A m' i := fun m' => by
        unfold w_leastStack_J43
        intro a ea
        subst ea
        exact ih m' _ (by omega) (by rw [e52] at c1; omega)
      refine ⟨_, fn_ht ⟨i0, by rw [e52] at c1; omega⟩, ?_⟩
      rintro r u ⟨rfl, er⟩
      refine ⟨fun _ => nx m, fun c2 => ?_⟩
      have hr : r.toInt ≤ 32 := by rw [er]; exact ht_rg
      refine ⟨_, fn_hb_d kA ir tA ⟨by omega, by omega⟩, ?_⟩
      rintro r2 u2 ⟨rfl, _⟩ a ea
      exact nx a
  exact ⟨_, L _ 0 0 (by decide) (Nat.lt_succ_self _)⟩
theorem sp_lL {S : MS} {s : Nat} (k : LkD S) (hs : lOD S s 8) : w_leastLocals S s (fun _ u => u = S) := by
  have cn := k.cnt
  unfold w_leastLocals
  refine ⟨_, fn_places (by have := hs.1.2; omega) (fun i hi => by have := hs.2.1 i hi; omega), ?_⟩
  rintro r u ⟨rfl, _⟩
  have L : ∀ (c : Nat) (m i : Int32), 0 ≤ i.toInt → (1296 - i.toInt).toNat < c → w_leastLocals_L7 (fun _ u' => u' = u) c u m i := by
    intro c
    induction c with
    | zero => intro m i _ h9; exact absurd h9 (Nat.not_lt_zero _)
    | succ c ih =>
      intro m i i0 hc
      unfold w_leastLocals_L7
      refine ⟨fun _ => rfl, fun c1 => ?_⟩
      have d := k.dop (x := i) ⟨i0, by omega⟩
      have ei : (i + Int32.ofInt 1).toInt = i.toInt + 1 := by rw [t_add (by rw [lo_1]; omega), lo_1]
      have j96 : ∀ m' : Int32, w_leastLocals_J96 (fun _ u' => u' = u) (w_leastLocals_L7 (fun _ u' => u' = u) c) u m' i := fun m' => by
        unfold w_leastLocals_J96
        intro a ea
        subst ea
        exact ih m' _ (by omega) (by omega)
      have j84 : ∀ m' : Int32, w_leastLocals_J84 (fun _ u' => u' = u) (w_leastLocals_L7 (fun _ u' => u' = u) c) u m' i := fun m' => by
        unfold w_leastLocals_J84
        exact ⟨d.2.1, fun a _ => j96 a⟩
      have j48 : ∀ m' o : Int32, w_leastLocals_J48 (fun _ u' => u' = u) (w_leastLocals_L7 (fun _ u' => u' = u) c) u m' i o := fun m' o => by
        unfold w_leastLocals_J48
        exact ⟨fun _ => j84 m', fun _ => ⟨fun _ => j84 m', fun _ => ⟨fun _ => j84 m', fun _ => ⟨fun _ => j84 m', fun _ => ⟨fun _ => j84 m', fun _ => j96 m'⟩⟩⟩⟩⟩
      have j36 : ∀ o : Int32, w_leastLocals_J36 (fun _ u' => u' = u) (w_leastLocals_L7 (fun _ u' => u' = u) c) u m i o := fun o => by
        unfold w_leastLocals_J36
        exact ⟨d.2.1, fun a _ => j48 a o⟩
      exact ⟨d.1, fun o _ => ⟨fun _ => j36 o, fun _ => ⟨fun _ => j36 o, fun _ => j48 m o⟩⟩⟩
  exact ⟨_, L _ r 0 (by decide) (Nat.lt_succ_self _)⟩
/-! a method is written (behind sp_oR, sp_lS, sp_lL, sp_lookD) -/
def Wg (NL : List Nat) (kp : Prop) (AL : List (MS → Prop)) (W J : List Nat) (S : MS) (n : Int) (u : MS) : Prop := frm W J S u ∧ (OuI u ∧ oS u = oS S + n ∧ wH u = wH S) ∧ (∀ j : Nat, (j : Int) < oS S → qI u (wH S) j = qI S (wH S) j) ∧ WrI NL kp AL u ∧ BkY S u
section OMX
variable {NL : List Nat} {kp : Prop} {AL : List (MS → Prop)} {W J : List Nat}
theorem Wg.rf {S : MS} (h : WrI NL kp AL S) (o : OuI S) : Wg NL kp AL W J S 0 S := ⟨frm.rf, ⟨o, by omega, rfl⟩, fun _ _ => rfl, h, BkX.rf.y⟩
theorem Wg.tr {S u v : MS} {a b : Int} (h : Wg NL kp AL W J S a u) (k : Wg NL kp AL W J u b v) (ha : 0 ≤ a) : Wg NL kp AL W J S (a + b) v := by
  obtain ⟨h1, ⟨h2, h3, h4⟩, h5, h6, h7⟩ := h
  obtain ⟨k1, ⟨k2, k3, k4⟩, k5, k6, k7⟩ := k
  refine ⟨h1.tr k1, ⟨k2, by omega, k4.trans h4⟩, fun j hj => ?_, k6, h7.tr k7⟩
  have := k5 j (by omega)
  rw [h4] at this
  rw [this]
  exact h5 j hj
theorem Wx.g {S u : MS} {n : Int} (h : Wx NL kp AL S n u) (hW : [28, 29, 30, 31, 32, 33, 34, 35].all (fun x => W.contains x) = true) (hJ : [7, 8, 73, 74, 77].all (fun x => J.contains x) = true) : Wg NL kp AL W J S n u := ⟨h.1.mo hW hJ, h.2⟩
theorem Wg.mo {W' J' : List Nat} {S u : MS} {n : Int} (h : Wg NL kp AL W J S n u) (hW : W.all (fun x => W'.contains x) = true) (hJ : J.all (fun x => J'.contains x) = true) : Wg NL kp AL W' J' S n u := ⟨h.1.mo hW hJ, h.2⟩
/-- a step that writes no byte and leaves the book -/
theorem Wg.k {W0 J0 : List Nat} {S u : MS} (k : frm W0 J0 S u) (h : WrI NL kp AL S) (o : OuI S) (cf : CfS NL kp AL) (hw : ∀ w ∈ W0, w ≤ 92 ∧ (w < 28 ∨ 35 < w)) (hj : ∀ j ∈ J0, j ≠ 73 ∧ j ≠ 74 ∧ j ≠ 75 ∧ j ≠ 76 ∧ j ≠ 77) (hW : W0.all (fun x => W.contains x) = true) (hJ : J0.all (fun x => J.contains x) = true) : Wg NL kp AL W J S 0 u := by
  obtain ⟨a, b, c⟩ := o.fm k (fun q => by have := hw 34 q; omega) (fun q => by have := hw 35 q; omega) (fun q => (hj 75 q).2.2.1 rfl) (fun q => (hj 76 q).2.2.2.1 rfl) (fun q => (hj 77 q).2.2.2.2 rfl)
  refine ⟨k.mo hW hJ, ⟨a, by omega, c⟩, fun j _ => ?_, h.f9 cf k (fun w q => by have := hw w q; omega) (fun j q => ⟨(hj j q).1, (hj j q).2.1⟩), (BkY.f9 k (fun w q => by have := hw w q; omega) (fun j q => (hj j q).1)).1⟩
  have w := o.wh
  rw [(k.2.2.2.2.1 (wH S) (by omega) (fun q => by have := hw _ q; omega)).1]
/-- bytes that stand stay -/
theorem Wg.by {S u : MS} {n : Int} (h : Wg NL kp AL W J S n u) (o : OuI S) : (∀ j : Nat, (j : Int) + 1 < oS S → tw (qI u (wH S)) j = tw (qI S (wH S)) j) ∧ (∀ j : Nat, (j : Int) + 3 < oS S → fo (qI u (wH S)) j = fo (qI S (wH S)) j) ∧ ∀ j : Nat, (j : Int) < oS S → oc (qI u (wH S)) j = oc (qI S (wH S)) j := by
  have z := h.2.2.1
  refine ⟨fun j hj => ?_, fun j hj => ?_, fun j hj => ?_⟩
  · unfold tw oc; rw [z j (by omega), z (j + 1) (by omega)]
  · unfold fo tw oc; rw [z j (by omega), z (j + 1) (by omega), z (j + 2) (by omega), z (j + 2 + 1) (by omega)]
  · unfold oc; rw [z j hj]
/-- n bytes, in a longer run -/
theorem sp_og {A S : MS} {v : Int64} {n : Int32} {m a : Int} {Q : MS → Prop} (cf : CfS NL kp AL) (h : Wg NL kp AL W J A a S) (ha : 0 ≤ a) (hW : [28, 29, 30, 31, 32, 33, 34, 35].all (fun x => W.contains x) = true) (hJ : [7, 8, 73, 74, 77].all (fun x => J.contains x) = true) (e : n.toInt = m) (hn : 0 ≤ m ∧ m ≤ 8) (hr : oS A + a + m ≤ 131072) (hQ : ∀ u, Wg NL kp AL W J A (a + m) u → Q u) : ∃ Q1, w_out S v n Q1 ∧ ∀ u, Q1 u → Q u := by
  have eo := h.2.1.2.1
  exact sp_ob cf h.2.2.2.1 h.2.1.1 e hn (by omega) (fun u hu => hQ u (h.tr (hu.g hW hJ) ha))
end OMX
def JA : List Nat := [7, 8, 56, 57, 73, 74, 77]
section OMY
variable {NL : List Nat} {kp : Prop} {AL : List (MS → Prop)}
theorem Wg.lk {A U : MS} {n : Int} {p : Nat} (w : Wg NL kp AL WA JA A n U) (cf : CfI NL kp AL p A) (k : LkF kp AL p A) : CfI NL kp AL p U ∧ LkF kp AL p U ∧ (∀ x : Int32, f_op U x = f_op A x ∧ f_first U x = f_first A x ∧ f_second U x = f_second A x) ∧ qI U 0 52 = qI A 0 52 ∧ qI U 0 54 = qI A 0 54 ∧ ∀ c x : Int32, f_catchWord U c x = f_catchWord A c x := by
  have p60 : 60 ≤ p := by have := cf.2.1.1; omega
  have s := smD.fm w.1 (by decide) (by decide)
  exact ⟨cf.fm w.1 (by decide), k.fm p60 w.1 (by decide) (by decide), fun x => s.op k.1 x, (s.2 52 (by decide) (by decide)).1, (s.2 54 (by decide) (by decide)).1, fun c x => s.cw k.1 c x⟩
theorem sp_om_L201 {p : Nat} {A S0 : MS} {Q : MS → Prop} {n0 : Int} (f0 : frm WA JM S0 A) (cf : CfI NL kp AL p A) (k : LkF kp AL p A) (h0 : 0 ≤ n0) (hr : oS A + n0 + 8 * (qI A 0 54).toInt + 2 ≤ 131072) (hQ : ∀ u : MS, Wg NL kp AL WA JA A (n0 + 8 * (qI A 0 54).toInt + 2) u → Q u) : ∀ (c : Nat) (U : MS) (i : Int32), (0 ≤ i.toInt ∧ i.toInt ≤ (qI A 0 54).toInt) → Wg NL kp AL WA JA A (n0 + 8 * i.toInt) U → (16 - i.toInt).toNat < c → w_outMethod_L201 Q (eK kp S0) c U i := by
  have cn := k.1.cnt
  have cS := cf.1
  intro c
  induction c with
  | zero => intro U i _ _ h9; exact absurd h9 (Nat.not_lt_zero _)
  | succ c ih =>
    intro U i i0 wU hc
    obtain ⟨cfU, kU, so, e52, e54, ecw⟩ := wU.lk cf k
    unfold w_outMethod_L201
    rw [e54]
    refine ⟨fun c1 => ?_, fun c1 => ?_⟩
    · refine sp_og cS wU (by omega) (by decide) (by decide) (m := 2) (by decide) (by decide) (by omega) (fun u hu => hQ u ?_)
      rw [show n0 + 8 * (qI A 0 54).toInt + 2 = n0 + 8 * i.toInt + 2 by omega]
      exact hu
    · have ir : 0 ≤ i.toInt ∧ i.toInt < (qI A 0 54).toInt := ⟨i0.1, by omega⟩
      have ei : (i + Int32.ofInt 1).toInt = i.toInt + 1 := by rw [t_add (by rw [lo_1]; omega), lo_1]
      have cw := k.1.cw ir
      have L213 : ∀ (d : Nat) (V : MS) (y : Int32), (0 ≤ y.toInt ∧ y.toInt ≤ 3) → Wg NL kp AL WA JA A (n0 + 8 * i.toInt + 2 * y.toInt) V → (3 - y.toInt).toNat < d → w_outMethod_L213 Q (eK kp S0) (w_outMethod_L201 Q (eK kp S0) c) d V i y := by
        intro d
        induction d with
        | zero => intro V y _ _ h9; exact absurd h9 (Nat.not_lt_zero _)
        | succ d ihd =>
          intro V y y0 wV hd
          obtain ⟨cfV, kV, soV, f52, f54, fcw⟩ := wV.lk cf k
          have irV : 0 ≤ i.toInt ∧ i.toInt < (qI V 0 54).toInt := by rw [f54]; exact ir
          unfold w_outMethod_L213
          refine ⟨fun c2 => ⟨kV.1.dcw irV (by decide), fun c3 => ⟨kV.1.dcw irV (by decide), trivial, ?_⟩, fun c3 => ?_⟩, fun c2 => ?_⟩
          · rw [fcw] at c3 ⊢
            rw [er_nm (by omega)]
            obtain ⟨_, _, _, o, ab, _, _, _, _, er, _⟩ := cfV
            obtain ⟨e1, e2⟩ := er (f_catchWord A i 3).toInt.toNat (by omega)
            refine eb_cls (sp_cls cS wV.2.2.2.1 e1.1 e1.2.1 e1.2.2 e2) wV.2.1.1.2.2.1 (f0.tr (wV.1.mo (by decide) (by decide))) ?_
            rintro r X ⟨hX, xX, _⟩
            have wX := wV.tr ((Wx.b xX hX wV.2.1.1).g (by decide) (by decide)) (by omega)
            unfold w_outMethod_J274
            refine sp_og cS wX (by omega) (by decide) (by decide) (m := 2) (by decide) (by decide) (by omega) (fun u hu a ea => ?_)
            subst ea
            refine ih u _ (by omega) ?_ (by omega)
            rw [ei, show n0 + 8 * (i.toInt + 1) = n0 + 8 * i.toInt + 2 * y.toInt + 0 + 2 by omega]
            exact hu
          · unfold w_outMethod_J274
            refine sp_og cS wV (by omega) (by decide) (by decide) (m := 2) (by decide) (by decide) (by omega) (fun u hu a ea => ?_)
            subst ea
            refine ih u _ (by omega) ?_ (by omega)
            rw [ei, show n0 + 8 * (i.toInt + 1) = n0 + 8 * i.toInt + 2 * y.toInt + 2 by omega]
            exact hu
          · have ey : (y + Int32.ofInt 1).toInt = y.toInt + 1 := by rw [t_add (by rw [lo_1]; omega), lo_1]
            have rng : 0 ≤ (f_catchWord A i y).toInt ∧ (f_catchWord A i y).toInt < 1297 := by
              have kk : y.toInt = 0 ∨ y.toInt = 1 ∨ y.toInt = 2 := by omega
              rcases kk with q | q | q
              · have : y = 0 := Int32.toInt_inj.mp (by rw [q]; rfl)
                rw [this]; omega
              · have : y = 1 := Int32.toInt_inj.mp (by rw [q]; rfl)
                rw [this]; omega
              · have : y = 2 := Int32.toInt_inj.mp (by rw [q]; rfl)
                rw [this]; omega
            rw [fcw]
            refine ⟨kV.1.dcw irV y0, rng, ?_⟩
            refine sp_og cS wV (by omega) (by decide) (by decide) (m := 2) (by decide) (by decide) (by omega) (fun u hu a ea => ?_)
            subst ea
            refine ihd u _ (by omega) ?_ (by omega)
            rw [ey, show n0 + 8 * i.toInt + 2 * (y.toInt + 1) = n0 + 8 * i.toInt + 2 * y.toInt + 2 by omega]
            exact hu
      refine ⟨_, L213 _ U 0 (by decide) ?_ (Nat.lt_succ_self _)⟩
      rw [show n0 + 8 * i.toInt + 2 * (0 : Int32).toInt = n0 + 8 * i.toInt by show n0 + 8 * i.toInt + 2 * 0 = _; omega]
      exact wU
/-- where the rows stand -/
def OfI (A U : MS) (of : Nat → Int) (i : Nat) : Prop := of 0 = 0 ∧ ∀ j : Nat, j < i → ((qI U 36 j).toInt = of j ∧ 0 ≤ of j ∧ of j ≤ of (j + 1)) ∧ ∀ x : Int32, x.toInt = j → LnV U (f_op A x) (f_first A x) (f_second A x) (of j) (of (j + 1) - of j)
theorem OfI.mv {A U V : MS} {of : Nat → Int} {i : Nat} (h : OfI A U of i) (e : ∀ j : Nat, j < i → qI V 36 j = qI U 36 j) (y : BkY U V) (hB : BkI U) : OfI A V of i := ⟨h.1, fun j hj => ⟨by rw [e j hj]; exact (h.2 j hj).1, fun x ex => ((h.2 j hj).2 x ex).my y hB⟩⟩
theorem sp_om_L167 {p : Nat} {A S0 : MS} {Q : MS → Prop} {of : Nat → Int} {n0 o : Int} (f0 : frm WA JM S0 A) (cf : CfI NL kp AL p A) (k : LkF kp AL p A) (h0 : 0 ≤ n0) (eo : of (qI A 0 52).toInt.toNat = o) (ob : ∀ j : Nat, (j : Int) ≤ (qI A 0 52).toInt → 0 ≤ of j ∧ of j ≤ o) (hb : o ≤ 3900) (hr : oS A + n0 + o + 2 + 8 * (qI A 0 54).toInt + 2 ≤ 131072) (hQ : ∀ u : MS, Wg NL kp AL WA JA A (n0 + o + 2 + 8 * (qI A 0 54).toInt + 2) u → Q u) : ∀ (c : Nat) (U : MS) (i : Int32), (0 ≤ i.toInt ∧ i.toInt ≤ (qI A 0 52).toInt) → OfI A U of (qI A 0 52).toInt.toNat → Wg NL kp AL WA JA A (n0 + of i.toInt.toNat) U → (1296 - i.toInt).toNat < c → w_outMethod_L167 Q (eK kp S0) c U i := by
  have cn := k.1.cnt
  have cS := cf.1
  intro c
  induction c with
  | zero => intro U i _ _ _ h9; exact absurd h9 (Nat.not_lt_zero _)
  | succ c ih =>
    intro U i i0 hO wU hc
    obtain ⟨cfU, kU, so, e52, e54, ecw⟩ := wU.lk cf k
    have bi := ob i.toInt.toNat (by omega)
    unfold w_outMethod_L167
    rw [e52]
    refine ⟨fun c1 => ?_, fun c1 => ?_⟩
    · have e : of i.toInt.toNat = o := by rw [show i.toInt.toNat = (qI A 0 52).toInt.toNat by omega]; exact eo
      rw [e] at wU
      refine sp_og cS wU (by omega) (by decide) (by decide) (m := 2) (by decide) (by decide) (by omega) (fun u hu => ?_)
      refine ⟨_, sp_om_L201 f0 cf k (n0 := n0 + o + 2) (by omega) (by omega) hQ _ u 0 ⟨by decide, by show (0 : Int) ≤ _; omega⟩ ?_ (Nat.lt_succ_self _)⟩
      rw [show n0 + o + 2 + 8 * (0 : Int32).toInt = n0 + o + 2 by show n0 + o + 2 + 8 * 0 = _; omega]
      exact hu
    · have ei : (i + Int32.ofInt 1).toInt = i.toInt + 1 := by rw [t_add (by rw [lo_1]; omega), lo_1]
      obtain ⟨⟨o1, o2, o3⟩, o4⟩ := hO.2 i.toInt.toNat (by omega)
      have ln := o4 i (by omega)
      have b1 := ob (i.toInt.toNat + 1) (by omega)
      have eU := wU.2.1.2.1
      refine ⟨_, _, sp_oR cfU wU.2.2.2.1 kU wU.2.1.1 (n := of (i.toInt.toNat + 1) - of i.toInt.toNat) ⟨i0.1, by rw [e52]; omega⟩ ⟨by omega, by omega⟩ ?_ (by omega), ?_, fun u q => ⟨q.1, q.2.1, (f0.tr (wU.1.mo (by decide) (by decide))).tr q.2.2⟩⟩
      · unfold LnP
        rw [(so i).1, (so i).2.1, (so i).2.2, o1]
        exact ln
      · intro V wV a ea
        subst ea
        refine ih V _ (by omega) (hO.mv (fun j _ => by rw [(wV.1.2.2.2.2.1 36 (by decide) (by decide)).1]) wV.2.2.2.2 wU.2.2.2.1.1) ?_ (by omega)
        rw [show (i + Int32.ofInt 1).toInt.toNat = i.toInt.toNat + 1 by omega, show n0 + of (i.toInt.toNat + 1) = n0 + of i.toInt.toNat + (of (i.toInt.toNat + 1) - of i.toInt.toNat) by omega]
        exact wU.tr (wV.g (by decide) (by decide)) (by omega)
theorem LkD.wr {S : MS} (h : LkD S) {x : Int32} (hx : 0 ≤ x.toInt ∧ x.toInt < (qI S 0 52).toInt) : wtR (qI S (qO S 0 48)) ((qI S 0 51).toInt.toNat + x.toInt.toNat) = wtV (f_op S x).toInt (f_second S x).toInt ∧ ((f_op S x).toInt = 170 ∨ (f_op S x).toInt = 171 → 0 ≤ (f_second S x).toInt) := by
  have cn := h.cnt
  have ix := lk_ix_d h hx
  obtain ⟨L, F, M, ts, rb, rt, rv, -, -⟩ := h.rv hx
  have e1 : (3 * ((qI S 0 51).toInt + x.toInt)).toNat = 3 * ((qI S 0 51).toInt.toNat + x.toInt.toNat) := by omega
  have e2 : (3 * ((qI S 0 51).toInt + x.toInt) + 2).toNat = 3 * ((qI S 0 51).toInt.toNat + x.toInt.toNat) + 2 := by omega
  refine ⟨?_, fun q => (rv.2.2.1 q).2.1⟩
  unfold f_op f_second wtR
  rw [ix.1, ix.2.2, e1, e2]
theorem wtS_up {R : Nat → Int32} {a : Nat} : ∀ (d i : Nat), (∀ j : Nat, i ≤ j → j < i + d → 0 ≤ wtR R (a + j)) → wtS R a i ≤ wtS R a (i + d) := by
  intro d
  induction d with
  | zero => intro i _; exact Int.le_refl _
  | succ d ih =>
    intro i h
    have q := ih i (fun j j0 j1 => h j j0 (by omega))
    have w := h (i + d) (by omega) (by omega)
    show wtS R a i ≤ wtS R a (i + d) + wtR R (a + (i + d))
    omega
end OMY
/-! outMethod (behind sp_om_L167, sp_by) -/
section ONX
variable {NL : List Nat} {kp : Prop} {AL : List (MS → Prop)}
theorem sp_oh {W J : List Nat} {A S : MS} {v : Int64} {n : Int32} {m a : Int} {Q : MS → Prop} (cf : CfS NL kp AL) (h : Wg NL kp AL W J A a S) (ha : 0 ≤ a) (hW : [28, 29, 30, 31, 32, 33, 34, 35].all (fun x => W.contains x) = true) (hJ : [7, 8, 73, 74, 77].all (fun x => J.contains x) = true) (e : n.toInt = m) (hn : 0 ≤ m ∧ m ≤ 8) (hr : oS A + a + m ≤ 131072) (hQ : ∀ u, Wg NL kp AL W J A (a + m) u → Wx NL kp AL S m u → Q u) : ∃ Q1, w_out S v n Q1 ∧ ∀ u, Q1 u → Q u := by
  have eo := h.2.1.2.1
  exact sp_ob cf h.2.2.2.1 h.2.1.1 e hn (by omega) (fun u hu => hQ u (h.tr (hu.g hW hJ) ha) hu)
theorem OfI.x {A U V : MS} {of : Nat → Int} {i : Nat} {n : Int} (h : OfI A U of i) (w : Wx NL kp AL U n V) (hB : BkI U) : OfI A V of i := h.mv (fun j _ => by rw [(w.1.2.2.2.2.1 36 (by decide) (by decide)).1]) w.2.2.2.2 hB
/-- what the Code of a method leaves -/
def CdW (NL : List Nat) (kp : Prop) (AL : List (MS → Prop)) (A u : MS) : Prop := ∃ o : Int, (0 ≤ o ∧ o ≤ 3900) ∧ Wg NL kp AL WA JA A (18 + o + 8 * (qI A 0 54).toInt) u ∧ fo (qI u (wH A)) ((oS A).toNat + 2) = 12 + o + 8 * (qI A 0 54).toInt
theorem sp_om_L57 {Q : MS → Prop} {p : Nat} {A S0 : MS} {m : Int32} {s : Nat} (f0 : frm WA JM S0 A) (hQ : ∀ u : MS, CdW NL kp AL A u → Q u) (cf : CfI NL kp AL p A) (k : LkF kp AL p A) (tx : TxI A) (hw : WrI NL kp AL A) (ou : OuI A) (hm : 0 ≤ m.toInt ∧ m.toInt < 24) (hs : qR A (p + 6) m.toInt.toNat = some s ∧ lOD A s 8) (hr : oS A + 4100 ≤ 131072) : ∀ (c : Nat) (U : MS) (o i : Int32) (of : Nat → Int), (0 ≤ i.toInt ∧ i.toInt ≤ (qI A 0 52).toInt) → Wg NL kp AL WA JA A 0 U → OfI A U of i.toInt.toNat → of i.toInt.toNat = o.toInt → (∀ j : Nat, (j : Int) ≤ i.toInt → 0 ≤ of j ∧ of j ≤ o.toInt) → o.toInt ≤ wtS (qI A (qO A 0 48)) (qI A 0 51).toInt.toNat i.toInt.toNat → (1296 - i.toInt).toNat < c → w_outMethod_L57 Q (eK kp S0) c U p m o i := by
  have p60 : 60 ≤ p := by have := cf.2.1.1; omega
  have cn := k.1.cnt
  have cS := cf.1
  have wN := k.2.2.2
  have wnn : ∀ j : Nat, (j : Int) < (qI A 0 52).toInt → 0 ≤ wtR (qI A (qO A 0 48)) ((qI A 0 51).toInt.toNat + j) := fun j hj => by
    obtain ⟨x, ex⟩ : ∃ x : Int32, x.toInt = j := ⟨Int32.ofNat j, by rw [oN (by omega)]⟩
    have w := k.1.wr (x := x) ⟨by omega, by omega⟩
    rw [show x.toInt.toNat = j by omega] at w
    rw [w.1]
    exact wtV_nn (by
      by_cases q : (f_op A x).toInt = 170 ∨ (f_op A x).toInt = 171
      · exact Or.inl (w.2 q)
      · exact Or.inr q)
  intro c
  induction c with
  | zero => intro U o i of _ _ _ _ _ _ h9; exact absurd h9 (Nat.not_lt_zero _)
  | succ c ih =>
    intro U o i of i0 wU hO eo ob hw9 hc
    obtain ⟨cfU, kU, so, e52, e54, ecw⟩ := wU.lk cf k
    have ob0 := ob i.toInt.toNat (by omega)
    have up := wtS_up (R := qI A (qO A 0 48)) (a := (qI A 0 51).toInt.toNat) ((qI A 0 52).toInt.toNat - i.toInt.toNat) i.toInt.toNat (fun j _ j1 => wnn j (by omega))
    rw [show i.toInt.toNat + ((qI A 0 52).toInt.toNat - i.toInt.toNat) = (qI A 0 52).toInt.toNat by omega] at up
    have o39 : o.toInt ≤ 3900 := by omega
    unfold w_outMethod_L57
    rw [e52]
    refine ⟨fun c1 => ⟨by omega, fun B eB => ?_⟩, fun c1 => ⟨⟨i0.1, by omega⟩, fun B eB => ?_⟩⟩
    · -- all offsets are known
      have eN : i.toInt.toNat = (qI A 0 52).toInt.toNat := by omega
      rw [eN] at hO eo
      have fB : frm [36] [] U B := by rw [eB]; exact frm.pI (by decide)
      have kB0 : Wg NL kp AL WA JA U 0 B := Wg.k fB wU.2.2.2.1 wU.2.1.1 cS (by decide) (by decide) (by decide) (by decide)
      have wB := wU.tr kB0 (by decide)
      have OB : OfI A B of (qI A 0 52).toInt.toNat := hO.mv (fun j hj => by rw [eB, qI_wI, if_neg (fun q => by have := q.2; omega)]) kB0.2.2.2.2 wU.2.2.2.1.1
      obtain ⟨cfB, kB, _, b52, b54, _⟩ := wB.lk cf k
      obtain ⟨_, _, _, oo, ab, _, _, _, cd, _, _⟩ := cfB
      refine eb_nm (sp_nm cS wB.2.2.2.1 cd.1 cd.2.1 cd.2.2) wB.2.1.1.2.2.1 (f0.tr (wB.1.mo (by decide) (by decide))) ?_
      rintro r C ⟨hC, xC, _⟩
      have wC := wB.tr ((Wx.b xC hC wB.2.1.1).g (by decide) (by decide)) (by decide)
      have OC := OB.mv (fun j _ => by rw [(xC.1.2.2.2.2.1 36 (by decide) (by decide)).1]) xC.y wB.2.2.2.1.1
      refine sp_oh cS wC (by decide) (by decide) (by decide) (m := 2) (by decide) (by decide) (by omega) (fun D wD xD => ?_)
      have wD' : Wg NL kp AL WA JA A 2 D := wD
      have OD := OC.x xD wC.2.2.2.1.1
      obtain ⟨cfD, kD, _, d52, d54, _⟩ := wD'.lk cf k
      rw [d54]
      have ou2 := wD'.2.1.1
      have eD := wD'.2.1.2.1
      have l12 : (12 : Int32).toInt = 12 := by decide
      have l8 : (8 : Int32).toInt = 8 := by decide
      have t1 : ((12 : Int32) + o).toInt = 12 + o.toInt := by rw [t_add (by rw [l12]; omega), l12]
      have t2 : ((8 : Int32) * qI A 0 54).toInt = 8 * (qI A 0 54).toInt := by rw [t_mul (by rw [l8]; omega), l8]
      have t3 : ((12 : Int32) + o + (8 : Int32) * qI A 0 54).toInt64.toInt = 12 + o.toInt + 8 * (qI A 0 54).toInt := by rw [Int32.toInt_toInt64, t_add (by rw [t1, t2]; omega), t1, t2]
      refine ⟨_, sp_out4 ou2 (by omega) (by rw [t3]; omega), ?_⟩
      rintro E ⟨wE0, fo4⟩
      rw [t3] at fo4
      have xE : Wx NL kp AL D 4 E := Wx.o wE0 wD'.2.2.2.1 cS
      have wE1 : Wg NL kp AL WA JA D 4 E := xE.g (by decide) (by decide)
      have OE := OD.x xE wD'.2.2.2.1.1
      have wE := wD'.tr wE1 (by decide)
      have wHD : wH D = wH A := wD'.2.1.2.2
      have oA0 := ou.2.2.2.1
      rw [wHD, show (oS D).toNat = (oS A).toNat + 2 by omega] at fo4
      obtain ⟨cfE, kE, _, _, _, _⟩ := wE.lk cf k
      have txE : TxI E := tx.kp wE.2.2.2.2.kp
      refine ⟨_, sp_lS kE.1 txE, ?_⟩
      intro r2 F fF
      have wF1 : Wg NL kp AL WA JA E 0 F := Wg.k fF wE.2.2.2.1 wE.2.1.1 cS (by decide) (by decide) (by decide) (by decide)
      have OF := OE.mv (fun j _ => by rw [(fF.2.2.2.2.1 36 (by decide) (by decide)).1]) wF1.2.2.2.2 wE.2.2.2.1.1
      have wF := wE.tr wF1 (by decide)
      refine sp_oh cS wF (by decide) (by decide) (by decide) (m := 2) (by decide) (by decide) (by omega) (fun G wG xG => ?_)
      have OG := OF.x xG wF.2.2.2.1.1
      obtain ⟨cfG, kG, _, g52, g54, _⟩ := wG.lk cf k
      have hi := hi_frm wG.1 (by decide)
      have r10 := cf.2.1.2 5 (by decide)
      have gR : qR G p 10 = some (p + 6) := by rw [(hi p p60).2.2.1]; exact r10.1
      have gO : qO G p 10 = p + 6 := by unfold qO; rw [gR]; rfl
      have gS : qR G (p + 6) m.toInt.toNat = some s := by rw [(hi (p + 6) (by omega)).2.2.1]; exact hs.1
      have gSo : qO G (p + 6) m.toInt.toNat = s := by unfold qO; rw [gS]; rfl
      rw [gO, gSo]
      refine ⟨gR, ⟨hm.1, by rw [(hi (p + 6) (by omega)).2.2.2.2]; have := r10.2; rw [show p + 1 + 5 = p + 6 from rfl] at this; omega⟩, gS, _, sp_lL kG.1 (hs.2.h5 hi), ?_⟩
      rintro r3 G' rfl
      refine sp_oh cS wG (by decide) (by decide) (by decide) (m := 2) (by decide) (by decide) (by omega) (fun H wH' xH => ?_)
      have OH := OG.x xH wG.2.2.2.1.1
      refine sp_oh cS wH' (by decide) (by decide) (by decide) (m := 4) (by decide) (by decide) (by omega) (fun I wI' xI => ?_)
      have OI := OH.x xI wH'.2.2.2.1.1
      have wI2 : Wg NL kp AL WA JA A 14 I := wI'
      -- from the four bytes on
      have wEI : Wg NL kp AL WA JA E 8 I := (((wF1.tr (xG.g (by decide) (by decide)) (by decide)).tr (xH.g (by decide) (by decide)) (by decide)).tr (xI.g (by decide) (by decide)) (by decide))
      have wHE : wH E = wH A := wE.2.1.2.2
      have eE := wE.2.1.2.1
      have eI := wI2.2.1.2.1
      have fI : fo (qI I (wH A)) ((oS A).toNat + 2) = 12 + o.toInt + 8 * (qI A 0 54).toInt := by
        have b := (wEI.by wE.2.1.1).2.1 ((oS A).toNat + 2) (by omega)
        rw [wHE] at b
        rw [b]
        exact fo4
      obtain ⟨cfI', kI, soI, i52, i54, icw⟩ := wI2.lk cf k
      have ouI := wI2.2.1.1
      have OI' : OfI I I of (qI I 0 52).toInt.toNat := by
        rw [i52]
        refine ⟨OI.1, fun j hj => ⟨(OI.2 j hj).1, fun x ex => ?_⟩⟩
        rw [(soI x).1, (soI x).2.1, (soI x).2.2]
        exact (OI.2 j hj).2 x ex
      refine ⟨_, sp_om_L167 (A := I) (of := of) (n0 := 0) (o := o.toInt) (f0.tr (wI2.1.mo (by decide) (by decide))) cfI' kI (by decide) (by rw [i52]; exact eo) (by rw [i52]; exact fun j hj => ob j (by omega)) o39 (by rw [i54]; omega) (fun u hu => ?_) _ I 0 ⟨by decide, by show (0 : Int) ≤ _; rw [i52]; omega⟩ OI' ?_ (Nat.lt_succ_self _)⟩
      · rw [i54] at hu
        refine hQ u ⟨o.toInt, ⟨by omega, o39⟩, ?_, ?_⟩
        · have := wI2.tr hu (by decide)
          rw [show (14 : Int) + (0 + o.toInt + 2 + 8 * (qI A 0 54).toInt + 2) = 18 + o.toInt + 8 * (qI A 0 54).toInt by omega] at this
          exact this
        · have b := (hu.by ouI).2.1 ((oS A).toNat + 2) (by omega)
          have wHI : wH I = wH A := wI2.2.1.2.2
          rw [wHI] at b
          rw [b]
          exact fI
      · rw [show of (0 : Int32).toInt.toNat = 0 from OI.1]
        exact Wg.rf wI2.2.2.2.1 ouI
    · -- one row more
      have fB : frm [36] [] U B := by rw [eB]; exact frm.pI (by decide)
      have kB0 : Wg NL kp AL WA JA U 0 B := Wg.k fB wU.2.2.2.1 wU.2.1.1 cS (by decide) (by decide) (by decide) (by decide)
      have wB := wU.tr kB0 (by decide)
      have OB := hO.mv (V := B) (fun j hj => by rw [eB, qI_wI, if_neg (fun q => by have := q.2; omega)]) kB0.2.2.2.2 wU.2.2.2.1.1
      have b36 : qI B 36 i.toInt.toNat = o := by rw [eB, qI_wI, if_pos ⟨rfl, rfl⟩]
      obtain ⟨cfB, kB, soB, b52, b54, _⟩ := wB.lk cf k
      refine eb_by (sp_by cfB wB.2.2.2.1 kB (by rw [b52]; omega) ⟨by omega, by omega⟩) wB.2.1.1.2.2.1 (f0.tr (wB.1.mo (by decide) (by decide))) ?_
      rintro r V ⟨hV, xV, lnV⟩ a ea b eb
      have wV1 := Wx.b xV hV wB.2.1.1
      have wV := wB.tr (wV1.g (by decide) (by decide)) (by decide)
      obtain ⟨_, _, soV, _, _, _⟩ := wV.lk cf k
      unfold LnP at lnV
      rw [(soV i).1, (soV i).2.1, (soV i).2.2] at lnV
      have w := k.1.wr (x := i) ⟨i0.1, by omega⟩
      have nb := lnV.wt w.2 (by omega)
      have up1 := wtS_up (R := qI A (qO A 0 48)) (a := (qI A 0 51).toInt.toNat) ((qI A 0 52).toInt.toNat - (i.toInt.toNat + 1)) (i.toInt.toNat + 1) (fun j _ j1 => wnn j (by omega))
      rw [show i.toInt.toNat + 1 + ((qI A 0 52).toInt.toNat - (i.toInt.toNat + 1)) = (qI A 0 52).toInt.toNat by omega] at up1
      have st : wtS (qI A (qO A 0 48)) (qI A 0 51).toInt.toNat (i.toInt.toNat + 1) = wtS (qI A (qO A 0 48)) (qI A 0 51).toInt.toNat i.toInt.toNat + wtV (f_op A i).toInt (f_second A i).toInt := by
        show _ + wtR _ _ = _
        rw [w.1]
      have ea' : a.toInt = o.toInt + r.toInt := by rw [ea, t_add (by omega)]
      have ei : (i + Int32.ofInt 1).toInt = i.toInt + 1 := by rw [t_add (by rw [lo_1]; omega), lo_1]
      subst eb
      have ein : (i + Int32.ofInt 1).toInt.toNat = i.toInt.toNat + 1 := by omega
      have OV := OB.x wV1 wB.2.2.2.1.1
      have v36 : qI V 36 i.toInt.toNat = o := by rw [(wV1.1.2.2.2.2.1 36 (by decide) (by decide)).1]; exact b36
      have wV0 : Wg NL kp AL WA JA A 0 V := wV
      refine ih V a _ (fun j => if j ≤ i.toInt.toNat then of j else a.toInt) (by omega) wV0 ⟨by show (if 0 ≤ i.toInt.toNat then of 0 else a.toInt) = 0; rw [if_pos (Nat.zero_le _)]; exact hO.1, fun j hj => ?_⟩ ?_ (fun j hj => ?_) ?_ (by omega)
      · rw [ein] at hj
        show ((qI V 36 j).toInt = (if j ≤ i.toInt.toNat then of j else a.toInt) ∧ 0 ≤ (if j ≤ i.toInt.toNat then of j else a.toInt) ∧ (if j ≤ i.toInt.toNat then of j else a.toInt) ≤ (if j + 1 ≤ i.toInt.toNat then of (j + 1) else a.toInt)) ∧ ∀ x : Int32, x.toInt = j → LnV V (f_op A x) (f_first A x) (f_second A x) (if j ≤ i.toInt.toNat then of j else a.toInt) ((if j + 1 ≤ i.toInt.toNat then of (j + 1) else a.toInt) - (if j ≤ i.toInt.toNat then of j else a.toInt))
        rw [if_pos (by omega)]
        by_cases q : j = i.toInt.toNat
        · subst q
          rw [if_neg (by omega), v36]
          refine ⟨⟨by omega, by omega, by omega⟩, fun x ex => ?_⟩
          have : x = i := Int32.toInt_inj.mp (by omega)
          subst this
          rw [show a.toInt - of x.toInt.toNat = r.toInt by omega, eo]
          exact lnV
        · rw [if_pos (by omega)]
          exact OV.2 j (by omega)
      · show (if (i + Int32.ofInt 1).toInt.toNat ≤ i.toInt.toNat then of _ else a.toInt) = _
        rw [if_neg (by omega)]
      · show 0 ≤ (if j ≤ i.toInt.toNat then of j else a.toInt) ∧ (if j ≤ i.toInt.toNat then of j else a.toInt) ≤ a.toInt
        by_cases q : j ≤ i.toInt.toNat
        · rw [if_pos q]
          have := ob j (by omega)
          omega
        · rw [if_neg q]; omega
      · rw [ein, st]
        omega
/-- what a method leaves -/
def MtW (NL : List Nat) (kp : Prop) (AL : List (MS → Prop)) (S u : MS) : Prop := ∃ d : Int, (12 ≤ d ∧ d ≤ 4040) ∧ Wg NL kp AL WA [7, 8, 47, 48, 49, 50, 51, 52, 53, 54, 56, 57, 73, 74, 77] S (14 + d) u ∧ tw (qI u (wH S)) ((oS S).toNat + 6) = 1 ∧ fo (qI u (wH S)) ((oS S).toNat + 10) = d
theorem sp_outMethod {p : Nat} {S : MS} {m : Int32} (cf : CfI NL kp AL p S) (ro : RoI p S) (ck : CkF kp AL p S) (tx : TxI S) (hw : WrI NL kp AL S) (ou : OuI S) (hm : 0 ≤ m.toInt ∧ m.toInt < (qI S p 4).toInt) (hr : oS S + 4110 ≤ 131072) : w_outMethod S p m (MtW NL kp AL S) (eK kp S) := by
  have p60 : 60 ≤ p := by have := cf.2.1.1; omega
  have cS := cf.1
  have b4 := cf.2.2.1
  have rows := cf.2.1.2
  obtain ⟨n, t, n1, t1, hn, ht, _⟩ := (cf.2.2.2.choose_spec.choose_spec.2.2.2.2.2.2) m.toInt.toNat (by omega)
  obtain ⟨s, s1, s2⟩ : ∃ s : Nat, qR S (p + 6) m.toInt.toNat = some s ∧ lOD S s 8 := by
    obtain ⟨_, R, T, C, nr, ts, cn, _, _, _, _, _, mm, _⟩ := ro
    exact (mm m.toInt.toNat (by omega)).1
  have nmx : ∀ (U : MS) (a : Int) (i : Nat) (n : Nat), Wg NL kp AL WA JM S a U → i < 13 → qR S (p + 1 + i) m.toInt.toNat = some n → qR U p (5 + i) = some (p + 1 + i) ∧ qO U p (5 + i) = p + 1 + i ∧ qN U (p + 1 + i) = 24 ∧ qR U (p + 1 + i) m.toInt.toNat = some n ∧ qO U (p + 1 + i) m.toInt.toNat = n := fun U a i n w hi hn => by
    have hi' := hi_frm w.1 (by decide)
    have r := rows i hi
    have z := hi' (p + 1 + i) (by omega)
    have r1 : qR U p (5 + i) = some (p + 1 + i) := by rw [(hi' p p60).2.2.1]; exact r.1
    have r2 : qR U (p + 1 + i) m.toInt.toNat = some n := by rw [z.2.2.1]; exact hn
    exact ⟨r1, by unfold qO; rw [r1]; rfl, by rw [z.2.2.2.2]; exact r.2, r2, by unfold qO; rw [r2]; rfl⟩
  unfold w_outMethod
  refine sp_og (W := WA) (J := JM) cS (Wg.rf hw ou) (by decide) (by decide) (by decide) (m := 2) (by decide) (by decide) (by omega) (fun A wA => ?_)
  obtain ⟨a1, a2, a3, a4, a5⟩ := nmx A _ 3 n wA (by decide) n1
  rw [show (8 : Nat) = 5 + 3 from rfl, a2, a5]
  refine ⟨a1, ⟨hm.1, by rw [a3]; omega⟩, a4, eb_nm (sp_nm cS wA.2.2.2.1 hn.1 (hn.2.1.mv wA.2.2.2.2.kp) hn.2.2) wA.2.1.1.2.2.1 wA.1 ?_⟩
  rintro r B ⟨hB, xB, _⟩
  have wB := wA.tr ((Wx.b xB hB wA.2.1.1).g (by decide) (by decide)) (by decide)
  refine sp_og (W := WA) (J := JM) cS wB (by decide) (by decide) (by decide) (m := 2) (by decide) (by decide) (by omega) (fun C wC => ?_)
  obtain ⟨c1, c2, c3, c4, c5⟩ := nmx C _ 4 t wC (by decide) t1
  rw [show (9 : Nat) = 5 + 4 from rfl, c2, c5]
  refine ⟨c1, ⟨hm.1, by rw [c3]; omega⟩, c4, eb_nm (sp_nm cS wC.2.2.2.1 ht.1 (ht.2.1.mv wC.2.2.2.2.kp) ht.2.2) wC.2.1.1.2.2.1 wC.1 ?_⟩
  rintro r2 D ⟨hD, xD, _⟩
  have wD := wC.tr ((Wx.b xD hD wC.2.1.1).g (by decide) (by decide)) (by decide)
  refine sp_og (W := WA) (J := JM) cS wD (by decide) (by decide) (by decide) (m := 2) (by decide) (by decide) (by omega) (fun E wE => ?_)
  have wE6 : Wg NL kp AL WA JM S 6 E := wE
  have eE := wE6.2.1.2.1
  have o0 := ou.2.2.2.1
  refine ⟨_, sp_out2 wE6.2.1.1 (by omega) (by decide), ?_⟩
  rintro F ⟨wF0, tw1⟩
  have wF := wE6.tr ((Wx.o wF0 wE6.2.2.2.1 cS).g (by decide) (by decide)) (by decide)
  have wHE : wH E = wH S := wE6.2.1.2.2
  have twF : tw (qI F (wH S)) ((oS S).toNat + 6) = 1 := by
    rw [wHE, show (oS E).toNat = (oS S).toNat + 6 by omega] at tw1
    rw [tw1]; decide
  have cfF := cf.fm wF.1 (by decide)
  have roF := ro.fm wF.1 (by decide)
  have ckF := ck.fm ro wF.1 (by decide)
  have f4 : qI F p 4 = qI S p 4 := by rw [(hi_frm wF.1 (by decide) p p60).1]
  refine ⟨_, sp_lookD cfF roF ckF (by rw [f4]; exact hm), ?_⟩
  rintro G ⟨⟨fG, kG⟩, _⟩
  have wG1 : Wg NL kp AL WA JM F 0 G := Wg.k fG wF.2.2.2.1 wF.2.1.1 cS (by decide) (by decide) (by decide) (by decide)
  have wG := wF.tr wG1 (by decide)
  have wG8 : Wg NL kp AL WA JM S 8 G := wG
  have cfG := cfF.fm fG (by decide)
  have hiG := hi_frm wG8.1 (by decide)
  have eG := wG8.2.1.2.1
  have wHG : wH G = wH S := wG8.2.1.2.2
  have txG : TxI G := tx.kp wG8.2.2.2.2.kp
  have cG := kG.1.cnt
  refine ⟨1297, sp_om_L57 (m := m) (s := s) wG8.1 (fun u hu => ?_) cfG kG txG wG8.2.2.2.1 wG8.2.1.1 (by omega) ⟨by rw [(hiG (p + 6) (by omega)).2.2.1]; exact s1, s2.h5 hiG⟩ (by omega) 1297 G 0 0 (fun _ => 0) ⟨by decide, by show (0 : Int) ≤ _; omega⟩ (Wg.rf wG8.2.2.2.1 wG8.2.1.1) ⟨rfl, fun j hj => absurd hj (Nat.not_lt_zero _)⟩ rfl (fun j _ => ⟨Int.le_refl _, Int.le_refl _⟩) (Int.le_refl _) (by decide)⟩
  obtain ⟨o, o1, wu, f4'⟩ := hu
  have wuM : Wg NL kp AL WA JM G (18 + o + 8 * (qI G 0 54).toInt) u := wu.mo (by decide) (by decide)
  refine ⟨12 + o + 8 * (qI G 0 54).toInt, by omega, ?_, ?_, ?_⟩
  · have := wG8.tr wuM (by decide)
    rw [show (8 : Int) + (18 + o + 8 * (qI G 0 54).toInt) = 14 + (12 + o + 8 * (qI G 0 54).toInt) by omega] at this
    exact this
  · have b1 := (wG1.by wF.2.1.1).1 ((oS S).toNat + 6) (by have := wF.2.1.2.1; omega)
    have b2 := (wuM.by wG8.2.1.1).1 ((oS S).toNat + 6) (by omega)
    have wHF : wH F = wH S := wF.2.1.2.2
    rw [wHF] at b1
    rw [wHG] at b2
    rw [b2, b1]
    exact twF
  · rw [wHG, show (oS G).toNat + 2 = (oS S).toNat + 10 by omega] at f4'
    exact f4'
end ONX
/-! an entry of the pool is written (behind sp_out1, sp_out2, BkI) -/
/-- an entry stands from a to b -/
def enL (g : Nat → Int32) (a b : Nat) : Prop := tgO (oc g a) ∧ a + 3 ≤ b ∧ (oc g a = 1 → (b : Int) = a + 3 + tw g (a + 1)) ∧ (oc g a = 3 → b = a + 5) ∧ (oc g a = 5 → b = a + 9) ∧ (oc g a = 7 → b = a + 3) ∧ (oc g a = 9 ∨ oc g a = 10 ∨ oc g a = 12 → b = a + 5)
theorem enL.mv {g g' : Nat → Int32} {a b : Nat} (h : enL g a b) (e : ∀ j : Nat, j < b → g' j = g j) : enL g' a b := by
  have l := h.2.1
  have e1 : oc g' a = oc g a := by unfold oc; rw [e a (by omega)]
  have e2 : tw g' (a + 1) = tw g (a + 1) := by unfold tw oc; rw [e (a + 1) (by omega), e (a + 1 + 1) (by omega)]
  unfold enL
  rw [e1, e2]
  exact h
/-- what an entry's writing leaves -/
def EnW (S : MS) (t : Int) (u : MS) : Prop := ∃ d : Nat, (3 ≤ d ∧ (d : Int) ≤ 9 + (if t = 1 then 94 else 0)) ∧ Wo S d u ∧ enL (qI u (wH S)) (oS S).toNat ((oS S).toNat + d) ∧ oc (qI u (wH S)) (oS S).toNat = t
theorem Wo.bt {S u : MS} {n : Int} (h : Wo S n u) : (∀ j : Nat, (j : Int) < oS S → oc (qI u (wH S)) j = oc (qI S (wH S)) j) ∧ ∀ j : Nat, (j : Int) + 1 < oS S → tw (qI u (wH S)) j = tw (qI S (wH S)) j := by
  have z := h.2.2.2.2
  refine ⟨fun j hj => ?_, fun j hj => ?_⟩
  · unfold oc; rw [z j hj]
  · unfold tw oc; rw [z j (by omega), z (j + 1) (by omega)]
theorem sp_oE {S : MS} {k : Int32} (hB : BkI S) (o : OuI S) (hk : 0 ≤ k.toInt ∧ k.toInt < ndN S) (hr : oS S + 103 ≤ 131072) : w_outEntry S k (EnW S (qI S 28 k.toInt.toNat).toInt) := by
  have n7 := hB.1
  obtain ⟨tg, tx⟩ := hB.2.2 k.toInt.toNat (by omega)
  have o0 := o.2.2.2.1
  have wh := o.wh
  have l0 : (0 : Int32).toInt = 0 := rfl
  -- what is read is the same all along
  have sm : ∀ (U : MS) (n : Int), Wo S n U → qI U 28 = qI S 28 ∧ qR U 33 = qR S 33 ∧ ∀ a : Nat, 92 < a → sm5 S U a := fun U n w => ⟨(w.1.2.2.2.2.1 28 (by decide) (by decide)).1, (w.1.2.2.2.2.1 33 (by decide) (by decide)).2.2, big_frm w.1 (by decide)⟩
  have tr : 0 ≤ (qI S 28 k.toInt.toNat).toInt64.toInt ∧ (qI S 28 k.toInt.toNat).toInt64.toInt ≤ 255 := by
    rw [Int32.toInt_toInt64]
    unfold tgO at tg
    omega
  have kr : (0 : Int) ≤ k.toInt ∧ k.toInt < 700 := by omega
  unfold w_outEntry
  refine ⟨kr, _, sp_out1 o (by omega) tr, ?_⟩
  rintro A ⟨wA, oc1⟩
  rw [Int32.toInt_toInt64] at oc1
  obtain ⟨a28, a33, abig⟩ := sm A 1 wA
  have oA := wA.2.2.1
  have whA : wH A = wH S := wA.2.2.2.1
  -- the end: d bytes behind the tag
  have fin : ∀ (u : MS) (n : Int) (d : Nat), Wo A n u → ((d : Int) = 1 + n ∧ 2 ≤ n) → ((d : Int) ≤ 9 + (if (qI S 28 k.toInt.toNat).toInt = 1 then 94 else 0)) → ((qI S 28 k.toInt.toNat).toInt = 1 → (d : Int) = 3 + tw (qI u (wH S)) ((oS S).toNat + 1)) → ((qI S 28 k.toInt.toNat).toInt = 3 → d = 5) → ((qI S 28 k.toInt.toNat).toInt = 5 → d = 9) → ((qI S 28 k.toInt.toNat).toInt = 7 → d = 3) → ((qI S 28 k.toInt.toNat).toInt = 9 ∨ (qI S 28 k.toInt.toNat).toInt = 10 ∨ (qI S 28 k.toInt.toNat).toInt = 12 → d = 5) → EnW S (qI S 28 k.toInt.toNat).toInt u := fun u n d w hd hm h1 h3 h5 h7 h9 => by
    have ou : oc (qI u (wH S)) (oS S).toNat = (qI S 28 k.toInt.toNat).toInt := by
      have := w.bt.1 (oS S).toNat (by omega)
      rw [whA] at this
      rw [this]
      exact oc1
    refine ⟨d, ⟨by omega, hm⟩, ?_, ?_, ou⟩
    · have := wA.tr w (by decide)
      rw [show (1 : Int) + n = (d : Int) by omega] at this
      exact this
    · unfold enL
      rw [ou]
      refine ⟨tg, by omega, fun q => ?_, fun q => ?_, fun q => ?_, fun q => ?_, fun q => ?_⟩
      · have := h1 q; omega
      · have := h3 q; omega
      · have := h5 q; omega
      · have := h7 q; omega
      · have := h9 q; omega
  rw [a28]
  refine ⟨kr, fun e => ?_, fun n1 => ?_⟩
  · -- a name
    obtain ⟨t, t1, t2⟩ := tx e
    have ot : qO A 33 k.toInt.toNat = t := by unfold qO; rw [a33, t1]; rfl
    have nt := (abig (t + 1) (by have := t2.2.1.gt; omega)).2.2.2.2
    have len := t2.2.2
    have on : (Int32.ofNat (qN S (t + 1))).toInt = qN S (t + 1) := oN (by omega)
    rw [ot, nt]
    refine ⟨kr, by rw [a33]; exact t1, _, sp_out2 wA.2.1 (by omega) (by rw [Int32.toInt_toInt64, on]; omega), ?_⟩
    rintro B ⟨wB, tw2⟩
    rw [Int32.toInt_toInt64, on, whA, show (oS A).toNat = (oS S).toNat + 1 by omega] at tw2
    have wSB := wA.tr wB (by decide)
    have oB := wB.2.2.1
    have whB : wH B = wH A := wB.2.2.2.1
    have L : ∀ (c : Nat) (U : MS) (i : Int32), (0 ≤ i.toInt ∧ i.toInt ≤ qN S (t + 1)) → Wo B i.toInt U → (100 - i.toInt).toNat < c → w_outEntry_L77 (EnW S (qI S 28 k.toInt.toNat).toInt) c U k i := by
      intro c
      induction c with
      | zero => intro U i _ _ h9; exact absurd h9 (Nat.not_lt_zero _)
      | succ c ih =>
        intro U i i0 wU hc
        have wSU := wSB.tr wU (by decide)
        obtain ⟨u28, u33, ubig⟩ := sm U _ wSU
        have ot' : qO U 33 k.toInt.toNat = t := by unfold qO; rw [u33, t1]; rfl
        have nt' := (ubig (t + 1) (by have := t2.2.1.gt; omega)).2.2.2.2
        have ur : qR U 33 k.toInt.toNat = some t := by rw [u33]; exact t1
        unfold w_outEntry_L77
        rw [ot', nt', on]
        refine ⟨kr, ur, fun c1 => ?_, fun c1 => ⟨kr, ur, ⟨i0.1, by omega⟩, ?_⟩⟩
        · have wAU := wB.tr wU (by decide)
          refine fin U (2 + i.toInt) (3 + qN S (t + 1)) wAU (by omega) (by rw [if_pos e]; omega) (fun _ => ?_) (fun q => by omega) (fun q => by omega) (fun q => by omega) (fun q => by omega)
          have b := wU.bt.2 ((oS S).toNat + 1) (by omega)
          rw [whB, whA] at b
          rw [b, tw2]
          omega
        · have oU := wU.2.2.1
          refine ⟨_, sp_outN (m := 1) wU.2.1 (by decide) (by decide) (by omega), fun V wV a ea => ?_⟩
          subst ea
          have ei : (i + Int32.ofInt 1).toInt = i.toInt + 1 := by rw [t_add (by rw [lo_1]; omega), lo_1]
          refine ih V _ (by omega) ?_ (by omega)
          rw [ei]
          exact wU.tr wV (by omega)
    refine ⟨_, L _ B 0 ⟨by decide, by rw [l0]; omega⟩ ?_ (Nat.lt_succ_self _)⟩
    exact Wo.rf wB.2.1
  · have two2 : ∀ U0 : MS, U0 = A → ((0 : Int) ≤ k.toInt ∧ k.toInt < 700) → (qI S 28 k.toInt.toNat).toInt ≠ 3 → (qI S 28 k.toInt.toNat).toInt ≠ 5 → (qI S 28 k.toInt.toNat).toInt ≠ 7 → ∀ (v1 : Int64) (v2 : MS → Int64), ∃ Q1, w_out A v1 (2 : Int32) Q1 ∧ ∀ U, Q1 U → (((0 : Int) ≤ k.toInt ∧ k.toInt < 700) ∧ ∃ Q2, w_out U (v2 U) (2 : Int32) Q2 ∧ ∀ V, Q2 V → EnW S (qI S 28 k.toInt.toNat).toInt V) := fun _ _ _ m3 m5 m7 v1 v2 => by
      refine ⟨_, sp_outN (m := 2) wA.2.1 (by decide) (by decide) (by omega), fun B wB => ⟨kr, _, sp_outN (m := 2) wB.2.1 (by decide) (by decide) (by have := wB.2.2.1; omega), fun C wC => ?_⟩⟩
      exact fin C 4 5 (wB.tr wC (by decide)) (by decide) (by rw [if_neg n1]; decide) (fun q => absurd q n1) (fun q => rfl) (fun q => absurd q m5) (fun q => absurd q m7) (fun _ => rfl)
    refine ⟨fun e => ?_, fun n2 => ⟨fun e => ⟨kr, ?_⟩, fun n3 => ⟨fun e => ?_, fun n4 => ⟨fun e => ⟨kr, ?_⟩, fun n5 => ⟨fun e => ?_, fun n6 => ⟨fun e => ⟨kr, ?_⟩, fun n7' => ⟨kr, ?_⟩⟩⟩⟩⟩⟩⟩
    · unfold tgO at tg; omega
    · refine ⟨_, sp_outN (m := 4) wA.2.1 (by decide) (by decide) (by omega), fun B wB => ?_⟩
      exact fin B 4 5 wB (by decide) (by rw [if_neg n1]; decide) (fun q => absurd q n1) (fun _ => rfl) (fun q => by omega) (fun q => by omega) (fun q => by omega)
    · unfold tgO at tg; omega
    · refine ⟨_, sp_outN (m := 8) wA.2.1 (by decide) (by decide) (by omega), fun B wB => ?_⟩
      exact fin B 8 9 wB (by decide) (by rw [if_neg n1]; decide) (fun q => absurd q n1) (fun q => by omega) (fun _ => rfl) (fun q => by omega) (fun q => by omega)
    · unfold tgO at tg; omega
    · refine ⟨_, sp_outN (m := 2) wA.2.1 (by decide) (by decide) (by omega), fun B wB => ?_⟩
      exact fin B 2 3 wB (by decide) (by rw [if_neg n1]; decide) (fun q => absurd q n1) (fun q => by omega) (fun q => by omega) (fun _ => rfl) (fun q => by omega)
    · exact two2 A rfl kr n3 n5 n7' _ (fun U => (qI U 31 k.toInt.toNat).toInt64)
