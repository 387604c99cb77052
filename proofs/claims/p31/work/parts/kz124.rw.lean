/-! rule 16: rows that are laid, places that are pointed to -/
/-- one row more: op, a, b -/
def RwP (R w : MS) (op a b : Int32) : Prop := smB R w ∧ (qI w 0 41).toInt = (qI R 0 41).toInt + 1 ∧ (∀ j, j ≠ 41 → qI w 0 j = qI R 0 j) ∧ (∀ h, h ≠ 0 → h ≠ 19 → qI w h = qI R h) ∧ (∀ j : Nat, (j : Int) < 3 * (qI R 0 41).toInt → qI w 19 j = qI R 19 j) ∧ (qI w 19 (3 * (qI R 0 41).toInt).toNat = op ∧ qI w 19 (3 * (qI R 0 41).toInt + 1).toNat = a ∧ qI w 19 (3 * (qI R 0 41).toInt + 2).toNat = b) ∧ qJ w = qJ R ∧ qR w = qR R ∧ qT w = qT R ∧ qN w = qN R
/-- the class's numbers of instructions -/
def NuC (V : MS) : Prop := NuV V ∧ qI V 15 (qI V 8 2).toInt.toNat = qI V 8 8 ∧ (qI V 8 8).toInt = cN V 1300 0
section RW
variable {S S' S0 R R' T V u w : MS} {x y z r c v e len o N i x1 k t a b f pr g op : Int32} {p : Nat} {oo : MS ⊕ MS}
theorem c_gt {x y : Int64} : 0 < (lg_cmp x y).toInt ↔ y.toInt < x.toInt := by
  rcases c_cmp (x := x) (y := y) with ⟨a, b⟩ | ⟨a, b⟩ | ⟨a, b⟩
  · rw [a]; omega
  · rw [a]; omega
  · rw [a]; omega
theorem c_ge {x y : Int64} : 0 ≤ (lg_cmp x y).toInt ↔ y.toInt ≤ x.toInt := by
  rcases c_cmp (x := x) (y := y) with ⟨a, b⟩ | ⟨a, b⟩ | ⟨a, b⟩
  · rw [a]; omega
  · rw [a]; omega
  · rw [a]; omega
theorem rv_row (hs : SrN R) (n0 : 0 ≤ (qI R 0 41).toInt ∧ (qI R 0 41).toInt ≤ 30000) (h : v_row R op a b w) : RwP R w op a b := by
  obtain ⟨-, S3, e3, -, S7, e7, -, S11, e11, S13, e13, eu⟩ := h
  have x3 : qI S3 0 41 = qI R 0 41 := by rw [e3, g_ne (by decide)]
  have x7 : qI S7 0 41 = qI R 0 41 := by rw [e7, g_ne (by decide), x3]
  have x11 : qI S11 0 41 = qI R 0 41 := by rw [e11, g_ne (by decide), x7]
  rw [x3] at e7
  rw [x7] at e11
  have m3 : ((3 : Int32) * (qI R 0 41)).toInt = 3 * (qI R 0 41).toInt := by rw [t_mul (by rw [li_3]; omega), li_3]
  have m1 : (((3 : Int32) * (qI R 0 41)) + (1 : Int32)).toInt = 3 * (qI R 0 41).toInt + 1 := by rw [t_add (by rw [li_1]; omega), m3, li_1]
  have m2 : (((3 : Int32) * (qI R 0 41)) + (2 : Int32)).toInt = 3 * (qI R 0 41).toInt + 2 := by rw [t_add (by rw [li_2]; omega), m3, li_2]
  rw [m3] at e3
  rw [m1] at e7
  rw [m2] at e11
  have s3 : smB R S3 := by rw [e3]; exact sm_wr hs (by decide) (by decide)
  have s7 : smB R S7 := s3.tr (by rw [e7]; exact sm_wr (hs.sm s3) (by decide) (by decide))
  have s11 : smB R S11 := s7.tr (by rw [e11]; exact sm_wr (hs.sm s7) (by decide) (by decide))
  have s13 : smB R S13 := s11.tr (by rw [e13]; exact sm_wr (hs.sm s11) (by decide) (by decide))
  have Q : ∀ j, qI S13 19 j = if j = (3 * (qI R 0 41).toInt + 2).toNat then b else if j = (3 * (qI R 0 41).toInt + 1).toNat then a else if j = (3 * (qI R 0 41).toInt).toNat then op else qI R 19 j := fun j => by
    rw [e13, g_ne (by decide), e11, qI_wI]
    by_cases c2 : j = (3 * (qI R 0 41).toInt + 2).toNat
    · rw [if_pos ⟨rfl, c2⟩, if_pos c2]
    · rw [if_neg (fun q => c2 q.2), if_neg c2, e7, qI_wI]
      by_cases c1 : j = (3 * (qI R 0 41).toInt + 1).toNat
      · rw [if_pos ⟨rfl, c1⟩, if_pos c1]
      · rw [if_neg (fun q => c1 q.2), if_neg c1, e3, qI_wI]
        by_cases c0 : j = (3 * (qI R 0 41).toInt).toNat
        · rw [if_pos ⟨rfl, c0⟩, if_pos c0]
        · rw [if_neg (fun q => c0 q.2), if_neg c0]
  rw [eu]
  refine ⟨s13, ?_, fun j hj => ?_, fun h h0 h1 => ?_, fun j hj => ?_, ⟨?_, ?_, ?_⟩, ?_, ?_, ?_, ?_⟩
  · rw [e13, g_eq, x11, t_add (by rw [li_1]; omega), li_1]
  · rw [e13, g_nf hj, e11, g_ne (by decide), e7, g_ne (by decide), e3, g_ne (by decide)]
  · rw [e13, rdH h0, e11, rdH h1, e7, rdH h1, e3, rdH h1]
  · rw [Q, if_neg (by omega), if_neg (by omega), if_neg (by omega)]
  · rw [Q, if_neg (by omega), if_neg (by omega), if_pos rfl]
  · rw [Q, if_neg (by omega), if_pos rfl]
  · rw [Q, if_pos rfl]
  · rw [e13, e11, e7, e3]; rfl
  · rw [e13, e11, e7, e3]; rfl
  · rw [e13, e11, e7, e3]; rfl
  · rw [e13, e11, e7, e3]; rfl
/-- both number alike -/
theorem nu_eq (nr : NuR V R) (nc : NuC V) (j : Nat) (hj : (j : Int) ≤ (qI V 8 2).toInt) : qI R 18 j = qI V 15 j := by
  obtain ⟨r1, r2, r3⟩ := nr
  obtain ⟨c1, c2, c3⟩ := nc
  by_cases c : (j : Int) < (qI V 8 2).toInt
  · rw [r1 j c, c1 j c]
  · have e : j = (qI V 8 2).toInt.toNat := by omega
    rw [e, r2, c2]
    exact Int32.toInt_inj.mp (by rw [r3, c3])
theorem no_of {y : Int64} (hc : CoE V R) (nr : NuR V R) (nc : NuC V) (h : y.toInt = x.toInt) : (0 ≤ x.toInt ∧ x.toInt ≤ (qI V 8 2).toInt → fX2_numberOf V y = qI R 18 x.toInt.toNat) ∧ (¬ (0 ≤ x.toInt ∧ x.toInt ≤ (qI V 8 2).toInt) → fX2_numberOf V y = -1) := by
  have c34 := hc.2.1
  have l0 : (0 : Int64).toInt = 0 := by decide
  have l12 : ((1201 : Int32).toInt64).toInt = 1201 := by decide
  unfold fX2_numberOf f_X2_numberOf_J27
  rw [c_ls, l0, c_gt, tl_of, c_ls, l12]
  constructor
  · rintro ⟨h0, h1⟩
    have e : y.toInt32 = x := Int32.toInt_inj.mp (by rw [tl_to (by omega), h])
    rw [if_neg (by omega), if_neg (by omega), if_pos (by omega), e, nu_eq nr nc _ (by omega)]
  · intro hh
    by_cases c0 : y.toInt < 0
    · rw [if_pos c0]
    · rw [if_neg c0, if_pos (by omega)]
theorem ii_of {y : Int64} (hc : CoE V R) (nr : NuR V R) (nc : NuC V) (h : y.toInt = x.toInt) : (f_isStart R x).toInt = 0 ↔ (fX2_isInstruction V y).toInt = 0 := by
  have c34 := hc.2.1
  have n := no_of hc nr nc h
  have mm : (-1 : Int32).toInt = -1 := by decide
  have o0 : (0 : Int32).toInt = 0 := rfl
  have o1 : ¬ (1 : Int32).toInt = 0 := by decide
  unfold f_isStart f_isStart_J25 fX2_isInstruction f_X2_isInstruction_J22
  rw [hc.1.2, c_ge, tl_of]
  by_cases c0 : x.toInt < 0
  · rw [if_pos c0]
    by_cases c1 : (qI V 8 2).toInt ≤ y.toInt
    · omega
    · rw [if_neg c1, n.2 (by omega), if_pos (by rw [mm]; decide)]
  · rw [if_neg c0]
    by_cases c1 : (qI V 8 2).toInt ≤ x.toInt
    · rw [if_pos c1, if_pos (by omega)]
    · rw [if_neg c1, if_neg (by omega), n.1 ⟨by omega, by omega⟩]
      by_cases c2 : (qI R 18 x.toInt.toNat).toInt < 0
      · rw [if_pos c2, if_pos c2]
      · rw [if_neg c2, if_neg c2]
theorem tg_of {y : Int64} (hc : CoE V R) (nr : NuR V R) (nc : NuC V) (o0 : 0 ≤ o.toInt ∧ o.toInt ≤ 1200) (h : y.toInt = o.toInt + b.toInt) : ((f_isStart R (o + b)).toInt = 0 ↔ (fX2_isInstruction V y).toInt = 0) ∧ ((f_isStart R (o + b)).toInt ≠ 0 → qI R 18 (o + b).toInt.toNat = fX2_numberOf V y) := by
  have rb := rgI b
  by_cases c : o.toInt + b.toInt ≤ 2147483647
  · have e := t_add (a := o) (b := b) (by omega)
    refine ⟨ii_of hc nr nc (by rw [e, h]), fun z => ?_⟩
    have n := no_of (x := o + b) hc nr nc (by rw [e, h])
    by_cases g : 0 ≤ (o + b).toInt ∧ (o + b).toInt ≤ (qI V 8 2).toInt
    · exact (n.1 g).symm
    · exfalso
      apply z
      unfold f_isStart f_isStart_J25
      rw [hc.1.2]
      by_cases c0 : (o + b).toInt < 0
      · rw [if_pos c0]; rfl
      · rw [if_neg c0, if_pos (by omega)]; rfl
  · have e : (o + b).toInt = o.toInt + b.toInt - 4294967296 := by
      rw [Int32.toInt_add]
      unfold Int.bmod
      split <;> omega
    have z : f_isStart R (o + b) = 0 := by
      unfold f_isStart f_isStart_J25
      rw [if_pos (by omega)]
    have c34 := hc.2.1
    have q : fX2_isInstruction V y = 0 := by
      unfold fX2_isInstruction f_X2_isInstruction_J22
      rw [c_ge, tl_of, if_pos (by omega)]
    rw [z, q]
    exact ⟨Iff.rfl, fun h => absurd rfl h⟩
theorem rv_target {o1 : (Int32 × MS) ⊕ MS} (h : v_target R o b o1) : ((f_isStart R (o + b)).toInt ≠ 0 ∧ o1 = .inl (qI R 18 (o + b).toInt.toNat, R)) ∨ ((f_isStart R (o + b)).toInt = 0 ∧ o1 = .inr (rBk R 16 ((qI R 0 36) + o))) := by
  obtain ⟨-, h⟩ := h
  rcases rv_pointE h with ⟨c, -, e⟩ | ⟨c, e⟩
  · exact Or.inl ⟨c, e⟩
  · exact Or.inr ⟨c, e⟩
theorem rv_localRow (hs : SrN R) (n0 : 0 ≤ (qI R 0 41).toInt ∧ (qI R 0 41).toInt ≤ 30000) (h : v_localRow R o op k oo) : ((k + fX6_localWidth S op).toInt ≤ (qI R 0 46).toInt ∧ ∃ w, oo = .inl w ∧ RwP R w op k 0) ∨ ((qI R 0 46).toInt < (k + fX6_localWidth S op).toInt ∧ oo = .inr (rBk R 16 ((qI R 0 36) + o))) := by
  have J17 : ∀ {t : Int32}, v_localRow_J17 oo R t o op k → ((k + t).toInt ≤ (qI R 0 46).toInt ∧ ∃ w, oo = .inl w ∧ RwP R w op k 0) ∨ ((qI R 0 46).toInt < (k + t).toInt ∧ oo = .inr (rBk R 16 ((qI R 0 36) + o))) := fun {t} h => by
    rcases h with ⟨c, h⟩ | ⟨c, h⟩
    · rcases rv_pointE h with ⟨z, -⟩ | ⟨-, e⟩
      · exact absurd rfl z
      · exact Or.inr ⟨c, e⟩
    · rcases rv_pointE h with ⟨-, w, hr, e⟩ | ⟨z, -⟩
      · exact Or.inl ⟨by omega, w, e, rv_row hs n0 hr⟩
      · exact absurd z (by decide)
  unfold fX6_localWidth f_X6_localWidth_J12
  rcases h with ⟨c, h⟩ | ⟨c, ⟨c2, h⟩ | ⟨c2, h⟩⟩
  · rw [if_pos c]
    exact J17 h
  · rw [if_neg c, if_pos c2]
    exact J17 h
  · rw [if_neg c, if_neg c2]
    exact J17 h
theorem rv_grown (hs : SrN R) (n0 : 0 ≤ (qI R 0 41).toInt ∧ (qI R 0 41).toInt ≤ 30000) (h : v_grown R o k b oo) : (k.toInt < (qI R 0 46).toInt ∧ ∃ w, oo = .inl w ∧ RwP R w 132 k b) ∨ ((qI R 0 46).toInt ≤ k.toInt ∧ oo = .inr (rBk R 16 ((qI R 0 36) + o))) := by
  rcases h with ⟨c, h⟩ | ⟨c, h⟩
  · rcases rv_pointE h with ⟨z, -⟩ | ⟨-, e⟩
    · exact absurd rfl z
    · exact Or.inr ⟨c, e⟩
  · rcases rv_pointE h with ⟨-, w, hr, e⟩ | ⟨z, -⟩
    · exact Or.inl ⟨by omega, w, e, rv_row hs n0 hr⟩
    · exact absurd z (by decide)
theorem rv_pushed (hs : SrN R) (n0 : 0 ≤ (qI R 0 41).toInt ∧ (qI R 0 41).toInt ≤ 30000) (h : v_pushed R o e t oo) : ((f_isEntry R e t).toInt ≠ 0 ∧ ∃ w, oo = .inl w ∧ ((t.toInt = 3 ∧ RwP R w 18 (qJ R 8 e.toInt.toNat).toInt32 0) ∨ (¬ t.toInt = 3 ∧ RwP R w 20 ((qJ R 8 e.toInt.toNat) >>> ((32 : Int32).toInt64 &&& 63)).toInt32 (qJ R 8 e.toInt.toNat).toInt32))) ∨ ((f_isEntry R e t).toInt = 0 ∧ oo = .inr (rBk R 16 ((qI R 0 36) + o))) := by
  obtain ⟨-, h⟩ := h
  rcases rv_pointE h with ⟨z, h⟩ | ⟨z, e⟩
  · rcases h with ⟨c, -, w, hr, e⟩ | ⟨c, -, -, w, hr, e⟩
    · exact Or.inl ⟨z, w, e, Or.inl ⟨c, rv_row hs n0 hr⟩⟩
    · exact Or.inl ⟨z, w, e, Or.inr ⟨c, rv_row hs n0 hr⟩⟩
  · exact Or.inr ⟨z, e⟩
end RW
