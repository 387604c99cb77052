/-! rule 16: switches -/
/-- where target k's offset stands -/
def swA (op q k : Int32) : Int32 := if op.toInt = 170 then (q + (12 : Int32)) + ((4 : Int32) * k) else (q + (12 : Int32)) + ((8 : Int32) * k)
/-- target k of the switch at o, -1 the default -/
def swT (V : MS) (o op q k : Int32) : Int64 := if k.toInt < 0 then o.toInt64 + (fX2_s4 V q).toInt64 else o.toInt64 + (fX2_s4 V (swA op q k)).toInt64
/-- number k of it -/
def swK (V : MS) (op q low k : Int32) : Int32 := if op.toInt = 170 then low + k else fX2_s4 V ((q + (8 : Int32)) + ((8 : Int32) * k))
/-- the table of a switch, its first k ways laid, from T on -/
def TbS (V R : MS) (o op q low : Int32) (T : Nat) (k : Int) (U : MS) : Prop := smB R U ∧ (∀ j, j ≠ 43 → qI U 0 j = qI R 0 j) ∧ (∀ h, h ≠ 0 → h ≠ 20 → qI U h = qI R h) ∧ (qI U 0 43).toInt = T + 1 + 2 * k ∧ qI U 20 T = fX2_numberOf V (swT V o op q (-1)) ∧ (∀ i : Int32, 0 ≤ i.toInt → i.toInt < k → qI U 20 (T + 1 + 2 * i.toInt.toNat) = swK V op q low i ∧ qI U 20 (T + 2 + 2 * i.toInt.toNat) = fX2_numberOf V (swT V o op q i)) ∧ (∀ j : Nat, j < T → qI U 20 j = qI R 20 j) ∧ qJ U = qJ R ∧ qR U = qR R ∧ qT U = qT R ∧ qN U = qN R
section SW
variable {S S' S0 R R' T V U u w : MS} {x y z r c v e len o N i x1 k t a b f pr g op q low fst many : Int32} {p tt : Nat} {oo : MS ⊕ MS}
theorem swT_i {y : Int64} (h : y = o.toInt64 + b.toInt64) : y.toInt = o.toInt + b.toInt := by
  have ro := rgI o
  have rb := rgI b
  rw [h, tl_add (by rw [tl_of, tl_of]; omega), tl_of, tl_of]
theorem rv_swS {kk : Int} (hb : BtE V R) (hs : SrN R) (hc : CoE V R) (nr : NuR V R) (nc : NuC V) (o0 : 0 ≤ o.toInt ∧ o.toInt ≤ 1200) (hop : op.toInt = 170 ∨ op.toInt = 171) (q0 : 0 ≤ q.toInt ∧ q.toInt ≤ 1300) (hq : (op.toInt = 170 ∧ q.toInt + 12 + 4 * many.toInt ≤ (qI V 8 2).toInt) ∨ (op.toInt = 171 ∧ q.toInt + 8 + 8 * many.toInt ≤ (qI V 8 2).toInt)) (tt0 : tt ≤ 40000) : ∀ (n : Nat) {U : MS} {k : Int32}, TbS V R o op q low tt k.toInt U → 0 ≤ k.toInt → k.toInt ≤ many.toInt → many.toInt ≤ 300 → (qI R 0 41).toInt ≤ 30000 ∧ 0 ≤ (qI R 0 41).toInt → v_switched_L79 oo n U o op q fst low many k → ((∀ i : Int32, k.toInt ≤ i.toInt → i.toInt < many.toInt → (fX2_isInstruction V (swT V o op q i)).toInt ≠ 0) ∧ ∃ w U', oo = .inl w ∧ TbS V R o op q low tt many.toInt U' ∧ RwP U' w op fst many) ∨ ((∃ i : Int32, k.toInt ≤ i.toInt ∧ i.toInt < many.toInt ∧ (fX2_isInstruction V (swT V o op q i)).toInt = 0) ∧ ∃ W, oo = .inr (rBk W 16 ((qI R 0 36) + o))) := by
  intro n
  induction n with
  | zero => intro U k _ _ _ _ _ h; unfold v_switched_L79 at h; exact h.elim
  | succ n ih =>
    intro U k hT k0 k1 m3 r41 h
    have c34 := hc.2.1
    obtain ⟨t1, t2, t3, t4, t5, t6, t7, t8, t9, t10, t11⟩ := hT
    unfold v_switched_L79 at h
    rcases h with ⟨c, S24, h24, e⟩ | ⟨c, h⟩
    · have ekm : k.toInt = many.toInt := by omega
      refine Or.inl ⟨fun i i0 i1 => by omega, S24, U, e, ?_, rv_row (hs.sm t1) (by rw [t2 41 (by decide)]; omega) h24⟩
      rw [← ekm]
      exact ⟨t1, t2, t3, t4, t5, t6, t7, t8, t9, t10, t11⟩
    have p8 : (q + (8 : Int32)).toInt = q.toInt + 8 := by rw [t_add (by rw [li_8]; omega), li_8]
    have p12 : (q + (12 : Int32)).toInt = q.toInt + 12 := by rw [t_add (by rw [li_12]; omega), li_12]
    have k4 : ((4 : Int32) * k).toInt = 4 * k.toInt := by rw [t_mul (by rw [li_4]; omega), li_4]
    have k8 : ((8 : Int32) * k).toInt = 8 * k.toInt := by rw [t_mul (by rw [li_8]; omega), li_8]
    have hcU : CoE V U := ⟨⟨by rw [t2 36 (by decide)]; exact hc.1.1, by rw [t2 37 (by decide)]; exact hc.1.2⟩, hc.2⟩
    have hbU : BtE V U := hb.mv smX.rf t1 (t2 12 (by decide))
    have ek1 : (k + Int32.ofInt 1).toInt = k.toInt + 1 := by rw [t_add (by rw [show (Int32.ofInt 1).toInt = 1 from rfl]; omega)]; rfl
    -- one way
    have ONE : v_switched_J123 oo (v_switched_L79 oo n) U (swK V op q low k) (qI U 0 43) o op q fst low many k → ((fX2_isInstruction V (swT V o op q k)).toInt ≠ 0 ∧ ∃ S39, TbS V R o op q low tt (k + Int32.ofInt 1).toInt S39 ∧ v_switched_L79 oo n S39 o op q fst low many (k + Int32.ofInt 1)) ∨ ((fX2_isInstruction V (swT V o op q k)).toInt = 0 ∧ ∃ W, oo = .inr (rBk W 16 ((qI R 0 36) + o))) := fun h => by
      obtain ⟨-, S27, e27, h⟩ := h
      have s27 : smB R S27 := t1.tr (by rw [e27]; exact sm_wr (hs.sm t1) (by decide) (by decide))
      have i27 : ∀ j, qI S27 0 j = qI U 0 j := fun j => by rw [e27, g_ne (by decide)]
      have h2 : v_switched_J166 oo (v_switched_L79 oo n) S27 (swA op q k) o ((qI S27 0 43) + (1 : Int32)) o op q fst low many k := by
        unfold swA
        rcases h with ⟨z, h⟩ | ⟨z, h⟩
        · rw [if_pos z]
          exact h
        · rw [if_neg z]
          exact h
      obtain ⟨-, h⟩ := h2
      have ad : 0 ≤ (swA op q k).toInt ∧ (swA op q k).toInt + 4 ≤ (qI V 8 2).toInt := by
        unfold swA
        rcases hq with ⟨z, hq⟩ | ⟨z, hq⟩
        · rw [if_pos z, t_add (by omega), p12, k4]; omega
        · rw [if_neg (by omega), t_add (by omega), p12, k8]; omega
      have hc27 : CoE V S27 := ⟨⟨by rw [i27]; exact hcU.1.1, by rw [i27]; exact hcU.1.2⟩, hc.2⟩
      have hb27 : BtE V S27 := hb.mv smX.rf s27 (by rw [i27, t2 12 (by decide)])
      have r18 : ∀ j, qI S27 18 j = qI R 18 j := fun j => by rw [e27, g_ne (by decide), t3 18 (by decide) (by decide)]
      have nr27 : NuR V S27 := by
        obtain ⟨a1, a2, a3⟩ := nr
        exact ⟨fun j hj => by rw [r18]; exact a1 j hj, by rw [r18, i27, t2 39 (by decide)]; exact a2, by rw [i27, t2 39 (by decide)]; exact a3⟩
      have F4 := hc27.s4 hb27 ad.1 ad.2
      rw [F4] at h
      have eT : swT V o op q k = o.toInt64 + (fX2_s4 V (swA op q k)).toInt64 := if_neg (by omega)
      obtain ⟨TG1, TG2⟩ := tg_of (b := fX2_s4 V (swA op q k)) hc27 nr27 nc o0 (swT_i eT)
      rcases h with ⟨r33, S34, h33, -, S37, e37, S39, e39, a40, e40, h⟩ | ⟨u9, h33, h⟩
      · rcases rv_target h33 with ⟨z, e⟩ | ⟨-, e⟩
        swap
        · exact nomatch e
        injection e with e
        injection e with e1 e2
        rw [TG2 z] at e1
        rw [e40] at h
        refine Or.inl ⟨fun q => z (TG1.mpr q), S39, ?_, h⟩
        have x43 : (qI U 0 43).toInt = tt + 1 + 2 * k.toInt := t4
        have y43 : ((qI S27 0 43) + (1 : Int32)).toInt = tt + 2 + 2 * k.toInt := by rw [i27, t_add (by rw [li_1]; omega), li_1]; omega
        have i37 : ∀ j, qI S37 0 j = qI U 0 j := fun j => by rw [e37, g_ne (by decide), e2, i27]
        have Q : ∀ j, qI S39 20 j = if j = tt + 2 + 2 * k.toInt.toNat then fX2_numberOf V (swT V o op q k) else if j = tt + 1 + 2 * k.toInt.toNat then swK V op q low k else qI U 20 j := fun j => by
          rw [e39, g_ne (by decide), e37, qI_wI, y43]
          by_cases c1 : j = tt + 2 + 2 * k.toInt.toNat
          · rw [if_pos ⟨rfl, by omega⟩, if_pos c1, e1]
          · rw [if_neg (fun q => by have := q.2; omega), if_neg c1, e2, e27, qI_wI, x43]
            by_cases c2 : j = tt + 1 + 2 * k.toInt.toNat
            · rw [if_pos ⟨rfl, by omega⟩, if_pos c2]
            · rw [if_neg (fun q => by have := q.2; omega), if_neg c2]
        have s37 : smB R S37 := s27.tr (by rw [e37, e2]; exact sm_wr (hs.sm s27) (by decide) (by decide))
        have s39 : smB R S39 := s37.tr (by rw [e39]; exact sm_wr (hs.sm s37) (by decide) (by decide))
        refine ⟨s39, fun j hj => by rw [e39, g_nf hj, i37, t2 j hj], fun h h0 h1 => by rw [e39, rdH h0, e37, rdH h1, e2, e27, rdH h1, t3 h h0 h1], ?_, ?_, fun i i0 i1 => ?_, fun j hj => ?_, ?_, ?_, ?_, ?_⟩
        · rw [e39, g_eq, i37, ek1, t_add (by rw [li_2]; omega), li_2]
          omega
        · rw [Q, if_neg (by omega), if_neg (by omega)]
          exact t5
        · rw [ek1] at i1
          by_cases c9 : i.toInt = k.toInt
          · have ei : i = k := Int32.toInt_inj.mp c9
            rw [ei, Q, Q, if_neg (by omega), if_pos rfl, if_pos rfl]
            exact ⟨rfl, rfl⟩
          · rw [Q, Q, if_neg (by omega), if_neg (by omega), if_neg (by omega), if_neg (by omega)]
            exact t6 i i0 (by omega)
        · rw [Q, if_neg (by omega), if_neg (by omega)]
          exact t7 j hj
        · rw [e39, e37, e2, e27]; exact t8
        · rw [e39, e37, e2, e27]; exact t9
        · rw [e39, e37, e2, e27]; exact t10
        · rw [e39, e37, e2, e27]; exact t11
      · rcases rv_target h33 with ⟨-, e⟩ | ⟨z, e⟩
        · exact nomatch e
        injection e with e
        exact Or.inr ⟨TG1.mp z, S27, by rw [h, e, i27, t2 36 (by decide)]⟩
    have h2 : v_switched_J123 oo (v_switched_L79 oo n) U (swK V op q low k) (qI U 0 43) o op q fst low many k := by
      unfold swK
      rcases h with ⟨z, h⟩ | ⟨z, -, h⟩
      · rw [if_pos z]
        exact h
      · rw [if_neg z]
        rcases hq with ⟨z2, -⟩ | ⟨-, hq⟩
        · exact absurd z2 z
        rw [hcU.s4 hbU (by rw [t_add (by omega), p8, k8]; omega) (by rw [t_add (by omega), p8, k8]; omega)] at h
        exact h
    rcases ONE h2 with ⟨z, S39, hT', h⟩ | ⟨z, W, e⟩
    · rcases ih hT' (by omega) (by omega) m3 r41 h with ⟨K1, K2⟩ | ⟨⟨i, i0, i1, i2⟩, K2⟩
      · refine Or.inl ⟨fun i i0 i1 => ?_, K2⟩
        by_cases c9 : i.toInt = k.toInt
        · rw [show i = k from Int32.toInt_inj.mp c9]
          exact z
        · exact K1 i (by omega) i1
      · exact Or.inr ⟨⟨i, by omega, i1, i2⟩, K2⟩
    · exact Or.inr ⟨⟨k, Int.le_refl _, by omega, z⟩, W, e⟩
end SW
