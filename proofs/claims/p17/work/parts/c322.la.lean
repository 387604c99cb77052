/-! lengthAt: exact, and within the code -/
theorem getD_rg {L : List Int32} {b : Int} (h : ∀ v ∈ L, 0 ≤ v.toInt ∧ v.toInt ≤ b) (hb : 0 ≤ b) (i : Nat) : 0 ≤ (L.getD i 0).toInt ∧ (L.getD i 0).toInt ≤ b := by
  rw [List.getD_eq_getElem?_getD]
  cases e : L[i]? with
  | none => exact ⟨by decide, hb⟩
  | some v => exact h v (List.mem_of_getElem? e)
set_option maxRecDepth 100000 in
theorem stLN_rg : ∀ v ∈ stLN, 0 ≤ v.toInt ∧ v.toInt ≤ 6 := by decide
theorem rg_lengthOf {S : MS} {x : Int32} : 0 ≤ (fX6_lengthOf S x).toInt ∧ (fX6_lengthOf S x).toInt ≤ 6 := by
  have z : (f_X6_lengthOf_J12 S).toInt = 0 := li_0
  unfold fX6_lengthOf
  split
  · omega
  · split
    · exact getD_rg stLN_rg (by decide) _
    · omega
theorem rg_wide {S : MS} {x : Int32} : 0 ≤ (fX2_wideLength S x).toInt ∧ (fX2_wideLength S x).toInt ≤ 6 := by
  have z : (f_X2_wideLength_J24 S).toInt = 4 := li_4
  have z0 := li_0
  have z6 := li_6
  unfold fX2_wideLength
  split
  · omega
  · split
    · split
      · omega
      · omega
    · omega
theorem l32_small {d : Int64} (h : 0 ≤ d.toInt ∧ d.toInt ≤ 100000) : (d.toInt32).toInt = d.toInt := by
  rw [Int64.toInt_toInt32]
  apply Int.bmod_eq_of_le <;> omega
theorem rg_tl {S : MS} {o : Int32} (ho : 0 ≤ o.toInt ∧ o.toInt ≤ 1200) : 0 ≤ (fX2_tableLength S o).toInt ∧ (fX2_tableLength S o).toInt ≤ 3000 := by
  have hn := nOf_rg (S := S) (o := o) ⟨ho.1, by omega⟩
  have z0 := li_0
  unfold fX2_tableLength
  generalize ((fX2_s4 S ((fX2_numbersOf S o) + (8 : Int32))).toInt64) - ((fX2_s4 S ((fX2_numbersOf S o) + (4 : Int32))).toInt64) = d
  generalize fX2_numbersOf S o = q at hn ⊢
  split
  · omega
  · split
    · omega
    · split
      · rename_i c1 c2 c3
        have k1 := c_cmp (x := d) (y := 0)
        have k2 := (c_le (x := d) (y := (200 : Int64))).mp c3
        have e0 : (0 : Int64).toInt = 0 := by decide
        have e2 : (200 : Int64).toInt = 200 := by decide
        have hd : 0 ≤ d.toInt ∧ d.toInt ≤ 200 := by omega
        have ed := l32_small (d := d) ⟨hd.1, by omega⟩
        have e4 : ((4 : Int32) * d.toInt32).toInt = 4 * d.toInt := by rw [t_mul (by rw [li_4, ed]; omega), li_4, ed]
        have e5 : (q + (16 : Int32)).toInt = q.toInt + 16 := by rw [t_add (by rw [li_16]; omega), li_16]
        have e6 : ((q + (16 : Int32)) + ((4 : Int32) * d.toInt32)).toInt = q.toInt + 16 + 4 * d.toInt := by rw [t_add (by rw [e5, e4]; omega), e5, e4]
        rw [t_sub (by rw [e6]; omega), e6]
        omega
      · omega
/-- what lengthAt answers -/
def LaR (S : MS) (o r : Int32) : Prop := (0 ≤ r.toInt ∧ r.toInt ≤ 3000) ∧ (r.toInt = 0 ∨ o.toInt + r.toInt ≤ (qI S 8 2).toInt) ∧ ∀ Q : Int32 → MS → Prop, Q r S → wX2_lengthAt S o Q
theorem ex_la110 {S : MS} {o l : Int32} (ho : 0 ≤ o.toInt ∧ o.toInt ≤ 1200) (hl : 0 ≤ l.toInt ∧ l.toInt ≤ 3000) : ∃ r : Int32, ((0 ≤ r.toInt ∧ r.toInt ≤ 3000) ∧ (r.toInt = 0 ∨ o.toInt + r.toInt ≤ (qI S 8 2).toInt)) ∧ ∀ Q : Int32 → MS → Prop, Q r S → w_X2_lengthAt_J110 Q S o l := by
  have z0 := li_0
  have e : (o + l).toInt = o.toInt + l.toInt := t_add (by omega)
  by_cases c : (o + l).toInt ≤ (qI S 8 2).toInt
  · refine ⟨l, ⟨hl, by omega⟩, fun Q hQ => ?_⟩
    unfold w_X2_lengthAt_J110
    intro w
    exact ⟨fun _ => hQ, fun d => absurd c d⟩
  · refine ⟨0, ⟨by omega, Or.inl z0⟩, fun Q hQ => ?_⟩
    unfold w_X2_lengthAt_J110
    intro w
    exact ⟨fun d => absurd d c, fun _ => hQ⟩
theorem ex_lengthAt {S : MS} {o : Int32} (h9 : 0 ≤ (qI S 9 1).toInt) (ho : 0 ≤ o.toInt ∧ o.toInt ≤ 1200) : ∃ r : Int32, LaR S o r := by
  have z2 := li_2
  have z0 := li_0
  by_cases c1 : (fX2_u1 S o).toInt = 170
  · obtain ⟨r, hr, k⟩ := ex_la110 (S := S) ho (rg_tl (S := S) ho)
    refine ⟨r, hr.1, hr.2, fun Q hQ => ?_⟩
    unfold wX2_lengthAt
    refine ⟨dd_X2_u1, fun a4 e4 => ?_⟩
    rw [e4]
    exact ⟨fun _ => ⟨dd_X2_tableLength h9, fun a e => by rw [e]; exact k Q hQ⟩, fun d => absurd c1 d⟩
  · by_cases c2 : (fX2_u1 S o).toInt = 171
    · obtain ⟨l, hl, kl⟩ := ex_lookupLength (S := S) (o := o) h9 ho
      obtain ⟨r, hr, k⟩ := ex_la110 (S := S) ho hl
      refine ⟨r, hr.1, hr.2, fun Q hQ => ?_⟩
      unfold wX2_lengthAt
      refine ⟨dd_X2_u1, fun a4 e4 => ?_⟩
      rw [e4]
      refine ⟨fun d => absurd d c1, fun _ => ⟨fun _ => ⟨_, kl (fun r' u => r' = l ∧ u = S) ⟨rfl, rfl⟩, ?_⟩, fun d => absurd c2 d⟩⟩
      rintro r' u ⟨rfl, rfl⟩ _ _
      exact k Q hQ
    · by_cases c3 : (fX2_u1 S o).toInt = 188
      · by_cases c4 : (fX2_u1 S (o + (1 : Int32))).toInt = 10
        · obtain ⟨r, hr, k⟩ := ex_la110 (S := S) (l := 2) ho (by omega)
          refine ⟨r, hr.1, hr.2, fun Q hQ => ?_⟩
          unfold wX2_lengthAt
          refine ⟨dd_X2_u1, fun a4 e4 => ?_⟩
          rw [e4]
          refine ⟨fun d => absurd d c1, fun _ => ⟨fun d => absurd d c2, fun _ => ⟨fun _ => ⟨dd_X2_u1, fun a e => ?_⟩, fun d => absurd c3 d⟩⟩⟩
          rw [e]
          refine ⟨fun _ => ?_, fun d => absurd c4 d⟩
          unfold w_X2_lengthAt_J97
          intro _
          exact k Q hQ
        · obtain ⟨r, hr, k⟩ := ex_la110 (S := S) (l := 0) ho (by omega)
          refine ⟨r, hr.1, hr.2, fun Q hQ => ?_⟩
          unfold wX2_lengthAt
          refine ⟨dd_X2_u1, fun a4 e4 => ?_⟩
          rw [e4]
          refine ⟨fun d => absurd d c1, fun _ => ⟨fun d => absurd d c2, fun _ => ⟨fun _ => ⟨dd_X2_u1, fun a e => ?_⟩, fun d => absurd c3 d⟩⟩⟩
          rw [e]
          refine ⟨fun d => absurd d c4, fun _ => ?_⟩
          unfold w_X2_lengthAt_J97
          intro _
          exact k Q hQ
      · by_cases c4 : (fX2_u1 S o).toInt = 196
        · obtain ⟨r, hr, k⟩ := ex_la110 (S := S) (l := fX2_wideLength S (fX2_u1 S (o + (1 : Int32)))) ho (by have := rg_wide (S := S) (x := fX2_u1 S (o + (1 : Int32))); omega)
          refine ⟨r, hr.1, hr.2, fun Q hQ => ?_⟩
          unfold wX2_lengthAt
          refine ⟨dd_X2_u1, fun a4 e4 => ?_⟩
          rw [e4]
          refine ⟨fun d => absurd d c1, fun _ => ⟨fun d => absurd d c2, fun _ => ⟨fun d => absurd d c3, fun _ => ⟨fun _ => ⟨dd_X2_u1, fun a e => ⟨dd_X2_wideLength, fun b eb => ?_⟩⟩, fun d => absurd c4 d⟩⟩⟩⟩
          rw [eb, e]
          exact k Q hQ
        · obtain ⟨r, hr, k⟩ := ex_la110 (S := S) (l := fX6_lengthOf S (fX2_u1 S o)) ho (by have := rg_lengthOf (S := S) (x := fX2_u1 S o); omega)
          refine ⟨r, hr.1, hr.2, fun Q hQ => ?_⟩
          unfold wX2_lengthAt
          refine ⟨dd_X2_u1, fun a4 e4 => ?_⟩
          rw [e4]
          refine ⟨fun d => absurd d c1, fun _ => ⟨fun d => absurd d c2, fun _ => ⟨fun d => absurd d c3, fun _ => ⟨fun d => absurd d c4, fun _ => ⟨dd_X2_u1, fun a e => ⟨dd_X6_lengthOf, fun b eb => ?_⟩⟩⟩⟩⟩⟩
          rw [eb, e]
          exact k Q hQ
/-- two answers are one -/
theorem sp_lengthAt {S : MS} {o r : Int32} (h : LaR S o r) : wX2_lengthAt S o (fun r' u => r' = r ∧ u = S) := h.2.2 _ ⟨rfl, rfl⟩
