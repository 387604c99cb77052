/-! what each instruction with letters of its own takes and gives (behind mv_iff, FrH) -/
theorem tx_pl {S : MS} (t : TxI S) : plS S 10000010 = 2 ∧ plS S 10000012 = 4 ∧ plS S 10000014 = 3 ∧ plS S 10000016 = 1 ∧ plS S 10000018 = 2 ∧ plS S 10000020 = 3 ∧ plS S 10000022 = 2 ∧ plS S 10000024 = 1 ∧ plS S 10000026 = 2 ∧ plS S 10000028 = 1 ∧ plS S 10000030 = 1 ∧ plS S 10000032 = 0 ∧ plS S 10000034 = 1 := by
  have h5 : plS S 10000010 = 2 := by
    have n1 : qN S (10000010 + 1) = 2 := (t 5 (by decide)).2.1
    have l1 : ∀ k : Nat, qI S (10000010 + 1) k = (([73, 73] : List Int32)).getD k 0 := (t 5 (by decide)).2.2
    unfold plS
    rw [n1]
    simp only [plc, l1]
    decide
  have h6 : plS S 10000012 = 4 := by
    have n1 : qN S (10000012 + 1) = 2 := (t 6 (by decide)).2.1
    have l1 : ∀ k : Nat, qI S (10000012 + 1) k = (([74, 74] : List Int32)).getD k 0 := (t 6 (by decide)).2.2
    unfold plS
    rw [n1]
    simp only [plc, l1]
    decide
  have h7 : plS S 10000014 = 3 := by
    have n1 : qN S (10000014 + 1) = 2 := (t 7 (by decide)).2.1
    have l1 : ∀ k : Nat, qI S (10000014 + 1) k = (([74, 73] : List Int32)).getD k 0 := (t 7 (by decide)).2.2
    unfold plS
    rw [n1]
    simp only [plc, l1]
    decide
  have h8 : plS S 10000016 = 1 := by
    have n1 : qN S (10000016 + 1) = 1 := (t 8 (by decide)).2.1
    have l1 : ∀ k : Nat, qI S (10000016 + 1) k = (([73] : List Int32)).getD k 0 := (t 8 (by decide)).2.2
    unfold plS
    rw [n1]
    simp only [plc, l1]
    decide
  have h9 : plS S 10000018 = 2 := by
    have n1 : qN S (10000018 + 1) = 2 := (t 9 (by decide)).2.1
    have l1 : ∀ k : Nat, qI S (10000018 + 1) k = (([65, 73] : List Int32)).getD k 0 := (t 9 (by decide)).2.2
    unfold plS
    rw [n1]
    simp only [plc, l1]
    decide
  have h10 : plS S 10000020 = 3 := by
    have n1 : qN S (10000020 + 1) = 3 := (t 10 (by decide)).2.1
    have l1 : ∀ k : Nat, qI S (10000020 + 1) k = (([65, 73, 73] : List Int32)).getD k 0 := (t 10 (by decide)).2.2
    unfold plS
    rw [n1]
    simp only [plc, l1]
    decide
  have h11 : plS S 10000022 = 2 := by
    have n1 : qN S (10000022 + 1) = 1 := (t 11 (by decide)).2.1
    have l1 : ∀ k : Nat, qI S (10000022 + 1) k = (([74] : List Int32)).getD k 0 := (t 11 (by decide)).2.2
    unfold plS
    rw [n1]
    simp only [plc, l1]
    decide
  have h12 : plS S 10000024 = 1 := by
    have n1 : qN S (10000024 + 1) = 1 := (t 12 (by decide)).2.1
    have l1 : ∀ k : Nat, qI S (10000024 + 1) k = (([82] : List Int32)).getD k 0 := (t 12 (by decide)).2.2
    unfold plS
    rw [n1]
    simp only [plc, l1]
    decide
  have h13 : plS S 10000026 = 2 := by
    have n1 : qN S (10000026 + 1) = 2 := (t 13 (by decide)).2.1
    have l1 : ∀ k : Nat, qI S (10000026 + 1) k = (([82, 82] : List Int32)).getD k 0 := (t 13 (by decide)).2.2
    unfold plS
    rw [n1]
    simp only [plc, l1]
    decide
  have h14 : plS S 10000028 = 1 := by
    have n1 : qN S (10000028 + 1) = 1 := (t 14 (by decide)).2.1
    have l1 : ∀ k : Nat, qI S (10000028 + 1) k = (([65] : List Int32)).getD k 0 := (t 14 (by decide)).2.2
    unfold plS
    rw [n1]
    simp only [plc, l1]
    decide
  have h15 : plS S 10000030 = 1 := by
    have n1 : qN S (10000030 + 1) = 1 := (t 15 (by decide)).2.1
    have l1 : ∀ k : Nat, qI S (10000030 + 1) k = (([69] : List Int32)).getD k 0 := (t 15 (by decide)).2.2
    unfold plS
    rw [n1]
    simp only [plc, l1]
    decide
  have h16 : plS S 10000032 = 0 := by
    have n1 : qN S (10000032 + 1) = 0 := (t 16 (by decide)).2.1
    have l1 : ∀ k : Nat, qI S (10000032 + 1) k = (([] : List Int32)).getD k 0 := (t 16 (by decide)).2.2
    unfold plS
    rw [n1]
    rfl
  have h17 : plS S 10000034 = 1 := by
    have n1 : qN S (10000034 + 1) = 1 := (t 17 (by decide)).2.1
    have l1 : ∀ k : Nat, qI S (10000034 + 1) k = (([78] : List Int32)).getD k 0 := (t 17 (by decide)).2.2
    unfold plS
    rw [n1]
    simp only [plc, l1]
    decide
  exact ⟨h5, h6, h7, h8, h9, h10, h11, h12, h13, h14, h15, h16, h17⟩
theorem tx_l1 {S : MS} (t : TxI S) : (qN S 10000011 = 2 ∧ (qI S 10000011 0).toInt = 73 ∧ (qI S 10000011 1).toInt = 73) ∧ (qN S 10000013 = 2 ∧ (qI S 10000013 0).toInt = 74 ∧ (qI S 10000013 1).toInt = 74) ∧ (qN S 10000015 = 2 ∧ (qI S 10000015 0).toInt = 74 ∧ (qI S 10000015 1).toInt = 73) ∧ (qN S 10000017 = 1 ∧ (qI S 10000017 0).toInt = 73) ∧ (qN S 10000019 = 2 ∧ (qI S 10000019 0).toInt = 65 ∧ (qI S 10000019 1).toInt = 73) ∧ (qN S 10000021 = 3 ∧ (qI S 10000021 0).toInt = 65 ∧ (qI S 10000021 1).toInt = 73 ∧ (qI S 10000021 2).toInt = 73) ∧ (qN S 10000023 = 1 ∧ (qI S 10000023 0).toInt = 74) ∧ (qN S 10000025 = 1 ∧ (qI S 10000025 0).toInt = 82) ∧ (qN S 10000027 = 2 ∧ (qI S 10000027 0).toInt = 82 ∧ (qI S 10000027 1).toInt = 82) ∧ (qN S 10000029 = 1 ∧ (qI S 10000029 0).toInt = 65) ∧ (qN S 10000031 = 1 ∧ (qI S 10000031 0).toInt = 69) ∧ (qN S 10000033 = 0) ∧ (qN S 10000035 = 1 ∧ (qI S 10000035 0).toInt = 78) := by
  have n5 : qN S 10000011 = 2 := (t 5 (by decide)).2.1
  have l5 : ∀ k : Nat, qI S 10000011 k = (([73, 73] : List Int32)).getD k 0 := (t 5 (by decide)).2.2
  have n6 : qN S 10000013 = 2 := (t 6 (by decide)).2.1
  have l6 : ∀ k : Nat, qI S 10000013 k = (([74, 74] : List Int32)).getD k 0 := (t 6 (by decide)).2.2
  have n7 : qN S 10000015 = 2 := (t 7 (by decide)).2.1
  have l7 : ∀ k : Nat, qI S 10000015 k = (([74, 73] : List Int32)).getD k 0 := (t 7 (by decide)).2.2
  have n8 : qN S 10000017 = 1 := (t 8 (by decide)).2.1
  have l8 : ∀ k : Nat, qI S 10000017 k = (([73] : List Int32)).getD k 0 := (t 8 (by decide)).2.2
  have n9 : qN S 10000019 = 2 := (t 9 (by decide)).2.1
  have l9 : ∀ k : Nat, qI S 10000019 k = (([65, 73] : List Int32)).getD k 0 := (t 9 (by decide)).2.2
  have n10 : qN S 10000021 = 3 := (t 10 (by decide)).2.1
  have l10 : ∀ k : Nat, qI S 10000021 k = (([65, 73, 73] : List Int32)).getD k 0 := (t 10 (by decide)).2.2
  have n11 : qN S 10000023 = 1 := (t 11 (by decide)).2.1
  have l11 : ∀ k : Nat, qI S 10000023 k = (([74] : List Int32)).getD k 0 := (t 11 (by decide)).2.2
  have n12 : qN S 10000025 = 1 := (t 12 (by decide)).2.1
  have l12 : ∀ k : Nat, qI S 10000025 k = (([82] : List Int32)).getD k 0 := (t 12 (by decide)).2.2
  have n13 : qN S 10000027 = 2 := (t 13 (by decide)).2.1
  have l13 : ∀ k : Nat, qI S 10000027 k = (([82, 82] : List Int32)).getD k 0 := (t 13 (by decide)).2.2
  have n14 : qN S 10000029 = 1 := (t 14 (by decide)).2.1
  have l14 : ∀ k : Nat, qI S 10000029 k = (([65] : List Int32)).getD k 0 := (t 14 (by decide)).2.2
  have n15 : qN S 10000031 = 1 := (t 15 (by decide)).2.1
  have l15 : ∀ k : Nat, qI S 10000031 k = (([69] : List Int32)).getD k 0 := (t 15 (by decide)).2.2
  have n16 : qN S 10000033 = 0 := (t 16 (by decide)).2.1
  have l16 : ∀ k : Nat, qI S 10000033 k = (([] : List Int32)).getD k 0 := (t 16 (by decide)).2.2
  have n17 : qN S 10000035 = 1 := (t 17 (by decide)).2.1
  have l17 : ∀ k : Nat, qI S 10000035 k = (([78] : List Int32)).getD k 0 := (t 17 (by decide)).2.2
  exact ⟨⟨n5, by rw [l5]; rfl, by rw [l5]; rfl⟩, ⟨n6, by rw [l6]; rfl, by rw [l6]; rfl⟩, ⟨n7, by rw [l7]; rfl, by rw [l7]; rfl⟩, ⟨n8, by rw [l8]; rfl⟩, ⟨n9, by rw [l9]; rfl, by rw [l9]; rfl⟩, ⟨n10, by rw [l10]; rfl, by rw [l10]; rfl, by rw [l10]; rfl⟩, ⟨n11, by rw [l11]; rfl⟩, ⟨n12, by rw [l12]; rfl⟩, ⟨n13, by rw [l13]; rfl, by rw [l13]; rfl⟩, ⟨n14, by rw [l14]; rfl⟩, ⟨n15, by rw [l15]; rfl⟩, n16, ⟨n17, by rw [l17]; rfl⟩⟩
theorem tg_0 {S : MS} {x : Int32} (q : (f_op S x).toInt = 0) (t : TxI S) : (f_takesOf S x = 10000032 ∧ f_givesOf S x = 10000032) ∧ tkV S x = 0 ∧ gvV S x = 0 := by
  have nm : ¬ 0 < (f_moved S (f_op S x)).toInt := fun z => by have := mv_iff.mp z; omega
  have a1 : f_takesOf S x = 10000032 := by
    unfold f_takesOf f_takesOf_J18 f_takesOf_J31 f_takesOf_J47 f_takesOf_J75 f_takesOf_J93 f_takesOf_J111
    rw [if_pos (by omega), if_pos (by omega), if_pos (by omega), if_pos (by omega), if_pos (by omega), if_neg (by omega), if_neg (by omega), if_neg (by omega), if_neg (by omega), if_neg (by omega), if_neg (by omega), if_neg (by omega), if_neg (by omega), if_neg (by omega), if_neg (by omega), if_neg (by omega), if_neg (by omega), if_neg (by omega), if_neg (by omega), if_neg (by omega), if_neg (by omega), if_neg (by omega), if_neg (by omega), if_neg (by omega), if_neg (by omega), if_neg (by omega), if_neg (by omega), if_neg (by omega), if_neg (by omega), if_neg (by omega), if_neg (by omega), if_neg (by omega)]
  have a2 : f_givesOf S x = 10000032 := by
    unfold f_givesOf f_givesOf_J18 f_givesOf_J31 f_givesOf_J47
    rw [if_pos (by omega), if_pos (by omega), if_neg (by omega), if_neg (by omega), if_neg (by omega), if_neg (by omega), if_neg (by omega), if_neg (by omega), if_neg (by omega), if_neg (by omega), if_neg (by omega), if_neg (by omega), if_neg (by omega), if_neg (by omega), if_neg (by omega), if_neg (by omega), if_neg (by omega), if_neg (by omega), if_neg (by omega)]
  have p := tx_pl t
  refine ⟨⟨a1, a2⟩, ?_, ?_⟩
  · unfold tkV; rw [if_neg nm, a1]; exact p.2.2.2.2.2.2.2.2.2.2.2.1
  · unfold gvV; rw [if_neg nm, a2]; exact p.2.2.2.2.2.2.2.2.2.2.2.1
theorem tg_1 {S : MS} {x : Int32} (q : (f_op S x).toInt = 1) (t : TxI S) : (f_takesOf S x = 10000032 ∧ f_givesOf S x = 10000034) ∧ tkV S x = 0 ∧ gvV S x = 1 := by
  have nm : ¬ 0 < (f_moved S (f_op S x)).toInt := fun z => by have := mv_iff.mp z; omega
  have a1 : f_takesOf S x = 10000032 := by
    unfold f_takesOf f_takesOf_J18 f_takesOf_J31 f_takesOf_J47 f_takesOf_J75 f_takesOf_J93 f_takesOf_J111
    rw [if_pos (by omega), if_pos (by omega), if_pos (by omega), if_pos (by omega), if_pos (by omega), if_neg (by omega), if_neg (by omega), if_neg (by omega), if_neg (by omega), if_neg (by omega), if_neg (by omega), if_neg (by omega), if_neg (by omega), if_neg (by omega), if_neg (by omega), if_neg (by omega), if_neg (by omega), if_neg (by omega), if_neg (by omega), if_neg (by omega), if_neg (by omega), if_neg (by omega), if_neg (by omega), if_neg (by omega), if_neg (by omega), if_neg (by omega), if_neg (by omega), if_neg (by omega), if_neg (by omega), if_neg (by omega), if_neg (by omega), if_neg (by omega)]
  have a2 : f_givesOf S x = 10000034 := by
    unfold f_givesOf f_givesOf_J18 f_givesOf_J31 f_givesOf_J47
    rw [if_pos (by omega), if_pos (by omega), if_pos (by omega)]
  have p := tx_pl t
  refine ⟨⟨a1, a2⟩, ?_, ?_⟩
  · unfold tkV; rw [if_neg nm, a1]; exact p.2.2.2.2.2.2.2.2.2.2.2.1
  · unfold gvV; rw [if_neg nm, a2]; exact p.2.2.2.2.2.2.2.2.2.2.2.2
theorem tg_18 {S : MS} {x : Int32} (q : (f_op S x).toInt = 18) (t : TxI S) : (f_takesOf S x = 10000032 ∧ f_givesOf S x = 10000016) ∧ tkV S x = 0 ∧ gvV S x = 1 := by
  have nm : ¬ 0 < (f_moved S (f_op S x)).toInt := fun z => by have := mv_iff.mp z; omega
  have a1 : f_takesOf S x = 10000032 := by
    unfold f_takesOf f_takesOf_J18 f_takesOf_J31 f_takesOf_J47 f_takesOf_J75 f_takesOf_J93 f_takesOf_J111
    rw [if_pos (by omega), if_pos (by omega), if_pos (by omega), if_pos (by omega), if_pos (by omega), if_neg (by omega), if_neg (by omega), if_neg (by omega), if_neg (by omega), if_neg (by omega), if_neg (by omega), if_neg (by omega), if_neg (by omega), if_neg (by omega), if_neg (by omega), if_neg (by omega), if_neg (by omega), if_neg (by omega), if_neg (by omega), if_neg (by omega), if_neg (by omega), if_neg (by omega), if_neg (by omega), if_neg (by omega), if_neg (by omega), if_neg (by omega), if_neg (by omega), if_neg (by omega), if_neg (by omega), if_neg (by omega), if_neg (by omega), if_neg (by omega)]
  have a2 : f_givesOf S x = 10000016 := by
    unfold f_givesOf f_givesOf_J18 f_givesOf_J31 f_givesOf_J47
    rw [if_pos (by omega), if_pos (by omega), if_neg (by omega), if_pos (by omega)]
  have p := tx_pl t
  refine ⟨⟨a1, a2⟩, ?_, ?_⟩
  · unfold tkV; rw [if_neg nm, a1]; exact p.2.2.2.2.2.2.2.2.2.2.2.1
  · unfold gvV; rw [if_neg nm, a2]; exact p.2.2.2.1
theorem tg_20 {S : MS} {x : Int32} (q : (f_op S x).toInt = 20) (t : TxI S) : (f_takesOf S x = 10000032 ∧ f_givesOf S x = 10000022) ∧ tkV S x = 0 ∧ gvV S x = 2 := by
  have nm : ¬ 0 < (f_moved S (f_op S x)).toInt := fun z => by have := mv_iff.mp z; omega
  have a1 : f_takesOf S x = 10000032 := by
    unfold f_takesOf f_takesOf_J18 f_takesOf_J31 f_takesOf_J47 f_takesOf_J75 f_takesOf_J93 f_takesOf_J111
    rw [if_pos (by omega), if_pos (by omega), if_pos (by omega), if_pos (by omega), if_pos (by omega), if_neg (by omega), if_neg (by omega), if_neg (by omega), if_neg (by omega), if_neg (by omega), if_neg (by omega), if_neg (by omega), if_neg (by omega), if_neg (by omega), if_neg (by omega), if_neg (by omega), if_neg (by omega), if_neg (by omega), if_neg (by omega), if_neg (by omega), if_neg (by omega), if_neg (by omega), if_neg (by omega), if_neg (by omega), if_neg (by omega), if_neg (by omega), if_neg (by omega), if_neg (by omega), if_neg (by omega), if_neg (by omega), if_neg (by omega), if_neg (by omega)]
  have a2 : f_givesOf S x = 10000022 := by
    unfold f_givesOf f_givesOf_J18 f_givesOf_J31 f_givesOf_J47
    rw [if_pos (by omega), if_pos (by omega), if_neg (by omega), if_neg (by omega), if_pos (by omega)]
  have p := tx_pl t
  refine ⟨⟨a1, a2⟩, ?_, ?_⟩
  · unfold tkV; rw [if_neg nm, a1]; exact p.2.2.2.2.2.2.2.2.2.2.2.1
  · unfold gvV; rw [if_neg nm, a2]; exact p.2.2.2.2.2.2.1
theorem tg_21 {S : MS} {x : Int32} (q : (f_op S x).toInt = 21) (t : TxI S) : (f_takesOf S x = 10000032 ∧ f_givesOf S x = 10000016) ∧ tkV S x = 0 ∧ gvV S x = 1 := by
  have nm : ¬ 0 < (f_moved S (f_op S x)).toInt := fun z => by have := mv_iff.mp z; omega
  have a1 : f_takesOf S x = 10000032 := by
    unfold f_takesOf f_takesOf_J18 f_takesOf_J31 f_takesOf_J47 f_takesOf_J75 f_takesOf_J93 f_takesOf_J111
    rw [if_pos (by omega), if_pos (by omega), if_pos (by omega), if_pos (by omega), if_pos (by omega), if_neg (by omega), if_neg (by omega), if_neg (by omega), if_neg (by omega), if_neg (by omega), if_neg (by omega), if_neg (by omega), if_neg (by omega), if_neg (by omega), if_neg (by omega), if_neg (by omega), if_neg (by omega), if_neg (by omega), if_neg (by omega), if_neg (by omega), if_neg (by omega), if_neg (by omega), if_neg (by omega), if_neg (by omega), if_neg (by omega), if_neg (by omega), if_neg (by omega), if_neg (by omega), if_neg (by omega), if_neg (by omega), if_neg (by omega), if_neg (by omega)]
  have a2 : f_givesOf S x = 10000016 := by
    unfold f_givesOf f_givesOf_J18 f_givesOf_J31 f_givesOf_J47
    rw [if_pos (by omega), if_pos (by omega), if_neg (by omega), if_neg (by omega), if_neg (by omega), if_pos (by omega)]
  have p := tx_pl t
  refine ⟨⟨a1, a2⟩, ?_, ?_⟩
  · unfold tkV; rw [if_neg nm, a1]; exact p.2.2.2.2.2.2.2.2.2.2.2.1
  · unfold gvV; rw [if_neg nm, a2]; exact p.2.2.2.1
theorem tg_22 {S : MS} {x : Int32} (q : (f_op S x).toInt = 22) (t : TxI S) : (f_takesOf S x = 10000032 ∧ f_givesOf S x = 10000022) ∧ tkV S x = 0 ∧ gvV S x = 2 := by
  have nm : ¬ 0 < (f_moved S (f_op S x)).toInt := fun z => by have := mv_iff.mp z; omega
  have a1 : f_takesOf S x = 10000032 := by
    unfold f_takesOf f_takesOf_J18 f_takesOf_J31 f_takesOf_J47 f_takesOf_J75 f_takesOf_J93 f_takesOf_J111
    rw [if_pos (by omega), if_pos (by omega), if_pos (by omega), if_pos (by omega), if_pos (by omega), if_neg (by omega), if_neg (by omega), if_neg (by omega), if_neg (by omega), if_neg (by omega), if_neg (by omega), if_neg (by omega), if_neg (by omega), if_neg (by omega), if_neg (by omega), if_neg (by omega), if_neg (by omega), if_neg (by omega), if_neg (by omega), if_neg (by omega), if_neg (by omega), if_neg (by omega), if_neg (by omega), if_neg (by omega), if_neg (by omega), if_neg (by omega), if_neg (by omega), if_neg (by omega), if_neg (by omega), if_neg (by omega), if_neg (by omega), if_neg (by omega)]
  have a2 : f_givesOf S x = 10000022 := by
    unfold f_givesOf f_givesOf_J18 f_givesOf_J31 f_givesOf_J47
    rw [if_pos (by omega), if_pos (by omega), if_neg (by omega), if_neg (by omega), if_neg (by omega), if_neg (by omega), if_pos (by omega)]
  have p := tx_pl t
  refine ⟨⟨a1, a2⟩, ?_, ?_⟩
  · unfold tkV; rw [if_neg nm, a1]; exact p.2.2.2.2.2.2.2.2.2.2.2.1
  · unfold gvV; rw [if_neg nm, a2]; exact p.2.2.2.2.2.2.1
theorem tg_25 {S : MS} {x : Int32} (q : (f_op S x).toInt = 25) (t : TxI S) : (f_takesOf S x = 10000032 ∧ f_givesOf S x = 10000024) ∧ tkV S x = 0 ∧ gvV S x = 1 := by
  have nm : ¬ 0 < (f_moved S (f_op S x)).toInt := fun z => by have := mv_iff.mp z; omega
  have a1 : f_takesOf S x = 10000032 := by
    unfold f_takesOf f_takesOf_J18 f_takesOf_J31 f_takesOf_J47 f_takesOf_J75 f_takesOf_J93 f_takesOf_J111
    rw [if_pos (by omega), if_pos (by omega), if_pos (by omega), if_pos (by omega), if_pos (by omega), if_neg (by omega), if_neg (by omega), if_neg (by omega), if_neg (by omega), if_neg (by omega), if_neg (by omega), if_neg (by omega), if_neg (by omega), if_neg (by omega), if_neg (by omega), if_neg (by omega), if_neg (by omega), if_neg (by omega), if_neg (by omega), if_neg (by omega), if_neg (by omega), if_neg (by omega), if_neg (by omega), if_neg (by omega), if_neg (by omega), if_neg (by omega), if_neg (by omega), if_neg (by omega), if_neg (by omega), if_neg (by omega), if_neg (by omega), if_neg (by omega)]
  have a2 : f_givesOf S x = 10000024 := by
    unfold f_givesOf f_givesOf_J18 f_givesOf_J31 f_givesOf_J47
    rw [if_pos (by omega), if_pos (by omega), if_neg (by omega), if_neg (by omega), if_neg (by omega), if_neg (by omega), if_neg (by omega), if_pos (by omega)]
  have p := tx_pl t
  refine ⟨⟨a1, a2⟩, ?_, ?_⟩
  · unfold tkV; rw [if_neg nm, a1]; exact p.2.2.2.2.2.2.2.2.2.2.2.1
  · unfold gvV; rw [if_neg nm, a2]; exact p.2.2.2.2.2.2.2.1
theorem tg_46 {S : MS} {x : Int32} (q : (f_op S x).toInt = 46) (t : TxI S) : (f_takesOf S x = 10000018 ∧ f_givesOf S x = 10000016) ∧ tkV S x = 2 ∧ gvV S x = 1 := by
  have nm : ¬ 0 < (f_moved S (f_op S x)).toInt := fun z => by have := mv_iff.mp z; omega
  have a1 : f_takesOf S x = 10000018 := by
    unfold f_takesOf f_takesOf_J18 f_takesOf_J31 f_takesOf_J47 f_takesOf_J75 f_takesOf_J93 f_takesOf_J111
    rw [if_pos (by omega), if_pos (by omega), if_pos (by omega), if_pos (by omega), if_pos (by omega), if_pos (by omega)]
  have a2 : f_givesOf S x = 10000016 := by
    unfold f_givesOf f_givesOf_J18 f_givesOf_J31 f_givesOf_J47
    rw [if_pos (by omega), if_pos (by omega), if_neg (by omega), if_neg (by omega), if_neg (by omega), if_neg (by omega), if_neg (by omega), if_neg (by omega), if_pos (by omega)]
  have p := tx_pl t
  refine ⟨⟨a1, a2⟩, ?_, ?_⟩
  · unfold tkV; rw [if_neg nm, a1]; exact p.2.2.2.2.1
  · unfold gvV; rw [if_neg nm, a2]; exact p.2.2.2.1
theorem tg_54 {S : MS} {x : Int32} (q : (f_op S x).toInt = 54) (t : TxI S) : (f_takesOf S x = 10000016 ∧ f_givesOf S x = 10000032) ∧ tkV S x = 1 ∧ gvV S x = 0 := by
  have nm : ¬ 0 < (f_moved S (f_op S x)).toInt := fun z => by have := mv_iff.mp z; omega
  have a1 : f_takesOf S x = 10000016 := by
    unfold f_takesOf f_takesOf_J18 f_takesOf_J31 f_takesOf_J47 f_takesOf_J75 f_takesOf_J93 f_takesOf_J111
    rw [if_pos (by omega), if_pos (by omega), if_pos (by omega), if_pos (by omega), if_pos (by omega), if_neg (by omega), if_pos (by omega)]
  have a2 : f_givesOf S x = 10000032 := by
    unfold f_givesOf f_givesOf_J18 f_givesOf_J31 f_givesOf_J47
    rw [if_pos (by omega), if_pos (by omega), if_neg (by omega), if_neg (by omega), if_neg (by omega), if_neg (by omega), if_neg (by omega), if_neg (by omega), if_neg (by omega), if_neg (by omega), if_neg (by omega), if_neg (by omega), if_neg (by omega), if_neg (by omega), if_neg (by omega), if_neg (by omega), if_neg (by omega), if_neg (by omega), if_neg (by omega)]
  have p := tx_pl t
  refine ⟨⟨a1, a2⟩, ?_, ?_⟩
  · unfold tkV; rw [if_neg nm, a1]; exact p.2.2.2.1
  · unfold gvV; rw [if_neg nm, a2]; exact p.2.2.2.2.2.2.2.2.2.2.2.1
theorem tg_55 {S : MS} {x : Int32} (q : (f_op S x).toInt = 55) (t : TxI S) : (f_takesOf S x = 10000022 ∧ f_givesOf S x = 10000032) ∧ tkV S x = 2 ∧ gvV S x = 0 := by
  have nm : ¬ 0 < (f_moved S (f_op S x)).toInt := fun z => by have := mv_iff.mp z; omega
  have a1 : f_takesOf S x = 10000022 := by
    unfold f_takesOf f_takesOf_J18 f_takesOf_J31 f_takesOf_J47 f_takesOf_J75 f_takesOf_J93 f_takesOf_J111
    rw [if_pos (by omega), if_pos (by omega), if_pos (by omega), if_pos (by omega), if_pos (by omega), if_neg (by omega), if_neg (by omega), if_pos (by omega)]
  have a2 : f_givesOf S x = 10000032 := by
    unfold f_givesOf f_givesOf_J18 f_givesOf_J31 f_givesOf_J47
    rw [if_pos (by omega), if_pos (by omega), if_neg (by omega), if_neg (by omega), if_neg (by omega), if_neg (by omega), if_neg (by omega), if_neg (by omega), if_neg (by omega), if_neg (by omega), if_neg (by omega), if_neg (by omega), if_neg (by omega), if_neg (by omega), if_neg (by omega), if_neg (by omega), if_neg (by omega), if_neg (by omega), if_neg (by omega)]
  have p := tx_pl t
  refine ⟨⟨a1, a2⟩, ?_, ?_⟩
  · unfold tkV; rw [if_neg nm, a1]; exact p.2.2.2.2.2.2.1
  · unfold gvV; rw [if_neg nm, a2]; exact p.2.2.2.2.2.2.2.2.2.2.2.1
theorem tg_58 {S : MS} {x : Int32} (q : (f_op S x).toInt = 58) (t : TxI S) : (f_takesOf S x = 10000024 ∧ f_givesOf S x = 10000032) ∧ tkV S x = 1 ∧ gvV S x = 0 := by
  have nm : ¬ 0 < (f_moved S (f_op S x)).toInt := fun z => by have := mv_iff.mp z; omega
  have a1 : f_takesOf S x = 10000024 := by
    unfold f_takesOf f_takesOf_J18 f_takesOf_J31 f_takesOf_J47 f_takesOf_J75 f_takesOf_J93 f_takesOf_J111
    rw [if_pos (by omega), if_pos (by omega), if_pos (by omega), if_pos (by omega), if_pos (by omega), if_neg (by omega), if_neg (by omega), if_neg (by omega), if_pos (by omega)]
  have a2 : f_givesOf S x = 10000032 := by
    unfold f_givesOf f_givesOf_J18 f_givesOf_J31 f_givesOf_J47
    rw [if_pos (by omega), if_pos (by omega), if_neg (by omega), if_neg (by omega), if_neg (by omega), if_neg (by omega), if_neg (by omega), if_neg (by omega), if_neg (by omega), if_neg (by omega), if_neg (by omega), if_neg (by omega), if_neg (by omega), if_neg (by omega), if_neg (by omega), if_neg (by omega), if_neg (by omega), if_neg (by omega), if_neg (by omega)]
  have p := tx_pl t
  refine ⟨⟨a1, a2⟩, ?_, ?_⟩
  · unfold tkV; rw [if_neg nm, a1]; exact p.2.2.2.2.2.2.2.1
  · unfold gvV; rw [if_neg nm, a2]; exact p.2.2.2.2.2.2.2.2.2.2.2.1
theorem tg_79 {S : MS} {x : Int32} (q : (f_op S x).toInt = 79) (t : TxI S) : (f_takesOf S x = 10000020 ∧ f_givesOf S x = 10000032) ∧ tkV S x = 3 ∧ gvV S x = 0 := by
  have nm : ¬ 0 < (f_moved S (f_op S x)).toInt := fun z => by have := mv_iff.mp z; omega
  have a1 : f_takesOf S x = 10000020 := by
    unfold f_takesOf f_takesOf_J18 f_takesOf_J31 f_takesOf_J47 f_takesOf_J75 f_takesOf_J93 f_takesOf_J111
    rw [if_pos (by omega), if_pos (by omega), if_pos (by omega), if_pos (by omega), if_pos (by omega), if_neg (by omega), if_neg (by omega), if_neg (by omega), if_neg (by omega), if_pos (by omega)]
  have a2 : f_givesOf S x = 10000032 := by
    unfold f_givesOf f_givesOf_J18 f_givesOf_J31 f_givesOf_J47
    rw [if_pos (by omega), if_pos (by omega), if_neg (by omega), if_neg (by omega), if_neg (by omega), if_neg (by omega), if_neg (by omega), if_neg (by omega), if_neg (by omega), if_neg (by omega), if_neg (by omega), if_neg (by omega), if_neg (by omega), if_neg (by omega), if_neg (by omega), if_neg (by omega), if_neg (by omega), if_neg (by omega), if_neg (by omega)]
  have p := tx_pl t
  refine ⟨⟨a1, a2⟩, ?_, ?_⟩
  · unfold tkV; rw [if_neg nm, a1]; exact p.2.2.2.2.2.1
  · unfold gvV; rw [if_neg nm, a2]; exact p.2.2.2.2.2.2.2.2.2.2.2.1
theorem tg_96 {S : MS} {x : Int32} (q : (f_op S x).toInt = 96) (t : TxI S) : (f_takesOf S x = 10000010 ∧ f_givesOf S x = 10000016) ∧ tkV S x = 2 ∧ gvV S x = 1 := by
  have nm : ¬ 0 < (f_moved S (f_op S x)).toInt := fun z => by have := mv_iff.mp z; omega
  have e0 : f_op S x = 96 := Int32.toInt_inj.mp (by rw [q]; rfl)
  have e2 : (f_op S x - f_op S x / (2 : Int32) * (2 : Int32)).toInt = 0 := by rw [e0]; decide
  have a1 : f_takesOf S x = 10000010 := by
    unfold f_takesOf f_takesOf_J18 f_takesOf_J31 f_takesOf_J47 f_takesOf_J75 f_takesOf_J93 f_takesOf_J111
    rw [if_neg (by omega), if_pos (by omega), if_pos (by exact e2)]
  have a2 : f_givesOf S x = 10000016 := by
    unfold f_givesOf f_givesOf_J18 f_givesOf_J31 f_givesOf_J47
    rw [if_neg (by omega), if_pos (by omega), if_pos (by exact e2)]
  have p := tx_pl t
  refine ⟨⟨a1, a2⟩, ?_, ?_⟩
  · unfold tkV; rw [if_neg nm, a1]; exact p.1
  · unfold gvV; rw [if_neg nm, a2]; exact p.2.2.2.1
theorem tg_97 {S : MS} {x : Int32} (q : (f_op S x).toInt = 97) (t : TxI S) : (f_takesOf S x = 10000012 ∧ f_givesOf S x = 10000022) ∧ tkV S x = 4 ∧ gvV S x = 2 := by
  have nm : ¬ 0 < (f_moved S (f_op S x)).toInt := fun z => by have := mv_iff.mp z; omega
  have e0 : f_op S x = 97 := Int32.toInt_inj.mp (by rw [q]; rfl)
  have e2 : ¬ (f_op S x - f_op S x / (2 : Int32) * (2 : Int32)).toInt = 0 := by rw [e0]; decide
  have a1 : f_takesOf S x = 10000012 := by
    unfold f_takesOf f_takesOf_J18 f_takesOf_J31 f_takesOf_J47 f_takesOf_J75 f_takesOf_J93 f_takesOf_J111
    rw [if_neg (by omega), if_pos (by omega), if_neg (by exact e2)]
  have a2 : f_givesOf S x = 10000022 := by
    unfold f_givesOf f_givesOf_J18 f_givesOf_J31 f_givesOf_J47
    rw [if_neg (by omega), if_pos (by omega), if_neg (by exact e2)]
  have p := tx_pl t
  refine ⟨⟨a1, a2⟩, ?_, ?_⟩
  · unfold tkV; rw [if_neg nm, a1]; exact p.2.1
  · unfold gvV; rw [if_neg nm, a2]; exact p.2.2.2.2.2.2.1
theorem tg_100 {S : MS} {x : Int32} (q : (f_op S x).toInt = 100) (t : TxI S) : (f_takesOf S x = 10000010 ∧ f_givesOf S x = 10000016) ∧ tkV S x = 2 ∧ gvV S x = 1 := by
  have nm : ¬ 0 < (f_moved S (f_op S x)).toInt := fun z => by have := mv_iff.mp z; omega
  have e0 : f_op S x = 100 := Int32.toInt_inj.mp (by rw [q]; rfl)
  have e2 : (f_op S x - f_op S x / (2 : Int32) * (2 : Int32)).toInt = 0 := by rw [e0]; decide
  have a1 : f_takesOf S x = 10000010 := by
    unfold f_takesOf f_takesOf_J18 f_takesOf_J31 f_takesOf_J47 f_takesOf_J75 f_takesOf_J93 f_takesOf_J111
    rw [if_neg (by omega), if_pos (by omega), if_pos (by exact e2)]
  have a2 : f_givesOf S x = 10000016 := by
    unfold f_givesOf f_givesOf_J18 f_givesOf_J31 f_givesOf_J47
    rw [if_neg (by omega), if_pos (by omega), if_pos (by exact e2)]
  have p := tx_pl t
  refine ⟨⟨a1, a2⟩, ?_, ?_⟩
  · unfold tkV; rw [if_neg nm, a1]; exact p.1
  · unfold gvV; rw [if_neg nm, a2]; exact p.2.2.2.1
theorem tg_101 {S : MS} {x : Int32} (q : (f_op S x).toInt = 101) (t : TxI S) : (f_takesOf S x = 10000012 ∧ f_givesOf S x = 10000022) ∧ tkV S x = 4 ∧ gvV S x = 2 := by
  have nm : ¬ 0 < (f_moved S (f_op S x)).toInt := fun z => by have := mv_iff.mp z; omega
  have e0 : f_op S x = 101 := Int32.toInt_inj.mp (by rw [q]; rfl)
  have e2 : ¬ (f_op S x - f_op S x / (2 : Int32) * (2 : Int32)).toInt = 0 := by rw [e0]; decide
  have a1 : f_takesOf S x = 10000012 := by
    unfold f_takesOf f_takesOf_J18 f_takesOf_J31 f_takesOf_J47 f_takesOf_J75 f_takesOf_J93 f_takesOf_J111
    rw [if_neg (by omega), if_pos (by omega), if_neg (by exact e2)]
  have a2 : f_givesOf S x = 10000022 := by
    unfold f_givesOf f_givesOf_J18 f_givesOf_J31 f_givesOf_J47
    rw [if_neg (by omega), if_pos (by omega), if_neg (by exact e2)]
  have p := tx_pl t
  refine ⟨⟨a1, a2⟩, ?_, ?_⟩
  · unfold tkV; rw [if_neg nm, a1]; exact p.2.1
  · unfold gvV; rw [if_neg nm, a2]; exact p.2.2.2.2.2.2.1
theorem tg_104 {S : MS} {x : Int32} (q : (f_op S x).toInt = 104) (t : TxI S) : (f_takesOf S x = 10000010 ∧ f_givesOf S x = 10000016) ∧ tkV S x = 2 ∧ gvV S x = 1 := by
  have nm : ¬ 0 < (f_moved S (f_op S x)).toInt := fun z => by have := mv_iff.mp z; omega
  have e0 : f_op S x = 104 := Int32.toInt_inj.mp (by rw [q]; rfl)
  have e2 : (f_op S x - f_op S x / (2 : Int32) * (2 : Int32)).toInt = 0 := by rw [e0]; decide
  have a1 : f_takesOf S x = 10000010 := by
    unfold f_takesOf f_takesOf_J18 f_takesOf_J31 f_takesOf_J47 f_takesOf_J75 f_takesOf_J93 f_takesOf_J111
    rw [if_neg (by omega), if_pos (by omega), if_pos (by exact e2)]
  have a2 : f_givesOf S x = 10000016 := by
    unfold f_givesOf f_givesOf_J18 f_givesOf_J31 f_givesOf_J47
    rw [if_neg (by omega), if_pos (by omega), if_pos (by exact e2)]
  have p := tx_pl t
  refine ⟨⟨a1, a2⟩, ?_, ?_⟩
  · unfold tkV; rw [if_neg nm, a1]; exact p.1
  · unfold gvV; rw [if_neg nm, a2]; exact p.2.2.2.1
theorem tg_105 {S : MS} {x : Int32} (q : (f_op S x).toInt = 105) (t : TxI S) : (f_takesOf S x = 10000012 ∧ f_givesOf S x = 10000022) ∧ tkV S x = 4 ∧ gvV S x = 2 := by
  have nm : ¬ 0 < (f_moved S (f_op S x)).toInt := fun z => by have := mv_iff.mp z; omega
  have e0 : f_op S x = 105 := Int32.toInt_inj.mp (by rw [q]; rfl)
  have e2 : ¬ (f_op S x - f_op S x / (2 : Int32) * (2 : Int32)).toInt = 0 := by rw [e0]; decide
  have a1 : f_takesOf S x = 10000012 := by
    unfold f_takesOf f_takesOf_J18 f_takesOf_J31 f_takesOf_J47 f_takesOf_J75 f_takesOf_J93 f_takesOf_J111
    rw [if_neg (by omega), if_pos (by omega), if_neg (by exact e2)]
  have a2 : f_givesOf S x = 10000022 := by
    unfold f_givesOf f_givesOf_J18 f_givesOf_J31 f_givesOf_J47
    rw [if_neg (by omega), if_pos (by omega), if_neg (by exact e2)]
  have p := tx_pl t
  refine ⟨⟨a1, a2⟩, ?_, ?_⟩
  · unfold tkV; rw [if_neg nm, a1]; exact p.2.1
  · unfold gvV; rw [if_neg nm, a2]; exact p.2.2.2.2.2.2.1
theorem tg_108 {S : MS} {x : Int32} (q : (f_op S x).toInt = 108) (t : TxI S) : (f_takesOf S x = 10000010 ∧ f_givesOf S x = 10000016) ∧ tkV S x = 2 ∧ gvV S x = 1 := by
  have nm : ¬ 0 < (f_moved S (f_op S x)).toInt := fun z => by have := mv_iff.mp z; omega
  have e0 : f_op S x = 108 := Int32.toInt_inj.mp (by rw [q]; rfl)
  have e2 : (f_op S x - f_op S x / (2 : Int32) * (2 : Int32)).toInt = 0 := by rw [e0]; decide
  have a1 : f_takesOf S x = 10000010 := by
    unfold f_takesOf f_takesOf_J18 f_takesOf_J31 f_takesOf_J47 f_takesOf_J75 f_takesOf_J93 f_takesOf_J111
    rw [if_neg (by omega), if_pos (by omega), if_pos (by exact e2)]
  have a2 : f_givesOf S x = 10000016 := by
    unfold f_givesOf f_givesOf_J18 f_givesOf_J31 f_givesOf_J47
    rw [if_neg (by omega), if_pos (by omega), if_pos (by exact e2)]
  have p := tx_pl t
  refine ⟨⟨a1, a2⟩, ?_, ?_⟩
  · unfold tkV; rw [if_neg nm, a1]; exact p.1
  · unfold gvV; rw [if_neg nm, a2]; exact p.2.2.2.1
theorem tg_109 {S : MS} {x : Int32} (q : (f_op S x).toInt = 109) (t : TxI S) : (f_takesOf S x = 10000012 ∧ f_givesOf S x = 10000022) ∧ tkV S x = 4 ∧ gvV S x = 2 := by
  have nm : ¬ 0 < (f_moved S (f_op S x)).toInt := fun z => by have := mv_iff.mp z; omega
  have e0 : f_op S x = 109 := Int32.toInt_inj.mp (by rw [q]; rfl)
  have e2 : ¬ (f_op S x - f_op S x / (2 : Int32) * (2 : Int32)).toInt = 0 := by rw [e0]; decide
  have a1 : f_takesOf S x = 10000012 := by
    unfold f_takesOf f_takesOf_J18 f_takesOf_J31 f_takesOf_J47 f_takesOf_J75 f_takesOf_J93 f_takesOf_J111
    rw [if_neg (by omega), if_pos (by omega), if_neg (by exact e2)]
  have a2 : f_givesOf S x = 10000022 := by
    unfold f_givesOf f_givesOf_J18 f_givesOf_J31 f_givesOf_J47
    rw [if_neg (by omega), if_pos (by omega), if_neg (by exact e2)]
  have p := tx_pl t
  refine ⟨⟨a1, a2⟩, ?_, ?_⟩
  · unfold tkV; rw [if_neg nm, a1]; exact p.2.1
  · unfold gvV; rw [if_neg nm, a2]; exact p.2.2.2.2.2.2.1
theorem tg_112 {S : MS} {x : Int32} (q : (f_op S x).toInt = 112) (t : TxI S) : (f_takesOf S x = 10000010 ∧ f_givesOf S x = 10000016) ∧ tkV S x = 2 ∧ gvV S x = 1 := by
  have nm : ¬ 0 < (f_moved S (f_op S x)).toInt := fun z => by have := mv_iff.mp z; omega
  have e0 : f_op S x = 112 := Int32.toInt_inj.mp (by rw [q]; rfl)
  have e2 : (f_op S x - f_op S x / (2 : Int32) * (2 : Int32)).toInt = 0 := by rw [e0]; decide
  have a1 : f_takesOf S x = 10000010 := by
    unfold f_takesOf f_takesOf_J18 f_takesOf_J31 f_takesOf_J47 f_takesOf_J75 f_takesOf_J93 f_takesOf_J111
    rw [if_neg (by omega), if_pos (by omega), if_pos (by exact e2)]
  have a2 : f_givesOf S x = 10000016 := by
    unfold f_givesOf f_givesOf_J18 f_givesOf_J31 f_givesOf_J47
    rw [if_neg (by omega), if_pos (by omega), if_pos (by exact e2)]
  have p := tx_pl t
  refine ⟨⟨a1, a2⟩, ?_, ?_⟩
  · unfold tkV; rw [if_neg nm, a1]; exact p.1
  · unfold gvV; rw [if_neg nm, a2]; exact p.2.2.2.1
theorem tg_113 {S : MS} {x : Int32} (q : (f_op S x).toInt = 113) (t : TxI S) : (f_takesOf S x = 10000012 ∧ f_givesOf S x = 10000022) ∧ tkV S x = 4 ∧ gvV S x = 2 := by
  have nm : ¬ 0 < (f_moved S (f_op S x)).toInt := fun z => by have := mv_iff.mp z; omega
  have e0 : f_op S x = 113 := Int32.toInt_inj.mp (by rw [q]; rfl)
  have e2 : ¬ (f_op S x - f_op S x / (2 : Int32) * (2 : Int32)).toInt = 0 := by rw [e0]; decide
  have a1 : f_takesOf S x = 10000012 := by
    unfold f_takesOf f_takesOf_J18 f_takesOf_J31 f_takesOf_J47 f_takesOf_J75 f_takesOf_J93 f_takesOf_J111
    rw [if_neg (by omega), if_pos (by omega), if_neg (by exact e2)]
  have a2 : f_givesOf S x = 10000022 := by
    unfold f_givesOf f_givesOf_J18 f_givesOf_J31 f_givesOf_J47
    rw [if_neg (by omega), if_pos (by omega), if_neg (by exact e2)]
  have p := tx_pl t
  refine ⟨⟨a1, a2⟩, ?_, ?_⟩
  · unfold tkV; rw [if_neg nm, a1]; exact p.2.1
  · unfold gvV; rw [if_neg nm, a2]; exact p.2.2.2.2.2.2.1
theorem tg_116 {S : MS} {x : Int32} (q : (f_op S x).toInt = 116) (t : TxI S) : (f_takesOf S x = 10000016 ∧ f_givesOf S x = 10000016) ∧ tkV S x = 1 ∧ gvV S x = 1 := by
  have nm : ¬ 0 < (f_moved S (f_op S x)).toInt := fun z => by have := mv_iff.mp z; omega
  have e0 : f_op S x = 116 := Int32.toInt_inj.mp (by rw [q]; rfl)
  have e2 : (f_op S x - f_op S x / (2 : Int32) * (2 : Int32)).toInt = 0 := by rw [e0]; decide
  have a1 : f_takesOf S x = 10000016 := by
    unfold f_takesOf f_takesOf_J18 f_takesOf_J31 f_takesOf_J47 f_takesOf_J75 f_takesOf_J93 f_takesOf_J111
    rw [if_neg (by omega), if_neg (by omega), if_pos (by omega), if_pos (by omega), if_pos (by omega), if_pos (by omega), if_neg (by omega), if_neg (by omega), if_neg (by omega), if_neg (by omega), if_neg (by omega), if_pos (by omega)]
  have a2 : f_givesOf S x = 10000016 := by
    unfold f_givesOf f_givesOf_J18 f_givesOf_J31 f_givesOf_J47
    rw [if_neg (by omega), if_pos (by omega), if_pos (by exact e2)]
  have p := tx_pl t
  refine ⟨⟨a1, a2⟩, ?_, ?_⟩
  · unfold tkV; rw [if_neg nm, a1]; exact p.2.2.2.1
  · unfold gvV; rw [if_neg nm, a2]; exact p.2.2.2.1
theorem tg_117 {S : MS} {x : Int32} (q : (f_op S x).toInt = 117) (t : TxI S) : (f_takesOf S x = 10000022 ∧ f_givesOf S x = 10000022) ∧ tkV S x = 2 ∧ gvV S x = 2 := by
  have nm : ¬ 0 < (f_moved S (f_op S x)).toInt := fun z => by have := mv_iff.mp z; omega
  have e0 : f_op S x = 117 := Int32.toInt_inj.mp (by rw [q]; rfl)
  have e2 : ¬ (f_op S x - f_op S x / (2 : Int32) * (2 : Int32)).toInt = 0 := by rw [e0]; decide
  have a1 : f_takesOf S x = 10000022 := by
    unfold f_takesOf f_takesOf_J18 f_takesOf_J31 f_takesOf_J47 f_takesOf_J75 f_takesOf_J93 f_takesOf_J111
    rw [if_neg (by omega), if_neg (by omega), if_pos (by omega), if_pos (by omega), if_pos (by omega), if_pos (by omega), if_neg (by omega), if_neg (by omega), if_neg (by omega), if_neg (by omega), if_neg (by omega), if_neg (by omega), if_pos (by omega)]
  have a2 : f_givesOf S x = 10000022 := by
    unfold f_givesOf f_givesOf_J18 f_givesOf_J31 f_givesOf_J47
    rw [if_neg (by omega), if_pos (by omega), if_neg (by exact e2)]
  have p := tx_pl t
  refine ⟨⟨a1, a2⟩, ?_, ?_⟩
  · unfold tkV; rw [if_neg nm, a1]; exact p.2.2.2.2.2.2.1
  · unfold gvV; rw [if_neg nm, a2]; exact p.2.2.2.2.2.2.1
theorem tg_120 {S : MS} {x : Int32} (q : (f_op S x).toInt = 120) (t : TxI S) : (f_takesOf S x = 10000010 ∧ f_givesOf S x = 10000016) ∧ tkV S x = 2 ∧ gvV S x = 1 := by
  have nm : ¬ 0 < (f_moved S (f_op S x)).toInt := fun z => by have := mv_iff.mp z; omega
  have e0 : f_op S x = 120 := Int32.toInt_inj.mp (by rw [q]; rfl)
  have e2 : (f_op S x - f_op S x / (2 : Int32) * (2 : Int32)).toInt = 0 := by rw [e0]; decide
  have a1 : f_takesOf S x = 10000010 := by
    unfold f_takesOf f_takesOf_J18 f_takesOf_J31 f_takesOf_J47 f_takesOf_J75 f_takesOf_J93 f_takesOf_J111
    rw [if_neg (by omega), if_neg (by omega), if_pos (by omega), if_neg (by omega), if_neg (by omega), if_pos (by exact e2)]
  have a2 : f_givesOf S x = 10000016 := by
    unfold f_givesOf f_givesOf_J18 f_givesOf_J31 f_givesOf_J47
    rw [if_neg (by omega), if_neg (by omega), if_neg (by omega), if_neg (by omega), if_pos (by exact e2)]
  have p := tx_pl t
  refine ⟨⟨a1, a2⟩, ?_, ?_⟩
  · unfold tkV; rw [if_neg nm, a1]; exact p.1
  · unfold gvV; rw [if_neg nm, a2]; exact p.2.2.2.1
theorem tg_121 {S : MS} {x : Int32} (q : (f_op S x).toInt = 121) (t : TxI S) : (f_takesOf S x = 10000014 ∧ f_givesOf S x = 10000022) ∧ tkV S x = 3 ∧ gvV S x = 2 := by
  have nm : ¬ 0 < (f_moved S (f_op S x)).toInt := fun z => by have := mv_iff.mp z; omega
  have e0 : f_op S x = 121 := Int32.toInt_inj.mp (by rw [q]; rfl)
  have e2 : ¬ (f_op S x - f_op S x / (2 : Int32) * (2 : Int32)).toInt = 0 := by rw [e0]; decide
  have a1 : f_takesOf S x = 10000014 := by
    unfold f_takesOf f_takesOf_J18 f_takesOf_J31 f_takesOf_J47 f_takesOf_J75 f_takesOf_J93 f_takesOf_J111
    rw [if_neg (by omega), if_neg (by omega), if_pos (by omega), if_neg (by omega), if_neg (by omega), if_neg (by exact e2)]
  have a2 : f_givesOf S x = 10000022 := by
    unfold f_givesOf f_givesOf_J18 f_givesOf_J31 f_givesOf_J47
    rw [if_neg (by omega), if_neg (by omega), if_neg (by omega), if_neg (by omega), if_neg (by exact e2)]
  have p := tx_pl t
  refine ⟨⟨a1, a2⟩, ?_, ?_⟩
  · unfold tkV; rw [if_neg nm, a1]; exact p.2.2.1
  · unfold gvV; rw [if_neg nm, a2]; exact p.2.2.2.2.2.2.1
theorem tg_122 {S : MS} {x : Int32} (q : (f_op S x).toInt = 122) (t : TxI S) : (f_takesOf S x = 10000010 ∧ f_givesOf S x = 10000016) ∧ tkV S x = 2 ∧ gvV S x = 1 := by
  have nm : ¬ 0 < (f_moved S (f_op S x)).toInt := fun z => by have := mv_iff.mp z; omega
  have e0 : f_op S x = 122 := Int32.toInt_inj.mp (by rw [q]; rfl)
  have e2 : (f_op S x - f_op S x / (2 : Int32) * (2 : Int32)).toInt = 0 := by rw [e0]; decide
  have a1 : f_takesOf S x = 10000010 := by
    unfold f_takesOf f_takesOf_J18 f_takesOf_J31 f_takesOf_J47 f_takesOf_J75 f_takesOf_J93 f_takesOf_J111
    rw [if_neg (by omega), if_neg (by omega), if_pos (by omega), if_neg (by omega), if_neg (by omega), if_pos (by exact e2)]
  have a2 : f_givesOf S x = 10000016 := by
    unfold f_givesOf f_givesOf_J18 f_givesOf_J31 f_givesOf_J47
    rw [if_neg (by omega), if_neg (by omega), if_neg (by omega), if_neg (by omega), if_pos (by exact e2)]
  have p := tx_pl t
  refine ⟨⟨a1, a2⟩, ?_, ?_⟩
  · unfold tkV; rw [if_neg nm, a1]; exact p.1
  · unfold gvV; rw [if_neg nm, a2]; exact p.2.2.2.1
theorem tg_123 {S : MS} {x : Int32} (q : (f_op S x).toInt = 123) (t : TxI S) : (f_takesOf S x = 10000014 ∧ f_givesOf S x = 10000022) ∧ tkV S x = 3 ∧ gvV S x = 2 := by
  have nm : ¬ 0 < (f_moved S (f_op S x)).toInt := fun z => by have := mv_iff.mp z; omega
  have e0 : f_op S x = 123 := Int32.toInt_inj.mp (by rw [q]; rfl)
  have e2 : ¬ (f_op S x - f_op S x / (2 : Int32) * (2 : Int32)).toInt = 0 := by rw [e0]; decide
  have a1 : f_takesOf S x = 10000014 := by
    unfold f_takesOf f_takesOf_J18 f_takesOf_J31 f_takesOf_J47 f_takesOf_J75 f_takesOf_J93 f_takesOf_J111
    rw [if_neg (by omega), if_neg (by omega), if_pos (by omega), if_neg (by omega), if_neg (by omega), if_neg (by exact e2)]
  have a2 : f_givesOf S x = 10000022 := by
    unfold f_givesOf f_givesOf_J18 f_givesOf_J31 f_givesOf_J47
    rw [if_neg (by omega), if_neg (by omega), if_neg (by omega), if_neg (by omega), if_neg (by exact e2)]
  have p := tx_pl t
  refine ⟨⟨a1, a2⟩, ?_, ?_⟩
  · unfold tkV; rw [if_neg nm, a1]; exact p.2.2.1
  · unfold gvV; rw [if_neg nm, a2]; exact p.2.2.2.2.2.2.1
theorem tg_124 {S : MS} {x : Int32} (q : (f_op S x).toInt = 124) (t : TxI S) : (f_takesOf S x = 10000010 ∧ f_givesOf S x = 10000016) ∧ tkV S x = 2 ∧ gvV S x = 1 := by
  have nm : ¬ 0 < (f_moved S (f_op S x)).toInt := fun z => by have := mv_iff.mp z; omega
  have e0 : f_op S x = 124 := Int32.toInt_inj.mp (by rw [q]; rfl)
  have e2 : (f_op S x - f_op S x / (2 : Int32) * (2 : Int32)).toInt = 0 := by rw [e0]; decide
  have a1 : f_takesOf S x = 10000010 := by
    unfold f_takesOf f_takesOf_J18 f_takesOf_J31 f_takesOf_J47 f_takesOf_J75 f_takesOf_J93 f_takesOf_J111
    rw [if_neg (by omega), if_neg (by omega), if_pos (by omega), if_neg (by omega), if_neg (by omega), if_pos (by exact e2)]
  have a2 : f_givesOf S x = 10000016 := by
    unfold f_givesOf f_givesOf_J18 f_givesOf_J31 f_givesOf_J47
    rw [if_neg (by omega), if_neg (by omega), if_neg (by omega), if_neg (by omega), if_pos (by exact e2)]
  have p := tx_pl t
  refine ⟨⟨a1, a2⟩, ?_, ?_⟩
  · unfold tkV; rw [if_neg nm, a1]; exact p.1
  · unfold gvV; rw [if_neg nm, a2]; exact p.2.2.2.1
theorem tg_125 {S : MS} {x : Int32} (q : (f_op S x).toInt = 125) (t : TxI S) : (f_takesOf S x = 10000014 ∧ f_givesOf S x = 10000022) ∧ tkV S x = 3 ∧ gvV S x = 2 := by
  have nm : ¬ 0 < (f_moved S (f_op S x)).toInt := fun z => by have := mv_iff.mp z; omega
  have e0 : f_op S x = 125 := Int32.toInt_inj.mp (by rw [q]; rfl)
  have e2 : ¬ (f_op S x - f_op S x / (2 : Int32) * (2 : Int32)).toInt = 0 := by rw [e0]; decide
  have a1 : f_takesOf S x = 10000014 := by
    unfold f_takesOf f_takesOf_J18 f_takesOf_J31 f_takesOf_J47 f_takesOf_J75 f_takesOf_J93 f_takesOf_J111
    rw [if_neg (by omega), if_neg (by omega), if_pos (by omega), if_neg (by omega), if_neg (by omega), if_neg (by exact e2)]
  have a2 : f_givesOf S x = 10000022 := by
    unfold f_givesOf f_givesOf_J18 f_givesOf_J31 f_givesOf_J47
    rw [if_neg (by omega), if_neg (by omega), if_neg (by omega), if_neg (by omega), if_neg (by exact e2)]
  have p := tx_pl t
  refine ⟨⟨a1, a2⟩, ?_, ?_⟩
  · unfold tkV; rw [if_neg nm, a1]; exact p.2.2.1
  · unfold gvV; rw [if_neg nm, a2]; exact p.2.2.2.2.2.2.1
theorem tg_126 {S : MS} {x : Int32} (q : (f_op S x).toInt = 126) (t : TxI S) : (f_takesOf S x = 10000010 ∧ f_givesOf S x = 10000016) ∧ tkV S x = 2 ∧ gvV S x = 1 := by
  have nm : ¬ 0 < (f_moved S (f_op S x)).toInt := fun z => by have := mv_iff.mp z; omega
  have e0 : f_op S x = 126 := Int32.toInt_inj.mp (by rw [q]; rfl)
  have e2 : (f_op S x - f_op S x / (2 : Int32) * (2 : Int32)).toInt = 0 := by rw [e0]; decide
  have a1 : f_takesOf S x = 10000010 := by
    unfold f_takesOf f_takesOf_J18 f_takesOf_J31 f_takesOf_J47 f_takesOf_J75 f_takesOf_J93 f_takesOf_J111
    rw [if_neg (by omega), if_neg (by omega), if_neg (by omega), if_neg (by omega), if_pos (by exact e2)]
  have a2 : f_givesOf S x = 10000016 := by
    unfold f_givesOf f_givesOf_J18 f_givesOf_J31 f_givesOf_J47
    rw [if_neg (by omega), if_neg (by omega), if_neg (by omega), if_neg (by omega), if_pos (by exact e2)]
  have p := tx_pl t
  refine ⟨⟨a1, a2⟩, ?_, ?_⟩
  · unfold tkV; rw [if_neg nm, a1]; exact p.1
  · unfold gvV; rw [if_neg nm, a2]; exact p.2.2.2.1
theorem tg_127 {S : MS} {x : Int32} (q : (f_op S x).toInt = 127) (t : TxI S) : (f_takesOf S x = 10000012 ∧ f_givesOf S x = 10000022) ∧ tkV S x = 4 ∧ gvV S x = 2 := by
  have nm : ¬ 0 < (f_moved S (f_op S x)).toInt := fun z => by have := mv_iff.mp z; omega
  have e0 : f_op S x = 127 := Int32.toInt_inj.mp (by rw [q]; rfl)
  have e2 : ¬ (f_op S x - f_op S x / (2 : Int32) * (2 : Int32)).toInt = 0 := by rw [e0]; decide
  have a1 : f_takesOf S x = 10000012 := by
    unfold f_takesOf f_takesOf_J18 f_takesOf_J31 f_takesOf_J47 f_takesOf_J75 f_takesOf_J93 f_takesOf_J111
    rw [if_neg (by omega), if_neg (by omega), if_neg (by omega), if_neg (by omega), if_neg (by exact e2)]
  have a2 : f_givesOf S x = 10000022 := by
    unfold f_givesOf f_givesOf_J18 f_givesOf_J31 f_givesOf_J47
    rw [if_neg (by omega), if_neg (by omega), if_neg (by omega), if_neg (by omega), if_neg (by exact e2)]
  have p := tx_pl t
  refine ⟨⟨a1, a2⟩, ?_, ?_⟩
  · unfold tkV; rw [if_neg nm, a1]; exact p.2.1
  · unfold gvV; rw [if_neg nm, a2]; exact p.2.2.2.2.2.2.1
theorem tg_128 {S : MS} {x : Int32} (q : (f_op S x).toInt = 128) (t : TxI S) : (f_takesOf S x = 10000010 ∧ f_givesOf S x = 10000016) ∧ tkV S x = 2 ∧ gvV S x = 1 := by
  have nm : ¬ 0 < (f_moved S (f_op S x)).toInt := fun z => by have := mv_iff.mp z; omega
  have e0 : f_op S x = 128 := Int32.toInt_inj.mp (by rw [q]; rfl)
  have e2 : (f_op S x - f_op S x / (2 : Int32) * (2 : Int32)).toInt = 0 := by rw [e0]; decide
  have a1 : f_takesOf S x = 10000010 := by
    unfold f_takesOf f_takesOf_J18 f_takesOf_J31 f_takesOf_J47 f_takesOf_J75 f_takesOf_J93 f_takesOf_J111
    rw [if_neg (by omega), if_neg (by omega), if_neg (by omega), if_neg (by omega), if_pos (by exact e2)]
  have a2 : f_givesOf S x = 10000016 := by
    unfold f_givesOf f_givesOf_J18 f_givesOf_J31 f_givesOf_J47
    rw [if_neg (by omega), if_neg (by omega), if_neg (by omega), if_neg (by omega), if_pos (by exact e2)]
  have p := tx_pl t
  refine ⟨⟨a1, a2⟩, ?_, ?_⟩
  · unfold tkV; rw [if_neg nm, a1]; exact p.1
  · unfold gvV; rw [if_neg nm, a2]; exact p.2.2.2.1
theorem tg_129 {S : MS} {x : Int32} (q : (f_op S x).toInt = 129) (t : TxI S) : (f_takesOf S x = 10000012 ∧ f_givesOf S x = 10000022) ∧ tkV S x = 4 ∧ gvV S x = 2 := by
  have nm : ¬ 0 < (f_moved S (f_op S x)).toInt := fun z => by have := mv_iff.mp z; omega
  have e0 : f_op S x = 129 := Int32.toInt_inj.mp (by rw [q]; rfl)
  have e2 : ¬ (f_op S x - f_op S x / (2 : Int32) * (2 : Int32)).toInt = 0 := by rw [e0]; decide
  have a1 : f_takesOf S x = 10000012 := by
    unfold f_takesOf f_takesOf_J18 f_takesOf_J31 f_takesOf_J47 f_takesOf_J75 f_takesOf_J93 f_takesOf_J111
    rw [if_neg (by omega), if_neg (by omega), if_neg (by omega), if_neg (by omega), if_neg (by exact e2)]
  have a2 : f_givesOf S x = 10000022 := by
    unfold f_givesOf f_givesOf_J18 f_givesOf_J31 f_givesOf_J47
    rw [if_neg (by omega), if_neg (by omega), if_neg (by omega), if_neg (by omega), if_neg (by exact e2)]
  have p := tx_pl t
  refine ⟨⟨a1, a2⟩, ?_, ?_⟩
  · unfold tkV; rw [if_neg nm, a1]; exact p.2.1
  · unfold gvV; rw [if_neg nm, a2]; exact p.2.2.2.2.2.2.1
theorem tg_130 {S : MS} {x : Int32} (q : (f_op S x).toInt = 130) (t : TxI S) : (f_takesOf S x = 10000010 ∧ f_givesOf S x = 10000016) ∧ tkV S x = 2 ∧ gvV S x = 1 := by
  have nm : ¬ 0 < (f_moved S (f_op S x)).toInt := fun z => by have := mv_iff.mp z; omega
  have e0 : f_op S x = 130 := Int32.toInt_inj.mp (by rw [q]; rfl)
  have e2 : (f_op S x - f_op S x / (2 : Int32) * (2 : Int32)).toInt = 0 := by rw [e0]; decide
  have a1 : f_takesOf S x = 10000010 := by
    unfold f_takesOf f_takesOf_J18 f_takesOf_J31 f_takesOf_J47 f_takesOf_J75 f_takesOf_J93 f_takesOf_J111
    rw [if_neg (by omega), if_neg (by omega), if_neg (by omega), if_neg (by omega), if_pos (by exact e2)]
  have a2 : f_givesOf S x = 10000016 := by
    unfold f_givesOf f_givesOf_J18 f_givesOf_J31 f_givesOf_J47
    rw [if_neg (by omega), if_neg (by omega), if_neg (by omega), if_neg (by omega), if_pos (by exact e2)]
  have p := tx_pl t
  refine ⟨⟨a1, a2⟩, ?_, ?_⟩
  · unfold tkV; rw [if_neg nm, a1]; exact p.1
  · unfold gvV; rw [if_neg nm, a2]; exact p.2.2.2.1
theorem tg_131 {S : MS} {x : Int32} (q : (f_op S x).toInt = 131) (t : TxI S) : (f_takesOf S x = 10000012 ∧ f_givesOf S x = 10000022) ∧ tkV S x = 4 ∧ gvV S x = 2 := by
  have nm : ¬ 0 < (f_moved S (f_op S x)).toInt := fun z => by have := mv_iff.mp z; omega
  have e0 : f_op S x = 131 := Int32.toInt_inj.mp (by rw [q]; rfl)
  have e2 : ¬ (f_op S x - f_op S x / (2 : Int32) * (2 : Int32)).toInt = 0 := by rw [e0]; decide
  have a1 : f_takesOf S x = 10000012 := by
    unfold f_takesOf f_takesOf_J18 f_takesOf_J31 f_takesOf_J47 f_takesOf_J75 f_takesOf_J93 f_takesOf_J111
    rw [if_neg (by omega), if_neg (by omega), if_neg (by omega), if_neg (by omega), if_neg (by exact e2)]
  have a2 : f_givesOf S x = 10000022 := by
    unfold f_givesOf f_givesOf_J18 f_givesOf_J31 f_givesOf_J47
    rw [if_neg (by omega), if_neg (by omega), if_neg (by omega), if_neg (by omega), if_neg (by exact e2)]
  have p := tx_pl t
  refine ⟨⟨a1, a2⟩, ?_, ?_⟩
  · unfold tkV; rw [if_neg nm, a1]; exact p.2.1
  · unfold gvV; rw [if_neg nm, a2]; exact p.2.2.2.2.2.2.1
theorem tg_132 {S : MS} {x : Int32} (q : (f_op S x).toInt = 132) (t : TxI S) : (f_takesOf S x = 10000032 ∧ f_givesOf S x = 10000032) ∧ tkV S x = 0 ∧ gvV S x = 0 := by
  have nm : ¬ 0 < (f_moved S (f_op S x)).toInt := fun z => by have := mv_iff.mp z; omega
  have a1 : f_takesOf S x = 10000032 := by
    unfold f_takesOf f_takesOf_J18 f_takesOf_J31 f_takesOf_J47 f_takesOf_J75 f_takesOf_J93 f_takesOf_J111
    rw [if_neg (by omega), if_neg (by omega), if_neg (by omega), if_pos (by omega), if_neg (by omega), if_pos (by omega), if_pos (by omega), if_pos (by omega), if_neg (by omega), if_neg (by omega), if_neg (by omega), if_neg (by omega), if_neg (by omega), if_neg (by omega), if_neg (by omega), if_neg (by omega), if_neg (by omega), if_neg (by omega), if_neg (by omega), if_neg (by omega), if_neg (by omega), if_neg (by omega), if_neg (by omega), if_neg (by omega), if_neg (by omega), if_neg (by omega), if_neg (by omega), if_neg (by omega), if_neg (by omega), if_neg (by omega), if_neg (by omega), if_neg (by omega), if_neg (by omega), if_neg (by omega), if_neg (by omega)]
  have a2 : f_givesOf S x = 10000032 := by
    unfold f_givesOf f_givesOf_J18 f_givesOf_J31 f_givesOf_J47
    rw [if_neg (by omega), if_neg (by omega), if_neg (by omega), if_pos (by omega), if_neg (by omega), if_neg (by omega), if_neg (by omega), if_neg (by omega), if_neg (by omega), if_neg (by omega), if_neg (by omega), if_neg (by omega), if_neg (by omega), if_neg (by omega), if_neg (by omega), if_neg (by omega), if_neg (by omega), if_neg (by omega), if_neg (by omega), if_neg (by omega), if_neg (by omega)]
  have p := tx_pl t
  refine ⟨⟨a1, a2⟩, ?_, ?_⟩
  · unfold tkV; rw [if_neg nm, a1]; exact p.2.2.2.2.2.2.2.2.2.2.2.1
  · unfold gvV; rw [if_neg nm, a2]; exact p.2.2.2.2.2.2.2.2.2.2.2.1
theorem tg_133 {S : MS} {x : Int32} (q : (f_op S x).toInt = 133) (t : TxI S) : (f_takesOf S x = 10000016 ∧ f_givesOf S x = 10000022) ∧ tkV S x = 1 ∧ gvV S x = 2 := by
  have nm : ¬ 0 < (f_moved S (f_op S x)).toInt := fun z => by have := mv_iff.mp z; omega
  have a1 : f_takesOf S x = 10000016 := by
    unfold f_takesOf f_takesOf_J18 f_takesOf_J31 f_takesOf_J47 f_takesOf_J75 f_takesOf_J93 f_takesOf_J111
    rw [if_neg (by omega), if_neg (by omega), if_neg (by omega), if_pos (by omega), if_neg (by omega), if_pos (by omega), if_pos (by omega), if_pos (by omega), if_neg (by omega), if_neg (by omega), if_neg (by omega), if_neg (by omega), if_neg (by omega), if_neg (by omega), if_neg (by omega), if_pos (by omega)]
  have a2 : f_givesOf S x = 10000022 := by
    unfold f_givesOf f_givesOf_J18 f_givesOf_J31 f_givesOf_J47
    rw [if_neg (by omega), if_neg (by omega), if_neg (by omega), if_pos (by omega), if_neg (by omega), if_neg (by omega), if_neg (by omega), if_neg (by omega), if_neg (by omega), if_neg (by omega), if_neg (by omega), if_pos (by omega)]
  have p := tx_pl t
  refine ⟨⟨a1, a2⟩, ?_, ?_⟩
  · unfold tkV; rw [if_neg nm, a1]; exact p.2.2.2.1
  · unfold gvV; rw [if_neg nm, a2]; exact p.2.2.2.2.2.2.1
theorem tg_136 {S : MS} {x : Int32} (q : (f_op S x).toInt = 136) (t : TxI S) : (f_takesOf S x = 10000022 ∧ f_givesOf S x = 10000016) ∧ tkV S x = 2 ∧ gvV S x = 1 := by
  have nm : ¬ 0 < (f_moved S (f_op S x)).toInt := fun z => by have := mv_iff.mp z; omega
  have a1 : f_takesOf S x = 10000022 := by
    unfold f_takesOf f_takesOf_J18 f_takesOf_J31 f_takesOf_J47 f_takesOf_J75 f_takesOf_J93 f_takesOf_J111
    rw [if_neg (by omega), if_neg (by omega), if_neg (by omega), if_pos (by omega), if_neg (by omega), if_pos (by omega), if_pos (by omega), if_pos (by omega), if_neg (by omega), if_neg (by omega), if_neg (by omega), if_neg (by omega), if_neg (by omega), if_neg (by omega), if_neg (by omega), if_neg (by omega), if_pos (by omega)]
  have a2 : f_givesOf S x = 10000016 := by
    unfold f_givesOf f_givesOf_J18 f_givesOf_J31 f_givesOf_J47
    rw [if_neg (by omega), if_neg (by omega), if_neg (by omega), if_pos (by omega), if_neg (by omega), if_neg (by omega), if_neg (by omega), if_neg (by omega), if_neg (by omega), if_neg (by omega), if_neg (by omega), if_neg (by omega), if_pos (by omega)]
  have p := tx_pl t
  refine ⟨⟨a1, a2⟩, ?_, ?_⟩
  · unfold tkV; rw [if_neg nm, a1]; exact p.2.2.2.2.2.2.1
  · unfold gvV; rw [if_neg nm, a2]; exact p.2.2.2.1
theorem tg_145 {S : MS} {x : Int32} (q : (f_op S x).toInt = 145) (t : TxI S) : (f_takesOf S x = 10000016 ∧ f_givesOf S x = 10000016) ∧ tkV S x = 1 ∧ gvV S x = 1 := by
  have nm : ¬ 0 < (f_moved S (f_op S x)).toInt := fun z => by have := mv_iff.mp z; omega
  have a1 : f_takesOf S x = 10000016 := by
    unfold f_takesOf f_takesOf_J18 f_takesOf_J31 f_takesOf_J47 f_takesOf_J75 f_takesOf_J93 f_takesOf_J111
    rw [if_neg (by omega), if_neg (by omega), if_neg (by omega), if_pos (by omega), if_neg (by omega), if_pos (by omega), if_pos (by omega), if_pos (by omega), if_neg (by omega), if_neg (by omega), if_neg (by omega), if_neg (by omega), if_neg (by omega), if_neg (by omega), if_neg (by omega), if_neg (by omega), if_neg (by omega), if_pos (by omega)]
  have a2 : f_givesOf S x = 10000016 := by
    unfold f_givesOf f_givesOf_J18 f_givesOf_J31 f_givesOf_J47
    rw [if_neg (by omega), if_neg (by omega), if_neg (by omega), if_pos (by omega), if_neg (by omega), if_neg (by omega), if_neg (by omega), if_neg (by omega), if_neg (by omega), if_neg (by omega), if_neg (by omega), if_neg (by omega), if_neg (by omega), if_pos (by omega)]
  have p := tx_pl t
  refine ⟨⟨a1, a2⟩, ?_, ?_⟩
  · unfold tkV; rw [if_neg nm, a1]; exact p.2.2.2.1
  · unfold gvV; rw [if_neg nm, a2]; exact p.2.2.2.1
theorem tg_146 {S : MS} {x : Int32} (q : (f_op S x).toInt = 146) (t : TxI S) : (f_takesOf S x = 10000016 ∧ f_givesOf S x = 10000016) ∧ tkV S x = 1 ∧ gvV S x = 1 := by
  have nm : ¬ 0 < (f_moved S (f_op S x)).toInt := fun z => by have := mv_iff.mp z; omega
  have a1 : f_takesOf S x = 10000016 := by
    unfold f_takesOf f_takesOf_J18 f_takesOf_J31 f_takesOf_J47 f_takesOf_J75 f_takesOf_J93 f_takesOf_J111
    rw [if_neg (by omega), if_neg (by omega), if_neg (by omega), if_pos (by omega), if_neg (by omega), if_pos (by omega), if_pos (by omega), if_pos (by omega), if_neg (by omega), if_neg (by omega), if_neg (by omega), if_neg (by omega), if_neg (by omega), if_neg (by omega), if_neg (by omega), if_neg (by omega), if_neg (by omega), if_neg (by omega), if_pos (by omega)]
  have a2 : f_givesOf S x = 10000016 := by
    unfold f_givesOf f_givesOf_J18 f_givesOf_J31 f_givesOf_J47
    rw [if_neg (by omega), if_neg (by omega), if_neg (by omega), if_pos (by omega), if_neg (by omega), if_neg (by omega), if_neg (by omega), if_neg (by omega), if_neg (by omega), if_neg (by omega), if_neg (by omega), if_neg (by omega), if_neg (by omega), if_neg (by omega), if_pos (by omega)]
  have p := tx_pl t
  refine ⟨⟨a1, a2⟩, ?_, ?_⟩
  · unfold tkV; rw [if_neg nm, a1]; exact p.2.2.2.1
  · unfold gvV; rw [if_neg nm, a2]; exact p.2.2.2.1
theorem tg_147 {S : MS} {x : Int32} (q : (f_op S x).toInt = 147) (t : TxI S) : (f_takesOf S x = 10000016 ∧ f_givesOf S x = 10000016) ∧ tkV S x = 1 ∧ gvV S x = 1 := by
  have nm : ¬ 0 < (f_moved S (f_op S x)).toInt := fun z => by have := mv_iff.mp z; omega
  have a1 : f_takesOf S x = 10000016 := by
    unfold f_takesOf f_takesOf_J18 f_takesOf_J31 f_takesOf_J47 f_takesOf_J75 f_takesOf_J93 f_takesOf_J111
    rw [if_neg (by omega), if_neg (by omega), if_neg (by omega), if_pos (by omega), if_neg (by omega), if_pos (by omega), if_pos (by omega), if_pos (by omega), if_neg (by omega), if_neg (by omega), if_neg (by omega), if_neg (by omega), if_neg (by omega), if_neg (by omega), if_neg (by omega), if_neg (by omega), if_neg (by omega), if_neg (by omega), if_neg (by omega), if_pos (by omega)]
  have a2 : f_givesOf S x = 10000016 := by
    unfold f_givesOf f_givesOf_J18 f_givesOf_J31 f_givesOf_J47
    rw [if_neg (by omega), if_neg (by omega), if_neg (by omega), if_pos (by omega), if_neg (by omega), if_neg (by omega), if_neg (by omega), if_neg (by omega), if_neg (by omega), if_neg (by omega), if_neg (by omega), if_neg (by omega), if_neg (by omega), if_neg (by omega), if_neg (by omega), if_pos (by omega)]
  have p := tx_pl t
  refine ⟨⟨a1, a2⟩, ?_, ?_⟩
  · unfold tkV; rw [if_neg nm, a1]; exact p.2.2.2.1
  · unfold gvV; rw [if_neg nm, a2]; exact p.2.2.2.1
theorem tg_148 {S : MS} {x : Int32} (q : (f_op S x).toInt = 148) (t : TxI S) : (f_takesOf S x = 10000012 ∧ f_givesOf S x = 10000016) ∧ tkV S x = 4 ∧ gvV S x = 1 := by
  have nm : ¬ 0 < (f_moved S (f_op S x)).toInt := fun z => by have := mv_iff.mp z; omega
  have a1 : f_takesOf S x = 10000012 := by
    unfold f_takesOf f_takesOf_J18 f_takesOf_J31 f_takesOf_J47 f_takesOf_J75 f_takesOf_J93 f_takesOf_J111
    rw [if_neg (by omega), if_neg (by omega), if_neg (by omega), if_pos (by omega), if_neg (by omega), if_pos (by omega), if_pos (by omega), if_pos (by omega), if_neg (by omega), if_neg (by omega), if_neg (by omega), if_neg (by omega), if_neg (by omega), if_neg (by omega), if_neg (by omega), if_neg (by omega), if_neg (by omega), if_neg (by omega), if_neg (by omega), if_neg (by omega), if_pos (by omega)]
  have a2 : f_givesOf S x = 10000016 := by
    unfold f_givesOf f_givesOf_J18 f_givesOf_J31 f_givesOf_J47
    rw [if_neg (by omega), if_neg (by omega), if_neg (by omega), if_pos (by omega), if_neg (by omega), if_neg (by omega), if_neg (by omega), if_neg (by omega), if_neg (by omega), if_neg (by omega), if_neg (by omega), if_neg (by omega), if_neg (by omega), if_neg (by omega), if_neg (by omega), if_neg (by omega), if_pos (by omega)]
  have p := tx_pl t
  refine ⟨⟨a1, a2⟩, ?_, ?_⟩
  · unfold tkV; rw [if_neg nm, a1]; exact p.2.1
  · unfold gvV; rw [if_neg nm, a2]; exact p.2.2.2.1
theorem tg_153 {S : MS} {x : Int32} (q : (f_op S x).toInt = 153) (t : TxI S) : (f_takesOf S x = 10000016 ∧ f_givesOf S x = 10000032) ∧ tkV S x = 1 ∧ gvV S x = 0 := by
  have nm : ¬ 0 < (f_moved S (f_op S x)).toInt := fun z => by have := mv_iff.mp z; omega
  have a1 : f_takesOf S x = 10000016 := by
    unfold f_takesOf f_takesOf_J18 f_takesOf_J31 f_takesOf_J47 f_takesOf_J75 f_takesOf_J93 f_takesOf_J111
    rw [if_neg (by omega), if_neg (by omega), if_neg (by omega), if_pos (by omega), if_neg (by omega), if_pos (by omega), if_neg (by omega), if_neg (by omega)]
  have a2 : f_givesOf S x = 10000032 := by
    unfold f_givesOf f_givesOf_J18 f_givesOf_J31 f_givesOf_J47
    rw [if_neg (by omega), if_neg (by omega), if_neg (by omega), if_pos (by omega), if_neg (by omega), if_neg (by omega), if_neg (by omega), if_neg (by omega), if_neg (by omega), if_neg (by omega), if_neg (by omega), if_neg (by omega), if_neg (by omega), if_neg (by omega), if_neg (by omega), if_neg (by omega), if_neg (by omega), if_neg (by omega), if_neg (by omega), if_neg (by omega), if_neg (by omega)]
  have p := tx_pl t
  refine ⟨⟨a1, a2⟩, ?_, ?_⟩
  · unfold tkV; rw [if_neg nm, a1]; exact p.2.2.2.1
  · unfold gvV; rw [if_neg nm, a2]; exact p.2.2.2.2.2.2.2.2.2.2.2.1
theorem tg_154 {S : MS} {x : Int32} (q : (f_op S x).toInt = 154) (t : TxI S) : (f_takesOf S x = 10000016 ∧ f_givesOf S x = 10000032) ∧ tkV S x = 1 ∧ gvV S x = 0 := by
  have nm : ¬ 0 < (f_moved S (f_op S x)).toInt := fun z => by have := mv_iff.mp z; omega
  have a1 : f_takesOf S x = 10000016 := by
    unfold f_takesOf f_takesOf_J18 f_takesOf_J31 f_takesOf_J47 f_takesOf_J75 f_takesOf_J93 f_takesOf_J111
    rw [if_neg (by omega), if_neg (by omega), if_neg (by omega), if_pos (by omega), if_neg (by omega), if_pos (by omega), if_neg (by omega), if_neg (by omega)]
  have a2 : f_givesOf S x = 10000032 := by
    unfold f_givesOf f_givesOf_J18 f_givesOf_J31 f_givesOf_J47
    rw [if_neg (by omega), if_neg (by omega), if_neg (by omega), if_pos (by omega), if_neg (by omega), if_neg (by omega), if_neg (by omega), if_neg (by omega), if_neg (by omega), if_neg (by omega), if_neg (by omega), if_neg (by omega), if_neg (by omega), if_neg (by omega), if_neg (by omega), if_neg (by omega), if_neg (by omega), if_neg (by omega), if_neg (by omega), if_neg (by omega), if_neg (by omega)]
  have p := tx_pl t
  refine ⟨⟨a1, a2⟩, ?_, ?_⟩
  · unfold tkV; rw [if_neg nm, a1]; exact p.2.2.2.1
  · unfold gvV; rw [if_neg nm, a2]; exact p.2.2.2.2.2.2.2.2.2.2.2.1
theorem tg_155 {S : MS} {x : Int32} (q : (f_op S x).toInt = 155) (t : TxI S) : (f_takesOf S x = 10000016 ∧ f_givesOf S x = 10000032) ∧ tkV S x = 1 ∧ gvV S x = 0 := by
  have nm : ¬ 0 < (f_moved S (f_op S x)).toInt := fun z => by have := mv_iff.mp z; omega
  have a1 : f_takesOf S x = 10000016 := by
    unfold f_takesOf f_takesOf_J18 f_takesOf_J31 f_takesOf_J47 f_takesOf_J75 f_takesOf_J93 f_takesOf_J111
    rw [if_neg (by omega), if_neg (by omega), if_neg (by omega), if_pos (by omega), if_neg (by omega), if_pos (by omega), if_neg (by omega), if_neg (by omega)]
  have a2 : f_givesOf S x = 10000032 := by
    unfold f_givesOf f_givesOf_J18 f_givesOf_J31 f_givesOf_J47
    rw [if_neg (by omega), if_neg (by omega), if_neg (by omega), if_pos (by omega), if_neg (by omega), if_neg (by omega), if_neg (by omega), if_neg (by omega), if_neg (by omega), if_neg (by omega), if_neg (by omega), if_neg (by omega), if_neg (by omega), if_neg (by omega), if_neg (by omega), if_neg (by omega), if_neg (by omega), if_neg (by omega), if_neg (by omega), if_neg (by omega), if_neg (by omega)]
  have p := tx_pl t
  refine ⟨⟨a1, a2⟩, ?_, ?_⟩
  · unfold tkV; rw [if_neg nm, a1]; exact p.2.2.2.1
  · unfold gvV; rw [if_neg nm, a2]; exact p.2.2.2.2.2.2.2.2.2.2.2.1
theorem tg_156 {S : MS} {x : Int32} (q : (f_op S x).toInt = 156) (t : TxI S) : (f_takesOf S x = 10000016 ∧ f_givesOf S x = 10000032) ∧ tkV S x = 1 ∧ gvV S x = 0 := by
  have nm : ¬ 0 < (f_moved S (f_op S x)).toInt := fun z => by have := mv_iff.mp z; omega
  have a1 : f_takesOf S x = 10000016 := by
    unfold f_takesOf f_takesOf_J18 f_takesOf_J31 f_takesOf_J47 f_takesOf_J75 f_takesOf_J93 f_takesOf_J111
    rw [if_neg (by omega), if_neg (by omega), if_neg (by omega), if_pos (by omega), if_neg (by omega), if_pos (by omega), if_neg (by omega), if_neg (by omega)]
  have a2 : f_givesOf S x = 10000032 := by
    unfold f_givesOf f_givesOf_J18 f_givesOf_J31 f_givesOf_J47
    rw [if_neg (by omega), if_neg (by omega), if_neg (by omega), if_pos (by omega), if_neg (by omega), if_neg (by omega), if_neg (by omega), if_neg (by omega), if_neg (by omega), if_neg (by omega), if_neg (by omega), if_neg (by omega), if_neg (by omega), if_neg (by omega), if_neg (by omega), if_neg (by omega), if_neg (by omega), if_neg (by omega), if_neg (by omega), if_neg (by omega), if_neg (by omega)]
  have p := tx_pl t
  refine ⟨⟨a1, a2⟩, ?_, ?_⟩
  · unfold tkV; rw [if_neg nm, a1]; exact p.2.2.2.1
  · unfold gvV; rw [if_neg nm, a2]; exact p.2.2.2.2.2.2.2.2.2.2.2.1
theorem tg_157 {S : MS} {x : Int32} (q : (f_op S x).toInt = 157) (t : TxI S) : (f_takesOf S x = 10000016 ∧ f_givesOf S x = 10000032) ∧ tkV S x = 1 ∧ gvV S x = 0 := by
  have nm : ¬ 0 < (f_moved S (f_op S x)).toInt := fun z => by have := mv_iff.mp z; omega
  have a1 : f_takesOf S x = 10000016 := by
    unfold f_takesOf f_takesOf_J18 f_takesOf_J31 f_takesOf_J47 f_takesOf_J75 f_takesOf_J93 f_takesOf_J111
    rw [if_neg (by omega), if_neg (by omega), if_neg (by omega), if_pos (by omega), if_neg (by omega), if_pos (by omega), if_neg (by omega), if_neg (by omega)]
  have a2 : f_givesOf S x = 10000032 := by
    unfold f_givesOf f_givesOf_J18 f_givesOf_J31 f_givesOf_J47
    rw [if_neg (by omega), if_neg (by omega), if_neg (by omega), if_pos (by omega), if_neg (by omega), if_neg (by omega), if_neg (by omega), if_neg (by omega), if_neg (by omega), if_neg (by omega), if_neg (by omega), if_neg (by omega), if_neg (by omega), if_neg (by omega), if_neg (by omega), if_neg (by omega), if_neg (by omega), if_neg (by omega), if_neg (by omega), if_neg (by omega), if_neg (by omega)]
  have p := tx_pl t
  refine ⟨⟨a1, a2⟩, ?_, ?_⟩
  · unfold tkV; rw [if_neg nm, a1]; exact p.2.2.2.1
  · unfold gvV; rw [if_neg nm, a2]; exact p.2.2.2.2.2.2.2.2.2.2.2.1
theorem tg_158 {S : MS} {x : Int32} (q : (f_op S x).toInt = 158) (t : TxI S) : (f_takesOf S x = 10000016 ∧ f_givesOf S x = 10000032) ∧ tkV S x = 1 ∧ gvV S x = 0 := by
  have nm : ¬ 0 < (f_moved S (f_op S x)).toInt := fun z => by have := mv_iff.mp z; omega
  have a1 : f_takesOf S x = 10000016 := by
    unfold f_takesOf f_takesOf_J18 f_takesOf_J31 f_takesOf_J47 f_takesOf_J75 f_takesOf_J93 f_takesOf_J111
    rw [if_neg (by omega), if_neg (by omega), if_neg (by omega), if_pos (by omega), if_neg (by omega), if_pos (by omega), if_neg (by omega), if_neg (by omega)]
  have a2 : f_givesOf S x = 10000032 := by
    unfold f_givesOf f_givesOf_J18 f_givesOf_J31 f_givesOf_J47
    rw [if_neg (by omega), if_neg (by omega), if_neg (by omega), if_pos (by omega), if_neg (by omega), if_neg (by omega), if_neg (by omega), if_neg (by omega), if_neg (by omega), if_neg (by omega), if_neg (by omega), if_neg (by omega), if_neg (by omega), if_neg (by omega), if_neg (by omega), if_neg (by omega), if_neg (by omega), if_neg (by omega), if_neg (by omega), if_neg (by omega), if_neg (by omega)]
  have p := tx_pl t
  refine ⟨⟨a1, a2⟩, ?_, ?_⟩
  · unfold tkV; rw [if_neg nm, a1]; exact p.2.2.2.1
  · unfold gvV; rw [if_neg nm, a2]; exact p.2.2.2.2.2.2.2.2.2.2.2.1
theorem tg_159 {S : MS} {x : Int32} (q : (f_op S x).toInt = 159) (t : TxI S) : (f_takesOf S x = 10000010 ∧ f_givesOf S x = 10000032) ∧ tkV S x = 2 ∧ gvV S x = 0 := by
  have nm : ¬ 0 < (f_moved S (f_op S x)).toInt := fun z => by have := mv_iff.mp z; omega
  have a1 : f_takesOf S x = 10000010 := by
    unfold f_takesOf f_takesOf_J18 f_takesOf_J31 f_takesOf_J47 f_takesOf_J75 f_takesOf_J93 f_takesOf_J111
    rw [if_neg (by omega), if_neg (by omega), if_neg (by omega), if_pos (by omega), if_neg (by omega), if_pos (by omega), if_neg (by omega), if_pos (by omega), if_neg (by omega), if_neg (by omega)]
  have a2 : f_givesOf S x = 10000032 := by
    unfold f_givesOf f_givesOf_J18 f_givesOf_J31 f_givesOf_J47
    rw [if_neg (by omega), if_neg (by omega), if_neg (by omega), if_pos (by omega), if_neg (by omega), if_neg (by omega), if_neg (by omega), if_neg (by omega), if_neg (by omega), if_neg (by omega), if_neg (by omega), if_neg (by omega), if_neg (by omega), if_neg (by omega), if_neg (by omega), if_neg (by omega), if_neg (by omega), if_neg (by omega), if_neg (by omega), if_neg (by omega), if_neg (by omega)]
  have p := tx_pl t
  refine ⟨⟨a1, a2⟩, ?_, ?_⟩
  · unfold tkV; rw [if_neg nm, a1]; exact p.1
  · unfold gvV; rw [if_neg nm, a2]; exact p.2.2.2.2.2.2.2.2.2.2.2.1
theorem tg_160 {S : MS} {x : Int32} (q : (f_op S x).toInt = 160) (t : TxI S) : (f_takesOf S x = 10000010 ∧ f_givesOf S x = 10000032) ∧ tkV S x = 2 ∧ gvV S x = 0 := by
  have nm : ¬ 0 < (f_moved S (f_op S x)).toInt := fun z => by have := mv_iff.mp z; omega
  have a1 : f_takesOf S x = 10000010 := by
    unfold f_takesOf f_takesOf_J18 f_takesOf_J31 f_takesOf_J47 f_takesOf_J75 f_takesOf_J93 f_takesOf_J111
    rw [if_neg (by omega), if_neg (by omega), if_neg (by omega), if_pos (by omega), if_neg (by omega), if_pos (by omega), if_neg (by omega), if_pos (by omega), if_neg (by omega), if_neg (by omega)]
  have a2 : f_givesOf S x = 10000032 := by
    unfold f_givesOf f_givesOf_J18 f_givesOf_J31 f_givesOf_J47
    rw [if_neg (by omega), if_neg (by omega), if_neg (by omega), if_pos (by omega), if_neg (by omega), if_neg (by omega), if_neg (by omega), if_neg (by omega), if_neg (by omega), if_neg (by omega), if_neg (by omega), if_neg (by omega), if_neg (by omega), if_neg (by omega), if_neg (by omega), if_neg (by omega), if_neg (by omega), if_neg (by omega), if_neg (by omega), if_neg (by omega), if_neg (by omega)]
  have p := tx_pl t
  refine ⟨⟨a1, a2⟩, ?_, ?_⟩
  · unfold tkV; rw [if_neg nm, a1]; exact p.1
  · unfold gvV; rw [if_neg nm, a2]; exact p.2.2.2.2.2.2.2.2.2.2.2.1
theorem tg_161 {S : MS} {x : Int32} (q : (f_op S x).toInt = 161) (t : TxI S) : (f_takesOf S x = 10000010 ∧ f_givesOf S x = 10000032) ∧ tkV S x = 2 ∧ gvV S x = 0 := by
  have nm : ¬ 0 < (f_moved S (f_op S x)).toInt := fun z => by have := mv_iff.mp z; omega
  have a1 : f_takesOf S x = 10000010 := by
    unfold f_takesOf f_takesOf_J18 f_takesOf_J31 f_takesOf_J47 f_takesOf_J75 f_takesOf_J93 f_takesOf_J111
    rw [if_neg (by omega), if_neg (by omega), if_neg (by omega), if_pos (by omega), if_neg (by omega), if_pos (by omega), if_neg (by omega), if_pos (by omega), if_neg (by omega), if_neg (by omega)]
  have a2 : f_givesOf S x = 10000032 := by
    unfold f_givesOf f_givesOf_J18 f_givesOf_J31 f_givesOf_J47
    rw [if_neg (by omega), if_neg (by omega), if_neg (by omega), if_pos (by omega), if_neg (by omega), if_neg (by omega), if_neg (by omega), if_neg (by omega), if_neg (by omega), if_neg (by omega), if_neg (by omega), if_neg (by omega), if_neg (by omega), if_neg (by omega), if_neg (by omega), if_neg (by omega), if_neg (by omega), if_neg (by omega), if_neg (by omega), if_neg (by omega), if_neg (by omega)]
  have p := tx_pl t
  refine ⟨⟨a1, a2⟩, ?_, ?_⟩
  · unfold tkV; rw [if_neg nm, a1]; exact p.1
  · unfold gvV; rw [if_neg nm, a2]; exact p.2.2.2.2.2.2.2.2.2.2.2.1
theorem tg_162 {S : MS} {x : Int32} (q : (f_op S x).toInt = 162) (t : TxI S) : (f_takesOf S x = 10000010 ∧ f_givesOf S x = 10000032) ∧ tkV S x = 2 ∧ gvV S x = 0 := by
  have nm : ¬ 0 < (f_moved S (f_op S x)).toInt := fun z => by have := mv_iff.mp z; omega
  have a1 : f_takesOf S x = 10000010 := by
    unfold f_takesOf f_takesOf_J18 f_takesOf_J31 f_takesOf_J47 f_takesOf_J75 f_takesOf_J93 f_takesOf_J111
    rw [if_neg (by omega), if_neg (by omega), if_neg (by omega), if_pos (by omega), if_neg (by omega), if_pos (by omega), if_neg (by omega), if_pos (by omega), if_neg (by omega), if_neg (by omega)]
  have a2 : f_givesOf S x = 10000032 := by
    unfold f_givesOf f_givesOf_J18 f_givesOf_J31 f_givesOf_J47
    rw [if_neg (by omega), if_neg (by omega), if_neg (by omega), if_pos (by omega), if_neg (by omega), if_neg (by omega), if_neg (by omega), if_neg (by omega), if_neg (by omega), if_neg (by omega), if_neg (by omega), if_neg (by omega), if_neg (by omega), if_neg (by omega), if_neg (by omega), if_neg (by omega), if_neg (by omega), if_neg (by omega), if_neg (by omega), if_neg (by omega), if_neg (by omega)]
  have p := tx_pl t
  refine ⟨⟨a1, a2⟩, ?_, ?_⟩
  · unfold tkV; rw [if_neg nm, a1]; exact p.1
  · unfold gvV; rw [if_neg nm, a2]; exact p.2.2.2.2.2.2.2.2.2.2.2.1
theorem tg_163 {S : MS} {x : Int32} (q : (f_op S x).toInt = 163) (t : TxI S) : (f_takesOf S x = 10000010 ∧ f_givesOf S x = 10000032) ∧ tkV S x = 2 ∧ gvV S x = 0 := by
  have nm : ¬ 0 < (f_moved S (f_op S x)).toInt := fun z => by have := mv_iff.mp z; omega
  have a1 : f_takesOf S x = 10000010 := by
    unfold f_takesOf f_takesOf_J18 f_takesOf_J31 f_takesOf_J47 f_takesOf_J75 f_takesOf_J93 f_takesOf_J111
    rw [if_neg (by omega), if_neg (by omega), if_neg (by omega), if_pos (by omega), if_neg (by omega), if_pos (by omega), if_neg (by omega), if_pos (by omega), if_neg (by omega), if_neg (by omega)]
  have a2 : f_givesOf S x = 10000032 := by
    unfold f_givesOf f_givesOf_J18 f_givesOf_J31 f_givesOf_J47
    rw [if_neg (by omega), if_neg (by omega), if_neg (by omega), if_pos (by omega), if_neg (by omega), if_neg (by omega), if_neg (by omega), if_neg (by omega), if_neg (by omega), if_neg (by omega), if_neg (by omega), if_neg (by omega), if_neg (by omega), if_neg (by omega), if_neg (by omega), if_neg (by omega), if_neg (by omega), if_neg (by omega), if_neg (by omega), if_neg (by omega), if_neg (by omega)]
  have p := tx_pl t
  refine ⟨⟨a1, a2⟩, ?_, ?_⟩
  · unfold tkV; rw [if_neg nm, a1]; exact p.1
  · unfold gvV; rw [if_neg nm, a2]; exact p.2.2.2.2.2.2.2.2.2.2.2.1
theorem tg_164 {S : MS} {x : Int32} (q : (f_op S x).toInt = 164) (t : TxI S) : (f_takesOf S x = 10000010 ∧ f_givesOf S x = 10000032) ∧ tkV S x = 2 ∧ gvV S x = 0 := by
  have nm : ¬ 0 < (f_moved S (f_op S x)).toInt := fun z => by have := mv_iff.mp z; omega
  have a1 : f_takesOf S x = 10000010 := by
    unfold f_takesOf f_takesOf_J18 f_takesOf_J31 f_takesOf_J47 f_takesOf_J75 f_takesOf_J93 f_takesOf_J111
    rw [if_neg (by omega), if_neg (by omega), if_neg (by omega), if_pos (by omega), if_neg (by omega), if_pos (by omega), if_neg (by omega), if_pos (by omega), if_neg (by omega), if_neg (by omega)]
  have a2 : f_givesOf S x = 10000032 := by
    unfold f_givesOf f_givesOf_J18 f_givesOf_J31 f_givesOf_J47
    rw [if_neg (by omega), if_neg (by omega), if_neg (by omega), if_pos (by omega), if_neg (by omega), if_neg (by omega), if_neg (by omega), if_neg (by omega), if_neg (by omega), if_neg (by omega), if_neg (by omega), if_neg (by omega), if_neg (by omega), if_neg (by omega), if_neg (by omega), if_neg (by omega), if_neg (by omega), if_neg (by omega), if_neg (by omega), if_neg (by omega), if_neg (by omega)]
  have p := tx_pl t
  refine ⟨⟨a1, a2⟩, ?_, ?_⟩
  · unfold tkV; rw [if_neg nm, a1]; exact p.1
  · unfold gvV; rw [if_neg nm, a2]; exact p.2.2.2.2.2.2.2.2.2.2.2.1
theorem tg_165 {S : MS} {x : Int32} (q : (f_op S x).toInt = 165) (t : TxI S) : (f_takesOf S x = 10000026 ∧ f_givesOf S x = 10000032) ∧ tkV S x = 2 ∧ gvV S x = 0 := by
  have nm : ¬ 0 < (f_moved S (f_op S x)).toInt := fun z => by have := mv_iff.mp z; omega
  have a1 : f_takesOf S x = 10000026 := by
    unfold f_takesOf f_takesOf_J18 f_takesOf_J31 f_takesOf_J47 f_takesOf_J75 f_takesOf_J93 f_takesOf_J111
    rw [if_neg (by omega), if_neg (by omega), if_neg (by omega), if_pos (by omega), if_neg (by omega), if_pos (by omega), if_neg (by omega), if_pos (by omega), if_neg (by omega), if_pos (by omega), if_neg (by omega), if_neg (by omega), if_neg (by omega), if_neg (by omega), if_neg (by omega), if_neg (by omega), if_neg (by omega), if_neg (by omega), if_neg (by omega), if_neg (by omega), if_neg (by omega), if_neg (by omega), if_neg (by omega), if_pos (by omega)]
  have a2 : f_givesOf S x = 10000032 := by
    unfold f_givesOf f_givesOf_J18 f_givesOf_J31 f_givesOf_J47
    rw [if_neg (by omega), if_neg (by omega), if_neg (by omega), if_pos (by omega), if_neg (by omega), if_neg (by omega), if_neg (by omega), if_neg (by omega), if_neg (by omega), if_neg (by omega), if_neg (by omega), if_neg (by omega), if_neg (by omega), if_neg (by omega), if_neg (by omega), if_neg (by omega), if_neg (by omega), if_neg (by omega), if_neg (by omega), if_neg (by omega), if_neg (by omega)]
  have p := tx_pl t
  refine ⟨⟨a1, a2⟩, ?_, ?_⟩
  · unfold tkV; rw [if_neg nm, a1]; exact p.2.2.2.2.2.2.2.2.1
  · unfold gvV; rw [if_neg nm, a2]; exact p.2.2.2.2.2.2.2.2.2.2.2.1
theorem tg_166 {S : MS} {x : Int32} (q : (f_op S x).toInt = 166) (t : TxI S) : (f_takesOf S x = 10000026 ∧ f_givesOf S x = 10000032) ∧ tkV S x = 2 ∧ gvV S x = 0 := by
  have nm : ¬ 0 < (f_moved S (f_op S x)).toInt := fun z => by have := mv_iff.mp z; omega
  have a1 : f_takesOf S x = 10000026 := by
    unfold f_takesOf f_takesOf_J18 f_takesOf_J31 f_takesOf_J47 f_takesOf_J75 f_takesOf_J93 f_takesOf_J111
    rw [if_neg (by omega), if_neg (by omega), if_neg (by omega), if_pos (by omega), if_neg (by omega), if_pos (by omega), if_neg (by omega), if_pos (by omega), if_neg (by omega), if_pos (by omega), if_neg (by omega), if_neg (by omega), if_neg (by omega), if_neg (by omega), if_neg (by omega), if_neg (by omega), if_neg (by omega), if_neg (by omega), if_neg (by omega), if_neg (by omega), if_neg (by omega), if_neg (by omega), if_neg (by omega), if_neg (by omega), if_pos (by omega)]
  have a2 : f_givesOf S x = 10000032 := by
    unfold f_givesOf f_givesOf_J18 f_givesOf_J31 f_givesOf_J47
    rw [if_neg (by omega), if_neg (by omega), if_neg (by omega), if_pos (by omega), if_neg (by omega), if_neg (by omega), if_neg (by omega), if_neg (by omega), if_neg (by omega), if_neg (by omega), if_neg (by omega), if_neg (by omega), if_neg (by omega), if_neg (by omega), if_neg (by omega), if_neg (by omega), if_neg (by omega), if_neg (by omega), if_neg (by omega), if_neg (by omega), if_neg (by omega)]
  have p := tx_pl t
  refine ⟨⟨a1, a2⟩, ?_, ?_⟩
  · unfold tkV; rw [if_neg nm, a1]; exact p.2.2.2.2.2.2.2.2.1
  · unfold gvV; rw [if_neg nm, a2]; exact p.2.2.2.2.2.2.2.2.2.2.2.1
theorem tg_167 {S : MS} {x : Int32} (q : (f_op S x).toInt = 167) (t : TxI S) : (f_takesOf S x = 10000032 ∧ f_givesOf S x = 10000032) ∧ tkV S x = 0 ∧ gvV S x = 0 := by
  have nm : ¬ 0 < (f_moved S (f_op S x)).toInt := fun z => by have := mv_iff.mp z; omega
  have a1 : f_takesOf S x = 10000032 := by
    unfold f_takesOf f_takesOf_J18 f_takesOf_J31 f_takesOf_J47 f_takesOf_J75 f_takesOf_J93 f_takesOf_J111
    rw [if_neg (by omega), if_neg (by omega), if_neg (by omega), if_pos (by omega), if_neg (by omega), if_pos (by omega), if_neg (by omega), if_pos (by omega), if_neg (by omega), if_pos (by omega), if_neg (by omega), if_neg (by omega), if_neg (by omega), if_neg (by omega), if_neg (by omega), if_neg (by omega), if_neg (by omega), if_neg (by omega), if_neg (by omega), if_neg (by omega), if_neg (by omega), if_neg (by omega), if_neg (by omega), if_neg (by omega), if_neg (by omega), if_neg (by omega), if_neg (by omega), if_neg (by omega), if_neg (by omega), if_neg (by omega), if_neg (by omega), if_neg (by omega), if_neg (by omega), if_neg (by omega), if_neg (by omega), if_neg (by omega), if_neg (by omega)]
  have a2 : f_givesOf S x = 10000032 := by
    unfold f_givesOf f_givesOf_J18 f_givesOf_J31 f_givesOf_J47
    rw [if_neg (by omega), if_neg (by omega), if_neg (by omega), if_pos (by omega), if_neg (by omega), if_neg (by omega), if_neg (by omega), if_neg (by omega), if_neg (by omega), if_neg (by omega), if_neg (by omega), if_neg (by omega), if_neg (by omega), if_neg (by omega), if_neg (by omega), if_neg (by omega), if_neg (by omega), if_neg (by omega), if_neg (by omega), if_neg (by omega), if_neg (by omega)]
  have p := tx_pl t
  refine ⟨⟨a1, a2⟩, ?_, ?_⟩
  · unfold tkV; rw [if_neg nm, a1]; exact p.2.2.2.2.2.2.2.2.2.2.2.1
  · unfold gvV; rw [if_neg nm, a2]; exact p.2.2.2.2.2.2.2.2.2.2.2.1
theorem tg_170 {S : MS} {x : Int32} (q : (f_op S x).toInt = 170) (t : TxI S) : (f_takesOf S x = 10000016 ∧ f_givesOf S x = 10000032) ∧ tkV S x = 1 ∧ gvV S x = 0 := by
  have nm : ¬ 0 < (f_moved S (f_op S x)).toInt := fun z => by have := mv_iff.mp z; omega
  have a1 : f_takesOf S x = 10000016 := by
    unfold f_takesOf f_takesOf_J18 f_takesOf_J31 f_takesOf_J47 f_takesOf_J75 f_takesOf_J93 f_takesOf_J111
    rw [if_neg (by omega), if_neg (by omega), if_neg (by omega), if_pos (by omega), if_neg (by omega), if_pos (by omega), if_neg (by omega), if_pos (by omega), if_neg (by omega), if_pos (by omega), if_neg (by omega), if_neg (by omega), if_neg (by omega), if_neg (by omega), if_neg (by omega), if_neg (by omega), if_neg (by omega), if_neg (by omega), if_neg (by omega), if_neg (by omega), if_neg (by omega), if_neg (by omega), if_neg (by omega), if_neg (by omega), if_neg (by omega), if_pos (by omega)]
  have a2 : f_givesOf S x = 10000032 := by
    unfold f_givesOf f_givesOf_J18 f_givesOf_J31 f_givesOf_J47
    rw [if_neg (by omega), if_neg (by omega), if_neg (by omega), if_pos (by omega), if_neg (by omega), if_neg (by omega), if_neg (by omega), if_neg (by omega), if_neg (by omega), if_neg (by omega), if_neg (by omega), if_neg (by omega), if_neg (by omega), if_neg (by omega), if_neg (by omega), if_neg (by omega), if_neg (by omega), if_neg (by omega), if_neg (by omega), if_neg (by omega), if_neg (by omega)]
  have p := tx_pl t
  refine ⟨⟨a1, a2⟩, ?_, ?_⟩
  · unfold tkV; rw [if_neg nm, a1]; exact p.2.2.2.1
  · unfold gvV; rw [if_neg nm, a2]; exact p.2.2.2.2.2.2.2.2.2.2.2.1
theorem tg_171 {S : MS} {x : Int32} (q : (f_op S x).toInt = 171) (t : TxI S) : (f_takesOf S x = 10000016 ∧ f_givesOf S x = 10000032) ∧ tkV S x = 1 ∧ gvV S x = 0 := by
  have nm : ¬ 0 < (f_moved S (f_op S x)).toInt := fun z => by have := mv_iff.mp z; omega
  have a1 : f_takesOf S x = 10000016 := by
    unfold f_takesOf f_takesOf_J18 f_takesOf_J31 f_takesOf_J47 f_takesOf_J75 f_takesOf_J93 f_takesOf_J111
    rw [if_neg (by omega), if_neg (by omega), if_neg (by omega), if_pos (by omega), if_neg (by omega), if_pos (by omega), if_neg (by omega), if_pos (by omega), if_neg (by omega), if_pos (by omega), if_neg (by omega), if_neg (by omega), if_neg (by omega), if_neg (by omega), if_neg (by omega), if_neg (by omega), if_neg (by omega), if_neg (by omega), if_neg (by omega), if_neg (by omega), if_neg (by omega), if_neg (by omega), if_neg (by omega), if_neg (by omega), if_neg (by omega), if_neg (by omega), if_pos (by omega)]
  have a2 : f_givesOf S x = 10000032 := by
    unfold f_givesOf f_givesOf_J18 f_givesOf_J31 f_givesOf_J47
    rw [if_neg (by omega), if_neg (by omega), if_neg (by omega), if_pos (by omega), if_neg (by omega), if_neg (by omega), if_neg (by omega), if_neg (by omega), if_neg (by omega), if_neg (by omega), if_neg (by omega), if_neg (by omega), if_neg (by omega), if_neg (by omega), if_neg (by omega), if_neg (by omega), if_neg (by omega), if_neg (by omega), if_neg (by omega), if_neg (by omega), if_neg (by omega)]
  have p := tx_pl t
  refine ⟨⟨a1, a2⟩, ?_, ?_⟩
  · unfold tkV; rw [if_neg nm, a1]; exact p.2.2.2.1
  · unfold gvV; rw [if_neg nm, a2]; exact p.2.2.2.2.2.2.2.2.2.2.2.1
theorem tg_172 {S : MS} {x : Int32} (q : (f_op S x).toInt = 172) (t : TxI S) : (f_takesOf S x = 10000016 ∧ f_givesOf S x = 10000032) ∧ tkV S x = 1 ∧ gvV S x = 0 := by
  have nm : ¬ 0 < (f_moved S (f_op S x)).toInt := fun z => by have := mv_iff.mp z; omega
  have a1 : f_takesOf S x = 10000016 := by
    unfold f_takesOf f_takesOf_J18 f_takesOf_J31 f_takesOf_J47 f_takesOf_J75 f_takesOf_J93 f_takesOf_J111
    rw [if_neg (by omega), if_neg (by omega), if_neg (by omega), if_pos (by omega), if_neg (by omega), if_pos (by omega), if_neg (by omega), if_pos (by omega), if_neg (by omega), if_pos (by omega), if_neg (by omega), if_neg (by omega), if_neg (by omega), if_neg (by omega), if_neg (by omega), if_neg (by omega), if_neg (by omega), if_neg (by omega), if_neg (by omega), if_neg (by omega), if_neg (by omega), if_neg (by omega), if_neg (by omega), if_neg (by omega), if_neg (by omega), if_neg (by omega), if_neg (by omega), if_pos (by omega)]
  have a2 : f_givesOf S x = 10000032 := by
    unfold f_givesOf f_givesOf_J18 f_givesOf_J31 f_givesOf_J47
    rw [if_neg (by omega), if_neg (by omega), if_neg (by omega), if_pos (by omega), if_neg (by omega), if_neg (by omega), if_neg (by omega), if_neg (by omega), if_neg (by omega), if_neg (by omega), if_neg (by omega), if_neg (by omega), if_neg (by omega), if_neg (by omega), if_neg (by omega), if_neg (by omega), if_neg (by omega), if_neg (by omega), if_neg (by omega), if_neg (by omega), if_neg (by omega)]
  have p := tx_pl t
  refine ⟨⟨a1, a2⟩, ?_, ?_⟩
  · unfold tkV; rw [if_neg nm, a1]; exact p.2.2.2.1
  · unfold gvV; rw [if_neg nm, a2]; exact p.2.2.2.2.2.2.2.2.2.2.2.1
theorem tg_173 {S : MS} {x : Int32} (q : (f_op S x).toInt = 173) (t : TxI S) : (f_takesOf S x = 10000022 ∧ f_givesOf S x = 10000032) ∧ tkV S x = 2 ∧ gvV S x = 0 := by
  have nm : ¬ 0 < (f_moved S (f_op S x)).toInt := fun z => by have := mv_iff.mp z; omega
  have a1 : f_takesOf S x = 10000022 := by
    unfold f_takesOf f_takesOf_J18 f_takesOf_J31 f_takesOf_J47 f_takesOf_J75 f_takesOf_J93 f_takesOf_J111
    rw [if_neg (by omega), if_neg (by omega), if_neg (by omega), if_pos (by omega), if_neg (by omega), if_pos (by omega), if_neg (by omega), if_pos (by omega), if_neg (by omega), if_pos (by omega), if_neg (by omega), if_neg (by omega), if_neg (by omega), if_neg (by omega), if_neg (by omega), if_neg (by omega), if_neg (by omega), if_neg (by omega), if_neg (by omega), if_neg (by omega), if_neg (by omega), if_neg (by omega), if_neg (by omega), if_neg (by omega), if_neg (by omega), if_neg (by omega), if_neg (by omega), if_neg (by omega), if_pos (by omega)]
  have a2 : f_givesOf S x = 10000032 := by
    unfold f_givesOf f_givesOf_J18 f_givesOf_J31 f_givesOf_J47
    rw [if_neg (by omega), if_neg (by omega), if_neg (by omega), if_pos (by omega), if_neg (by omega), if_neg (by omega), if_neg (by omega), if_neg (by omega), if_neg (by omega), if_neg (by omega), if_neg (by omega), if_neg (by omega), if_neg (by omega), if_neg (by omega), if_neg (by omega), if_neg (by omega), if_neg (by omega), if_neg (by omega), if_neg (by omega), if_neg (by omega), if_neg (by omega)]
  have p := tx_pl t
  refine ⟨⟨a1, a2⟩, ?_, ?_⟩
  · unfold tkV; rw [if_neg nm, a1]; exact p.2.2.2.2.2.2.1
  · unfold gvV; rw [if_neg nm, a2]; exact p.2.2.2.2.2.2.2.2.2.2.2.1
theorem tg_176 {S : MS} {x : Int32} (q : (f_op S x).toInt = 176) (t : TxI S) : (f_takesOf S x = 10000028 ∧ f_givesOf S x = 10000032) ∧ tkV S x = 1 ∧ gvV S x = 0 := by
  have nm : ¬ 0 < (f_moved S (f_op S x)).toInt := fun z => by have := mv_iff.mp z; omega
  have a1 : f_takesOf S x = 10000028 := by
    unfold f_takesOf f_takesOf_J18 f_takesOf_J31 f_takesOf_J47 f_takesOf_J75 f_takesOf_J93 f_takesOf_J111
    rw [if_neg (by omega), if_neg (by omega), if_neg (by omega), if_pos (by omega), if_neg (by omega), if_pos (by omega), if_neg (by omega), if_pos (by omega), if_neg (by omega), if_pos (by omega), if_neg (by omega), if_neg (by omega), if_neg (by omega), if_neg (by omega), if_neg (by omega), if_neg (by omega), if_neg (by omega), if_neg (by omega), if_neg (by omega), if_neg (by omega), if_neg (by omega), if_neg (by omega), if_neg (by omega), if_neg (by omega), if_neg (by omega), if_neg (by omega), if_neg (by omega), if_neg (by omega), if_neg (by omega), if_pos (by omega)]
  have a2 : f_givesOf S x = 10000032 := by
    unfold f_givesOf f_givesOf_J18 f_givesOf_J31 f_givesOf_J47
    rw [if_neg (by omega), if_neg (by omega), if_neg (by omega), if_pos (by omega), if_neg (by omega), if_neg (by omega), if_neg (by omega), if_neg (by omega), if_neg (by omega), if_neg (by omega), if_neg (by omega), if_neg (by omega), if_neg (by omega), if_neg (by omega), if_neg (by omega), if_neg (by omega), if_neg (by omega), if_neg (by omega), if_neg (by omega), if_neg (by omega), if_neg (by omega)]
  have p := tx_pl t
  refine ⟨⟨a1, a2⟩, ?_, ?_⟩
  · unfold tkV; rw [if_neg nm, a1]; exact p.2.2.2.2.2.2.2.2.2.1
  · unfold gvV; rw [if_neg nm, a2]; exact p.2.2.2.2.2.2.2.2.2.2.2.1
theorem tg_177 {S : MS} {x : Int32} (q : (f_op S x).toInt = 177) (t : TxI S) : (f_takesOf S x = 10000032 ∧ f_givesOf S x = 10000032) ∧ tkV S x = 0 ∧ gvV S x = 0 := by
  have nm : ¬ 0 < (f_moved S (f_op S x)).toInt := fun z => by have := mv_iff.mp z; omega
  have a1 : f_takesOf S x = 10000032 := by
    unfold f_takesOf f_takesOf_J18 f_takesOf_J31 f_takesOf_J47 f_takesOf_J75 f_takesOf_J93 f_takesOf_J111
    rw [if_neg (by omega), if_neg (by omega), if_neg (by omega), if_pos (by omega), if_neg (by omega), if_pos (by omega), if_neg (by omega), if_pos (by omega), if_neg (by omega), if_pos (by omega), if_neg (by omega), if_neg (by omega), if_neg (by omega), if_neg (by omega), if_neg (by omega), if_neg (by omega), if_neg (by omega), if_neg (by omega), if_neg (by omega), if_neg (by omega), if_neg (by omega), if_neg (by omega), if_neg (by omega), if_neg (by omega), if_neg (by omega), if_neg (by omega), if_neg (by omega), if_neg (by omega), if_neg (by omega), if_neg (by omega), if_neg (by omega), if_neg (by omega), if_neg (by omega), if_neg (by omega), if_neg (by omega), if_neg (by omega), if_neg (by omega)]
  have a2 : f_givesOf S x = 10000032 := by
    unfold f_givesOf f_givesOf_J18 f_givesOf_J31 f_givesOf_J47
    rw [if_neg (by omega), if_neg (by omega), if_neg (by omega), if_pos (by omega), if_neg (by omega), if_neg (by omega), if_neg (by omega), if_neg (by omega), if_neg (by omega), if_neg (by omega), if_neg (by omega), if_neg (by omega), if_neg (by omega), if_neg (by omega), if_neg (by omega), if_neg (by omega), if_neg (by omega), if_neg (by omega), if_neg (by omega), if_neg (by omega), if_neg (by omega)]
  have p := tx_pl t
  refine ⟨⟨a1, a2⟩, ?_, ?_⟩
  · unfold tkV; rw [if_neg nm, a1]; exact p.2.2.2.2.2.2.2.2.2.2.2.1
  · unfold gvV; rw [if_neg nm, a2]; exact p.2.2.2.2.2.2.2.2.2.2.2.1
theorem tg_188 {S : MS} {x : Int32} (q : (f_op S x).toInt = 188) (t : TxI S) : (f_takesOf S x = 10000016 ∧ f_givesOf S x = 10000028) ∧ tkV S x = 1 ∧ gvV S x = 1 := by
  have nm : ¬ 0 < (f_moved S (f_op S x)).toInt := fun z => by have := mv_iff.mp z; omega
  have a1 : f_takesOf S x = 10000016 := by
    unfold f_takesOf f_takesOf_J18 f_takesOf_J31 f_takesOf_J47 f_takesOf_J75 f_takesOf_J93 f_takesOf_J111
    rw [if_neg (by omega), if_neg (by omega), if_neg (by omega), if_pos (by omega), if_neg (by omega), if_pos (by omega), if_neg (by omega), if_pos (by omega), if_neg (by omega), if_pos (by omega), if_neg (by omega), if_neg (by omega), if_neg (by omega), if_neg (by omega), if_neg (by omega), if_neg (by omega), if_neg (by omega), if_neg (by omega), if_neg (by omega), if_neg (by omega), if_neg (by omega), if_neg (by omega), if_neg (by omega), if_neg (by omega), if_neg (by omega), if_neg (by omega), if_neg (by omega), if_neg (by omega), if_neg (by omega), if_neg (by omega), if_neg (by omega), if_neg (by omega), if_pos (by omega)]
  have a2 : f_givesOf S x = 10000028 := by
    unfold f_givesOf f_givesOf_J18 f_givesOf_J31 f_givesOf_J47
    rw [if_neg (by omega), if_neg (by omega), if_neg (by omega), if_pos (by omega), if_neg (by omega), if_neg (by omega), if_neg (by omega), if_neg (by omega), if_neg (by omega), if_neg (by omega), if_neg (by omega), if_neg (by omega), if_neg (by omega), if_neg (by omega), if_neg (by omega), if_neg (by omega), if_neg (by omega), if_neg (by omega), if_neg (by omega), if_pos (by omega)]
  have p := tx_pl t
  refine ⟨⟨a1, a2⟩, ?_, ?_⟩
  · unfold tkV; rw [if_neg nm, a1]; exact p.2.2.2.1
  · unfold gvV; rw [if_neg nm, a2]; exact p.2.2.2.2.2.2.2.2.2.1
theorem tg_190 {S : MS} {x : Int32} (q : (f_op S x).toInt = 190) (t : TxI S) : (f_takesOf S x = 10000028 ∧ f_givesOf S x = 10000016) ∧ tkV S x = 1 ∧ gvV S x = 1 := by
  have nm : ¬ 0 < (f_moved S (f_op S x)).toInt := fun z => by have := mv_iff.mp z; omega
  have a1 : f_takesOf S x = 10000028 := by
    unfold f_takesOf f_takesOf_J18 f_takesOf_J31 f_takesOf_J47 f_takesOf_J75 f_takesOf_J93 f_takesOf_J111
    rw [if_neg (by omega), if_neg (by omega), if_neg (by omega), if_pos (by omega), if_neg (by omega), if_pos (by omega), if_neg (by omega), if_pos (by omega), if_neg (by omega), if_pos (by omega), if_neg (by omega), if_neg (by omega), if_neg (by omega), if_neg (by omega), if_neg (by omega), if_neg (by omega), if_neg (by omega), if_neg (by omega), if_neg (by omega), if_neg (by omega), if_neg (by omega), if_neg (by omega), if_neg (by omega), if_neg (by omega), if_neg (by omega), if_neg (by omega), if_neg (by omega), if_neg (by omega), if_neg (by omega), if_neg (by omega), if_neg (by omega), if_neg (by omega), if_neg (by omega), if_pos (by omega)]
  have a2 : f_givesOf S x = 10000016 := by
    unfold f_givesOf f_givesOf_J18 f_givesOf_J31 f_givesOf_J47
    rw [if_neg (by omega), if_neg (by omega), if_neg (by omega), if_pos (by omega), if_neg (by omega), if_neg (by omega), if_neg (by omega), if_neg (by omega), if_neg (by omega), if_neg (by omega), if_neg (by omega), if_neg (by omega), if_neg (by omega), if_neg (by omega), if_neg (by omega), if_neg (by omega), if_neg (by omega), if_neg (by omega), if_neg (by omega), if_neg (by omega), if_pos (by omega)]
  have p := tx_pl t
  refine ⟨⟨a1, a2⟩, ?_, ?_⟩
  · unfold tkV; rw [if_neg nm, a1]; exact p.2.2.2.2.2.2.2.2.2.1
  · unfold gvV; rw [if_neg nm, a2]; exact p.2.2.2.1
theorem tg_191 {S : MS} {x : Int32} (q : (f_op S x).toInt = 191) (t : TxI S) : (f_takesOf S x = 10000030 ∧ f_givesOf S x = 10000032) ∧ tkV S x = 1 ∧ gvV S x = 0 := by
  have nm : ¬ 0 < (f_moved S (f_op S x)).toInt := fun z => by have := mv_iff.mp z; omega
  have a1 : f_takesOf S x = 10000030 := by
    unfold f_takesOf f_takesOf_J18 f_takesOf_J31 f_takesOf_J47 f_takesOf_J75 f_takesOf_J93 f_takesOf_J111
    rw [if_neg (by omega), if_neg (by omega), if_neg (by omega), if_pos (by omega), if_neg (by omega), if_pos (by omega), if_neg (by omega), if_pos (by omega), if_neg (by omega), if_pos (by omega), if_neg (by omega), if_neg (by omega), if_neg (by omega), if_neg (by omega), if_neg (by omega), if_neg (by omega), if_neg (by omega), if_neg (by omega), if_neg (by omega), if_neg (by omega), if_neg (by omega), if_neg (by omega), if_neg (by omega), if_neg (by omega), if_neg (by omega), if_neg (by omega), if_neg (by omega), if_neg (by omega), if_neg (by omega), if_neg (by omega), if_neg (by omega), if_neg (by omega), if_neg (by omega), if_neg (by omega), if_pos (by omega)]
  have a2 : f_givesOf S x = 10000032 := by
    unfold f_givesOf f_givesOf_J18 f_givesOf_J31 f_givesOf_J47
    rw [if_neg (by omega), if_neg (by omega), if_neg (by omega), if_pos (by omega), if_neg (by omega), if_neg (by omega), if_neg (by omega), if_neg (by omega), if_neg (by omega), if_neg (by omega), if_neg (by omega), if_neg (by omega), if_neg (by omega), if_neg (by omega), if_neg (by omega), if_neg (by omega), if_neg (by omega), if_neg (by omega), if_neg (by omega), if_neg (by omega), if_neg (by omega)]
  have p := tx_pl t
  refine ⟨⟨a1, a2⟩, ?_, ?_⟩
  · unfold tkV; rw [if_neg nm, a1]; exact p.2.2.2.2.2.2.2.2.2.2.1
  · unfold gvV; rw [if_neg nm, a2]; exact p.2.2.2.2.2.2.2.2.2.2.2.1
theorem tg_198 {S : MS} {x : Int32} (q : (f_op S x).toInt = 198) (t : TxI S) : (f_takesOf S x = 10000024 ∧ f_givesOf S x = 10000032) ∧ tkV S x = 1 ∧ gvV S x = 0 := by
  have nm : ¬ 0 < (f_moved S (f_op S x)).toInt := fun z => by have := mv_iff.mp z; omega
  have a1 : f_takesOf S x = 10000024 := by
    unfold f_takesOf f_takesOf_J18 f_takesOf_J31 f_takesOf_J47 f_takesOf_J75 f_takesOf_J93 f_takesOf_J111
    rw [if_neg (by omega), if_neg (by omega), if_neg (by omega), if_pos (by omega), if_neg (by omega), if_pos (by omega), if_neg (by omega), if_pos (by omega), if_neg (by omega), if_pos (by omega), if_neg (by omega), if_neg (by omega), if_neg (by omega), if_neg (by omega), if_neg (by omega), if_neg (by omega), if_neg (by omega), if_neg (by omega), if_neg (by omega), if_neg (by omega), if_neg (by omega), if_neg (by omega), if_neg (by omega), if_neg (by omega), if_neg (by omega), if_neg (by omega), if_neg (by omega), if_neg (by omega), if_neg (by omega), if_neg (by omega), if_neg (by omega), if_neg (by omega), if_neg (by omega), if_neg (by omega), if_neg (by omega), if_pos (by omega)]
  have a2 : f_givesOf S x = 10000032 := by
    unfold f_givesOf f_givesOf_J18 f_givesOf_J31 f_givesOf_J47
    rw [if_neg (by omega), if_neg (by omega), if_neg (by omega), if_pos (by omega), if_neg (by omega), if_neg (by omega), if_neg (by omega), if_neg (by omega), if_neg (by omega), if_neg (by omega), if_neg (by omega), if_neg (by omega), if_neg (by omega), if_neg (by omega), if_neg (by omega), if_neg (by omega), if_neg (by omega), if_neg (by omega), if_neg (by omega), if_neg (by omega), if_neg (by omega)]
  have p := tx_pl t
  refine ⟨⟨a1, a2⟩, ?_, ?_⟩
  · unfold tkV; rw [if_neg nm, a1]; exact p.2.2.2.2.2.2.2.1
  · unfold gvV; rw [if_neg nm, a2]; exact p.2.2.2.2.2.2.2.2.2.2.2.1
theorem tg_199 {S : MS} {x : Int32} (q : (f_op S x).toInt = 199) (t : TxI S) : (f_takesOf S x = 10000024 ∧ f_givesOf S x = 10000032) ∧ tkV S x = 1 ∧ gvV S x = 0 := by
  have nm : ¬ 0 < (f_moved S (f_op S x)).toInt := fun z => by have := mv_iff.mp z; omega
  have a1 : f_takesOf S x = 10000024 := by
    unfold f_takesOf f_takesOf_J18 f_takesOf_J31 f_takesOf_J47 f_takesOf_J75 f_takesOf_J93 f_takesOf_J111
    rw [if_neg (by omega), if_neg (by omega), if_neg (by omega), if_pos (by omega), if_neg (by omega), if_pos (by omega), if_neg (by omega), if_pos (by omega), if_neg (by omega), if_pos (by omega), if_neg (by omega), if_neg (by omega), if_neg (by omega), if_neg (by omega), if_neg (by omega), if_neg (by omega), if_neg (by omega), if_neg (by omega), if_neg (by omega), if_neg (by omega), if_neg (by omega), if_neg (by omega), if_neg (by omega), if_neg (by omega), if_neg (by omega), if_neg (by omega), if_neg (by omega), if_neg (by omega), if_neg (by omega), if_neg (by omega), if_neg (by omega), if_neg (by omega), if_neg (by omega), if_neg (by omega), if_neg (by omega), if_neg (by omega), if_pos (by omega)]
  have a2 : f_givesOf S x = 10000032 := by
    unfold f_givesOf f_givesOf_J18 f_givesOf_J31 f_givesOf_J47
    rw [if_neg (by omega), if_neg (by omega), if_neg (by omega), if_pos (by omega), if_neg (by omega), if_neg (by omega), if_neg (by omega), if_neg (by omega), if_neg (by omega), if_neg (by omega), if_neg (by omega), if_neg (by omega), if_neg (by omega), if_neg (by omega), if_neg (by omega), if_neg (by omega), if_neg (by omega), if_neg (by omega), if_neg (by omega), if_neg (by omega), if_neg (by omega)]
  have p := tx_pl t
  refine ⟨⟨a1, a2⟩, ?_, ?_⟩
  · unfold tkV; rw [if_neg nm, a1]; exact p.2.2.2.2.2.2.2.1
  · unfold gvV; rw [if_neg nm, a2]; exact p.2.2.2.2.2.2.2.2.2.2.2.1
