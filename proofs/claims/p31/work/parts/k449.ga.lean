/-! the small calls keep what stands (behind GI, sp_stage, sp_run, sp_blocks2, sp_write) -/
theorem by_word_L2 {Q : MS → Prop} : ∀ (n : Nat) (U : MS) (v i : Int32), w_word_L2 Q n U v i → byt U 2 → w_word_L2 (fun u => Q u ∧ byt u 2) n U v i := by
  intro n
  induction n with
  | zero => intro U v i h _; exact h
  | succ n ih =>
    intro U v i h b
    unfold w_word_L2 at h ⊢
    refine ⟨fun c => ⟨h.1 c, b⟩, fun c => ⟨(h.2 c).1, fun A eA B eB a ea => ih B v a ((h.2 c).2 A eA B eB a ea) (fun j => ?_)⟩⟩
    rw [eB, rdH (by decide), eA, qI_wI]
    by_cases q : 2 = 2 ∧ j = (qI U 0 4).toInt.toNat
    · rw [if_pos q]; exact fitB _
    · rw [if_neg q]; exact b j
theorem by_word {S : MS} {x : Int32} {Q : MS → Prop} (h : w_word S x Q) (b : byt S 2) : w_word S x (fun u => Q u ∧ byt u 2) := by
  obtain ⟨n, h⟩ := h
  exact ⟨n, by_word_L2 n S x 0 h b⟩
theorem by_feed {S : MS} {x1 x2 x3 x4 x5 : Int32} {Q : Int32 → MS → Prop} (h : w_feed S x1 x2 x3 x4 x5 Q) (b : byt S 2) : w_feed S x1 x2 x3 x4 x5 (fun r u => Q r u ∧ byt u 2) := by
  unfold w_feed at h ⊢
  refine ⟨fun c => ⟨h.1 c, b⟩, fun c => ⟨fun d => ?_, fun d => ⟨(h.2 c).2 d, b⟩⟩⟩
  obtain ⟨Q5, w5, k5⟩ := (h.2 c).1 d
  refine ⟨_, by_word w5 b, fun S6 h6 => ?_⟩
  obtain ⟨Q8, w8, k8⟩ := k5 S6 h6.1
  refine ⟨_, by_word w8 h6.2, fun S9 h9 => ?_⟩
  obtain ⟨Q11, w11, k11⟩ := k8 S9 h9.1
  refine ⟨_, by_word w11 h9.2, fun S12 h12 => ?_⟩
  obtain ⟨Q14, w14, k14⟩ := k11 S12 h12.1
  refine ⟨_, by_word w14 h12.2, fun S15 h15 => ?_⟩
  obtain ⟨Q17, w17, k17⟩ := k14 S15 h15.1
  refine ⟨_, by_word w17 h15.2, fun S18 h18 S21 e21 => ⟨k17 S18 h18.1 S21 e21, fun j => ?_⟩⟩
  rw [e21, rdH (by decide)]
  exact h18.2 j
theorem GrJ.lo {S u : MS} {W J : List Nat} (h : GrJ S) (F : FsI VfI S) (k : frm W J S u) (hW : ∀ w ∈ W, w ≠ 1 ∧ (w < 49 ∨ 53 < w) ∧ w ≤ 92) (hJ : ∀ j ∈ J, j ≠ 1 ∧ j ≠ 105 ∧ j ≠ 106 ∧ j ≠ 107 ∧ j ≠ 110) : GrJ u := by
  have kb := big_frm k (fun w q => (hW w q).2.2)
  have lw := fun (a : Nat) (h0 : a ≠ 0) (h1 : a = 1 ∨ 49 ≤ a ∧ a ≤ 53) => k.2.2.2.2.1 a h0 (fun q => by have := hW a q; omega)
  have lj := fun (j : Nat) (q : j = 1 ∨ j = 105 ∨ j = 106 ∨ j = 107 ∨ j = 110) => (k.2.2.2.2.2 j (fun z => by have := hJ j z; omega)).1
  exact h.mv F (fun a a0 _ => (kb a a0).s6) ⟨lj 1 (by omega), lj 105 (by omega), lj 106 (by omega), lj 107 (by omega), lj 110 (by omega)⟩ (lw 1 (by decide) (by decide)).2.2 ⟨(lw 49 (by decide) (by decide)).1, (lw 50 (by decide) (by decide)).1, (lw 51 (by decide) (by decide)).1, (lw 52 (by decide) (by decide)).1, (lw 53 (by decide) (by decide)).1⟩
theorem sp_stage2 {S : MS} {x : Int32} (h : FsI VfI S) : w_stage S x (fun _ u => u = S ∨ (frm [37, 38] [80, 85, 86] S u ∧ (qI u 0 85).toInt = 0 ∧ (qI u 0 86).toInt = 0 ∧ (∀ j : Nat, j < 24 → qJ u 37 j = 0) ∧ ∃ f : Nat, qR u 0 80 = some f ∧ FlI S f ∧ VfI S f)) := by
  unfold w_stage
  refine ⟨_, sp_isRight h, ?_⟩
  rintro r u ⟨rfl, hr⟩
  refine ⟨fun _ => Or.inl rfl, fun c => ?_⟩
  obtain ⟨f, a1, a2, a3, a4⟩ := hr c
  have qo : qO u 1 x.toInt.toNat = f := by unfold qO; rw [a2]; rfl
  have h1 := h.1
  rw [qo]
  refine ⟨⟨by omega, by omega⟩, a2, fun A eA => ?_⟩
  have fA : frm [37, 38] [80, 85, 86] u A := by rw [eA]; exact frm.pR0 (by decide)
  have rA : qR A 0 80 = some f := by rw [eA, qR_wR, if_pos ⟨rfl, rfl⟩]
  have L43 : ∀ (m : Nat) (U : MS) (i : Int32), frm [37, 38] [80, 85, 86] u U → qR U 0 80 = some f → (∀ j : Nat, j < 24 → qJ U 37 j = 0) → (0 ≤ i.toInt ∧ i.toInt ≤ 20000) → (20000 - i.toInt).toNat < m → w_stage_L43 (fun _ v => v = u ∨ (frm [37, 38] [80, 85, 86] u v ∧ (qI v 0 85).toInt = 0 ∧ (qI v 0 86).toInt = 0 ∧ (∀ j : Nat, j < 24 → qJ v 37 j = 0) ∧ ∃ f : Nat, qR v 0 80 = some f ∧ FlI u f ∧ VfI u f)) m U i := by
    intro m
    induction m with
    | zero => intro U i _ _ _ _ h9; exact absurd h9 (Nat.not_lt_zero _)
    | succ m ih =>
      intro U i fU rU zU hi hm
      have ei : (i + Int32.ofInt 1).toInt = i.toInt + 1 := by rw [t_add (by rw [lo_1]; omega), lo_1]
      unfold w_stage_L43
      refine ⟨fun _ B eB C eC => Or.inr ⟨(fU.tr (show frm [37, 38] [80, 85, 86] U B by rw [eB]; exact frm.pI0 (by decide))).tr (by rw [eC]; exact frm.pI0 (by decide)), ?_, ?_, ?_, f, ?_, a3, a4⟩, fun c2 => ⟨⟨hi.1, by omega⟩, fun B eB a ea => ?_⟩⟩
      · rw [eC, qI_wI, if_neg (by decide), eB, qI_wI, if_pos ⟨rfl, rfl⟩]; rfl
      · rw [eC, qI_wI, if_pos ⟨rfl, rfl⟩]; rfl
      · rw [eC, eB]; exact zU
      · rw [eC, eB]; exact rU
      · subst ea
        exact ih B _ (fU.tr (by rw [eB]; exact frm.pI (by decide))) (by rw [eB]; exact rU) (by rw [eB]; exact zU) ⟨by omega, by omega⟩ (by omega)
  have L22 : ∀ (m : Nat) (U : MS) (i : Int32), frm [37, 38] [80, 85, 86] u U → qR U 0 80 = some f → (∀ j : Nat, (j : Int) < i.toInt → qJ U 37 j = 0) → (0 ≤ i.toInt ∧ i.toInt ≤ 24) → (24 - i.toInt).toNat < m → w_stage_L22 (fun _ v => v = u ∨ (frm [37, 38] [80, 85, 86] u v ∧ (qI v 0 85).toInt = 0 ∧ (qI v 0 86).toInt = 0 ∧ (∀ j : Nat, j < 24 → qJ v 37 j = 0) ∧ ∃ f : Nat, qR v 0 80 = some f ∧ FlI u f ∧ VfI u f)) m U i := by
    intro m
    induction m with
    | zero => intro U i _ _ _ _ h9; exact absurd h9 (Nat.not_lt_zero _)
    | succ m ih =>
      intro U i fU rU zU hi hm
      have ei : (i + Int32.ofInt 1).toInt = i.toInt + 1 := by rw [t_add (by rw [lo_1]; omega), lo_1]
      unfold w_stage_L22
      refine ⟨fun _ => ⟨_, L43 _ U 0 fU rU (fun j hj => zU j (by omega)) (by decide) (Nat.lt_succ_self _)⟩, fun c2 => ⟨⟨hi.1, by omega⟩, fun B eB a ea => ?_⟩⟩
      subst ea
      refine ih B _ (fU.tr (by rw [eB]; exact frm.pJ (by decide))) (by rw [eB]; exact rU) (fun j hj => ?_) ⟨by omega, by omega⟩ (by omega)
      rw [eB, qJ_wJ]
      by_cases q : 37 = 37 ∧ j = i.toInt.toNat
      · rw [if_pos q]
      · rw [if_neg q]; exact zU j (by omega)
  exact ⟨_, L22 _ A 0 fA rA (fun j hj => by rw [li_0] at hj; omega) (by decide) (Nat.lt_succ_self _)⟩
section GAX
variable {c : Nat} {S : MS}
theorem g_feed {x1 x2 x3 x4 x5 : Int32} (g : GI c S) : ∃ Q, w_feed S x1 x2 x3 x4 x5 Q ∧ ∀ (r : Int32) (u : MS), Q r u → GS c S u := by
  obtain ⟨g1, g2, g3, g4, g5, g6, g7⟩ := g
  have s := sp_feed (S := S) (x1 := x1) (x2 := x2) (x3 := x3) (x4 := x4) (x5 := x5) (Q := fun _ u => (0 ≤ (qI u 0 4).toInt ∧ (qI u 0 4).toInt ≤ 16000) ∧ (0 ≤ (qI u 0 5).toInt ∧ (qI u 0 5).toInt ≤ 65536)) g4.1 g4.2.1 (fun r u h => h)
  refine ⟨_, fr_feed (by_feed s g3.2.2), ?_⟩
  rintro r u ⟨⟨⟨b4, b5⟩, by2⟩, k⟩
  have gx := g2.fm k (by decide)
  exact ⟨⟨g1.fm k (by decide) (by decide), gx, ⟨g3.1.fm k (by decide) (by decide) (by decide) (by decide), by rw [(k.2.2.2.2.2 78 (by decide)).1]; exact g3.2.1, by2⟩, ⟨b4, b5, by rw [(k.2.2.2.2.2 2 (by decide)).1]; exact g4.2.2.1, by rw [(k.2.2.2.2.2 88 (by decide)).1]; exact g4.2.2.2⟩, g5.fm g1.2.2 k (by decide) (by decide) gx.2.1, g6.lo g1.1 k (by decide) (by decide), (g7.fm g1.1 k (by decide) (by decide)).up⟩, (k.2.2.2.2.2 88 (by decide)).1⟩
theorem g_end {x : Int32} (g : GI c S) : ∃ Q, w_end S x Q ∧ ∀ (r : Int32) (u : MS), Q r u → GS c S u := by
  refine ⟨_, sp_end, ?_⟩
  rintro r u (e | ⟨e, e0, e1⟩)
  · rw [e]; exact g.gs
  obtain ⟨g1, g2, g3, g4, g5, g6, g7⟩ := g
  have k : frm [] [4] S u := by rw [e]; exact frm.pI0 (by decide)
  have u4 : qI u 0 4 = x := by rw [e, qI_wI, if_pos ⟨rfl, rfl⟩]
  have gx := g2.fm k (by decide)
  exact ⟨⟨g1.fm k (by decide) (by decide), gx, g3.fm k (by decide) (by decide), ⟨by rw [u4]; have := g4.1; omega, by rw [(k.2.2.2.2.2 5 (by decide)).1]; exact g4.2.1, by rw [(k.2.2.2.2.2 2 (by decide)).1]; exact g4.2.2.1, by rw [(k.2.2.2.2.2 88 (by decide)).1]; exact g4.2.2.2⟩, g5.fm g1.2.2 k (by decide) (by decide) gx.2.1, g6.lo g1.1 k (by decide) (by decide), (g7.fm g1.1 k (by decide) (by decide)).up⟩, (k.2.2.2.2.2 88 (by decide)).1⟩
theorem g_stage {x : Int32} (g : GI c S) : ∃ Q, w_stage S x Q ∧ ∀ (r : Int32) (u : MS), Q r u → GS c S u := by
  refine ⟨_, sp_stage2 g.1.1, ?_⟩
  rintro r u (e | ⟨k, z85, z86, z37, f, hr, hf, hv⟩)
  · rw [e]; exact g.gs
  obtain ⟨g1, g2, g3, g4, g5, g6, g7⟩ := g
  have gx := g2.fm k (by decide)
  have kb := big_frm k (by decide)
  have f92 := hf.1.1.1
  have hfu : FlI u f := hf.fm f92 k (by decide)
  have hvu : VfI u f := VfI.st S u f hv g1.2.2 (fun a a0 _ => (kb a a0).s6) (fun a a0 => kb a (by rw [show TXB = 10000000 from rfl] at a0; omega)) (by rw [(kb f f92).1]) (by rw [(kb f f92).2.2.1]) (by rw [k.2.2.1]; exact Nat.le_refl _)
  refine ⟨⟨g1.fm k (by decide) (by decide), gx, g3.fm k (by decide) (by decide), g4.fm k (by decide), ⟨Or.inr ⟨f, ⟨⟨f92, hr⟩, hfu, hvu, gx.2.1, by rw [(k.2.2.2.2.2 96 (by decide)).1]; exact g5.2.2⟩, fun i s hi _ _ _ => ?_⟩, ⟨⟨by omega, by omega⟩, ⟨by omega, by omega⟩, fun a h1 h2 => by omega⟩, by rw [(k.2.2.2.2.2 96 (by decide)).1]; exact g5.2.2⟩, g6.lo g1.1 k (by decide) (by decide), (g7.fm g1.1 k (by decide) (by decide)).up⟩, (k.2.2.2.2.2 88 (by decide)).1⟩
  have := hfu.2.2.2.1
  rw [z37 i (by omega), z85]
  decide
theorem sp_argument2 {y : Int64} (h : 0 ≤ (qI S 0 88).toInt ∧ (qI S 0 88).toInt ≤ 8) : w_argument S y (fun r u => ((qI S 0 88).toInt = 8 ∧ r = -1 ∧ u = S) ∨ ((qI S 0 88).toInt < 8 ∧ r = qI u 0 88 ∧ (qI u 0 88).toInt = (qI S 0 88).toInt + 1 ∧ frm [41] [88] S u)) := by
  unfold w_argument
  refine ⟨fun c => Or.inl ⟨c, rfl, rfl⟩, fun c => ⟨⟨h.1, by omega⟩, fun A eA B eB => Or.inr ⟨by omega, rfl, ?_, (show frm [41] [88] S A by rw [eA]; exact frm.pJ (by decide)).tr (by rw [eB]; exact frm.pI0 (by decide))⟩⟩⟩
  have a88 : qI A 0 88 = qI S 0 88 := by rw [eA]; rfl
  rw [eB, qI_wI, if_pos ⟨rfl, rfl⟩, a88, t_add (by rw [li_1]; omega), li_1]
theorem g_argument {y : Int64} (g : GI c S) : ∃ Q, w_argument S y Q ∧ ∀ (r : Int32) (u : MS), Q r u → GI (c + 1) u ∧ (((qI S 0 88).toInt = 8 ∧ r = -1 ∧ qI u 0 88 = qI S 0 88) ∨ ((qI S 0 88).toInt < 8 ∧ r = qI u 0 88 ∧ (qI u 0 88).toInt = (qI S 0 88).toInt + 1)) := by
  refine ⟨_, sp_argument2 g.2.2.2.1.2.2.2, ?_⟩
  rintro r u (⟨a, b, e⟩ | ⟨a, b, e, k⟩)
  · rw [e]; exact ⟨g.up, Or.inl ⟨a, b, rfl⟩⟩
  obtain ⟨g1, g2, g3, g4, g5, g6, g7⟩ := g
  have gx := g2.fm k (by decide)
  exact ⟨⟨g1.fm k (by decide) (by decide), gx, g3.fm k (by decide) (by decide), ⟨by rw [(k.2.2.2.2.2 4 (by decide)).1]; exact g4.1, by rw [(k.2.2.2.2.2 5 (by decide)).1]; exact g4.2.1, by rw [(k.2.2.2.2.2 2 (by decide)).1]; exact g4.2.2.1, by have := g4.2.2.2; omega⟩, g5.fm g1.2.2 k (by decide) (by decide) gx.2.1, g6.lo g1.1 k (by decide) (by decide), (g7.fm g1.1 k (by decide) (by decide)).up⟩, Or.inr ⟨a, b, e⟩⟩
theorem g_run {m fuel : Int32} (g : GI c S) : ∃ Q, w_run S m fuel Q ∧ ∀ (r : Int32) (u : MS), Q r u → GI (c + 1) u ∧ (qI u 0 88).toInt = 0 := by
  obtain ⟨g1, g2, g3, g4, g5, g6, g7⟩ := g
  refine ⟨_, fr_run (sp_run g5.1 g5.2.1 g5.2.2 g4.2.2.2), ?_⟩
  rintro r u ⟨⟨m1, m2, m3, m4⟩, k⟩
  have gx := g2.fm k (by decide)
  exact ⟨⟨g1.fm k (by decide) (by decide), gx, g3.fm k (by decide) (by decide), ⟨by rw [(k.2.2.2.2.2 4 (by decide)).1]; exact g4.1, by rw [(k.2.2.2.2.2 5 (by decide)).1]; exact g4.2.1, by rw [(k.2.2.2.2.2 2 (by decide)).1]; exact g4.2.2.1, by omega⟩, ⟨m1, m2, m4⟩, g6.lo g1.1 k (by decide) (by decide), (g7.fm g1.1 k (by decide) (by decide)).up⟩, m3⟩
theorem GI.gr {u : MS} (g : GI c S) (k : frm [49, 50, 51, 52, 53, 54, 55, 56, 57, 58, 59] [47, 48, 49, 50, 51, 52, 53, 54, 105, 106, 107, 110] S u) (gu : GrJ u) : GI (c + 1) u := by
  obtain ⟨g1, g2, g3, g4, g5, g6, g7⟩ := g
  have gx := g2.fm k (by decide)
  exact ⟨g1.fm k (by decide) (by decide), gx, g3.fm k (by decide) (by decide), g4.fm k (by decide), g5.fm g1.2.2 k (by decide) (by decide) gx.2.1, gu, (g7.fm g1.1 k (by decide) (by decide)).up⟩
theorem g_blocks {x m : Int32} (g : GI c S) : ∃ Q, w_blocks S x m Q ∧ ∀ (r : Int32) (u : MS), Q r u → GS c S u := ⟨_, fr_blocks (sp_blocks2 g.1.1 g.2.2.2.2.2.1), fun _ _ h => ⟨g.gr h.2 h.1, (h.2.2.2.2.2.2 88 (by decide)).1⟩⟩
theorem g_block {x m b w : Int32} (g : GI c S) : ∃ Q, w_block S x m b w Q ∧ ∀ (r : Int32) (u : MS), Q r u → GS c S u := ⟨_, fr_block (sp_block2 g.1.1 g.2.2.2.2.2.1), fun _ _ h => ⟨g.gr h.2 h.1, (h.2.2.2.2.2.2 88 (by decide)).1⟩⟩
theorem g_edge {x m a b : Int32} (g : GI c S) : ∃ Q, w_edge S x m a b Q ∧ ∀ (r : Int32) (u : MS), Q r u → GS c S u := ⟨_, fr_edge (sp_edge2 g.1.1 g.2.2.2.2.2.1), fun _ _ h => ⟨g.gr h.2 h.1, (h.2.2.2.2.2.2 88 (by decide)).1⟩⟩
theorem g_size {x y : Int32} (g : GI c S) : ∃ Q, w_size S x y Q ∧ ∀ (r : Int32) (u : MS), Q r u → GS c S u := ⟨_, sp_size g.1.1, fun _ _ h => by rw [h]; exact g.gs⟩
theorem g_length {x y : Int32} (g : GI c S) : ∃ Q, w_length S x y Q ∧ ∀ (r : Int32) (u : MS), Q r u → GS c S u := ⟨_, sp_length g.1.1, fun _ _ h => by rw [h]; exact g.gs⟩
theorem g_height {x y z : Int32} (g : GI c S) : ∃ Q, w_height S x y z Q ∧ ∀ (r : Int32) (u : MS), Q r u → GS c S u := ⟨_, sp_height g.1.1, fun _ _ h => by rw [h]; exact g.gs⟩
theorem g_local {x y z w : Int32} (g : GI c S) : ∃ Q, w_local S x y z w Q ∧ ∀ (r : Int32) (u : MS), Q r u → GS c S u := ⟨_, sp_local g.1.1, fun _ _ h => by rw [h]; exact g.gs⟩
theorem g_field {x : Int32} (g : GI c S) : d_field S x := LdF (by
  rcases g.2.2.2.2.1.1 with q | ⟨f, ⟨⟨_, m2⟩, m3, m4, _⟩, _⟩
  · exact Or.inl q
  · exact Or.inr ⟨f, m2, m3, m4⟩)
theorem g_element {x y : Int32} (g : GI c S) : d_element S x y ∧ d_arrayLength S x := g.2.2.2.2.1.2.1.el
theorem g_byteAt {x : Int32} (g : GI c S) : d_byteAt S x := by
  obtain ⟨_, g2, ⟨o, b78, _⟩, _⟩ := g
  obtain ⟨_, _, _, _, t4, t5⟩ := g2
  refine ToI.by ⟨qO S 0 76, o.1.2.2, ?_, ?_, b78⟩
  · rcases o.1.1 with q | q
    · rw [q.2]; exact t5.1
    · rw [q.2]; exact t4
  · rcases o.1.1 with q | q
    · rw [q.2]; exact o.2.1.2
    · rw [q.2]; exact o.2.1.1
theorem g_write {x : Int32} (g : GI c S) : ∃ Q E, w_write S x Q E ∧ (∀ (r : Int32) (u : MS), Q r u → GS c S u) ∧ ∀ u : MS, ¬ E u := by
  obtain ⟨g1, g2, g3, g4, g5, g6, g7⟩ := g
  refine ⟨_, _, sp_write g1.1 g1.2.1 g2.2.1 g3.1, ?_, fun u h => h⟩
  intro r u h
  have ou := h.ou g3.1
  rcases h with e | ⟨A, k, oA, _, e⟩
  · rw [e]; exact GI.gs ⟨g1, g2, g3, g4, g5, g6, g7⟩
  have ku : frm [] [75, 76, 78] A u := by
    have a1 : frm [] [75, 76, 78] A (wR A 0 76 (some (qO A 0 75))) := frm.pR0 (by decide)
    have a2 : frm [] [75, 76, 78] (wR A 0 76 (some (qO A 0 75))) (wR (wR A 0 76 (some (qO A 0 75))) 0 75 (some (qO A 0 76))) := frm.pR0 (by decide)
    rw [e]
    exact (a1.tr a2).tr (frm.pI0 (by decide))
  have gA := g1.fm k (by decide) (by decide)
  have xA := g2.fm k (by decide)
  have mA := g5.fm g1.2.2 k (by decide) (by decide) xA.2.1
  have rA := g6.lo g1.1 k (by decide) (by decide)
  have qA := g7.fm g1.1 k (by decide) (by decide)
  have xu := xA.fm ku (by decide)
  have u78 : qI u 0 78 = qI A 0 77 := by rw [e, qI_wI, if_pos ⟨rfl, rfl⟩]
  have bA : byt A 2 := fun i => by rw [(k.2.2.2.2.1 2 (by decide) (by decide)).1]; exact g3.2.2 i
  exact ⟨⟨gA.fm ku (by decide) (by decide), xu, ⟨ou, by rw [u78]; exact oA.2.2.2, fun i => by rw [(ku.2.2.2.2.1 2 (by decide) (by decide)).1]; exact bA i⟩, (g4.fm k (by decide)).fm ku (by decide), mA.fm gA.2.2 ku (by decide) (by decide) xu.2.1, rA.lo gA.1 ku (by decide) (by decide), (qA.fm gA.1 ku (by decide) (by decide)).up⟩, (ku.2.2.2.2.2 88 (by decide)).1.trans (k.2.2.2.2.2 88 (by decide)).1⟩
end GAX
/-! file, verify, improve, count keep what stands (behind GI, KdP, VeP, sp_count, sp_improve) -/
theorem GrJ.ad {S V : MS} (h : GrJ S) (F : FsI VfI S) (k : ∀ a : Nat, 92 < a → a < qn S → sm6 S V a) (e0 : (qI S 0 1).toInt ≤ (qI V 0 1).toInt ∧ qI V 0 105 = qI S 0 105 ∧ qI V 0 106 = qI S 0 106 ∧ qI V 0 107 = qI S 0 107 ∧ qI V 0 110 = qI S 0 110) (e1 : ∀ i : Nat, (i : Int) < (qI S 0 1).toInt → qR V 1 i = qR S 1 i) (e2 : qI V 49 = qI S 49 ∧ qI V 50 = qI S 50 ∧ qI V 51 = qI S 51 ∧ qI V 52 = qI S 52 ∧ qI V 53 = qI S 53) : GrJ V := by
  unfold GrJ
  rw [e0.2.1, e0.2.2.1, e0.2.2.2.1, e2.2.2.2.2]
  rcases h with q | ⟨f, q1, q2, q3, q4, q5, q6⟩
  · exact Or.inl q
  obtain ⟨f', y1, y2, _⟩ := F.2 (qI S 0 106).toInt.toNat (by omega)
  have ef : f' = f := by rw [y1] at q2; injection q2
  subst ef
  have y2' := y2
  obtain ⟨h1, h2, h3, h4, h5, R, T, C, nc, ts, cn, r1, r2, r3, r4, r5, r6⟩ := y2
  have eR : qO S f' 18 = R := by unfold qO; rw [r2.1]; rfl
  have eT : qO S f' 19 = T := by unfold qO; rw [r2.2.1]; rfl
  have eC : qO S f' 20 = C := by unfold qO; rw [r2.2.2]; rfl
  have kR := (k R (by omega) (by omega)).1 (by rw [r3.1]; decide)
  have kT := (k T (by omega) (by omega)).1 (by rw [r3.2.1]; decide)
  have kC := (k C (by omega) (by omega)).1 (by rw [r3.2.2]; decide)
  have kf := (k f' (by omega) (by omega)).2 h1.2.1.1
  have kr : ∀ i : Nat, i < 13 → sm5 S V (f' + 1 + i) := fun i hi => (k _ (by omega) (by omega)).1 (by rw [(h1.2.2 i hi).2.2]; split <;> decide)
  refine Or.inr ⟨f', ⟨q1.1, by omega⟩, by rw [e1 _ (by omega)]; exact q2, q3, ?_, ?_, ?_⟩
  · rw [(kr 10 (by decide)).1]
    unfold GbI at q4 ⊢
    rw [e2.1, e2.2.1, e0.2.1]
    exact q4
  · unfold GeI at q5 ⊢
    rw [e2.2.2.1, e2.2.2.2.1, e0.2.1, e0.2.2.2.2]
    exact q5
  · refine q6.mv ⟨kf.2.1 18 (by decide), kf.2.1 19 (by decide), kf.2.1 20 (by decide)⟩ ?_ ⟨by rw [(kr 9 (by decide)).1], by rw [(kr 10 (by decide)).1], by rw [(kr 11 (by decide)).1], by rw [(kr 12 (by decide)).1]⟩
    rw [eR, eT, eC]
    exact ⟨kR.1, kT.1, kC.1⟩
/-- Files that stay are as checked as they were -/
theorem vN_k {S u : MS} (F : FsI VfI S) (k : ∀ i f : Nat, (i : Int) < (qI S 0 1).toInt → qR S 1 i = some f → (qI S f 21).toInt = 1 → (qI u f 21).toInt = 1) (e1 : ∀ i : Nat, (i : Int) < (qI S 0 1).toInt → qR u 1 i = qR S 1 i) : ∀ i : Nat, i < (qI S 0 1).toInt.toNat → (qI S (qO S 1 i) 21).toInt = 1 → (qI u (qO u 1 i) 21).toInt = 1 := fun i hi z => by
  obtain ⟨f, a, b, _⟩ := F.2 i (by omega)
  have q1 := qO_s a
  have q2 : qO u 1 i = f := qO_s (by rw [e1 i (by omega)]; exact a)
  rw [q1] at z
  rw [q2]
  exact k i f (by omega) a z
theorem OuJ.mv {S u : MS} (h : OuJ S) (e : qR u 0 75 = qR S 0 75 ∧ qR u 0 76 = qR S 0 76) (n : qN u 34 = qN S 34 ∧ qN u 35 = qN S 35) (b : qI u 34 = qI S 34 ∧ qI u 35 = qI S 35) : OuJ u := by
  have o5 : qO u 0 75 = qO S 0 75 := by unfold qO; rw [e.1]
  have o6 : qO u 0 76 = qO S 0 76 := by unfold qO; rw [e.2]
  exact ⟨by rw [o5, o6, e.1, e.2]; exact h.1, by rw [n.1, n.2]; exact h.2.1, fun i => by rw [b.1]; exact h.2.2.1 i, fun i => by rw [b.2]; exact h.2.2.2 i⟩
theorem KdP.gs {c : Nat} {A u : MS} (g : GI c A) (k : KdP VfI A u) : GS c A u := by
  refine ⟨?_, k.2.2.2.2.1 88 (by decide) (by decide)⟩
  obtain ⟨g1, g2, g3, g4, g5, g6, g7⟩ := g
  obtain ⟨k1, k2, k3, k4, k5, k6, k7, k8, k9, k10⟩ := k
  have n93 := g1.2.2.1
  have un : qn u ≤ 300000 := k2.2.1
  have K : ∀ a : Nat, a ≠ 0 → a ≠ 1 → (a < 4 ∨ 21 < a) → a < qn A → sm5 A u a := fun a a0 a1 a2 a3 => k3 a a0 a1 a2 (Or.inl a3)
  have KX : ∀ a : Nat, TXB ≤ a → sm5 A u a := fun a a0 => by
    rw [show TXB = 10000000 from rfl] at a0
    exact k3 a (by omega) (by omega) (by omega) (Or.inr (by omega))
  have KB : ∀ a : Nat, 92 < a → a < qn A → sm6 A u a := fun a a0 a1 => (K a (by omega) (by omega) (by omega) a1).s6
  have KT : ∀ a : Nat, a ≤ 92 → qT u a = qT A a ∧ qN u a = qN A a := fun a ha => by
    by_cases q : a ≤ 21
    · exact k4 a q
    · have z := K a (by omega) (by omega) (by omega) (by omega)
      exact ⟨z.2.2.2.1, z.2.2.2.2⟩
  have gx : GxI u := g2.mv KX KT (fun i _ => by rw [(K 60 (by decide) (by decide) (by decide) (by omega)).2.2.1]) (fun k => by rw [(K 25 (by decide) (by decide) (by decide) (by omega)).1, (K 26 (by decide) (by decide) (by decide) (by omega)).1, (K 23 (by decide) (by decide) (by decide) (by omega)).1]; exact g2.2.2.2.2.2.2 k)
  have j : ∀ j : Nat, j ∉ JL → j ≠ 1 → qI u 0 j = qI A 0 j := k5
  have fs := g1.1
  have le1 : (qI A 0 1).toInt ≤ (qI u 0 1).toInt := by
    rcases k10 with q | q
    · rw [q.1]; exact Int.le_refl _
    · omega
  refine ⟨⟨k1, k8 g1.2.1, k2⟩, gx, ⟨g3.1.mv ⟨(k6 75 (by decide)).2, (k6 76 (by decide)).2⟩ ⟨(KT 34 (by decide)).2, (KT 35 (by decide)).2⟩ ⟨(K 34 (by decide) (by decide) (by decide) (by omega)).1, (K 35 (by decide) (by decide) (by decide) (by omega)).1⟩, by rw [j 78 (by decide) (by decide)]; exact g3.2.1, fun i => by rw [(K 2 (by decide) (by decide) (by decide) (by omega)).1]; exact g3.2.2 i⟩, ?_, ?_, ?_, ?_⟩
  · unfold GcI
    rw [j 4 (by decide) (by decide), j 5 (by decide) (by decide), j 2 (by decide) (by decide), j 88 (by decide) (by decide)]
    exact g4
  · refine g5.mv g1.2.2 KB KX (by omega) gx.2.1 (k6 80 (by decide)).2 ⟨j 85 (by decide) (by decide), j 86 (by decide) (by decide), j 96 (by decide) (by decide)⟩ ⟨(K 39 (by decide) (by decide) (by decide) (by omega)).1, (K 40 (by decide) (by decide) (by decide) (by omega)).1, (K 37 (by decide) (by decide) (by decide) (by omega)).2.1⟩ (fun f hf => Or.inl ?_)
    rcases g5.1 with q | ⟨f', ⟨⟨m1, m2⟩, m3, _⟩, _⟩
    · rw [q] at hf; cases hf
    · have e : f' = f := by rw [m2] at hf; injection hf
      subst e
      have z := K f' (by omega) (by omega) (by omega) (by have := m3.2.1; omega)
      rw [z.1, z.2.2.1]
      exact ⟨rfl, rfl⟩
  · exact g6.ad fs KB ⟨le1, j 105 (by decide) (by decide), j 106 (by decide) (by decide), j 107 (by decide) (by decide), j 110 (by decide) (by decide)⟩ k7 ⟨(K 49 (by decide) (by decide) (by decide) (by omega)).1, (K 50 (by decide) (by decide) (by decide) (by omega)).1, (K 51 (by decide) (by decide) (by decide) (by omega)).1, (K 52 (by decide) (by decide) (by decide) (by omega)).1, (K 53 (by decide) (by decide) (by decide) (by omega)).1⟩
  · have mo := vN_mo (S := A) (u := u) (qI A 0 1).toInt.toNat (vN_k fs (fun i f hi hr z => by
      obtain ⟨f', a, b, _⟩ := fs.2 i hi
      have e : f' = f := by rw [hr] at a; injection a.symm
      subst e
      have hb := b.1.1.1
      rw [(K f' (by omega) (by omega) (by omega) (by have := b.2.1; omega)).1]
      exact z) k7)
    have f1 := fs.1
    unfold RmI at g7 ⊢
    rw [j 2 (by decide) (by decide)]
    rcases k10 with ⟨q1, q2, q3⟩ | ⟨q1, q2, q3⟩
    · rw [q1]
      exact ⟨by omega, by omega⟩
    · have st : vN u (qI u 0 1).toInt.toNat = vN u (qI A 0 1).toInt.toNat + (if (qI u (qO u 1 (qI A 0 1).toInt.toNat) 21).toInt = 1 then 1 else 0) := by
        rw [show (qI u 0 1).toInt.toNat = (qI A 0 1).toInt.toNat + 1 by omega]
        rfl
      have st2 : vN A (qI A 0 1).toInt.toNat ≤ vN u (qI u 0 1).toInt.toNat := by rw [st]; omega
      exact ⟨by omega, by omega⟩
/-- there is room for one file more -/
theorem RmI.room {c : Nat} {S : MS} (h : RmI c S) (F : FsI VfI S) (hc : c ≤ 512) (m2 : (qI S 0 2).toInt ≤ 16) (h12 : (qI S 0 1).toInt < 12) : qn S + 814 ≤ KC ∧ qu S + 106335 ≤ KS := by
  have v := vN_le (S := S) (qI S 0 1).toInt.toNat
  have f1 := F.1
  rw [show KC = 300000 from rfl, show KS = 3720000 from rfl]
  unfold RmI at h
  omega
section GBX
variable {c : Nat} {S : MS}
theorem g_file (g : GI c S) (hc : c ≤ 512) : ∃ Q, w_file S Q ∧ ∀ (r : Int32) (u : MS), Q r u → GS c S u := by
  refine ⟨fun _ u => GS c S u, ?_, fun r u h => h⟩
  unfold w_file
  refine ⟨fun _ => g.gs, fun c12 n en A eA B eB C eC => ?_⟩
  have f1 := g.1.1.1
  have fA : frm [] [4, 9, 10] S A := by rw [eA]; exact frm.pI0 (by decide)
  have fB : frm [] [4, 9, 10] A B := by rw [eB]; exact frm.pI0 (by decide)
  have fC0 : frm [] [4, 9, 10] B C := by rw [eC]; exact frm.pI0 (by decide)
  have k := (fA.tr fB).tr fC0
  have c4 : (qI C 0 4).toInt = 0 := by rw [eC, qI_wI, if_neg (by decide), eB, qI_wI, if_neg (by decide), eA, qI_wI, if_pos ⟨rfl, rfl⟩]; rfl
  have gC : GI c C := by
    obtain ⟨g1, g2, g3, g4, g5, g6, g7⟩ := g
    have gx := g2.fm k (by decide)
    exact ⟨g1.fm k (by decide) (by decide), gx, g3.fm k (by decide) (by decide), ⟨by omega, by rw [(k.2.2.2.2.2 5 (by decide)).1]; exact g4.2.1, by rw [(k.2.2.2.2.2 2 (by decide)).1]; exact g4.2.2.1, by rw [(k.2.2.2.2.2 88 (by decide)).1]; exact g4.2.2.2⟩, g5.fm g1.2.2 k (by decide) (by decide) gx.2.1, g6.lo g1.1 k (by decide) (by decide), g7.fm g1.1 k (by decide) (by decide)⟩
  have e1 : qI C 0 1 = qI S 0 1 := (k.2.2.2.2.2 1 (by decide)).1
  have e88 : qI C 0 88 = qI S 0 88 := (k.2.2.2.2.2 88 (by decide)).1
  have t2 := gC.2.1.1.2 (3, 2, 1, 16000) (by decide)
  have n4 := g.2.2.2.1.1
  have RI : RfI C 2 n := ⟨gC.2.1.1, gC.2.1.2.1, gC.1.2.2, ⟨t2.1, by have := gC.1.2.2.1; omega, by rw [t2.2]; decide⟩, ⟨by rw [en]; exact n4.1, by rw [en, t2.2]; exact n4.2⟩, gC.2.2.2.2.2.2.room gC.1.1 hc gC.2.2.2.1.2.2.1.2 (by rw [e1]; omega)⟩
  obtain ⟨Q6, E6, r1, r2, r3⟩ := sp_rk VfI.st gC.1.1 (by rw [e1]; omega) RI gC.2.2.1.2.2 (Or.inl rfl) ⟨_, sp_layout (fr_bs RI) (gC.2.1.1.2 (15, 4, 2, 502) (by decide)).2 (by rw [qI_wI, if_pos ⟨rfl, rfl⟩, en]; exact n4.2), fun u hu => hu.mm⟩
  refine ⟨Q6, E6, r1, fun f U hU => ?_, fun U hU D eD W eW => ?_⟩
  · obtain ⟨Q12, w1, w2⟩ := r2 f U hU
    exact ⟨Q12, w1, fun r W hW => ⟨((w2 r W hW).gs gC).1, ((w2 r W hW).gs gC).2.trans e88⟩⟩
  · obtain ⟨⟨g1, g2, g3, g4, g5, g6, g7⟩, u88⟩ := (r3 U hU).gs gC
    have k1 : frm [] [9, 10] U D := by rw [eD]; exact frm.pI0 (by decide)
    have k2 : frm [] [9, 10] D W := by rw [eW]; exact frm.pI0 (by decide)
    have k := k1.tr k2
    have gx := g2.fm k (by decide)
    exact ⟨⟨g1.fm k (by decide) (by decide), gx, g3.fm k (by decide) (by decide), g4.fm k (by decide), g5.fm g1.2.2 k (by decide) (by decide) gx.2.1, g6.lo g1.1 k (by decide) (by decide), g7.fm g1.1 k (by decide) (by decide)⟩, ((k.2.2.2.2.2 88 (by decide)).1.trans u88).trans e88⟩
theorem VeP.gs {u : MS} (g : GI c S) (v : VeP S u) : GS c S u := by
  refine ⟨?_, (v.2.2.2.2.1 88 (by decide)).1⟩
  obtain ⟨g1, g2, g3, g4, g5, g6, g7⟩ := g
  obtain ⟨v0, v1, v2, v3, v4, v5⟩ := v
  have n93 := g1.2.2.1
  have un : qn u ≤ 300000 := v2.2.1
  have fs := g1.1
  obtain ⟨hq, K6, KX, KL⟩ : qn S ≤ qn u ∧ (∀ a : Nat, 92 < a → a < qn S → sm6 S u a) ∧ (∀ a : Nat, TXB ≤ a → sm5 S u a) ∧ ∀ a : Nat, a ≠ 0 → (a < 22 ∨ 27 < a) → a ≤ 92 → sm5 S u a := by
    rcases v5 with ⟨a, b, _⟩ | ⟨i, f, hi, hr, n0, n1, s7, ks, qn1, _⟩
    · exact ⟨by omega, fun x x0 _ => (a x (by omega) (by omega)).s6, fun x x0 => a x (by rw [show TXB = 10000000 from rfl] at x0; omega) (by rw [show TXB = 10000000 from rfl] at x0; omega), fun x x0 x1 _ => a x x0 x1⟩
    · obtain ⟨f', y1, y2, _⟩ := fs.2 i hi
      have e : f' = f := by rw [hr] at y1; injection y1.symm
      subst e
      have fb := y2.1.1
      have fq := y2.2.1
      have t11 := y2.1.2.1.1
      refine ⟨by omega, fun x x0 x1 => ?_, fun x x0 => ?_, fun x x0 x1 x2 => ks x x0 x1 (Or.inl (by omega)) (by omega)⟩
      · by_cases q : x = f'
        · rw [q]; exact ⟨fun z => absurd t11 z, fun _ => s7⟩
        · exact (ks x (by omega) (by omega) (Or.inl x1) q).s6
      · rw [show TXB = 10000000 from rfl] at x0 fb
        exact ks x (by omega) (by omega) (Or.inr (by omega)) (by omega)
  have KT : ∀ a : Nat, a ≤ 92 → qT u a = qT S a ∧ qN u a = qN S a := fun a ha => by
    by_cases q : a ≤ 27
    · exact v3 a q
    · have z := KL a (by omega) (by omega) ha
      exact ⟨z.2.2.2.1, z.2.2.2.2⟩
  have gx : GxI u := g2.mv KX KT (fun i _ => by rw [(KL 60 (by decide) (by decide) (by decide)).2.2.1]) v0
  have e1 : qI u 0 1 = qI S 0 1 := (v4 1 (by decide)).1
  have r1 : qR u 1 = qR S 1 := (KL 1 (by decide) (by decide) (by decide)).2.2.1
  refine ⟨⟨v1, g1.2.1.mv fs K6 e1 r1, v2⟩, gx, ⟨g3.1.mv ⟨(v4 75 (by decide)).2.2, (v4 76 (by decide)).2.2⟩ ⟨(KT 34 (by decide)).2, (KT 35 (by decide)).2⟩ ⟨(KL 34 (by decide) (by decide) (by decide)).1, (KL 35 (by decide) (by decide) (by decide)).1⟩, by rw [(v4 78 (by decide)).1]; exact g3.2.1, fun i => by rw [(KL 2 (by decide) (by decide) (by decide)).1]; exact g3.2.2 i⟩, ?_, ?_, ?_, ?_⟩
  · unfold GcI
    rw [(v4 4 (by decide)).1, (v4 5 (by decide)).1, (v4 2 (by decide)).1, (v4 88 (by decide)).1]
    exact g4
  · refine g5.mv g1.2.2 K6 KX hq gx.2.1 (v4 80 (by decide)).2.2 ⟨(v4 85 (by decide)).1, (v4 86 (by decide)).1, (v4 96 (by decide)).1⟩ ⟨(KL 39 (by decide) (by decide) (by decide)).1, (KL 40 (by decide) (by decide) (by decide)).1, (KL 37 (by decide) (by decide) (by decide)).2.1⟩ (fun f hf => ?_)
    rcases g5.1 with q | ⟨f', ⟨⟨m1, m2⟩, m3, _⟩, _⟩
    · rw [q] at hf; cases hf
    · have e : f' = f := by rw [m2] at hf; injection hf
      subst e
      rcases v5 with ⟨a, _, _⟩ | ⟨i, f, hi, hr, n0, n1, s7, ks, qn1, _⟩
      · have z := a f' (by omega) (by omega)
        exact Or.inl (by rw [z.1, z.2.2.1]; exact ⟨rfl, rfl⟩)
      · by_cases q : f' = f
        · subst q
          obtain ⟨f2, y1, y2, y3⟩ := v1.2 i (by rw [e1]; exact hi)
          have e : f2 = f' := by rw [r1, hr] at y1; injection y1.symm
          subst e
          exact Or.inr (y3 n1)
        · have z := ks f' (by omega) (by omega) (Or.inl (by have := m3.2.1; omega)) q
          exact Or.inl (by rw [z.1, z.2.2.1]; exact ⟨rfl, rfl⟩)
  · exact g6.mv fs K6 ⟨e1, (v4 105 (by decide)).1, (v4 106 (by decide)).1, (v4 107 (by decide)).1, (v4 110 (by decide)).1⟩ r1 ⟨(KL 49 (by decide) (by decide) (by decide)).1, (KL 50 (by decide) (by decide) (by decide)).1, (KL 51 (by decide) (by decide) (by decide)).1, (KL 52 (by decide) (by decide) (by decide)).1, (KL 53 (by decide) (by decide) (by decide)).1⟩
  · have f1 := fs.1
    have kk : ∀ i f : Nat, (i : Int) < (qI S 0 1).toInt → qR S 1 i = some f → (qI S f 21).toInt = 1 → (qI u f 21).toInt = 1 := fun i f hi hr z => by
      obtain ⟨f', a, b, _⟩ := fs.2 i hi
      have e : f' = f := by rw [hr] at a; injection a.symm
      subst e
      have hb := b.1.1.1
      have hn := b.2.1
      rcases v5 with ⟨a, _, _⟩ | ⟨i2, f2, hi2, hr2, n0, n1, s7, ks, qn1, _⟩
      · rw [(a f' (by omega) (by omega)).1]; exact z
      · by_cases q : f' = f2
        · rw [q]; exact n1
        · rw [(ks f' (by omega) (by omega) (Or.inl (by omega)) q).1]; exact z
    have k2 := vN_k (u := u) fs kk (fun i _ => by rw [r1])
    have mo := vN_mo (S := S) (u := u) (qI S 0 1).toInt.toNat k2
    unfold RmI at g7 ⊢
    rw [e1, (v4 2 (by decide)).1]
    rcases v5 with ⟨_, q1, q2⟩ | ⟨i2, f2, hi2, hr2, n0, n1, s7, ks, qn1, qu1⟩
    · rw [q1, q2]
      exact ⟨by omega, by omega⟩
    · have st := vN_st (S := S) (u := u) (qI S 0 1).toInt.toNat k2 ⟨i2, by omega, by rw [qO_s hr2]; exact n0, by rw [qO_s (show qR u 1 i2 = some f2 by rw [r1]; exact hr2)]; exact n1⟩
      exact ⟨by omega, by omega⟩
theorem g_verify {x : Int32} (g : GI c S) (hc : c ≤ 512) : ∃ Q, w_verify S x Q ∧ ∀ (r : Int32) (u : MS), Q r u → GS c S u := by
  have f1 := g.1.1.1
  have m2 := g.2.2.2.1.2.2.1
  by_cases q : vN S (qI S 0 1).toInt.toNat < (qI S 0 1).toInt.toNat
  · refine ⟨_, sp_verify g.1.1 g.2.1.2.1 g.2.1.1 g.1.2.2 g.1.2.1 g.2.1.2.2.2.2.2.2 ?_, fun r u h => h.gs g⟩
    have h := g.2.2.2.2.2.2
    rw [show KC = 300000 from rfl, show KS = 3720000 from rfl]
    unfold RmI at h
    omega
  · have all : ∀ i : Nat, (i : Int) < (qI S 0 1).toInt → (qI S (qO S 1 i) 21).toInt = 1 := fun i hi => by
      by_cases z : (qI S (qO S 1 i) 21).toInt = 1
      · exact z
      · exact absurd (vN_lt (qI S 0 1).toInt.toNat i (by omega) z) q
    refine ⟨fun _ u => GS c S u, ?_, fun r u h => h⟩
    unfold w_verify
    intro A eA B eB
    have k1 : frm [] [64, 65] S A := by rw [eA]; exact frm.pI0 (by decide)
    have k2 : frm [] [64, 65] A B := by rw [eB]; exact frm.pI0 (by decide)
    have k := k1.tr k2
    have gB : GI (c + 1) B := by
      obtain ⟨g1, g2, g3, g4, g5, g6, g7⟩ := g
      have gx := g2.fm k (by decide)
      exact ⟨g1.fm k (by decide) (by decide), gx, g3.fm k (by decide) (by decide), g4.fm k (by decide), g5.fm g1.2.2 k (by decide) (by decide) gx.2.1, g6.lo g1.1 k (by decide) (by decide), (g7.fm g1.1 k (by decide) (by decide)).up⟩
    have b88 : qI B 0 88 = qI S 0 88 := (k.2.2.2.2.2 88 (by decide)).1
    refine ⟨_, sp_fileAt gB.1.1, ?_⟩
    rintro r u ⟨rfl, hr2⟩
    refine ⟨fun _ => ⟨gB, b88⟩, fun c1 => ⟨fun _ => ⟨gB, b88⟩, fun c2 => ?_⟩⟩
    rcases hr2 with q | ⟨f, q1, q2, q3, q4, q5⟩
    · exact absurd q c1
    subst q1
    exfalso
    have b1 : qI u 0 1 = qI S 0 1 := (k.2.2.2.2.2 1 (by decide)).1
    have br : qR u 1 = qR S 1 := (k.2.2.2.2.1 1 (by decide) (by decide)).2.2
    have z := all x.toInt.toNat (by rw [b1] at q2; omega)
    rw [br] at q3
    rw [qO_s q3] at z
    have ef : qI u f = qI S f := (k.2.2.2.2.1 f (by have := q4.1.1.1; omega) (by simp)).1
    exact c2 (by show (qI u f 21).toInt = 1; rw [ef]; exact z)
theorem GI.fx {U : MS} {W J : List Nat} {d : Int} (g : GI c S) (k : frX W J S U) (hW : ∀ w ∈ W, w ≠ 1 ∧ w ≠ 2 ∧ w ≠ 34 ∧ w ≠ 35 ∧ w ≠ 37 ∧ w ≠ 39 ∧ w ≠ 40 ∧ w ≠ 23 ∧ w ≠ 25 ∧ w ≠ 26) (hJ : ∀ j ∈ J, j ≠ 1 ∧ j ≠ 4 ∧ j ≠ 5 ∧ j ≠ 88 ∧ j ≠ 75 ∧ j ≠ 76 ∧ j ≠ 78 ∧ j ≠ 80 ∧ j ≠ 85 ∧ j ≠ 86 ∧ j ≠ 96) (fs : FsI VfI U) (kn : knI U) (hd : DrO U) (gr : GrJ U) (m : (qI S 0 2).toInt + d ≤ (qI U 0 2).toInt ∧ (qI U 0 2).toInt ≤ 16) (d0 : 0 ≤ d) (q : (qn U : Int) ≤ qn S + 110 * d ∧ (qu U : Int) ≤ qu S + 1103 * d) : GI c U := by
  obtain ⟨g1, g2, g3, g4, g5, g6, g7⟩ := g
  obtain ⟨k1, k2, k3, k4⟩ := k
  have n93 := g1.2.2.1
  have F := g1.1
  have f1 := F.1
  have lw : ∀ a : Nat, (a = 1 ∨ a = 2 ∨ a = 34 ∨ a = 35 ∨ a = 37 ∨ a = 39 ∨ a = 40 ∨ a = 23 ∨ a = 25 ∨ a = 26) → qI U a = qI S a ∧ qJ U a = qJ S a ∧ qR U a = qR S a := fun a ha => k3 a (by omega) (by omega) (fun z => by have := hW a z; omega)
  have lj : ∀ j : Nat, (j = 1 ∨ j = 4 ∨ j = 5 ∨ j = 88 ∨ j = 75 ∨ j = 76 ∨ j = 78 ∨ j = 80 ∨ j = 85 ∨ j = 86 ∨ j = 96) → qI U 0 j = qI S 0 j ∧ qJ U 0 j = qJ S 0 j ∧ qR U 0 j = qR S 0 j := fun j hj => k4 j (fun z => by have := hJ j z; omega)
  have KB : ∀ a : Nat, 92 < a → a < qn S → sm5 S U a := fun a a0 a1 => k1.1 a a0 (Or.inl a1)
  have KX : ∀ a : Nat, TXB ≤ a → sm5 S U a := fun a a0 => k1.1 a (by rw [show TXB = 10000000 from rfl] at a0; omega) (Or.inr a0)
  have e1 := (lj 1 (by omega)).1
  have r1 := (lw 1 (by omega)).2.2
  obtain ⟨x1, x2, x3, x4, x5, x6⟩ := g2
  have gx : GxI U := ⟨⟨by rw [(k2 0 (by decide)).1]; exact x1.1, fun q hq => by rw [(k2 _ (fin92 q hq)).1, (k2 _ (fin92 q hq)).2]; exact x1.2 q hq⟩, x2.kp k1, hd, fun i hi => by rw [(k2 _ (by omega)).1]; exact x4 i hi, by rw [(k2 34 (by decide)).1]; exact x5, by rw [(k2 35 (by decide)).1]; exact x6.1, fun k => by rw [(lw 25 (by omega)).1, (lw 26 (by omega)).1, (lw 23 (by omega)).1]; exact x6.2 k⟩
  refine ⟨⟨fs, g1.2.1.mv F (fun a a0 a1 => (KB a a0 a1).s6) e1 r1, kn⟩, gx, ⟨g3.1.mv ⟨(lj 75 (by omega)).2.2, (lj 76 (by omega)).2.2⟩ ⟨(k2 34 (by decide)).2, (k2 35 (by decide)).2⟩ ⟨(lw 34 (by omega)).1, (lw 35 (by omega)).1⟩, by rw [(lj 78 (by omega)).1]; exact g3.2.1, fun i => by rw [(lw 2 (by omega)).1]; exact g3.2.2 i⟩, ⟨by rw [(lj 4 (by omega)).1]; exact g4.1, by rw [(lj 5 (by omega)).1]; exact g4.2.1, ⟨by have := g4.2.2.1; omega, m.2⟩, by rw [(lj 88 (by omega)).1]; exact g4.2.2.2⟩, ?_, gr, ?_⟩
  · refine g5.mv g1.2.2 (fun a a0 a1 => (KB a a0 a1).s6) KX k1.2 gx.2.1 (lj 80 (by omega)).2.2 ⟨(lj 85 (by omega)).1, (lj 86 (by omega)).1, (lj 96 (by omega)).1⟩ ⟨(lw 39 (by omega)).1, (lw 40 (by omega)).1, (lw 37 (by omega)).2.1⟩ (fun f hf => Or.inl ?_)
    rcases g5.1 with q | ⟨f', ⟨⟨m1, m2⟩, m3, _⟩, _⟩
    · rw [q] at hf; cases hf
    · have e : f' = f := by rw [m2] at hf; injection hf
      subst e
      have z := KB f' m1 (by have := m3.2.1; omega)
      rw [z.1, z.2.2.1]
      exact ⟨rfl, rfl⟩
  · have mo := vN_mo (S := S) (u := U) (qI S 0 1).toInt.toNat (vN_k F (fun i f hi hr z => by
      obtain ⟨f', a, b, _⟩ := F.2 i hi
      have e : f' = f := by rw [hr] at a; injection a.symm
      subst e
      rw [(KB f' b.1.1.1 (by have := b.2.1; omega)).1]
      exact z) (fun i _ => by rw [r1]))
    unfold RmI at g7 ⊢
    rw [e1]
    exact ⟨by omega, by omega⟩
theorem g_kd {U : MS} (gU : GI c U) (df : DfI U) (hc : c ≤ 512) (h12 : (qI U 0 1).toInt < 12) : ∃ Q20, w_keptDraft U Q20 ∧ ∀ (r : Int32) (u : MS), Q20 r u → GS c U u := by
  have x := gU.2.1
  refine ⟨_, sp_keptDraft df gU.1.1 gU.1.2.2 x.2.1 x.1 x.2.2.2.1 gU.2.2.1.1 ⟨x.2.2.2.2.1, x.2.2.2.2.2.1⟩ h12 (gU.2.2.2.2.2.2.room gU.1.1 hc gU.2.2.2.1.2.2.1.2 h12), ?_⟩
  rintro r u ⟨A, k, bA, h⟩
  have gA : GI c A := by
    obtain ⟨g1, g2, g3, g4, g5, g6, g7⟩ := gU
    have gx := g2.fm k (by decide)
    exact ⟨g1.fm k (by decide) (by decide), gx, ⟨g3.1.fb bA k (by decide) (by decide), by rw [(k.2.2.2.2.2 78 (by decide)).1]; exact g3.2.1, fun i => by rw [(k.2.2.2.2.1 2 (by decide) (by decide)).1]; exact g3.2.2 i⟩, g4.fm k (by decide), g5.fm g1.2.2 k (by decide) (by decide) gx.2.1, g6.lo g1.1 k (by decide) (by decide), g7.fm g1.1 k (by decide) (by decide)⟩
  have a88 : qI A 0 88 = qI U 0 88 := (k.2.2.2.2.2 88 (by decide)).1
  rcases h with e | ⟨_, kd⟩
  · rw [e]; exact ⟨gA.up, a88⟩
  · exact ⟨(kd.gs gA).1, (kd.gs gA).2.trans a88⟩
theorem g_improve {x o : Int32} (g : GI c S) (hc : c ≤ 512) : ∃ Q, w_improve S x o Q ∧ ∀ (r : Int32) (u : MS), Q r u → GS c S u := by
  refine ⟨fun _ u => GS c S u, sp_improve g.1.1 g.1.2.2 g.2.1.2.1 g.2.2.2.2.2.1 g.2.1.2.2.1 (g.1.2.1.tb g.1.1) g.2.2.2.1.2.2.1 (fun _ => g.gs) ?_, fun r u h => h⟩
  intro U df fs kn gr tx fx m q h12
  have gU : GI c U := g.fx fx (by decide) (by decide) fs kn df.1.1 gr (d := 0) (by omega) (by decide) (by rw [q.1, q.2]; omega)
  obtain ⟨Q20, w1, w2⟩ := g_kd gU df hc (by rw [(fx.2.2.2 1 (by decide)).1]; exact h12)
  exact ⟨Q20, w1, fun r u h => ⟨(w2 r u h).1, (w2 r u h).2.trans (fx.2.2.2 88 (by decide)).1⟩⟩
theorem g_count {x : Int32} (g : GI c S) (hc : c ≤ 512) : ∃ Q, w_count S x Q ∧ ∀ (r : Int32) (u : MS), Q r u → GS c S u := by
  have v := vN_le (S := S) (qI S 0 1).toInt.toNat
  have f1 := g.1.1.1
  have m2 := g.2.2.2.1.2.2.1
  have rm : qn S + 96 ≤ KC ∧ qu S + 768 ≤ KS := by
    have h := g.2.2.2.2.2.2
    rw [show KC = 300000 from rfl, show KS = 3720000 from rfl]
    unfold RmI at h
    omega
  refine ⟨fun _ u => GS c S u, sp_count g.1.1 g.1.2.2 g.2.1.2.1 g.2.2.2.2.2.1 g.2.1.2.2.1 (g.1.2.1.tb g.1.1) rm m2 ?_ ?_, fun r u h => h⟩
  · intro r u fx gr m q kn
    have fs : FsI VfI u := g.1.1.mv VfI.st g.1.2.2 (fun a a0 a1 => fx.1.1 a a0 (Or.inl a1)) (fun a a0 => fx.1.1 a (by rw [show TXB = 10000000 from rfl] at a0; omega) (Or.inr a0)) (by omega) (fx.2.2.2 1 (by decide)).1 (fx.2.2.1 1 (by decide) (by decide) (by decide)).2.2
    have hd : DrO u := fun i hi => ⟨by rw [(fx.2.2.1 60 (by decide) (by decide) (by decide)).2.2]; exact (g.2.1.2.2.1 i hi).1, by rw [(fx.2.1 _ (by omega)).2]; exact (g.2.1.2.2.1 i hi).2⟩
    exact ⟨(g.fx fx (by decide) (by decide) fs kn hd gr (d := 0) (by omega) (by decide) (by rw [q.1, q.2]; omega)).up, (fx.2.2.2 88 (by decide)).1⟩
  · intro U df fs kn gr tx fx m q h12
    have gU : GI c U := g.fx fx (by decide) (by decide) fs kn df.1.1 gr (d := 1) (by omega) (by decide) (by omega)
    obtain ⟨Q20, w1, w2⟩ := g_kd gU df hc (by rw [(fx.2.2.2 1 (by decide)).1]; exact h12)
    exact ⟨Q20, w1, fun r u h => ⟨(w2 r u h).1, (w2 r u h).2.trans (fx.2.2.2 88 (by decide)).1⟩⟩
end GBX
