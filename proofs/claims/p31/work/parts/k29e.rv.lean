def v_isText_L17 (ro : Int32) (uo : MS) : Nat → MS → Int32 → Nat → Int32 → Prop
  | 0, _, _, _, _ => False
  | n17 + 1, U17, v17_1, v17_2, v17_3 => (((Int32.ofNat (qN U17 (v17_2 + 1))).toInt ≤ v17_3.toInt ∧ (ro = (1 : Int32) ∧ uo = U17)) ∨ (¬ (Int32.ofNat (qN U17 (v17_2 + 1))).toInt ≤ v17_3.toInt ∧ (d_letter U17 v17_1 v17_3 ∧ (((0 : Int) ≤ v17_3.toInt ∧ v17_3.toInt < (qN U17 (v17_2 + 1) : Int)) ∧ (((f_letter U17 v17_1 v17_3).toInt = (cAt U17 v17_2 v17_3).toInt ∧ (∃ a13 : Int32, a13 = (v17_3 + Int32.ofInt 1) ∧ ((v_isText_L17 ro uo n17) U17 v17_1 v17_2 a13))) ∨ (¬ (f_letter U17 v17_1 v17_3).toInt = (cAt U17 v17_2 v17_3).toInt ∧ (ro = (0 : Int32) ∧ uo = U17)))))))
def v_isText (S : MS) (x1 : Int32) (p2 : Nat) (ro : Int32) (uo : MS) : Prop := (((0 : Int) ≤ x1.toInt ∧ x1.toInt < 502) ∧ (((qI S 7 x1.toInt.toNat).toInt = (Int32.ofNat (qN S (p2 + 1))).toInt ∧ (∃ n, v_isText_L17 ro uo n S x1 p2 0)) ∨ (¬ (qI S 7 x1.toInt.toNat).toInt = (Int32.ofNat (qN S (p2 + 1))).toInt ∧ (ro = (0 : Int32) ∧ uo = S))))
set_option maxRecDepth 100000 in
theorem ru_isText_L17 {ι : Type} {P : Int32 → MS → Prop} {Q : Int32 → MS → Prop} : ∀ (n : Nat) {U17 : MS} {v17_1 : Int32} {v17_2 : Nat} {v17_3 : Int32} (i0 : ι), (∀ (i : ι) (ro : Int32) (uo : MS), (∃ n8, v_isText_L17 ro uo n8 U17 v17_1 v17_2 v17_3) → P ro uo) → w_isText_L17 Q n U17 v17_1 v17_2 v17_3 → ∃ ro uo, P ro uo ∧ Q ro uo := by
  intro n
  induction n with
  | zero => intro U17 v17_1 v17_2 v17_3 i0 K h; unfold w_isText_L17 at h; exact h.elim
  | succ n ih =>
    intro U17 v17_1 v17_2 v17_3 i0 K h
    unfold w_isText_L17 at h
    replace K := fun (i : ι × Nat) ro uo (z : v_isText_L17 ro uo (i.2 + 1) U17 v17_1 v17_2 v17_3) => K i.1 ro uo ⟨i.2 + 1, z⟩
    have i00 := i0
    replace i0 : ι × Nat := (i0, 0)
    by_cases c : (Int32.ofNat (qN U17 (v17_2 + 1))).toInt ≤ v17_3.toInt
    · replace h := h.1 c
      replace K := fun i ro uo z => K i ro uo (Or.inl ⟨c, z⟩)
      exact ⟨_, _, K i0 _ _ ⟨rfl, rfl⟩, h⟩
    · replace h := h.2 c
      replace K := fun i ro uo z => K i ro uo (Or.inr ⟨c, z⟩)
      obtain ⟨g1_, h⟩ := h
      replace K := fun i ro uo z => K i ro uo ⟨g1_, z⟩
      obtain ⟨g2_, h⟩ := h
      replace K := fun i ro uo z => K i ro uo ⟨g2_, z⟩
      by_cases c : (f_letter U17 v17_1 v17_3).toInt = (cAt U17 v17_2 v17_3).toInt
      · replace h := h.1 c
        replace K := fun i ro uo z => K i ro uo (Or.inl ⟨c, z⟩)
        obtain ⟨a13, ea13⟩ : ∃ x9 : Int32, x9 = (v17_3 + Int32.ofInt 1) := ⟨_, rfl⟩
        replace h := h a13 ea13
        replace K := fun i ro uo z => K i ro uo ⟨a13, ea13, z⟩
        exact ih i00 (fun i ro uo ⟨n8, z⟩ => K (i, n8) ro uo z) h
      · replace h := h.2 c
        replace K := fun i ro uo z => K i ro uo (Or.inr ⟨c, z⟩)
        exact ⟨_, _, K i0 _ _ ⟨rfl, rfl⟩, h⟩
set_option maxRecDepth 100000 in
theorem ru_isText {S : MS} {x1 : Int32} {p2 : Nat} {Q : Int32 → MS → Prop} (h : w_isText S x1 p2 Q) : ∃ ro uo, v_isText S x1 p2 ro uo ∧ Q ro uo := by
  have i0 : Unit := ()
  have K : ∀ (i : Unit) (ro : Int32) (uo : MS), v_isText S x1 p2 ro uo → v_isText S x1 p2 ro uo := fun _ _ _ z => z
  unfold w_isText at h
  obtain ⟨g3_, h⟩ := h
  replace K := fun i ro uo z => K i ro uo ⟨g3_, z⟩
  by_cases c : (qI S 7 x1.toInt.toNat).toInt = (Int32.ofNat (qN S (p2 + 1))).toInt
  · replace h := h.1 c
    replace K := fun i ro uo z => K i ro uo (Or.inl ⟨c, z⟩)
    obtain ⟨n9, h⟩ := h
    exact ru_isText_L17 n9 i0 K h
  · replace h := h.2 c
    replace K := fun i ro uo z => K i ro uo (Or.inr ⟨c, z⟩)
    exact ⟨_, _, K i0 _ _ ⟨rfl, rfl⟩, h⟩
set_option maxRecDepth 100000 in
theorem vw_isText_L17 {ro : Int32} {uo : MS} : ∀ (n : Nat) {U17 : MS} {v17_1 : Int32} {v17_2 : Nat} {v17_3 : Int32}, v_isText_L17 ro uo n U17 v17_1 v17_2 v17_3 → w_isText_L17 (fun r u => r = ro ∧ u = uo) n U17 v17_1 v17_2 v17_3 := by
  intro n
  induction n with
  | zero => intro U17 v17_1 v17_2 v17_3 h; unfold v_isText_L17 at h; exact h.elim
  | succ n ih =>
    intro U17 v17_1 v17_2 v17_3 h
    unfold v_isText_L17 at h
    unfold w_isText_L17
    rcases h with ⟨c, h⟩ | ⟨c, h⟩
    · refine ⟨fun _ => ?_, fun c2 => absurd c c2⟩
      exact ⟨h.1.symm, h.2.symm⟩
    · refine ⟨fun c2 => absurd c2 c, fun _ => ?_⟩
      obtain ⟨g9, h⟩ := h
      refine ⟨g9, ?_⟩
      obtain ⟨g9, h⟩ := h
      refine ⟨g9, ?_⟩
      rcases h with ⟨c, h⟩ | ⟨c, h⟩
      · refine ⟨fun _ => ?_, fun c2 => absurd c c2⟩
        obtain ⟨v9, e9, h⟩ := h
        intro x9 d9
        have c9 : v9 = x9 := e9.trans d9.symm
        subst c9
        exact ih h
      · refine ⟨fun c2 => absurd c2 c, fun _ => ?_⟩
        exact ⟨h.1.symm, h.2.symm⟩
set_option maxRecDepth 100000 in
theorem vz_isText_L17 {ro : Int32} {uo : MS} {Q : Int32 → MS → Prop} : ∀ (n m : Nat) {U17 : MS} {v17_1 : Int32} {v17_2 : Nat} {v17_3 : Int32}, v_isText_L17 ro uo n U17 v17_1 v17_2 v17_3 → w_isText_L17 Q m U17 v17_1 v17_2 v17_3 → Q ro uo := by
  intro n
  induction n with
  | zero => intro m U17 v17_1 v17_2 v17_3 h; unfold v_isText_L17 at h; exact h.elim
  | succ n ih =>
    intro m U17 v17_1 v17_2 v17_3 h w
    cases m with
    | zero => unfold w_isText_L17 at w; exact w.elim
    | succ m =>
      unfold v_isText_L17 at h
      unfold w_isText_L17 at w
      rcases h with ⟨c, h⟩ | ⟨c, h⟩
      · replace w := w.1 c
        rw [h.1, h.2]
        exact w
      · replace w := w.2 c
        replace h := h.2
        replace w := w.2
        replace h := h.2
        replace w := w.2
        rcases h with ⟨c, h⟩ | ⟨c, h⟩
        · replace w := w.1 c
          obtain ⟨v9, e9, h⟩ := h
          replace w := w v9 e9
          exact ih m h w
        · replace w := w.2 c
          rw [h.1, h.2]
          exact w
set_option maxRecDepth 100000 in
theorem vw_isText {S : MS} {x1 : Int32} {p2 : Nat} {ro : Int32} {uo : MS} (h : v_isText S x1 p2 ro uo) : w_isText S x1 p2 (fun r u => r = ro ∧ u = uo) := by
  unfold v_isText at h
  unfold w_isText
  obtain ⟨g9, h⟩ := h
  refine ⟨g9, ?_⟩
  rcases h with ⟨c, h⟩ | ⟨c, h⟩
  · refine ⟨fun _ => ?_, fun c2 => absurd c c2⟩
    obtain ⟨n9, h⟩ := h
    exact ⟨n9, vw_isText_L17 n9 h⟩
  · refine ⟨fun c2 => absurd c2 c, fun _ => ?_⟩
    exact ⟨h.1.symm, h.2.symm⟩
set_option maxRecDepth 100000 in
theorem vz_isText {S : MS} {x1 : Int32} {p2 : Nat} {ro : Int32} {uo : MS} {Q : Int32 → MS → Prop} (h : v_isText S x1 p2 ro uo) (w : w_isText S x1 p2 Q) : Q ro uo := by
  unfold v_isText at h
  unfold w_isText at w
  replace h := h.2
  replace w := w.2
  rcases h with ⟨c, h⟩ | ⟨c, h⟩
  · replace w := w.1 c
    obtain ⟨n9, h⟩ := h
    obtain ⟨n8, w⟩ := w
    exact vz_isText_L17 n9 n8 h w
  · replace w := w.2 c
    rw [h.1, h.2]
    exact w
def v_must (S : MS) (x1 : Int32) (x2 : Int32) (x3 : Int32) (oo : MS ⊕ MS) : Prop := ((x1.toInt = 0 ∧ (∃ (b6 : Nat) (S4 : MS), v_broken S x2 x3 b6 S4 ∧ (oo = .inr S4))) ∨ (¬ x1.toInt = 0 ∧ (oo = .inl S)))
set_option maxRecDepth 100000 in
theorem ru_must {S : MS} {x1 : Int32} {x2 : Int32} {x3 : Int32} {Q : MS → Prop} {E : MS → Prop} (h : w_must S x1 x2 x3 Q E) : ∃ oo, v_must S x1 x2 x3 oo ∧ oV Q E oo := by
  have i0 : Unit := ()
  have K : ∀ (i : Unit) (oo : MS ⊕ MS), v_must S x1 x2 x3 oo → v_must S x1 x2 x3 oo := fun _ _ z => z
  unfold w_must at h
  by_cases c : x1.toInt = 0
  · replace h := h.1 c
    replace K := fun i oo z => K i oo (Or.inl ⟨c, z⟩)
    obtain ⟨Q9, h0, h⟩ := h
    obtain ⟨b6, S4, z9, g9⟩ := ru_broken h0
    replace h := h b6 S4 g9
    replace K := fun i oo z => K i oo ⟨b6, S4, z9, z⟩
    exact ⟨.inr S4, K i0 _ rfl, h⟩
  · replace h := h.2 c
    replace K := fun i oo z => K i oo (Or.inr ⟨c, z⟩)
    exact ⟨.inl _, K i0 _ rfl, h⟩
set_option maxRecDepth 100000 in
theorem vw_must {S : MS} {x1 : Int32} {x2 : Int32} {x3 : Int32} {oo : MS ⊕ MS} (h : v_must S x1 x2 x3 oo) : w_must S x1 x2 x3 (fun u => oo = .inl u) (fun u => oo = .inr u) := by
  unfold v_must at h
  unfold w_must
  rcases h with ⟨c, h⟩ | ⟨c, h⟩
  · refine ⟨fun _ => ?_, fun c2 => absurd c c2⟩
    obtain ⟨p9, q9, z9, h⟩ := h
    refine ⟨_, vw_broken z9, ?_⟩
    rintro p8 q8 ⟨d8, d9⟩
    subst d8
    subst d9
    exact h
  · refine ⟨fun c2 => absurd c2 c, fun _ => ?_⟩
    exact h
set_option maxRecDepth 100000 in
theorem vz_must {S : MS} {x1 : Int32} {x2 : Int32} {x3 : Int32} {oo : MS ⊕ MS} {Q : MS → Prop} {E : MS → Prop} (h : v_must S x1 x2 x3 oo) (w : w_must S x1 x2 x3 Q E) : oV Q E oo := by
  unfold v_must at h
  unfold w_must at w
  rcases h with ⟨c, h⟩ | ⟨c, h⟩
  · replace w := w.1 c
    obtain ⟨p9, q9, z9, h⟩ := h
    obtain ⟨Q9, w0, w⟩ := w
    replace w := w p9 q9 (vz_broken z9 w0)
    rw [h]
    exact w
  · replace w := w.2 c
    rw [h]
    exact w
def v_caught_J161 (oo : MS ⊕ MS) (U161 : MS) (v161_2 : Int32) (v161_3 : Int32) (v161_4 : Int32) (v161_6 : Int32) : Prop := (((0 : Int) ≤ v161_2.toInt ∧ v161_2.toInt < 1201) ∧ (((0 : Int) ≤ ((4 : Int32) * (qI U161 0 45)).toInt ∧ ((4 : Int32) * (qI U161 0 45)).toInt < 1536) ∧ (∃ S30 : MS, S30 = wI U161 21 ((((4 : Int32) * (qI U161 0 45)).toInt).toNat) (qI U161 18 v161_2.toInt.toNat) ∧ (((0 : Int) ≤ v161_3.toInt ∧ v161_3.toInt < 1201) ∧ (((0 : Int) ≤ (((4 : Int32) * (qI S30 0 45)) + (1 : Int32)).toInt ∧ (((4 : Int32) * (qI S30 0 45)) + (1 : Int32)).toInt < 1536) ∧ (∃ S36 : MS, S36 = wI S30 21 (((((4 : Int32) * (qI S30 0 45)) + (1 : Int32)).toInt).toNat) (qI S30 18 v161_3.toInt.toNat) ∧ (((0 : Int) ≤ v161_4.toInt ∧ v161_4.toInt < 1201) ∧ (((0 : Int) ≤ (((4 : Int32) * (qI S36 0 45)) + (2 : Int32)).toInt ∧ (((4 : Int32) * (qI S36 0 45)) + (2 : Int32)).toInt < 1536) ∧ (∃ S42 : MS, S42 = wI S36 21 (((((4 : Int32) * (qI S36 0 45)) + (2 : Int32)).toInt).toNat) (qI S36 18 v161_4.toInt.toNat) ∧ (((0 : Int) ≤ (((4 : Int32) * (qI S42 0 45)) + (3 : Int32)).toInt ∧ (((4 : Int32) * (qI S42 0 45)) + (3 : Int32)).toInt < 1536) ∧ (∃ S46 : MS, S46 = wI S42 21 (((((4 : Int32) * (qI S42 0 45)) + (3 : Int32)).toInt).toNat) v161_6 ∧ (∃ S48 : MS, S48 = wI S46 0 45 ((qI S46 0 45) + (1 : Int32)) ∧ (oo = .inl S48)))))))))))))
def v_caught_J155 (oo : MS ⊕ MS) (U155 : MS) (t155_0 : Int32) (v155_1 : Int32) (v155_2 : Int32) (v155_3 : Int32) (v155_4 : Int32) (v155_6 : Int32) : Prop := ((∃ (S58 : MS), v_must U155 t155_0 (16 : Int32) v155_1 (.inl S58) ∧ (v_caught_J161 oo S58 v155_2 v155_3 v155_4 v155_6)) ∨ (∃ u9 : MS, v_must U155 t155_0 (16 : Int32) v155_1 (.inr u9) ∧ (oo = .inr u9)))
def v_caught_J138 (oo : MS ⊕ MS) (k109 : MS → Int32 → Int32 → Int32 → Int32 → Int32 → Int32 → Int32 → Prop) (U138 : MS) (v138_1 : Int32) (v138_2 : Int32) (v138_3 : Int32) (v138_4 : Int32) (v138_5 : Int32) (v138_6 : Int32) (v138_7 : Int32) : Prop := (∃ a70 : Int32, a70 = (v138_7 + Int32.ofInt 1) ∧ (k109 U138 v138_1 v138_2 v138_3 v138_4 v138_5 v138_6 a70))
def v_caught_L109 (oo : MS ⊕ MS) : Nat → MS → Int32 → Int32 → Int32 → Int32 → Int32 → Int32 → Int32 → Prop
  | 0, _, _, _, _, _, _, _, _ => False
  | n109 + 1, U109, v109_1, v109_2, v109_3, v109_4, v109_5, v109_6, v109_7 => ((4 ≤ v109_7.toInt ∧ ((v109_6.toInt < 0 ∧ (v_caught_J155 oo U109 0 v109_1 v109_2 v109_3 v109_4 v109_6)) ∨ (¬ v109_6.toInt < 0 ∧ (v_caught_J155 oo U109 1 v109_1 v109_2 v109_3 v109_4 v109_6)))) ∨ (¬ 4 ≤ v109_7.toInt ∧ (((0 : Int) ≤ v109_5.toInt ∧ v109_5.toInt < 502) ∧ (d_errorName U109 v109_7 ∧ (∃ (r67 : Int32) (S68 : MS), v_isText U109 (qI U109 6 v109_5.toInt.toNat) (f_errorName U109 v109_7) r67 S68 ∧ ((r67.toInt = 0 ∧ (v_caught_J138 oo (v_caught_L109 oo n109) S68 v109_1 v109_2 v109_3 v109_4 v109_5 v109_6 v109_7)) ∨ (¬ r67.toInt = 0 ∧ (v_caught_J138 oo (v_caught_L109 oo n109) S68 v109_1 v109_2 v109_3 v109_4 v109_5 v109_7 v109_7))))))))
def v_caught_J77 (oo : MS ⊕ MS) (U77 : MS) (t77_0 : Int32) (v77_1 : Int32) (v77_2 : Int32) (v77_3 : Int32) (v77_4 : Int32) (v77_5 : Int32) : Prop := ((∃ (S24 : MS), v_must U77 t77_0 (16 : Int32) v77_1 (.inl S24) ∧ ((v77_5.toInt ≤ 0 ∧ (v_caught_J161 oo S24 v77_2 v77_3 v77_4 (-1))) ∨ (¬ v77_5.toInt ≤ 0 ∧ (d_isEntry S24 v77_5 (7 : Int32) ∧ ((∃ (S54 : MS), v_must S24 (f_isEntry S24 v77_5 (7 : Int32)) (16 : Int32) v77_1 (.inl S54) ∧ (∃ n, v_caught_L109 oo n S54 v77_1 v77_2 v77_3 v77_4 v77_5 (-1) 0)) ∨ (∃ u9 : MS, v_must S24 (f_isEntry S24 v77_5 (7 : Int32)) (16 : Int32) v77_1 (.inr u9) ∧ (oo = .inr u9))))))) ∨ (∃ u9 : MS, v_must U77 t77_0 (16 : Int32) v77_1 (.inr u9) ∧ (oo = .inr u9)))
def v_caught_J76 (oo : MS ⊕ MS) (U76 : MS) (v76_1 : Int32) (v76_2 : Int32) (v76_3 : Int32) (v76_4 : Int32) (v76_5 : Int32) : Prop := (v_caught_J77 oo U76 0 v76_1 v76_2 v76_3 v76_4 v76_5)
def v_caught_J58 (oo : MS ⊕ MS) (U58 : MS) (v58_1 : Int32) (v58_2 : Int32) (v58_3 : Int32) (v58_4 : Int32) (v58_5 : Int32) : Prop := (d_isStart U58 v58_4 ∧ (((f_isStart U58 v58_4).toInt = 0 ∧ (v_caught_J76 oo U58 v58_1 v58_2 v58_3 v58_4 v58_5)) ∨ (¬ (f_isStart U58 v58_4).toInt = 0 ∧ ((v58_3.toInt ≤ v58_2.toInt ∧ (v_caught_J76 oo U58 v58_1 v58_2 v58_3 v58_4 v58_5)) ∨ (¬ v58_3.toInt ≤ v58_2.toInt ∧ (v_caught_J77 oo U58 1 v58_1 v58_2 v58_3 v58_4 v58_5))))))
def v_caught (S : MS) (x1 : Int32) (oo : MS ⊕ MS) : Prop := (d_two S x1 ∧ (∃ a4 : Int32, a4 = (f_two S x1) ∧ (d_two S (x1 + (2 : Int32)) ∧ (∃ a9 : Int32, a9 = (f_two S (x1 + (2 : Int32))) ∧ (d_two S (x1 + (4 : Int32)) ∧ (∃ a14 : Int32, a14 = (f_two S (x1 + (4 : Int32))) ∧ (d_two S (x1 + (6 : Int32)) ∧ (∃ a19 : Int32, a19 = (f_two S (x1 + (6 : Int32))) ∧ (d_isStart S a4 ∧ (((f_isStart S a4).toInt = 0 ∧ (v_caught_J76 oo S x1 a4 a9 a14 a19)) ∨ (¬ (f_isStart S a4).toInt = 0 ∧ ((a9.toInt = (qI S 0 37).toInt ∧ (v_caught_J58 oo S x1 a4 a9 a14 a19)) ∨ (¬ a9.toInt = (qI S 0 37).toInt ∧ (d_isStart S a9 ∧ (((f_isStart S a9).toInt = 0 ∧ (v_caught_J76 oo S x1 a4 a9 a14 a19)) ∨ (¬ (f_isStart S a9).toInt = 0 ∧ (v_caught_J58 oo S x1 a4 a9 a14 a19)))))))))))))))))
set_option maxRecDepth 100000 in
theorem ru_caught_J161 {ι : Type} {P : MS ⊕ MS → Prop} {Q : MS → Prop} {E : MS → Prop} {U161 : MS} {v161_2 : Int32} {v161_3 : Int32} {v161_4 : Int32} {v161_6 : Int32} (i0 : ι) (K : ∀ (i : ι) (oo : MS ⊕ MS), v_caught_J161 oo U161 v161_2 v161_3 v161_4 v161_6 → P oo) (h : w_caught_J161 Q E U161 v161_2 v161_3 v161_4 v161_6) : ∃ oo, P oo ∧ oV Q E oo := by
  unfold w_caught_J161 at h
  obtain ⟨g1_, h⟩ := h
  replace K := fun i oo z => K i oo ⟨g1_, z⟩
  obtain ⟨g2_, h⟩ := h
  replace K := fun i oo z => K i oo ⟨g2_, z⟩
  obtain ⟨S30, eS30⟩ : ∃ x9 : MS, x9 = wI U161 21 ((((4 : Int32) * (qI U161 0 45)).toInt).toNat) (qI U161 18 v161_2.toInt.toNat) := ⟨_, rfl⟩
  replace h := h S30 eS30
  replace K := fun i oo z => K i oo ⟨S30, eS30, z⟩
  obtain ⟨g3_, h⟩ := h
  replace K := fun i oo z => K i oo ⟨g3_, z⟩
  obtain ⟨g4_, h⟩ := h
  replace K := fun i oo z => K i oo ⟨g4_, z⟩
  obtain ⟨S36, eS36⟩ : ∃ x9 : MS, x9 = wI S30 21 (((((4 : Int32) * (qI S30 0 45)) + (1 : Int32)).toInt).toNat) (qI S30 18 v161_3.toInt.toNat) := ⟨_, rfl⟩
  replace h := h S36 eS36
  replace K := fun i oo z => K i oo ⟨S36, eS36, z⟩
  obtain ⟨g5_, h⟩ := h
  replace K := fun i oo z => K i oo ⟨g5_, z⟩
  obtain ⟨g6_, h⟩ := h
  replace K := fun i oo z => K i oo ⟨g6_, z⟩
  obtain ⟨S42, eS42⟩ : ∃ x9 : MS, x9 = wI S36 21 (((((4 : Int32) * (qI S36 0 45)) + (2 : Int32)).toInt).toNat) (qI S36 18 v161_4.toInt.toNat) := ⟨_, rfl⟩
  replace h := h S42 eS42
  replace K := fun i oo z => K i oo ⟨S42, eS42, z⟩
  obtain ⟨g7_, h⟩ := h
  replace K := fun i oo z => K i oo ⟨g7_, z⟩
  obtain ⟨S46, eS46⟩ : ∃ x9 : MS, x9 = wI S42 21 (((((4 : Int32) * (qI S42 0 45)) + (3 : Int32)).toInt).toNat) v161_6 := ⟨_, rfl⟩
  replace h := h S46 eS46
  replace K := fun i oo z => K i oo ⟨S46, eS46, z⟩
  obtain ⟨S48, eS48⟩ : ∃ x9 : MS, x9 = wI S46 0 45 ((qI S46 0 45) + (1 : Int32)) := ⟨_, rfl⟩
  replace h := h S48 eS48
  replace K := fun i oo z => K i oo ⟨S48, eS48, z⟩
  exact ⟨.inl _, K i0 _ rfl, h⟩
set_option maxRecDepth 100000 in
theorem ru_caught_J155 {ι : Type} {P : MS ⊕ MS → Prop} {Q : MS → Prop} {E : MS → Prop} {U155 : MS} {t155_0 : Int32} {v155_1 : Int32} {v155_2 : Int32} {v155_3 : Int32} {v155_4 : Int32} {v155_6 : Int32} (i0 : ι) (K : ∀ (i : ι) (oo : MS ⊕ MS), v_caught_J155 oo U155 t155_0 v155_1 v155_2 v155_3 v155_4 v155_6 → P oo) (h : w_caught_J155 Q E U155 t155_0 v155_1 v155_2 v155_3 v155_4 v155_6) : ∃ oo, P oo ∧ oV Q E oo := by
  unfold w_caught_J155 at h
  obtain ⟨Q9, E9, h0, h⟩ := h
  obtain ⟨o9, z9, g9⟩ := ru_must h0
  rcases o9 with S58 | u9
  · replace h := h.1 S58 g9
    replace K := fun i oo z => K i oo (Or.inl ⟨S58, z9, z⟩)
    exact ru_caught_J161 i0 K h
  · replace h := h.2 u9 g9
    replace K := fun i oo z => K i oo (Or.inr ⟨u9, z9, z⟩)
    exact ⟨.inr u9, K i0 _ rfl, h⟩
set_option maxRecDepth 100000 in
theorem ru_caught_J138 {ι : Type} {P : MS ⊕ MS → Prop} {Q : MS → Prop} {E : MS → Prop} {k109 : MS → Int32 → Int32 → Int32 → Int32 → Int32 → Int32 → Int32 → Prop} {k109v : ι → MS ⊕ MS → MS → Int32 → Int32 → Int32 → Int32 → Int32 → Int32 → Int32 → Prop} {U138 : MS} {v138_1 : Int32} {v138_2 : Int32} {v138_3 : Int32} {v138_4 : Int32} {v138_5 : Int32} {v138_6 : Int32} {v138_7 : Int32} (i0 : ι) (hk109 : ∀ (u : MS) (z0 : Int32) (z1 : Int32) (z2 : Int32) (z3 : Int32) (z4 : Int32) (z5 : Int32) (z6 : Int32), k109 u z0 z1 z2 z3 z4 z5 z6 → (∀ (i : ι) (oo : MS ⊕ MS), k109v i oo u z0 z1 z2 z3 z4 z5 z6 → P oo) → ∃ oo, P oo ∧ oV Q E oo) (K : ∀ (i : ι) (oo : MS ⊕ MS), v_caught_J138 oo (k109v i oo) U138 v138_1 v138_2 v138_3 v138_4 v138_5 v138_6 v138_7 → P oo) (h : w_caught_J138 Q E k109 U138 v138_1 v138_2 v138_3 v138_4 v138_5 v138_6 v138_7) : ∃ oo, P oo ∧ oV Q E oo := by
  unfold w_caught_J138 at h
  obtain ⟨a70, ea70⟩ : ∃ x9 : Int32, x9 = (v138_7 + Int32.ofInt 1) := ⟨_, rfl⟩
  replace h := h a70 ea70
  replace K := fun i oo z => K i oo ⟨a70, ea70, z⟩
  exact hk109 _ _ _ _ _ _ _ _ h K
set_option maxRecDepth 100000 in
theorem ru_caught_L109 {ι : Type} {P : MS ⊕ MS → Prop} {Q : MS → Prop} {E : MS → Prop} : ∀ (n : Nat) {U109 : MS} {v109_1 : Int32} {v109_2 : Int32} {v109_3 : Int32} {v109_4 : Int32} {v109_5 : Int32} {v109_6 : Int32} {v109_7 : Int32} (i0 : ι), (∀ (i : ι) (oo : MS ⊕ MS), (∃ n8, v_caught_L109 oo n8 U109 v109_1 v109_2 v109_3 v109_4 v109_5 v109_6 v109_7) → P oo) → w_caught_L109 Q E n U109 v109_1 v109_2 v109_3 v109_4 v109_5 v109_6 v109_7 → ∃ oo, P oo ∧ oV Q E oo := by
  intro n
  induction n with
  | zero => intro U109 v109_1 v109_2 v109_3 v109_4 v109_5 v109_6 v109_7 i0 K h; unfold w_caught_L109 at h; exact h.elim
  | succ n ih =>
    intro U109 v109_1 v109_2 v109_3 v109_4 v109_5 v109_6 v109_7 i0 K h
    unfold w_caught_L109 at h
    replace K := fun (i : ι × Nat) oo (z : v_caught_L109 oo (i.2 + 1) U109 v109_1 v109_2 v109_3 v109_4 v109_5 v109_6 v109_7) => K i.1 oo ⟨i.2 + 1, z⟩
    have i00 := i0
    replace i0 : ι × Nat := (i0, 0)
    by_cases c : 4 ≤ v109_7.toInt
    · replace h := h.1 c
      replace K := fun i oo z => K i oo (Or.inl ⟨c, z⟩)
      by_cases c : v109_6.toInt < 0
      · replace h := h.1 c
        replace K := fun i oo z => K i oo (Or.inl ⟨c, z⟩)
        exact ru_caught_J155 i0 K h
      · replace h := h.2 c
        replace K := fun i oo z => K i oo (Or.inr ⟨c, z⟩)
        exact ru_caught_J155 i0 K h
    · replace h := h.2 c
      replace K := fun i oo z => K i oo (Or.inr ⟨c, z⟩)
      obtain ⟨g8_, h⟩ := h
      replace K := fun i oo z => K i oo ⟨g8_, z⟩
      obtain ⟨g9_, h⟩ := h
      replace K := fun i oo z => K i oo ⟨g9_, z⟩
      obtain ⟨Q9, h0, h⟩ := h
      obtain ⟨r67, S68, z9, g9⟩ := ru_isText h0
      replace h := h r67 S68 g9
      replace K := fun i oo z => K i oo ⟨r67, S68, z9, z⟩
      by_cases c : r67.toInt = 0
      · replace h := h.1 c
        replace K := fun i oo z => K i oo (Or.inl ⟨c, z⟩)
        exact ru_caught_J138 i0 (fun _ _ _ _ _ _ _ _ h K => ih i00 (fun i oo ⟨n8, z⟩ => K (i, n8) oo z) h) K h
      · replace h := h.2 c
        replace K := fun i oo z => K i oo (Or.inr ⟨c, z⟩)
        exact ru_caught_J138 i0 (fun _ _ _ _ _ _ _ _ h K => ih i00 (fun i oo ⟨n8, z⟩ => K (i, n8) oo z) h) K h
set_option maxRecDepth 100000 in
theorem ru_caught_J77 {ι : Type} {P : MS ⊕ MS → Prop} {Q : MS → Prop} {E : MS → Prop} {U77 : MS} {t77_0 : Int32} {v77_1 : Int32} {v77_2 : Int32} {v77_3 : Int32} {v77_4 : Int32} {v77_5 : Int32} (i0 : ι) (K : ∀ (i : ι) (oo : MS ⊕ MS), v_caught_J77 oo U77 t77_0 v77_1 v77_2 v77_3 v77_4 v77_5 → P oo) (h : w_caught_J77 Q E U77 t77_0 v77_1 v77_2 v77_3 v77_4 v77_5) : ∃ oo, P oo ∧ oV Q E oo := by
  unfold w_caught_J77 at h
  obtain ⟨Q9, E9, h0, h⟩ := h
  obtain ⟨o9, z9, g9⟩ := ru_must h0
  rcases o9 with S24 | u9
  · replace h := h.1 S24 g9
    replace K := fun i oo z => K i oo (Or.inl ⟨S24, z9, z⟩)
    by_cases c : v77_5.toInt ≤ 0
    · replace h := h.1 c
      replace K := fun i oo z => K i oo (Or.inl ⟨c, z⟩)
      exact ru_caught_J161 i0 K h
    · replace h := h.2 c
      replace K := fun i oo z => K i oo (Or.inr ⟨c, z⟩)
      obtain ⟨g10_, h⟩ := h
      replace K := fun i oo z => K i oo ⟨g10_, z⟩
      obtain ⟨Q9, E9, h0, h⟩ := h
      obtain ⟨o9, z9, g9⟩ := ru_must h0
      rcases o9 with S54 | u9
      · replace h := h.1 S54 g9
        replace K := fun i oo z => K i oo (Or.inl ⟨S54, z9, z⟩)
        obtain ⟨n9, h⟩ := h
        exact ru_caught_L109 n9 i0 K h
      · replace h := h.2 u9 g9
        replace K := fun i oo z => K i oo (Or.inr ⟨u9, z9, z⟩)
        exact ⟨.inr u9, K i0 _ rfl, h⟩
  · replace h := h.2 u9 g9
    replace K := fun i oo z => K i oo (Or.inr ⟨u9, z9, z⟩)
    exact ⟨.inr u9, K i0 _ rfl, h⟩
set_option maxRecDepth 100000 in
theorem ru_caught_J76 {ι : Type} {P : MS ⊕ MS → Prop} {Q : MS → Prop} {E : MS → Prop} {U76 : MS} {v76_1 : Int32} {v76_2 : Int32} {v76_3 : Int32} {v76_4 : Int32} {v76_5 : Int32} (i0 : ι) (K : ∀ (i : ι) (oo : MS ⊕ MS), v_caught_J76 oo U76 v76_1 v76_2 v76_3 v76_4 v76_5 → P oo) (h : w_caught_J76 Q E U76 v76_1 v76_2 v76_3 v76_4 v76_5) : ∃ oo, P oo ∧ oV Q E oo := by
  unfold w_caught_J76 at h
  exact ru_caught_J77 i0 K h
set_option maxRecDepth 100000 in
theorem ru_caught_J58 {ι : Type} {P : MS ⊕ MS → Prop} {Q : MS → Prop} {E : MS → Prop} {U58 : MS} {v58_1 : Int32} {v58_2 : Int32} {v58_3 : Int32} {v58_4 : Int32} {v58_5 : Int32} (i0 : ι) (K : ∀ (i : ι) (oo : MS ⊕ MS), v_caught_J58 oo U58 v58_1 v58_2 v58_3 v58_4 v58_5 → P oo) (h : w_caught_J58 Q E U58 v58_1 v58_2 v58_3 v58_4 v58_5) : ∃ oo, P oo ∧ oV Q E oo := by
  unfold w_caught_J58 at h
  obtain ⟨g11_, h⟩ := h
  replace K := fun i oo z => K i oo ⟨g11_, z⟩
  by_cases c : (f_isStart U58 v58_4).toInt = 0
  · replace h := h.1 c
    replace K := fun i oo z => K i oo (Or.inl ⟨c, z⟩)
    exact ru_caught_J76 i0 K h
  · replace h := h.2 c
    replace K := fun i oo z => K i oo (Or.inr ⟨c, z⟩)
    by_cases c : v58_3.toInt ≤ v58_2.toInt
    · replace h := h.1 c
      replace K := fun i oo z => K i oo (Or.inl ⟨c, z⟩)
      exact ru_caught_J76 i0 K h
    · replace h := h.2 c
      replace K := fun i oo z => K i oo (Or.inr ⟨c, z⟩)
      exact ru_caught_J77 i0 K h
set_option maxRecDepth 100000 in
theorem ru_caught {S : MS} {x1 : Int32} {Q : MS → Prop} {E : MS → Prop} (h : w_caught S x1 Q E) : ∃ oo, v_caught S x1 oo ∧ oV Q E oo := by
  have i0 : Unit := ()
  have K : ∀ (i : Unit) (oo : MS ⊕ MS), v_caught S x1 oo → v_caught S x1 oo := fun _ _ z => z
  unfold w_caught at h
  obtain ⟨g12_, h⟩ := h
  replace K := fun i oo z => K i oo ⟨g12_, z⟩
  obtain ⟨a4, ea4⟩ : ∃ x9 : Int32, x9 = (f_two S x1) := ⟨_, rfl⟩
  replace h := h a4 ea4
  replace K := fun i oo z => K i oo ⟨a4, ea4, z⟩
  obtain ⟨g13_, h⟩ := h
  replace K := fun i oo z => K i oo ⟨g13_, z⟩
  obtain ⟨a9, ea9⟩ : ∃ x9 : Int32, x9 = (f_two S (x1 + (2 : Int32))) := ⟨_, rfl⟩
  replace h := h a9 ea9
  replace K := fun i oo z => K i oo ⟨a9, ea9, z⟩
  obtain ⟨g14_, h⟩ := h
  replace K := fun i oo z => K i oo ⟨g14_, z⟩
  obtain ⟨a14, ea14⟩ : ∃ x9 : Int32, x9 = (f_two S (x1 + (4 : Int32))) := ⟨_, rfl⟩
  replace h := h a14 ea14
  replace K := fun i oo z => K i oo ⟨a14, ea14, z⟩
  obtain ⟨g15_, h⟩ := h
  replace K := fun i oo z => K i oo ⟨g15_, z⟩
  obtain ⟨a19, ea19⟩ : ∃ x9 : Int32, x9 = (f_two S (x1 + (6 : Int32))) := ⟨_, rfl⟩
  replace h := h a19 ea19
  replace K := fun i oo z => K i oo ⟨a19, ea19, z⟩
  obtain ⟨g16_, h⟩ := h
  replace K := fun i oo z => K i oo ⟨g16_, z⟩
  by_cases c : (f_isStart S a4).toInt = 0
  · replace h := h.1 c
    replace K := fun i oo z => K i oo (Or.inl ⟨c, z⟩)
    exact ru_caught_J76 i0 K h
  · replace h := h.2 c
    replace K := fun i oo z => K i oo (Or.inr ⟨c, z⟩)
    by_cases c : a9.toInt = (qI S 0 37).toInt
    · replace h := h.1 c
      replace K := fun i oo z => K i oo (Or.inl ⟨c, z⟩)
      exact ru_caught_J58 i0 K h
    · replace h := h.2 c
      replace K := fun i oo z => K i oo (Or.inr ⟨c, z⟩)
      obtain ⟨g17_, h⟩ := h
      replace K := fun i oo z => K i oo ⟨g17_, z⟩
      by_cases c : (f_isStart S a9).toInt = 0
      · replace h := h.1 c
        replace K := fun i oo z => K i oo (Or.inl ⟨c, z⟩)
        exact ru_caught_J76 i0 K h
      · replace h := h.2 c
        replace K := fun i oo z => K i oo (Or.inr ⟨c, z⟩)
        exact ru_caught_J58 i0 K h
set_option maxRecDepth 100000 in
theorem vw_caught_J161 {oo : MS ⊕ MS} {U161 : MS} {v161_2 : Int32} {v161_3 : Int32} {v161_4 : Int32} {v161_6 : Int32} (h : v_caught_J161 oo U161 v161_2 v161_3 v161_4 v161_6) : w_caught_J161 (fun u => oo = .inl u) (fun u => oo = .inr u) U161 v161_2 v161_3 v161_4 v161_6 := by
  unfold v_caught_J161 at h
  unfold w_caught_J161
  obtain ⟨g9, h⟩ := h
  refine ⟨g9, ?_⟩
  obtain ⟨g9, h⟩ := h
  refine ⟨g9, ?_⟩
  obtain ⟨v9, e9, h⟩ := h
  intro x9 d9
  have c9 : v9 = x9 := e9.trans d9.symm
  subst c9
  obtain ⟨g9, h⟩ := h
  refine ⟨g9, ?_⟩
  obtain ⟨g9, h⟩ := h
  refine ⟨g9, ?_⟩
  obtain ⟨v9, e9, h⟩ := h
  intro x9 d9
  have c9 : v9 = x9 := e9.trans d9.symm
  subst c9
  obtain ⟨g9, h⟩ := h
  refine ⟨g9, ?_⟩
  obtain ⟨g9, h⟩ := h
  refine ⟨g9, ?_⟩
  obtain ⟨v9, e9, h⟩ := h
  intro x9 d9
  have c9 : v9 = x9 := e9.trans d9.symm
  subst c9
  obtain ⟨g9, h⟩ := h
  refine ⟨g9, ?_⟩
  obtain ⟨v9, e9, h⟩ := h
  intro x9 d9
  have c9 : v9 = x9 := e9.trans d9.symm
  subst c9
  obtain ⟨v9, e9, h⟩ := h
  intro x9 d9
  have c9 : v9 = x9 := e9.trans d9.symm
  subst c9
  exact h
set_option maxRecDepth 100000 in
theorem vz_caught_J161 {oo : MS ⊕ MS} {Q : MS → Prop} {E : MS → Prop} {U161 : MS} {v161_2 : Int32} {v161_3 : Int32} {v161_4 : Int32} {v161_6 : Int32} (h : v_caught_J161 oo U161 v161_2 v161_3 v161_4 v161_6) (w : w_caught_J161 Q E U161 v161_2 v161_3 v161_4 v161_6) : oV Q E oo := by
  unfold v_caught_J161 at h
  unfold w_caught_J161 at w
  replace h := h.2
  replace w := w.2
  replace h := h.2
  replace w := w.2
  obtain ⟨v9, e9, h⟩ := h
  replace w := w v9 e9
  replace h := h.2
  replace w := w.2
  replace h := h.2
  replace w := w.2
  obtain ⟨v9, e9, h⟩ := h
  replace w := w v9 e9
  replace h := h.2
  replace w := w.2
  replace h := h.2
  replace w := w.2
  obtain ⟨v9, e9, h⟩ := h
  replace w := w v9 e9
  replace h := h.2
  replace w := w.2
  obtain ⟨v9, e9, h⟩ := h
  replace w := w v9 e9
  obtain ⟨v9, e9, h⟩ := h
  replace w := w v9 e9
  rw [h]
  exact w
set_option maxRecDepth 100000 in
theorem vw_caught_J155 {oo : MS ⊕ MS} {U155 : MS} {t155_0 : Int32} {v155_1 : Int32} {v155_2 : Int32} {v155_3 : Int32} {v155_4 : Int32} {v155_6 : Int32} (h : v_caught_J155 oo U155 t155_0 v155_1 v155_2 v155_3 v155_4 v155_6) : w_caught_J155 (fun u => oo = .inl u) (fun u => oo = .inr u) U155 t155_0 v155_1 v155_2 v155_3 v155_4 v155_6 := by
  unfold v_caught_J155 at h
  unfold w_caught_J155
  rcases h with ⟨q9, z9, h⟩ | ⟨q9, z9, h⟩
  · refine ⟨_, _, vw_must z9, ?_, ?_⟩
    · intro q8 d9
      injection d9 with d9
      subst d9
      exact vw_caught_J161 h
    · intro q8 d9
      exact nomatch d9
  · refine ⟨_, _, vw_must z9, ?_, ?_⟩
    · intro q8 d9
      exact nomatch d9
    · intro q8 d9
      injection d9 with d9
      subst d9
      exact h
set_option maxRecDepth 100000 in
theorem vz_caught_J155 {oo : MS ⊕ MS} {Q : MS → Prop} {E : MS → Prop} {U155 : MS} {t155_0 : Int32} {v155_1 : Int32} {v155_2 : Int32} {v155_3 : Int32} {v155_4 : Int32} {v155_6 : Int32} (h : v_caught_J155 oo U155 t155_0 v155_1 v155_2 v155_3 v155_4 v155_6) (w : w_caught_J155 Q E U155 t155_0 v155_1 v155_2 v155_3 v155_4 v155_6) : oV Q E oo := by
  unfold v_caught_J155 at h
  unfold w_caught_J155 at w
  obtain ⟨Q9, E9, w0, w⟩ := w
  rcases h with ⟨q9, z9, h⟩ | ⟨q9, z9, h⟩
  · replace w := w.1 q9 (vz_must z9 w0)
    exact vz_caught_J161 h w
  · replace w := w.2 q9 (vz_must z9 w0)
    rw [h]
    exact w
set_option maxRecDepth 100000 in
theorem vw_caught_J138 {oo : MS ⊕ MS} {k109 k109v : MS → Int32 → Int32 → Int32 → Int32 → Int32 → Int32 → Int32 → Prop} {U138 : MS} {v138_1 : Int32} {v138_2 : Int32} {v138_3 : Int32} {v138_4 : Int32} {v138_5 : Int32} {v138_6 : Int32} {v138_7 : Int32} (hk109 : ∀ (u : MS) (z0 : Int32) (z1 : Int32) (z2 : Int32) (z3 : Int32) (z4 : Int32) (z5 : Int32) (z6 : Int32), k109v u z0 z1 z2 z3 z4 z5 z6 → k109 u z0 z1 z2 z3 z4 z5 z6) (h : v_caught_J138 oo k109v U138 v138_1 v138_2 v138_3 v138_4 v138_5 v138_6 v138_7) : w_caught_J138 (fun u => oo = .inl u) (fun u => oo = .inr u) k109 U138 v138_1 v138_2 v138_3 v138_4 v138_5 v138_6 v138_7 := by
  unfold v_caught_J138 at h
  unfold w_caught_J138
  obtain ⟨v9, e9, h⟩ := h
  intro x9 d9
  have c9 : v9 = x9 := e9.trans d9.symm
  subst c9
  exact hk109 _ _ _ _ _ _ _ _ h
set_option maxRecDepth 100000 in
theorem vz_caught_J138 {oo : MS ⊕ MS} {Q : MS → Prop} {E : MS → Prop} {k109 k109v : MS → Int32 → Int32 → Int32 → Int32 → Int32 → Int32 → Int32 → Prop} {U138 : MS} {v138_1 : Int32} {v138_2 : Int32} {v138_3 : Int32} {v138_4 : Int32} {v138_5 : Int32} {v138_6 : Int32} {v138_7 : Int32} (hk109 : ∀ (u : MS) (z0 : Int32) (z1 : Int32) (z2 : Int32) (z3 : Int32) (z4 : Int32) (z5 : Int32) (z6 : Int32), k109v u z0 z1 z2 z3 z4 z5 z6 → k109 u z0 z1 z2 z3 z4 z5 z6 → oV Q E oo) (h : v_caught_J138 oo k109v U138 v138_1 v138_2 v138_3 v138_4 v138_5 v138_6 v138_7) (w : w_caught_J138 Q E k109 U138 v138_1 v138_2 v138_3 v138_4 v138_5 v138_6 v138_7) : oV Q E oo := by
  unfold v_caught_J138 at h
  unfold w_caught_J138 at w
  obtain ⟨v9, e9, h⟩ := h
  replace w := w v9 e9
  exact hk109 _ _ _ _ _ _ _ _ h w
set_option maxRecDepth 100000 in
theorem vw_caught_L109 {oo : MS ⊕ MS} : ∀ (n : Nat) {U109 : MS} {v109_1 : Int32} {v109_2 : Int32} {v109_3 : Int32} {v109_4 : Int32} {v109_5 : Int32} {v109_6 : Int32} {v109_7 : Int32}, v_caught_L109 oo n U109 v109_1 v109_2 v109_3 v109_4 v109_5 v109_6 v109_7 → w_caught_L109 (fun u => oo = .inl u) (fun u => oo = .inr u) n U109 v109_1 v109_2 v109_3 v109_4 v109_5 v109_6 v109_7 := by
  intro n
  induction n with
  | zero => intro U109 v109_1 v109_2 v109_3 v109_4 v109_5 v109_6 v109_7 h; unfold v_caught_L109 at h; exact h.elim
  | succ n ih =>
    intro U109 v109_1 v109_2 v109_3 v109_4 v109_5 v109_6 v109_7 h
    unfold v_caught_L109 at h
    unfold w_caught_L109
    rcases h with ⟨c, h⟩ | ⟨c, h⟩
    · refine ⟨fun _ => ?_, fun c2 => absurd c c2⟩
      rcases h with ⟨c, h⟩ | ⟨c, h⟩
      · refine ⟨fun _ => ?_, fun c2 => absurd c c2⟩
        exact vw_caught_J155 h
      · refine ⟨fun c2 => absurd c2 c, fun _ => ?_⟩
        exact vw_caught_J155 h
    · refine ⟨fun c2 => absurd c2 c, fun _ => ?_⟩
      obtain ⟨g9, h⟩ := h
      refine ⟨g9, ?_⟩
      obtain ⟨g9, h⟩ := h
      refine ⟨g9, ?_⟩
      obtain ⟨p9, q9, z9, h⟩ := h
      refine ⟨_, vw_isText z9, ?_⟩
      rintro p8 q8 ⟨d8, d9⟩
      subst d8
      subst d9
      rcases h with ⟨c, h⟩ | ⟨c, h⟩
      · refine ⟨fun _ => ?_, fun c2 => absurd c c2⟩
        exact vw_caught_J138 (fun _ _ _ _ _ _ _ _ h => ih h) h
      · refine ⟨fun c2 => absurd c2 c, fun _ => ?_⟩
        exact vw_caught_J138 (fun _ _ _ _ _ _ _ _ h => ih h) h
set_option maxRecDepth 100000 in
theorem vz_caught_L109 {oo : MS ⊕ MS} {Q : MS → Prop} {E : MS → Prop} : ∀ (n m : Nat) {U109 : MS} {v109_1 : Int32} {v109_2 : Int32} {v109_3 : Int32} {v109_4 : Int32} {v109_5 : Int32} {v109_6 : Int32} {v109_7 : Int32}, v_caught_L109 oo n U109 v109_1 v109_2 v109_3 v109_4 v109_5 v109_6 v109_7 → w_caught_L109 Q E m U109 v109_1 v109_2 v109_3 v109_4 v109_5 v109_6 v109_7 → oV Q E oo := by
  intro n
  induction n with
  | zero => intro m U109 v109_1 v109_2 v109_3 v109_4 v109_5 v109_6 v109_7 h; unfold v_caught_L109 at h; exact h.elim
  | succ n ih =>
    intro m U109 v109_1 v109_2 v109_3 v109_4 v109_5 v109_6 v109_7 h w
    cases m with
    | zero => unfold w_caught_L109 at w; exact w.elim
    | succ m =>
      unfold v_caught_L109 at h
      unfold w_caught_L109 at w
      rcases h with ⟨c, h⟩ | ⟨c, h⟩
      · replace w := w.1 c
        rcases h with ⟨c, h⟩ | ⟨c, h⟩
        · replace w := w.1 c
          exact vz_caught_J155 h w
        · replace w := w.2 c
          exact vz_caught_J155 h w
      · replace w := w.2 c
        replace h := h.2
        replace w := w.2
        replace h := h.2
        replace w := w.2
        obtain ⟨p9, q9, z9, h⟩ := h
        obtain ⟨Q9, w0, w⟩ := w
        replace w := w p9 q9 (vz_isText z9 w0)
        rcases h with ⟨c, h⟩ | ⟨c, h⟩
        · replace w := w.1 c
          exact vz_caught_J138 (fun _ _ _ _ _ _ _ _ h w => ih m h w) h w
        · replace w := w.2 c
          exact vz_caught_J138 (fun _ _ _ _ _ _ _ _ h w => ih m h w) h w
set_option maxRecDepth 100000 in
theorem vw_caught_J77 {oo : MS ⊕ MS} {U77 : MS} {t77_0 : Int32} {v77_1 : Int32} {v77_2 : Int32} {v77_3 : Int32} {v77_4 : Int32} {v77_5 : Int32} (h : v_caught_J77 oo U77 t77_0 v77_1 v77_2 v77_3 v77_4 v77_5) : w_caught_J77 (fun u => oo = .inl u) (fun u => oo = .inr u) U77 t77_0 v77_1 v77_2 v77_3 v77_4 v77_5 := by
  unfold v_caught_J77 at h
  unfold w_caught_J77
  rcases h with ⟨q9, z9, h⟩ | ⟨q9, z9, h⟩
  · refine ⟨_, _, vw_must z9, ?_, ?_⟩
    · intro q8 d9
      injection d9 with d9
      subst d9
      rcases h with ⟨c, h⟩ | ⟨c, h⟩
      · refine ⟨fun _ => ?_, fun c2 => absurd c c2⟩
        exact vw_caught_J161 h
      · refine ⟨fun c2 => absurd c2 c, fun _ => ?_⟩
        obtain ⟨g9, h⟩ := h
        refine ⟨g9, ?_⟩
        rcases h with ⟨q9, z9, h⟩ | ⟨q9, z9, h⟩
        · refine ⟨_, _, vw_must z9, ?_, ?_⟩
          · intro q8 d9
            injection d9 with d9
            subst d9
            obtain ⟨n9, h⟩ := h
            exact ⟨n9, vw_caught_L109 n9 h⟩
          · intro q8 d9
            exact nomatch d9
        · refine ⟨_, _, vw_must z9, ?_, ?_⟩
          · intro q8 d9
            exact nomatch d9
          · intro q8 d9
            injection d9 with d9
            subst d9
            exact h
    · intro q8 d9
      exact nomatch d9
  · refine ⟨_, _, vw_must z9, ?_, ?_⟩
    · intro q8 d9
      exact nomatch d9
    · intro q8 d9
      injection d9 with d9
      subst d9
      exact h
set_option maxRecDepth 100000 in
theorem vz_caught_J77 {oo : MS ⊕ MS} {Q : MS → Prop} {E : MS → Prop} {U77 : MS} {t77_0 : Int32} {v77_1 : Int32} {v77_2 : Int32} {v77_3 : Int32} {v77_4 : Int32} {v77_5 : Int32} (h : v_caught_J77 oo U77 t77_0 v77_1 v77_2 v77_3 v77_4 v77_5) (w : w_caught_J77 Q E U77 t77_0 v77_1 v77_2 v77_3 v77_4 v77_5) : oV Q E oo := by
  unfold v_caught_J77 at h
  unfold w_caught_J77 at w
  obtain ⟨Q9, E9, w0, w⟩ := w
  rcases h with ⟨q9, z9, h⟩ | ⟨q9, z9, h⟩
  · replace w := w.1 q9 (vz_must z9 w0)
    rcases h with ⟨c, h⟩ | ⟨c, h⟩
    · replace w := w.1 c
      exact vz_caught_J161 h w
    · replace w := w.2 c
      replace h := h.2
      replace w := w.2
      obtain ⟨Q9, E9, w0, w⟩ := w
      rcases h with ⟨q9, z9, h⟩ | ⟨q9, z9, h⟩
      · replace w := w.1 q9 (vz_must z9 w0)
        obtain ⟨n9, h⟩ := h
        obtain ⟨n8, w⟩ := w
        exact vz_caught_L109 n9 n8 h w
      · replace w := w.2 q9 (vz_must z9 w0)
        rw [h]
        exact w
  · replace w := w.2 q9 (vz_must z9 w0)
    rw [h]
    exact w
set_option maxRecDepth 100000 in
theorem vw_caught_J76 {oo : MS ⊕ MS} {U76 : MS} {v76_1 : Int32} {v76_2 : Int32} {v76_3 : Int32} {v76_4 : Int32} {v76_5 : Int32} (h : v_caught_J76 oo U76 v76_1 v76_2 v76_3 v76_4 v76_5) : w_caught_J76 (fun u => oo = .inl u) (fun u => oo = .inr u) U76 v76_1 v76_2 v76_3 v76_4 v76_5 := by
  unfold v_caught_J76 at h
  unfold w_caught_J76
  exact vw_caught_J77 h
set_option maxRecDepth 100000 in
theorem vz_caught_J76 {oo : MS ⊕ MS} {Q : MS → Prop} {E : MS → Prop} {U76 : MS} {v76_1 : Int32} {v76_2 : Int32} {v76_3 : Int32} {v76_4 : Int32} {v76_5 : Int32} (h : v_caught_J76 oo U76 v76_1 v76_2 v76_3 v76_4 v76_5) (w : w_caught_J76 Q E U76 v76_1 v76_2 v76_3 v76_4 v76_5) : oV Q E oo := by
  unfold v_caught_J76 at h
  unfold w_caught_J76 at w
  exact vz_caught_J77 h w
set_option maxRecDepth 100000 in
theorem vw_caught_J58 {oo : MS ⊕ MS} {U58 : MS} {v58_1 : Int32} {v58_2 : Int32} {v58_3 : Int32} {v58_4 : Int32} {v58_5 : Int32} (h : v_caught_J58 oo U58 v58_1 v58_2 v58_3 v58_4 v58_5) : w_caught_J58 (fun u => oo = .inl u) (fun u => oo = .inr u) U58 v58_1 v58_2 v58_3 v58_4 v58_5 := by
  unfold v_caught_J58 at h
  unfold w_caught_J58
  obtain ⟨g9, h⟩ := h
  refine ⟨g9, ?_⟩
  rcases h with ⟨c, h⟩ | ⟨c, h⟩
  · refine ⟨fun _ => ?_, fun c2 => absurd c c2⟩
    exact vw_caught_J76 h
  · refine ⟨fun c2 => absurd c2 c, fun _ => ?_⟩
    rcases h with ⟨c, h⟩ | ⟨c, h⟩
    · refine ⟨fun _ => ?_, fun c2 => absurd c c2⟩
      exact vw_caught_J76 h
    · refine ⟨fun c2 => absurd c2 c, fun _ => ?_⟩
      exact vw_caught_J77 h
set_option maxRecDepth 100000 in
theorem vz_caught_J58 {oo : MS ⊕ MS} {Q : MS → Prop} {E : MS → Prop} {U58 : MS} {v58_1 : Int32} {v58_2 : Int32} {v58_3 : Int32} {v58_4 : Int32} {v58_5 : Int32} (h : v_caught_J58 oo U58 v58_1 v58_2 v58_3 v58_4 v58_5) (w : w_caught_J58 Q E U58 v58_1 v58_2 v58_3 v58_4 v58_5) : oV Q E oo := by
  unfold v_caught_J58 at h
  unfold w_caught_J58 at w
  replace h := h.2
  replace w := w.2
  rcases h with ⟨c, h⟩ | ⟨c, h⟩
  · replace w := w.1 c
    exact vz_caught_J76 h w
  · replace w := w.2 c
    rcases h with ⟨c, h⟩ | ⟨c, h⟩
    · replace w := w.1 c
      exact vz_caught_J76 h w
    · replace w := w.2 c
      exact vz_caught_J77 h w
set_option maxRecDepth 100000 in
theorem vw_caught {S : MS} {x1 : Int32} {oo : MS ⊕ MS} (h : v_caught S x1 oo) : w_caught S x1 (fun u => oo = .inl u) (fun u => oo = .inr u) := by
  unfold v_caught at h
  unfold w_caught
  obtain ⟨g9, h⟩ := h
  refine ⟨g9, ?_⟩
  obtain ⟨v9, e9, h⟩ := h
  intro x9 d9
  have c9 : v9 = x9 := e9.trans d9.symm
  subst c9
  obtain ⟨g9, h⟩ := h
  refine ⟨g9, ?_⟩
  obtain ⟨v9, e9, h⟩ := h
  intro x9 d9
  have c9 : v9 = x9 := e9.trans d9.symm
  subst c9
  obtain ⟨g9, h⟩ := h
  refine ⟨g9, ?_⟩
  obtain ⟨v9, e9, h⟩ := h
  intro x9 d9
  have c9 : v9 = x9 := e9.trans d9.symm
  subst c9
  obtain ⟨g9, h⟩ := h
  refine ⟨g9, ?_⟩
  obtain ⟨v9, e9, h⟩ := h
  intro x9 d9
  have c9 : v9 = x9 := e9.trans d9.symm
  subst c9
  obtain ⟨g9, h⟩ := h
  refine ⟨g9, ?_⟩
  rcases h with ⟨c, h⟩ | ⟨c, h⟩
  · refine ⟨fun _ => ?_, fun c2 => absurd c c2⟩
    exact vw_caught_J76 h
  · refine ⟨fun c2 => absurd c2 c, fun _ => ?_⟩
    rcases h with ⟨c, h⟩ | ⟨c, h⟩
    · refine ⟨fun _ => ?_, fun c2 => absurd c c2⟩
      exact vw_caught_J58 h
    · refine ⟨fun c2 => absurd c2 c, fun _ => ?_⟩
      obtain ⟨g9, h⟩ := h
      refine ⟨g9, ?_⟩
      rcases h with ⟨c, h⟩ | ⟨c, h⟩
      · refine ⟨fun _ => ?_, fun c2 => absurd c c2⟩
        exact vw_caught_J76 h
      · refine ⟨fun c2 => absurd c2 c, fun _ => ?_⟩
        exact vw_caught_J58 h
set_option maxRecDepth 100000 in
theorem vz_caught {S : MS} {x1 : Int32} {oo : MS ⊕ MS} {Q : MS → Prop} {E : MS → Prop} (h : v_caught S x1 oo) (w : w_caught S x1 Q E) : oV Q E oo := by
  unfold v_caught at h
  unfold w_caught at w
  replace h := h.2
  replace w := w.2
  obtain ⟨v9, e9, h⟩ := h
  replace w := w v9 e9
  replace h := h.2
  replace w := w.2
  obtain ⟨v9, e9, h⟩ := h
  replace w := w v9 e9
  replace h := h.2
  replace w := w.2
  obtain ⟨v9, e9, h⟩ := h
  replace w := w v9 e9
  replace h := h.2
  replace w := w.2
  obtain ⟨v9, e9, h⟩ := h
  replace w := w v9 e9
  replace h := h.2
  replace w := w.2
  rcases h with ⟨c, h⟩ | ⟨c, h⟩
  · replace w := w.1 c
    exact vz_caught_J76 h w
  · replace w := w.2 c
    rcases h with ⟨c, h⟩ | ⟨c, h⟩
    · replace w := w.1 c
      exact vz_caught_J58 h w
    · replace w := w.2 c
      replace h := h.2
      replace w := w.2
      rcases h with ⟨c, h⟩ | ⟨c, h⟩
      · replace w := w.1 c
        exact vz_caught_J76 h w
      · replace w := w.2 c
        exact vz_caught_J58 h w
def v_chosen_L2 (ro : Int32) (uo : MS) : Nat → MS → Int32 → Int32 → Int32 → Prop
  | 0, _, _, _, _ => False
  | n2 + 1, U2, v2_1, v2_2, v2_3 => (d_second U2 v2_1 ∧ (((f_second U2 v2_1).toInt ≤ v2_3.toInt ∧ ((qR U2 0 49 = some (qO U2 0 49)) ∧ (d_first U2 v2_1 ∧ (((0 : Int) ≤ (f_first U2 v2_1).toInt ∧ (f_first U2 v2_1).toInt < (qN U2 (qO U2 0 49) : Int)) ∧ (ro = (qI U2 (qO U2 0 49) (((f_first U2 v2_1).toInt).toNat)) ∧ uo = U2))))) ∨ (¬ (f_second U2 v2_1).toInt ≤ v2_3.toInt ∧ ((qR U2 0 49 = some (qO U2 0 49)) ∧ (d_first U2 v2_1 ∧ (((0 : Int) ≤ (((f_first U2 v2_1) + (1 : Int32)) + ((2 : Int32) * v2_3)).toInt ∧ (((f_first U2 v2_1) + (1 : Int32)) + ((2 : Int32) * v2_3)).toInt < (qN U2 (qO U2 0 49) : Int)) ∧ (((qI U2 (qO U2 0 49) (((((f_first U2 v2_1) + (1 : Int32)) + ((2 : Int32) * v2_3)).toInt).toNat)).toInt = v2_2.toInt ∧ ((qR U2 0 49 = some (qO U2 0 49)) ∧ (d_first U2 v2_1 ∧ (((0 : Int) ≤ (((f_first U2 v2_1) + (2 : Int32)) + ((2 : Int32) * v2_3)).toInt ∧ (((f_first U2 v2_1) + (2 : Int32)) + ((2 : Int32) * v2_3)).toInt < (qN U2 (qO U2 0 49) : Int)) ∧ (ro = (qI U2 (qO U2 0 49) (((((f_first U2 v2_1) + (2 : Int32)) + ((2 : Int32) * v2_3)).toInt).toNat)) ∧ uo = U2))))) ∨ (¬ (qI U2 (qO U2 0 49) (((((f_first U2 v2_1) + (1 : Int32)) + ((2 : Int32) * v2_3)).toInt).toNat)).toInt = v2_2.toInt ∧ (∃ a23 : Int32, a23 = (v2_3 + Int32.ofInt 1) ∧ ((v_chosen_L2 ro uo n2) U2 v2_1 v2_2 a23))))))))))
def v_chosen (S : MS) (x1 : Int32) (x2 : Int32) (ro : Int32) (uo : MS) : Prop := (∃ n, v_chosen_L2 ro uo n S x1 x2 0)
set_option maxRecDepth 100000 in
theorem ru_chosen_L2 {ι : Type} {P : Int32 → MS → Prop} {Q : Int32 → MS → Prop} : ∀ (n : Nat) {U2 : MS} {v2_1 : Int32} {v2_2 : Int32} {v2_3 : Int32} (i0 : ι), (∀ (i : ι) (ro : Int32) (uo : MS), (∃ n8, v_chosen_L2 ro uo n8 U2 v2_1 v2_2 v2_3) → P ro uo) → w_chosen_L2 Q n U2 v2_1 v2_2 v2_3 → ∃ ro uo, P ro uo ∧ Q ro uo := by
  intro n
  induction n with
  | zero => intro U2 v2_1 v2_2 v2_3 i0 K h; unfold w_chosen_L2 at h; exact h.elim
  | succ n ih =>
    intro U2 v2_1 v2_2 v2_3 i0 K h
    unfold w_chosen_L2 at h
    replace K := fun (i : ι × Nat) ro uo (z : v_chosen_L2 ro uo (i.2 + 1) U2 v2_1 v2_2 v2_3) => K i.1 ro uo ⟨i.2 + 1, z⟩
    have i00 := i0
    replace i0 : ι × Nat := (i0, 0)
    obtain ⟨g1_, h⟩ := h
    replace K := fun i ro uo z => K i ro uo ⟨g1_, z⟩
    by_cases c : (f_second U2 v2_1).toInt ≤ v2_3.toInt
    · replace h := h.1 c
      replace K := fun i ro uo z => K i ro uo (Or.inl ⟨c, z⟩)
      obtain ⟨g2_, h⟩ := h
      replace K := fun i ro uo z => K i ro uo ⟨g2_, z⟩
      obtain ⟨g3_, h⟩ := h
      replace K := fun i ro uo z => K i ro uo ⟨g3_, z⟩
      obtain ⟨g4_, h⟩ := h
      replace K := fun i ro uo z => K i ro uo ⟨g4_, z⟩
      exact ⟨_, _, K i0 _ _ ⟨rfl, rfl⟩, h⟩
    · replace h := h.2 c
      replace K := fun i ro uo z => K i ro uo (Or.inr ⟨c, z⟩)
      obtain ⟨g5_, h⟩ := h
      replace K := fun i ro uo z => K i ro uo ⟨g5_, z⟩
      obtain ⟨g6_, h⟩ := h
      replace K := fun i ro uo z => K i ro uo ⟨g6_, z⟩
      obtain ⟨g7_, h⟩ := h
      replace K := fun i ro uo z => K i ro uo ⟨g7_, z⟩
      by_cases c : (qI U2 (qO U2 0 49) (((((f_first U2 v2_1) + (1 : Int32)) + ((2 : Int32) * v2_3)).toInt).toNat)).toInt = v2_2.toInt
      · replace h := h.1 c
        replace K := fun i ro uo z => K i ro uo (Or.inl ⟨c, z⟩)
        obtain ⟨g8_, h⟩ := h
        replace K := fun i ro uo z => K i ro uo ⟨g8_, z⟩
        obtain ⟨g9_, h⟩ := h
        replace K := fun i ro uo z => K i ro uo ⟨g9_, z⟩
        obtain ⟨g10_, h⟩ := h
        replace K := fun i ro uo z => K i ro uo ⟨g10_, z⟩
        exact ⟨_, _, K i0 _ _ ⟨rfl, rfl⟩, h⟩
      · replace h := h.2 c
        replace K := fun i ro uo z => K i ro uo (Or.inr ⟨c, z⟩)
        obtain ⟨a23, ea23⟩ : ∃ x9 : Int32, x9 = (v2_3 + Int32.ofInt 1) := ⟨_, rfl⟩
        replace h := h a23 ea23
        replace K := fun i ro uo z => K i ro uo ⟨a23, ea23, z⟩
        exact ih i00 (fun i ro uo ⟨n8, z⟩ => K (i, n8) ro uo z) h
set_option maxRecDepth 100000 in
theorem ru_chosen {S : MS} {x1 : Int32} {x2 : Int32} {Q : Int32 → MS → Prop} (h : w_chosen S x1 x2 Q) : ∃ ro uo, v_chosen S x1 x2 ro uo ∧ Q ro uo := by
  have i0 : Unit := ()
  have K : ∀ (i : Unit) (ro : Int32) (uo : MS), v_chosen S x1 x2 ro uo → v_chosen S x1 x2 ro uo := fun _ _ _ z => z
  unfold w_chosen at h
  obtain ⟨n9, h⟩ := h
  exact ru_chosen_L2 n9 i0 K h
set_option maxRecDepth 100000 in
theorem vw_chosen_L2 {ro : Int32} {uo : MS} : ∀ (n : Nat) {U2 : MS} {v2_1 : Int32} {v2_2 : Int32} {v2_3 : Int32}, v_chosen_L2 ro uo n U2 v2_1 v2_2 v2_3 → w_chosen_L2 (fun r u => r = ro ∧ u = uo) n U2 v2_1 v2_2 v2_3 := by
  intro n
  induction n with
  | zero => intro U2 v2_1 v2_2 v2_3 h; unfold v_chosen_L2 at h; exact h.elim
  | succ n ih =>
    intro U2 v2_1 v2_2 v2_3 h
    unfold v_chosen_L2 at h
    unfold w_chosen_L2
    obtain ⟨g9, h⟩ := h
    refine ⟨g9, ?_⟩
    rcases h with ⟨c, h⟩ | ⟨c, h⟩
    · refine ⟨fun _ => ?_, fun c2 => absurd c c2⟩
      obtain ⟨g9, h⟩ := h
      refine ⟨g9, ?_⟩
      obtain ⟨g9, h⟩ := h
      refine ⟨g9, ?_⟩
      obtain ⟨g9, h⟩ := h
      refine ⟨g9, ?_⟩
      exact ⟨h.1.symm, h.2.symm⟩
    · refine ⟨fun c2 => absurd c2 c, fun _ => ?_⟩
      obtain ⟨g9, h⟩ := h
      refine ⟨g9, ?_⟩
      obtain ⟨g9, h⟩ := h
      refine ⟨g9, ?_⟩
      obtain ⟨g9, h⟩ := h
      refine ⟨g9, ?_⟩
      rcases h with ⟨c, h⟩ | ⟨c, h⟩
      · refine ⟨fun _ => ?_, fun c2 => absurd c c2⟩
        obtain ⟨g9, h⟩ := h
        refine ⟨g9, ?_⟩
        obtain ⟨g9, h⟩ := h
        refine ⟨g9, ?_⟩
        obtain ⟨g9, h⟩ := h
        refine ⟨g9, ?_⟩
        exact ⟨h.1.symm, h.2.symm⟩
      · refine ⟨fun c2 => absurd c2 c, fun _ => ?_⟩
        obtain ⟨v9, e9, h⟩ := h
        intro x9 d9
        have c9 : v9 = x9 := e9.trans d9.symm
        subst c9
        exact ih h
set_option maxRecDepth 100000 in
theorem vz_chosen_L2 {ro : Int32} {uo : MS} {Q : Int32 → MS → Prop} : ∀ (n m : Nat) {U2 : MS} {v2_1 : Int32} {v2_2 : Int32} {v2_3 : Int32}, v_chosen_L2 ro uo n U2 v2_1 v2_2 v2_3 → w_chosen_L2 Q m U2 v2_1 v2_2 v2_3 → Q ro uo := by
  intro n
  induction n with
  | zero => intro m U2 v2_1 v2_2 v2_3 h; unfold v_chosen_L2 at h; exact h.elim
  | succ n ih =>
    intro m U2 v2_1 v2_2 v2_3 h w
    cases m with
    | zero => unfold w_chosen_L2 at w; exact w.elim
    | succ m =>
      unfold v_chosen_L2 at h
      unfold w_chosen_L2 at w
      replace h := h.2
      replace w := w.2
      rcases h with ⟨c, h⟩ | ⟨c, h⟩
      · replace w := w.1 c
        replace h := h.2
        replace w := w.2
        replace h := h.2
        replace w := w.2
        replace h := h.2
        replace w := w.2
        rw [h.1, h.2]
        exact w
      · replace w := w.2 c
        replace h := h.2
        replace w := w.2
        replace h := h.2
        replace w := w.2
        replace h := h.2
        replace w := w.2
        rcases h with ⟨c, h⟩ | ⟨c, h⟩
        · replace w := w.1 c
          replace h := h.2
          replace w := w.2
          replace h := h.2
          replace w := w.2
          replace h := h.2
          replace w := w.2
          rw [h.1, h.2]
          exact w
        · replace w := w.2 c
          obtain ⟨v9, e9, h⟩ := h
          replace w := w v9 e9
          exact ih m h w
set_option maxRecDepth 100000 in
theorem vw_chosen {S : MS} {x1 : Int32} {x2 : Int32} {ro : Int32} {uo : MS} (h : v_chosen S x1 x2 ro uo) : w_chosen S x1 x2 (fun r u => r = ro ∧ u = uo) := by
  unfold v_chosen at h
  unfold w_chosen
  obtain ⟨n9, h⟩ := h
  exact ⟨n9, vw_chosen_L2 n9 h⟩
set_option maxRecDepth 100000 in
theorem vz_chosen {S : MS} {x1 : Int32} {x2 : Int32} {ro : Int32} {uo : MS} {Q : Int32 → MS → Prop} (h : v_chosen S x1 x2 ro uo) (w : w_chosen S x1 x2 Q) : Q ro uo := by
  unfold v_chosen at h
  unfold w_chosen at w
  obtain ⟨n9, h⟩ := h
  obtain ⟨n8, w⟩ := w
  exact vz_chosen_L2 n9 n8 h w
def v_classes_J76 (oo : MS ⊕ MS) (U76 : MS) (t76_0 : Int32) : Prop := ((∃ (S29 : MS), v_must U76 t76_0 (8 : Int32) ((qI U76 0 20) + (6 : Int32)) (.inl S29) ∧ (oo = .inl S29)) ∨ (∃ u9 : MS, v_must U76 t76_0 (8 : Int32) ((qI U76 0 20) + (6 : Int32)) (.inr u9) ∧ (oo = .inr u9)))
def v_classes (S : MS) (oo : MS ⊕ MS) : Prop := (d_two S ((qI S 0 20) + (2 : Int32)) ∧ (d_isEntry S (f_two S ((qI S 0 20) + (2 : Int32))) (7 : Int32) ∧ ((∃ (S10 : MS), v_must S (f_isEntry S (f_two S ((qI S 0 20) + (2 : Int32))) (7 : Int32)) (8 : Int32) ((qI S 0 20) + (2 : Int32)) (.inl S10) ∧ (d_two S10 ((qI S10 0 20) + (4 : Int32)) ∧ (d_isEntry S10 (f_two S10 ((qI S10 0 20) + (4 : Int32))) (7 : Int32) ∧ ((∃ (S21 : MS), v_must S10 (f_isEntry S10 (f_two S10 ((qI S10 0 20) + (4 : Int32))) (7 : Int32)) (8 : Int32) ((qI S10 0 20) + (4 : Int32)) (.inl S21) ∧ (d_two S21 ((qI S21 0 20) + (6 : Int32)) ∧ (((f_two S21 ((qI S21 0 20) + (6 : Int32))).toInt = 0 ∧ (v_classes_J76 oo S21 1)) ∨ (¬ (f_two S21 ((qI S21 0 20) + (6 : Int32))).toInt = 0 ∧ (v_classes_J76 oo S21 0))))) ∨ (∃ u9 : MS, v_must S10 (f_isEntry S10 (f_two S10 ((qI S10 0 20) + (4 : Int32))) (7 : Int32)) (8 : Int32) ((qI S10 0 20) + (4 : Int32)) (.inr u9) ∧ (oo = .inr u9)))))) ∨ (∃ u9 : MS, v_must S (f_isEntry S (f_two S ((qI S 0 20) + (2 : Int32))) (7 : Int32)) (8 : Int32) ((qI S 0 20) + (2 : Int32)) (.inr u9) ∧ (oo = .inr u9)))))
set_option maxRecDepth 100000 in
theorem ru_classes_J76 {ι : Type} {P : MS ⊕ MS → Prop} {Q : MS → Prop} {E : MS → Prop} {U76 : MS} {t76_0 : Int32} (i0 : ι) (K : ∀ (i : ι) (oo : MS ⊕ MS), v_classes_J76 oo U76 t76_0 → P oo) (h : w_classes_J76 Q E U76 t76_0) : ∃ oo, P oo ∧ oV Q E oo := by
  unfold w_classes_J76 at h
  obtain ⟨Q9, E9, h0, h⟩ := h
  obtain ⟨o9, z9, g9⟩ := ru_must h0
  rcases o9 with S29 | u9
  · replace h := h.1 S29 g9
    replace K := fun i oo z => K i oo (Or.inl ⟨S29, z9, z⟩)
    exact ⟨.inl _, K i0 _ rfl, h⟩
  · replace h := h.2 u9 g9
    replace K := fun i oo z => K i oo (Or.inr ⟨u9, z9, z⟩)
    exact ⟨.inr u9, K i0 _ rfl, h⟩
set_option maxRecDepth 100000 in
theorem ru_classes {S : MS} {Q : MS → Prop} {E : MS → Prop} (h : w_classes S Q E) : ∃ oo, v_classes S oo ∧ oV Q E oo := by
  have i0 : Unit := ()
  have K : ∀ (i : Unit) (oo : MS ⊕ MS), v_classes S oo → v_classes S oo := fun _ _ z => z
  unfold w_classes at h
  obtain ⟨g1_, h⟩ := h
  replace K := fun i oo z => K i oo ⟨g1_, z⟩
  obtain ⟨g2_, h⟩ := h
  replace K := fun i oo z => K i oo ⟨g2_, z⟩
  obtain ⟨Q9, E9, h0, h⟩ := h
  obtain ⟨o9, z9, g9⟩ := ru_must h0
  rcases o9 with S10 | u9
  · replace h := h.1 S10 g9
    replace K := fun i oo z => K i oo (Or.inl ⟨S10, z9, z⟩)
    obtain ⟨g3_, h⟩ := h
    replace K := fun i oo z => K i oo ⟨g3_, z⟩
    obtain ⟨g4_, h⟩ := h
    replace K := fun i oo z => K i oo ⟨g4_, z⟩
    obtain ⟨Q9, E9, h0, h⟩ := h
    obtain ⟨o9, z9, g9⟩ := ru_must h0
    rcases o9 with S21 | u9
    · replace h := h.1 S21 g9
      replace K := fun i oo z => K i oo (Or.inl ⟨S21, z9, z⟩)
      obtain ⟨g5_, h⟩ := h
      replace K := fun i oo z => K i oo ⟨g5_, z⟩
      by_cases c : (f_two S21 ((qI S21 0 20) + (6 : Int32))).toInt = 0
      · replace h := h.1 c
        replace K := fun i oo z => K i oo (Or.inl ⟨c, z⟩)
        exact ru_classes_J76 i0 K h
      · replace h := h.2 c
        replace K := fun i oo z => K i oo (Or.inr ⟨c, z⟩)
        exact ru_classes_J76 i0 K h
    · replace h := h.2 u9 g9
      replace K := fun i oo z => K i oo (Or.inr ⟨u9, z9, z⟩)
      exact ⟨.inr u9, K i0 _ rfl, h⟩
  · replace h := h.2 u9 g9
    replace K := fun i oo z => K i oo (Or.inr ⟨u9, z9, z⟩)
    exact ⟨.inr u9, K i0 _ rfl, h⟩
set_option maxRecDepth 100000 in
theorem vw_classes_J76 {oo : MS ⊕ MS} {U76 : MS} {t76_0 : Int32} (h : v_classes_J76 oo U76 t76_0) : w_classes_J76 (fun u => oo = .inl u) (fun u => oo = .inr u) U76 t76_0 := by
  unfold v_classes_J76 at h
  unfold w_classes_J76
  rcases h with ⟨q9, z9, h⟩ | ⟨q9, z9, h⟩
  · refine ⟨_, _, vw_must z9, ?_, ?_⟩
    · intro q8 d9
      injection d9 with d9
      subst d9
      exact h
    · intro q8 d9
      exact nomatch d9
  · refine ⟨_, _, vw_must z9, ?_, ?_⟩
    · intro q8 d9
      exact nomatch d9
    · intro q8 d9
      injection d9 with d9
      subst d9
      exact h
set_option maxRecDepth 100000 in
theorem vz_classes_J76 {oo : MS ⊕ MS} {Q : MS → Prop} {E : MS → Prop} {U76 : MS} {t76_0 : Int32} (h : v_classes_J76 oo U76 t76_0) (w : w_classes_J76 Q E U76 t76_0) : oV Q E oo := by
  unfold v_classes_J76 at h
  unfold w_classes_J76 at w
  obtain ⟨Q9, E9, w0, w⟩ := w
  rcases h with ⟨q9, z9, h⟩ | ⟨q9, z9, h⟩
  · replace w := w.1 q9 (vz_must z9 w0)
    rw [h]
    exact w
  · replace w := w.2 q9 (vz_must z9 w0)
    rw [h]
    exact w
set_option maxRecDepth 100000 in
theorem vw_classes {S : MS} {oo : MS ⊕ MS} (h : v_classes S oo) : w_classes S (fun u => oo = .inl u) (fun u => oo = .inr u) := by
  unfold v_classes at h
  unfold w_classes
  obtain ⟨g9, h⟩ := h
  refine ⟨g9, ?_⟩
  obtain ⟨g9, h⟩ := h
  refine ⟨g9, ?_⟩
  rcases h with ⟨q9, z9, h⟩ | ⟨q9, z9, h⟩
  · refine ⟨_, _, vw_must z9, ?_, ?_⟩
    · intro q8 d9
      injection d9 with d9
      subst d9
      obtain ⟨g9, h⟩ := h
      refine ⟨g9, ?_⟩
      obtain ⟨g9, h⟩ := h
      refine ⟨g9, ?_⟩
      rcases h with ⟨q9, z9, h⟩ | ⟨q9, z9, h⟩
      · refine ⟨_, _, vw_must z9, ?_, ?_⟩
        · intro q8 d9
          injection d9 with d9
          subst d9
          obtain ⟨g9, h⟩ := h
          refine ⟨g9, ?_⟩
          rcases h with ⟨c, h⟩ | ⟨c, h⟩
          · refine ⟨fun _ => ?_, fun c2 => absurd c c2⟩
            exact vw_classes_J76 h
          · refine ⟨fun c2 => absurd c2 c, fun _ => ?_⟩
            exact vw_classes_J76 h
        · intro q8 d9
          exact nomatch d9
      · refine ⟨_, _, vw_must z9, ?_, ?_⟩
        · intro q8 d9
          exact nomatch d9
        · intro q8 d9
          injection d9 with d9
          subst d9
          exact h
    · intro q8 d9
      exact nomatch d9
  · refine ⟨_, _, vw_must z9, ?_, ?_⟩
    · intro q8 d9
      exact nomatch d9
    · intro q8 d9
      injection d9 with d9
      subst d9
      exact h
set_option maxRecDepth 100000 in
theorem vz_classes {S : MS} {oo : MS ⊕ MS} {Q : MS → Prop} {E : MS → Prop} (h : v_classes S oo) (w : w_classes S Q E) : oV Q E oo := by
  unfold v_classes at h
  unfold w_classes at w
  replace h := h.2
  replace w := w.2
  replace h := h.2
  replace w := w.2
  obtain ⟨Q9, E9, w0, w⟩ := w
  rcases h with ⟨q9, z9, h⟩ | ⟨q9, z9, h⟩
  · replace w := w.1 q9 (vz_must z9 w0)
    replace h := h.2
    replace w := w.2
    replace h := h.2
    replace w := w.2
    obtain ⟨Q9, E9, w0, w⟩ := w
    rcases h with ⟨q9, z9, h⟩ | ⟨q9, z9, h⟩
    · replace w := w.1 q9 (vz_must z9 w0)
      replace h := h.2
      replace w := w.2
      rcases h with ⟨c, h⟩ | ⟨c, h⟩
      · replace w := w.1 c
        exact vz_classes_J76 h w
      · replace w := w.2 c
        exact vz_classes_J76 h w
    · replace w := w.2 q9 (vz_must z9 w0)
      rw [h]
      exact w
  · replace w := w.2 q9 (vz_must z9 w0)
    rw [h]
    exact w
def v_closing_L2 (ro : Int32) (uo : MS) : Nat → MS → Nat → Int32 → Prop
  | 0, _, _, _ => False
  | n2 + 1, U2, v2_0, v2_1 => (((0 : Int) ≤ v2_1.toInt ∧ v2_1.toInt < (qN U2 (v2_0 + 1) : Int)) ∧ (((cAt U2 v2_0 v2_1).toInt = 41 ∧ (ro = v2_1 ∧ uo = U2)) ∨ (¬ (cAt U2 v2_0 v2_1).toInt = 41 ∧ (∃ a4 : Int32, a4 = (v2_1 + Int32.ofInt 1) ∧ ((v_closing_L2 ro uo n2) U2 v2_0 a4)))))
def v_closing (S : MS) (p0 : Nat) (ro : Int32) (uo : MS) : Prop := (∃ n, v_closing_L2 ro uo n S p0 0)
set_option maxRecDepth 100000 in
theorem ru_closing_L2 {ι : Type} {P : Int32 → MS → Prop} {Q : Int32 → MS → Prop} : ∀ (n : Nat) {U2 : MS} {v2_0 : Nat} {v2_1 : Int32} (i0 : ι), (∀ (i : ι) (ro : Int32) (uo : MS), (∃ n8, v_closing_L2 ro uo n8 U2 v2_0 v2_1) → P ro uo) → w_closing_L2 Q n U2 v2_0 v2_1 → ∃ ro uo, P ro uo ∧ Q ro uo := by
  intro n
  induction n with
  | zero => intro U2 v2_0 v2_1 i0 K h; unfold w_closing_L2 at h; exact h.elim
  | succ n ih =>
    intro U2 v2_0 v2_1 i0 K h
    unfold w_closing_L2 at h
    replace K := fun (i : ι × Nat) ro uo (z : v_closing_L2 ro uo (i.2 + 1) U2 v2_0 v2_1) => K i.1 ro uo ⟨i.2 + 1, z⟩
    have i00 := i0
    replace i0 : ι × Nat := (i0, 0)
    obtain ⟨g1_, h⟩ := h
    replace K := fun i ro uo z => K i ro uo ⟨g1_, z⟩
    by_cases c : (cAt U2 v2_0 v2_1).toInt = 41
    · replace h := h.1 c
      replace K := fun i ro uo z => K i ro uo (Or.inl ⟨c, z⟩)
      exact ⟨_, _, K i0 _ _ ⟨rfl, rfl⟩, h⟩
    · replace h := h.2 c
      replace K := fun i ro uo z => K i ro uo (Or.inr ⟨c, z⟩)
      obtain ⟨a4, ea4⟩ : ∃ x9 : Int32, x9 = (v2_1 + Int32.ofInt 1) := ⟨_, rfl⟩
      replace h := h a4 ea4
      replace K := fun i ro uo z => K i ro uo ⟨a4, ea4, z⟩
      exact ih i00 (fun i ro uo ⟨n8, z⟩ => K (i, n8) ro uo z) h
set_option maxRecDepth 100000 in
theorem ru_closing {S : MS} {p0 : Nat} {Q : Int32 → MS → Prop} (h : w_closing S p0 Q) : ∃ ro uo, v_closing S p0 ro uo ∧ Q ro uo := by
  have i0 : Unit := ()
  have K : ∀ (i : Unit) (ro : Int32) (uo : MS), v_closing S p0 ro uo → v_closing S p0 ro uo := fun _ _ _ z => z
  unfold w_closing at h
  obtain ⟨n9, h⟩ := h
  exact ru_closing_L2 n9 i0 K h
set_option maxRecDepth 100000 in
theorem vw_closing_L2 {ro : Int32} {uo : MS} : ∀ (n : Nat) {U2 : MS} {v2_0 : Nat} {v2_1 : Int32}, v_closing_L2 ro uo n U2 v2_0 v2_1 → w_closing_L2 (fun r u => r = ro ∧ u = uo) n U2 v2_0 v2_1 := by
  intro n
  induction n with
  | zero => intro U2 v2_0 v2_1 h; unfold v_closing_L2 at h; exact h.elim
  | succ n ih =>
    intro U2 v2_0 v2_1 h
    unfold v_closing_L2 at h
    unfold w_closing_L2
    obtain ⟨g9, h⟩ := h
    refine ⟨g9, ?_⟩
    rcases h with ⟨c, h⟩ | ⟨c, h⟩
    · refine ⟨fun _ => ?_, fun c2 => absurd c c2⟩
      exact ⟨h.1.symm, h.2.symm⟩
    · refine ⟨fun c2 => absurd c2 c, fun _ => ?_⟩
      obtain ⟨v9, e9, h⟩ := h
      intro x9 d9
      have c9 : v9 = x9 := e9.trans d9.symm
      subst c9
      exact ih h
set_option maxRecDepth 100000 in
theorem vz_closing_L2 {ro : Int32} {uo : MS} {Q : Int32 → MS → Prop} : ∀ (n m : Nat) {U2 : MS} {v2_0 : Nat} {v2_1 : Int32}, v_closing_L2 ro uo n U2 v2_0 v2_1 → w_closing_L2 Q m U2 v2_0 v2_1 → Q ro uo := by
  intro n
  induction n with
  | zero => intro m U2 v2_0 v2_1 h; unfold v_closing_L2 at h; exact h.elim
  | succ n ih =>
    intro m U2 v2_0 v2_1 h w
    cases m with
    | zero => unfold w_closing_L2 at w; exact w.elim
    | succ m =>
      unfold v_closing_L2 at h
      unfold w_closing_L2 at w
      replace h := h.2
      replace w := w.2
      rcases h with ⟨c, h⟩ | ⟨c, h⟩
      · replace w := w.1 c
        rw [h.1, h.2]
        exact w
      · replace w := w.2 c
        obtain ⟨v9, e9, h⟩ := h
        replace w := w v9 e9
        exact ih m h w
set_option maxRecDepth 100000 in
theorem vw_closing {S : MS} {p0 : Nat} {ro : Int32} {uo : MS} (h : v_closing S p0 ro uo) : w_closing S p0 (fun r u => r = ro ∧ u = uo) := by
  unfold v_closing at h
  unfold w_closing
  obtain ⟨n9, h⟩ := h
  exact ⟨n9, vw_closing_L2 n9 h⟩
set_option maxRecDepth 100000 in
theorem vz_closing {S : MS} {p0 : Nat} {ro : Int32} {uo : MS} {Q : Int32 → MS → Prop} (h : v_closing S p0 ro uo) (w : w_closing S p0 Q) : Q ro uo := by
  unfold v_closing at h
  unfold w_closing at w
  obtain ⟨n9, h⟩ := h
  obtain ⟨n8, w⟩ := w
  exact vz_closing_L2 n9 n8 h w
def v_codeOf_J59 (ro : Int32) (uo : MS) (k4 : MS → Int32 → Int32 → Int32 → Prop) (U59 : MS) (v59_1 : Int32) (v59_2 : Int32) (v59_3 : Int32) : Prop := (∃ a4 : Int32, a4 = (v59_3 + Int32.ofInt 1) ∧ (k4 U59 v59_1 v59_2 a4))
def v_codeOf_L4 (ro : Int32) (uo : MS) : Nat → MS → Int32 → Int32 → Int32 → Prop
  | 0, _, _, _, _ => False
  | n4 + 1, U4, v4_1, v4_2, v4_3 => (((qI U4 0 25).toInt ≤ v4_3.toInt ∧ (ro = v4_2 ∧ uo = U4)) ∨ (¬ (qI U4 0 25).toInt ≤ v4_3.toInt ∧ (((0 : Int) ≤ v4_3.toInt ∧ v4_3.toInt < 3000) ∧ (((qI U4 11 v4_3.toInt.toNat).toInt = v4_1.toInt ∧ (((0 : Int) ≤ v4_3.toInt ∧ v4_3.toInt < 3000) ∧ (d_two U4 (qI U4 10 v4_3.toInt.toNat) ∧ (∃ (r13 : Int32) (S14 : MS), v_isText U4 (f_two U4 (qI U4 10 v4_3.toInt.toNat)) 10000000 r13 S14 ∧ ((r13.toInt = 0 ∧ (v_codeOf_J59 ro uo (v_codeOf_L4 ro uo n4) S14 v4_1 v4_2 v4_3)) ∨ (¬ r13.toInt = 0 ∧ ((v4_2.toInt < 0 ∧ (((0 : Int) ≤ v4_3.toInt ∧ v4_3.toInt < 3000) ∧ (∃ a20 : Int32, a20 = (qI S14 10 v4_3.toInt.toNat) ∧ (v_codeOf_J59 ro uo (v_codeOf_L4 ro uo n4) S14 v4_1 a20 v4_3)))) ∨ (¬ v4_2.toInt < 0 ∧ (ro = (-2 : Int32) ∧ uo = S14))))))))) ∨ (¬ (qI U4 11 v4_3.toInt.toNat).toInt = v4_1.toInt ∧ (v_codeOf_J59 ro uo (v_codeOf_L4 ro uo n4) U4 v4_1 v4_2 v4_3))))))
def v_codeOf (S : MS) (x1 : Int32) (ro : Int32) (uo : MS) : Prop := (∃ n, v_codeOf_L4 ro uo n S x1 (-1) 0)
set_option maxRecDepth 100000 in
theorem ru_codeOf_J59 {ι : Type} {P : Int32 → MS → Prop} {Q : Int32 → MS → Prop} {k4 : MS → Int32 → Int32 → Int32 → Prop} {k4v : ι → Int32 → MS → MS → Int32 → Int32 → Int32 → Prop} {U59 : MS} {v59_1 : Int32} {v59_2 : Int32} {v59_3 : Int32} (i0 : ι) (hk4 : ∀ (u : MS) (z0 : Int32) (z1 : Int32) (z2 : Int32), k4 u z0 z1 z2 → (∀ (i : ι) (ro : Int32) (uo : MS), k4v i ro uo u z0 z1 z2 → P ro uo) → ∃ ro uo, P ro uo ∧ Q ro uo) (K : ∀ (i : ι) (ro : Int32) (uo : MS), v_codeOf_J59 ro uo (k4v i ro uo) U59 v59_1 v59_2 v59_3 → P ro uo) (h : w_codeOf_J59 Q k4 U59 v59_1 v59_2 v59_3) : ∃ ro uo, P ro uo ∧ Q ro uo := by
  unfold w_codeOf_J59 at h
  obtain ⟨a4, ea4⟩ : ∃ x9 : Int32, x9 = (v59_3 + Int32.ofInt 1) := ⟨_, rfl⟩
  replace h := h a4 ea4
  replace K := fun i ro uo z => K i ro uo ⟨a4, ea4, z⟩
  exact hk4 _ _ _ _ h K
set_option maxRecDepth 100000 in
theorem ru_codeOf_L4 {ι : Type} {P : Int32 → MS → Prop} {Q : Int32 → MS → Prop} : ∀ (n : Nat) {U4 : MS} {v4_1 : Int32} {v4_2 : Int32} {v4_3 : Int32} (i0 : ι), (∀ (i : ι) (ro : Int32) (uo : MS), (∃ n8, v_codeOf_L4 ro uo n8 U4 v4_1 v4_2 v4_3) → P ro uo) → w_codeOf_L4 Q n U4 v4_1 v4_2 v4_3 → ∃ ro uo, P ro uo ∧ Q ro uo := by
  intro n
  induction n with
  | zero => intro U4 v4_1 v4_2 v4_3 i0 K h; unfold w_codeOf_L4 at h; exact h.elim
  | succ n ih =>
    intro U4 v4_1 v4_2 v4_3 i0 K h
    unfold w_codeOf_L4 at h
    replace K := fun (i : ι × Nat) ro uo (z : v_codeOf_L4 ro uo (i.2 + 1) U4 v4_1 v4_2 v4_3) => K i.1 ro uo ⟨i.2 + 1, z⟩
    have i00 := i0
    replace i0 : ι × Nat := (i0, 0)
    by_cases c : (qI U4 0 25).toInt ≤ v4_3.toInt
    · replace h := h.1 c
      replace K := fun i ro uo z => K i ro uo (Or.inl ⟨c, z⟩)
      exact ⟨_, _, K i0 _ _ ⟨rfl, rfl⟩, h⟩
    · replace h := h.2 c
      replace K := fun i ro uo z => K i ro uo (Or.inr ⟨c, z⟩)
      obtain ⟨g1_, h⟩ := h
      replace K := fun i ro uo z => K i ro uo ⟨g1_, z⟩
      by_cases c : (qI U4 11 v4_3.toInt.toNat).toInt = v4_1.toInt
      · replace h := h.1 c
        replace K := fun i ro uo z => K i ro uo (Or.inl ⟨c, z⟩)
        obtain ⟨g2_, h⟩ := h
        replace K := fun i ro uo z => K i ro uo ⟨g2_, z⟩
        obtain ⟨g3_, h⟩ := h
        replace K := fun i ro uo z => K i ro uo ⟨g3_, z⟩
        obtain ⟨Q9, h0, h⟩ := h
        obtain ⟨r13, S14, z9, g9⟩ := ru_isText h0
        replace h := h r13 S14 g9
        replace K := fun i ro uo z => K i ro uo ⟨r13, S14, z9, z⟩
        by_cases c : r13.toInt = 0
        · replace h := h.1 c
          replace K := fun i ro uo z => K i ro uo (Or.inl ⟨c, z⟩)
          exact ru_codeOf_J59 i0 (fun _ _ _ _ h K => ih i00 (fun i ro uo ⟨n8, z⟩ => K (i, n8) ro uo z) h) K h
        · replace h := h.2 c
          replace K := fun i ro uo z => K i ro uo (Or.inr ⟨c, z⟩)
          by_cases c : v4_2.toInt < 0
          · replace h := h.1 c
            replace K := fun i ro uo z => K i ro uo (Or.inl ⟨c, z⟩)
            obtain ⟨g4_, h⟩ := h
            replace K := fun i ro uo z => K i ro uo ⟨g4_, z⟩
            obtain ⟨a20, ea20⟩ : ∃ x9 : Int32, x9 = (qI S14 10 v4_3.toInt.toNat) := ⟨_, rfl⟩
            replace h := h a20 ea20
            replace K := fun i ro uo z => K i ro uo ⟨a20, ea20, z⟩
            exact ru_codeOf_J59 i0 (fun _ _ _ _ h K => ih i00 (fun i ro uo ⟨n8, z⟩ => K (i, n8) ro uo z) h) K h
          · replace h := h.2 c
            replace K := fun i ro uo z => K i ro uo (Or.inr ⟨c, z⟩)
            exact ⟨_, _, K i0 _ _ ⟨rfl, rfl⟩, h⟩
      · replace h := h.2 c
        replace K := fun i ro uo z => K i ro uo (Or.inr ⟨c, z⟩)
        exact ru_codeOf_J59 i0 (fun _ _ _ _ h K => ih i00 (fun i ro uo ⟨n8, z⟩ => K (i, n8) ro uo z) h) K h
set_option maxRecDepth 100000 in
theorem ru_codeOf {S : MS} {x1 : Int32} {Q : Int32 → MS → Prop} (h : w_codeOf S x1 Q) : ∃ ro uo, v_codeOf S x1 ro uo ∧ Q ro uo := by
  have i0 : Unit := ()
  have K : ∀ (i : Unit) (ro : Int32) (uo : MS), v_codeOf S x1 ro uo → v_codeOf S x1 ro uo := fun _ _ _ z => z
  unfold w_codeOf at h
  obtain ⟨n9, h⟩ := h
  exact ru_codeOf_L4 n9 i0 K h
set_option maxRecDepth 100000 in
theorem vw_codeOf_J59 {ro : Int32} {uo : MS} {k4 k4v : MS → Int32 → Int32 → Int32 → Prop} {U59 : MS} {v59_1 : Int32} {v59_2 : Int32} {v59_3 : Int32} (hk4 : ∀ (u : MS) (z0 : Int32) (z1 : Int32) (z2 : Int32), k4v u z0 z1 z2 → k4 u z0 z1 z2) (h : v_codeOf_J59 ro uo k4v U59 v59_1 v59_2 v59_3) : w_codeOf_J59 (fun r u => r = ro ∧ u = uo) k4 U59 v59_1 v59_2 v59_3 := by
  unfold v_codeOf_J59 at h
  unfold w_codeOf_J59
  obtain ⟨v9, e9, h⟩ := h
  intro x9 d9
  have c9 : v9 = x9 := e9.trans d9.symm
  subst c9
  exact hk4 _ _ _ _ h
set_option maxRecDepth 100000 in
theorem vz_codeOf_J59 {ro : Int32} {uo : MS} {Q : Int32 → MS → Prop} {k4 k4v : MS → Int32 → Int32 → Int32 → Prop} {U59 : MS} {v59_1 : Int32} {v59_2 : Int32} {v59_3 : Int32} (hk4 : ∀ (u : MS) (z0 : Int32) (z1 : Int32) (z2 : Int32), k4v u z0 z1 z2 → k4 u z0 z1 z2 → Q ro uo) (h : v_codeOf_J59 ro uo k4v U59 v59_1 v59_2 v59_3) (w : w_codeOf_J59 Q k4 U59 v59_1 v59_2 v59_3) : Q ro uo := by
  unfold v_codeOf_J59 at h
  unfold w_codeOf_J59 at w
  obtain ⟨v9, e9, h⟩ := h
  replace w := w v9 e9
  exact hk4 _ _ _ _ h w
set_option maxRecDepth 100000 in
theorem vw_codeOf_L4 {ro : Int32} {uo : MS} : ∀ (n : Nat) {U4 : MS} {v4_1 : Int32} {v4_2 : Int32} {v4_3 : Int32}, v_codeOf_L4 ro uo n U4 v4_1 v4_2 v4_3 → w_codeOf_L4 (fun r u => r = ro ∧ u = uo) n U4 v4_1 v4_2 v4_3 := by
  intro n
  induction n with
  | zero => intro U4 v4_1 v4_2 v4_3 h; unfold v_codeOf_L4 at h; exact h.elim
  | succ n ih =>
    intro U4 v4_1 v4_2 v4_3 h
    unfold v_codeOf_L4 at h
    unfold w_codeOf_L4
    rcases h with ⟨c, h⟩ | ⟨c, h⟩
    · refine ⟨fun _ => ?_, fun c2 => absurd c c2⟩
      exact ⟨h.1.symm, h.2.symm⟩
    · refine ⟨fun c2 => absurd c2 c, fun _ => ?_⟩
      obtain ⟨g9, h⟩ := h
      refine ⟨g9, ?_⟩
      rcases h with ⟨c, h⟩ | ⟨c, h⟩
      · refine ⟨fun _ => ?_, fun c2 => absurd c c2⟩
        obtain ⟨g9, h⟩ := h
        refine ⟨g9, ?_⟩
        obtain ⟨g9, h⟩ := h
        refine ⟨g9, ?_⟩
        obtain ⟨p9, q9, z9, h⟩ := h
        refine ⟨_, vw_isText z9, ?_⟩
        rintro p8 q8 ⟨d8, d9⟩
        subst d8
        subst d9
        rcases h with ⟨c, h⟩ | ⟨c, h⟩
        · refine ⟨fun _ => ?_, fun c2 => absurd c c2⟩
          exact vw_codeOf_J59 (fun _ _ _ _ h => ih h) h
        · refine ⟨fun c2 => absurd c2 c, fun _ => ?_⟩
          rcases h with ⟨c, h⟩ | ⟨c, h⟩
          · refine ⟨fun _ => ?_, fun c2 => absurd c c2⟩
            obtain ⟨g9, h⟩ := h
            refine ⟨g9, ?_⟩
            obtain ⟨v9, e9, h⟩ := h
            intro x9 d9
            have c9 : v9 = x9 := e9.trans d9.symm
            subst c9
            exact vw_codeOf_J59 (fun _ _ _ _ h => ih h) h
          · refine ⟨fun c2 => absurd c2 c, fun _ => ?_⟩
            exact ⟨h.1.symm, h.2.symm⟩
      · refine ⟨fun c2 => absurd c2 c, fun _ => ?_⟩
        exact vw_codeOf_J59 (fun _ _ _ _ h => ih h) h
set_option maxRecDepth 100000 in
theorem vz_codeOf_L4 {ro : Int32} {uo : MS} {Q : Int32 → MS → Prop} : ∀ (n m : Nat) {U4 : MS} {v4_1 : Int32} {v4_2 : Int32} {v4_3 : Int32}, v_codeOf_L4 ro uo n U4 v4_1 v4_2 v4_3 → w_codeOf_L4 Q m U4 v4_1 v4_2 v4_3 → Q ro uo := by
  intro n
  induction n with
  | zero => intro m U4 v4_1 v4_2 v4_3 h; unfold v_codeOf_L4 at h; exact h.elim
  | succ n ih =>
    intro m U4 v4_1 v4_2 v4_3 h w
    cases m with
    | zero => unfold w_codeOf_L4 at w; exact w.elim
    | succ m =>
      unfold v_codeOf_L4 at h
      unfold w_codeOf_L4 at w
      rcases h with ⟨c, h⟩ | ⟨c, h⟩
      · replace w := w.1 c
        rw [h.1, h.2]
        exact w
      · replace w := w.2 c
        replace h := h.2
        replace w := w.2
        rcases h with ⟨c, h⟩ | ⟨c, h⟩
        · replace w := w.1 c
          replace h := h.2
          replace w := w.2
          replace h := h.2
          replace w := w.2
          obtain ⟨p9, q9, z9, h⟩ := h
          obtain ⟨Q9, w0, w⟩ := w
          replace w := w p9 q9 (vz_isText z9 w0)
          rcases h with ⟨c, h⟩ | ⟨c, h⟩
          · replace w := w.1 c
            exact vz_codeOf_J59 (fun _ _ _ _ h w => ih m h w) h w
          · replace w := w.2 c
            rcases h with ⟨c, h⟩ | ⟨c, h⟩
            · replace w := w.1 c
              replace h := h.2
              replace w := w.2
              obtain ⟨v9, e9, h⟩ := h
              replace w := w v9 e9
              exact vz_codeOf_J59 (fun _ _ _ _ h w => ih m h w) h w
            · replace w := w.2 c
              rw [h.1, h.2]
              exact w
        · replace w := w.2 c
          exact vz_codeOf_J59 (fun _ _ _ _ h w => ih m h w) h w
set_option maxRecDepth 100000 in
theorem vw_codeOf {S : MS} {x1 : Int32} {ro : Int32} {uo : MS} (h : v_codeOf S x1 ro uo) : w_codeOf S x1 (fun r u => r = ro ∧ u = uo) := by
  unfold v_codeOf at h
  unfold w_codeOf
  obtain ⟨n9, h⟩ := h
  exact ⟨n9, vw_codeOf_L4 n9 h⟩
set_option maxRecDepth 100000 in
theorem vz_codeOf {S : MS} {x1 : Int32} {ro : Int32} {uo : MS} {Q : Int32 → MS → Prop} (h : v_codeOf S x1 ro uo) (w : w_codeOf S x1 Q) : Q ro uo := by
  unfold v_codeOf at h
  unfold w_codeOf at w
  obtain ⟨n9, h⟩ := h
  obtain ⟨n8, w⟩ := w
  exact vz_codeOf_L4 n9 n8 h w
def v_parameterPlaces_J118 (ro : Int32) (uo : MS) (U118 : MS) : Prop := (ro = (-1 : Int32) ∧ uo = U118)
def v_parameterPlaces_J94 (ro : Int32) (uo : MS) (U94 : MS) (t94_0 : Int32) (v94_1 : Int32) (v94_2 : Int32) (v94_3 : Int32) : Prop := ((t94_0.toInt ≤ 0 ∧ (v_parameterPlaces_J118 ro uo U94)) ∨ (¬ t94_0.toInt ≤ 0 ∧ (((0 : Int) ≤ v94_1.toInt ∧ v94_1.toInt < 502) ∧ (((v94_2 + t94_0).toInt = (qI U94 7 v94_1.toInt.toNat).toInt ∧ (ro = v94_3 ∧ uo = U94)) ∨ (¬ (v94_2 + t94_0).toInt = (qI U94 7 v94_1.toInt.toNat).toInt ∧ (v_parameterPlaces_J118 ro uo U94))))))
def v_parameterPlaces_J43 (ro : Int32) (uo : MS) (k17 : MS → Int32 → Int32 → Int32 → Prop) (U43 : MS) (t43_0 : Int32) (t43_1 : Int32) (v43_1 : Int32) (v43_2 : Int32) : Prop := (∃ a30 : Int32, a30 = (t43_1 + t43_0) ∧ (d_typeAt U43 v43_1 v43_2 ∧ (∃ a35 : Int32, a35 = (v43_2 + (f_typeAt U43 v43_1 v43_2)) ∧ (k17 U43 v43_1 a35 a30))))
def v_parameterPlaces_L17 (ro : Int32) (uo : MS) : Nat → MS → Int32 → Int32 → Int32 → Prop
  | 0, _, _, _, _ => False
  | n17 + 1, U17, v17_1, v17_2, v17_3 => (d_typeAt U17 v17_1 v17_2 ∧ (((f_typeAt U17 v17_1 v17_2).toInt ≤ 0 ∧ (d_letter U17 v17_1 v17_2 ∧ (((f_letter U17 v17_1 v17_2).toInt = 41 ∧ (∃ a13 : Int32, a13 = (v17_2 + Int32.ofInt 1) ∧ (d_letter U17 v17_1 a13 ∧ (((f_letter U17 v17_1 a13).toInt = 86 ∧ (v_parameterPlaces_J94 ro uo U17 1 v17_1 a13 v17_3)) ∨ (¬ (f_letter U17 v17_1 a13).toInt = 86 ∧ (d_typeAt U17 v17_1 a13 ∧ (v_parameterPlaces_J94 ro uo U17 (f_typeAt U17 v17_1 a13) v17_1 a13 v17_3))))))) ∨ (¬ (f_letter U17 v17_1 v17_2).toInt = 41 ∧ (ro = (-1 : Int32) ∧ uo = U17))))) ∨ (¬ (f_typeAt U17 v17_1 v17_2).toInt ≤ 0 ∧ (d_letter U17 v17_1 v17_2 ∧ (((f_letter U17 v17_1 v17_2).toInt = 74 ∧ (v_parameterPlaces_J43 ro uo (v_parameterPlaces_L17 ro uo n17) U17 2 v17_3 v17_1 v17_2)) ∨ (¬ (f_letter U17 v17_1 v17_2).toInt = 74 ∧ (v_parameterPlaces_J43 ro uo (v_parameterPlaces_L17 ro uo n17) U17 1 v17_3 v17_1 v17_2)))))))
def v_parameterPlaces (S : MS) (x1 : Int32) (ro : Int32) (uo : MS) : Prop := (d_letter S x1 (0 : Int32) ∧ (((f_letter S x1 (0 : Int32)).toInt = 40 ∧ (∃ n, v_parameterPlaces_L17 ro uo n S x1 1 0)) ∨ (¬ (f_letter S x1 (0 : Int32)).toInt = 40 ∧ (ro = (-1 : Int32) ∧ uo = S))))
set_option maxRecDepth 100000 in
theorem ru_parameterPlaces_J118 {ι : Type} {P : Int32 → MS → Prop} {Q : Int32 → MS → Prop} {U118 : MS} (i0 : ι) (K : ∀ (i : ι) (ro : Int32) (uo : MS), v_parameterPlaces_J118 ro uo U118 → P ro uo) (h : w_parameterPlaces_J118 Q U118) : ∃ ro uo, P ro uo ∧ Q ro uo := by
  unfold w_parameterPlaces_J118 at h
  exact ⟨_, _, K i0 _ _ ⟨rfl, rfl⟩, h⟩
set_option maxRecDepth 100000 in
theorem ru_parameterPlaces_J94 {ι : Type} {P : Int32 → MS → Prop} {Q : Int32 → MS → Prop} {U94 : MS} {t94_0 : Int32} {v94_1 : Int32} {v94_2 : Int32} {v94_3 : Int32} (i0 : ι) (K : ∀ (i : ι) (ro : Int32) (uo : MS), v_parameterPlaces_J94 ro uo U94 t94_0 v94_1 v94_2 v94_3 → P ro uo) (h : w_parameterPlaces_J94 Q U94 t94_0 v94_1 v94_2 v94_3) : ∃ ro uo, P ro uo ∧ Q ro uo := by
  unfold w_parameterPlaces_J94 at h
  by_cases c : t94_0.toInt ≤ 0
  · replace h := h.1 c
    replace K := fun i ro uo z => K i ro uo (Or.inl ⟨c, z⟩)
    exact ru_parameterPlaces_J118 i0 K h
  · replace h := h.2 c
    replace K := fun i ro uo z => K i ro uo (Or.inr ⟨c, z⟩)
    obtain ⟨g1_, h⟩ := h
    replace K := fun i ro uo z => K i ro uo ⟨g1_, z⟩
    by_cases c : (v94_2 + t94_0).toInt = (qI U94 7 v94_1.toInt.toNat).toInt
    · replace h := h.1 c
      replace K := fun i ro uo z => K i ro uo (Or.inl ⟨c, z⟩)
      exact ⟨_, _, K i0 _ _ ⟨rfl, rfl⟩, h⟩
    · replace h := h.2 c
      replace K := fun i ro uo z => K i ro uo (Or.inr ⟨c, z⟩)
      exact ru_parameterPlaces_J118 i0 K h
set_option maxRecDepth 100000 in
theorem ru_parameterPlaces_J43 {ι : Type} {P : Int32 → MS → Prop} {Q : Int32 → MS → Prop} {k17 : MS → Int32 → Int32 → Int32 → Prop} {k17v : ι → Int32 → MS → MS → Int32 → Int32 → Int32 → Prop} {U43 : MS} {t43_0 : Int32} {t43_1 : Int32} {v43_1 : Int32} {v43_2 : Int32} (i0 : ι) (hk17 : ∀ (u : MS) (z0 : Int32) (z1 : Int32) (z2 : Int32), k17 u z0 z1 z2 → (∀ (i : ι) (ro : Int32) (uo : MS), k17v i ro uo u z0 z1 z2 → P ro uo) → ∃ ro uo, P ro uo ∧ Q ro uo) (K : ∀ (i : ι) (ro : Int32) (uo : MS), v_parameterPlaces_J43 ro uo (k17v i ro uo) U43 t43_0 t43_1 v43_1 v43_2 → P ro uo) (h : w_parameterPlaces_J43 Q k17 U43 t43_0 t43_1 v43_1 v43_2) : ∃ ro uo, P ro uo ∧ Q ro uo := by
  unfold w_parameterPlaces_J43 at h
  obtain ⟨a30, ea30⟩ : ∃ x9 : Int32, x9 = (t43_1 + t43_0) := ⟨_, rfl⟩
  replace h := h a30 ea30
  replace K := fun i ro uo z => K i ro uo ⟨a30, ea30, z⟩
  obtain ⟨g2_, h⟩ := h
  replace K := fun i ro uo z => K i ro uo ⟨g2_, z⟩
  obtain ⟨a35, ea35⟩ : ∃ x9 : Int32, x9 = (v43_2 + (f_typeAt U43 v43_1 v43_2)) := ⟨_, rfl⟩
  replace h := h a35 ea35
  replace K := fun i ro uo z => K i ro uo ⟨a35, ea35, z⟩
  exact hk17 _ _ _ _ h K
set_option maxRecDepth 100000 in
theorem ru_parameterPlaces_L17 {ι : Type} {P : Int32 → MS → Prop} {Q : Int32 → MS → Prop} : ∀ (n : Nat) {U17 : MS} {v17_1 : Int32} {v17_2 : Int32} {v17_3 : Int32} (i0 : ι), (∀ (i : ι) (ro : Int32) (uo : MS), (∃ n8, v_parameterPlaces_L17 ro uo n8 U17 v17_1 v17_2 v17_3) → P ro uo) → w_parameterPlaces_L17 Q n U17 v17_1 v17_2 v17_3 → ∃ ro uo, P ro uo ∧ Q ro uo := by
  intro n
  induction n with
  | zero => intro U17 v17_1 v17_2 v17_3 i0 K h; unfold w_parameterPlaces_L17 at h; exact h.elim
  | succ n ih =>
    intro U17 v17_1 v17_2 v17_3 i0 K h
    unfold w_parameterPlaces_L17 at h
    replace K := fun (i : ι × Nat) ro uo (z : v_parameterPlaces_L17 ro uo (i.2 + 1) U17 v17_1 v17_2 v17_3) => K i.1 ro uo ⟨i.2 + 1, z⟩
    have i00 := i0
    replace i0 : ι × Nat := (i0, 0)
    obtain ⟨g3_, h⟩ := h
    replace K := fun i ro uo z => K i ro uo ⟨g3_, z⟩
    by_cases c : (f_typeAt U17 v17_1 v17_2).toInt ≤ 0
    · replace h := h.1 c
      replace K := fun i ro uo z => K i ro uo (Or.inl ⟨c, z⟩)
      obtain ⟨g4_, h⟩ := h
      replace K := fun i ro uo z => K i ro uo ⟨g4_, z⟩
      by_cases c : (f_letter U17 v17_1 v17_2).toInt = 41
      · replace h := h.1 c
        replace K := fun i ro uo z => K i ro uo (Or.inl ⟨c, z⟩)
        obtain ⟨a13, ea13⟩ : ∃ x9 : Int32, x9 = (v17_2 + Int32.ofInt 1) := ⟨_, rfl⟩
        replace h := h a13 ea13
        replace K := fun i ro uo z => K i ro uo ⟨a13, ea13, z⟩
        obtain ⟨g5_, h⟩ := h
        replace K := fun i ro uo z => K i ro uo ⟨g5_, z⟩
        by_cases c : (f_letter U17 v17_1 a13).toInt = 86
        · replace h := h.1 c
          replace K := fun i ro uo z => K i ro uo (Or.inl ⟨c, z⟩)
          exact ru_parameterPlaces_J94 i0 K h
        · replace h := h.2 c
          replace K := fun i ro uo z => K i ro uo (Or.inr ⟨c, z⟩)
          obtain ⟨g6_, h⟩ := h
          replace K := fun i ro uo z => K i ro uo ⟨g6_, z⟩
          exact ru_parameterPlaces_J94 i0 K h
      · replace h := h.2 c
        replace K := fun i ro uo z => K i ro uo (Or.inr ⟨c, z⟩)
        exact ⟨_, _, K i0 _ _ ⟨rfl, rfl⟩, h⟩
    · replace h := h.2 c
      replace K := fun i ro uo z => K i ro uo (Or.inr ⟨c, z⟩)
      obtain ⟨g7_, h⟩ := h
      replace K := fun i ro uo z => K i ro uo ⟨g7_, z⟩
      by_cases c : (f_letter U17 v17_1 v17_2).toInt = 74
      · replace h := h.1 c
        replace K := fun i ro uo z => K i ro uo (Or.inl ⟨c, z⟩)
        exact ru_parameterPlaces_J43 i0 (fun _ _ _ _ h K => ih i00 (fun i ro uo ⟨n8, z⟩ => K (i, n8) ro uo z) h) K h
      · replace h := h.2 c
        replace K := fun i ro uo z => K i ro uo (Or.inr ⟨c, z⟩)
        exact ru_parameterPlaces_J43 i0 (fun _ _ _ _ h K => ih i00 (fun i ro uo ⟨n8, z⟩ => K (i, n8) ro uo z) h) K h
set_option maxRecDepth 100000 in
theorem ru_parameterPlaces {S : MS} {x1 : Int32} {Q : Int32 → MS → Prop} (h : w_parameterPlaces S x1 Q) : ∃ ro uo, v_parameterPlaces S x1 ro uo ∧ Q ro uo := by
  have i0 : Unit := ()
  have K : ∀ (i : Unit) (ro : Int32) (uo : MS), v_parameterPlaces S x1 ro uo → v_parameterPlaces S x1 ro uo := fun _ _ _ z => z
  unfold w_parameterPlaces at h
  obtain ⟨g8_, h⟩ := h
  replace K := fun i ro uo z => K i ro uo ⟨g8_, z⟩
  by_cases c : (f_letter S x1 (0 : Int32)).toInt = 40
  · replace h := h.1 c
    replace K := fun i ro uo z => K i ro uo (Or.inl ⟨c, z⟩)
    obtain ⟨n9, h⟩ := h
    exact ru_parameterPlaces_L17 n9 i0 K h
  · replace h := h.2 c
    replace K := fun i ro uo z => K i ro uo (Or.inr ⟨c, z⟩)
    exact ⟨_, _, K i0 _ _ ⟨rfl, rfl⟩, h⟩
set_option maxRecDepth 100000 in
theorem vw_parameterPlaces_J118 {ro : Int32} {uo : MS} {U118 : MS} (h : v_parameterPlaces_J118 ro uo U118) : w_parameterPlaces_J118 (fun r u => r = ro ∧ u = uo) U118 := by
  unfold v_parameterPlaces_J118 at h
  unfold w_parameterPlaces_J118
  exact ⟨h.1.symm, h.2.symm⟩
set_option maxRecDepth 100000 in
theorem vz_parameterPlaces_J118 {ro : Int32} {uo : MS} {Q : Int32 → MS → Prop} {U118 : MS} (h : v_parameterPlaces_J118 ro uo U118) (w : w_parameterPlaces_J118 Q U118) : Q ro uo := by
  unfold v_parameterPlaces_J118 at h
  unfold w_parameterPlaces_J118 at w
  rw [h.1, h.2]
  exact w
set_option maxRecDepth 100000 in
theorem vw_parameterPlaces_J94 {ro : Int32} {uo : MS} {U94 : MS} {t94_0 : Int32} {v94_1 : Int32} {v94_2 : Int32} {v94_3 : Int32} (h : v_parameterPlaces_J94 ro uo U94 t94_0 v94_1 v94_2 v94_3) : w_parameterPlaces_J94 (fun r u => r = ro ∧ u = uo) U94 t94_0 v94_1 v94_2 v94_3 := by
  unfold v_parameterPlaces_J94 at h
  unfold w_parameterPlaces_J94
  rcases h with ⟨c, h⟩ | ⟨c, h⟩
  · refine ⟨fun _ => ?_, fun c2 => absurd c c2⟩
    exact vw_parameterPlaces_J118 h
  · refine ⟨fun c2 => absurd c2 c, fun _ => ?_⟩
    obtain ⟨g9, h⟩ := h
    refine ⟨g9, ?_⟩
    rcases h with ⟨c, h⟩ | ⟨c, h⟩
    · refine ⟨fun _ => ?_, fun c2 => absurd c c2⟩
      exact ⟨h.1.symm, h.2.symm⟩
    · refine ⟨fun c2 => absurd c2 c, fun _ => ?_⟩
      exact vw_parameterPlaces_J118 h
set_option maxRecDepth 100000 in
theorem vz_parameterPlaces_J94 {ro : Int32} {uo : MS} {Q : Int32 → MS → Prop} {U94 : MS} {t94_0 : Int32} {v94_1 : Int32} {v94_2 : Int32} {v94_3 : Int32} (h : v_parameterPlaces_J94 ro uo U94 t94_0 v94_1 v94_2 v94_3) (w : w_parameterPlaces_J94 Q U94 t94_0 v94_1 v94_2 v94_3) : Q ro uo := by
  unfold v_parameterPlaces_J94 at h
  unfold w_parameterPlaces_J94 at w
  rcases h with ⟨c, h⟩ | ⟨c, h⟩
  · replace w := w.1 c
    exact vz_parameterPlaces_J118 h w
  · replace w := w.2 c
    replace h := h.2
    replace w := w.2
    rcases h with ⟨c, h⟩ | ⟨c, h⟩
    · replace w := w.1 c
      rw [h.1, h.2]
      exact w
    · replace w := w.2 c
      exact vz_parameterPlaces_J118 h w
set_option maxRecDepth 100000 in
theorem vw_parameterPlaces_J43 {ro : Int32} {uo : MS} {k17 k17v : MS → Int32 → Int32 → Int32 → Prop} {U43 : MS} {t43_0 : Int32} {t43_1 : Int32} {v43_1 : Int32} {v43_2 : Int32} (hk17 : ∀ (u : MS) (z0 : Int32) (z1 : Int32) (z2 : Int32), k17v u z0 z1 z2 → k17 u z0 z1 z2) (h : v_parameterPlaces_J43 ro uo k17v U43 t43_0 t43_1 v43_1 v43_2) : w_parameterPlaces_J43 (fun r u => r = ro ∧ u = uo) k17 U43 t43_0 t43_1 v43_1 v43_2 := by
  unfold v_parameterPlaces_J43 at h
  unfold w_parameterPlaces_J43
  obtain ⟨v9, e9, h⟩ := h
  intro x9 d9
  have c9 : v9 = x9 := e9.trans d9.symm
  subst c9
  obtain ⟨g9, h⟩ := h
  refine ⟨g9, ?_⟩
  obtain ⟨v9, e9, h⟩ := h
  intro x9 d9
  have c9 : v9 = x9 := e9.trans d9.symm
  subst c9
  exact hk17 _ _ _ _ h
set_option maxRecDepth 100000 in
theorem vz_parameterPlaces_J43 {ro : Int32} {uo : MS} {Q : Int32 → MS → Prop} {k17 k17v : MS → Int32 → Int32 → Int32 → Prop} {U43 : MS} {t43_0 : Int32} {t43_1 : Int32} {v43_1 : Int32} {v43_2 : Int32} (hk17 : ∀ (u : MS) (z0 : Int32) (z1 : Int32) (z2 : Int32), k17v u z0 z1 z2 → k17 u z0 z1 z2 → Q ro uo) (h : v_parameterPlaces_J43 ro uo k17v U43 t43_0 t43_1 v43_1 v43_2) (w : w_parameterPlaces_J43 Q k17 U43 t43_0 t43_1 v43_1 v43_2) : Q ro uo := by
  unfold v_parameterPlaces_J43 at h
  unfold w_parameterPlaces_J43 at w
  obtain ⟨v9, e9, h⟩ := h
  replace w := w v9 e9
  replace h := h.2
  replace w := w.2
  obtain ⟨v9, e9, h⟩ := h
  replace w := w v9 e9
  exact hk17 _ _ _ _ h w
set_option maxRecDepth 100000 in
theorem vw_parameterPlaces_L17 {ro : Int32} {uo : MS} : ∀ (n : Nat) {U17 : MS} {v17_1 : Int32} {v17_2 : Int32} {v17_3 : Int32}, v_parameterPlaces_L17 ro uo n U17 v17_1 v17_2 v17_3 → w_parameterPlaces_L17 (fun r u => r = ro ∧ u = uo) n U17 v17_1 v17_2 v17_3 := by
  intro n
  induction n with
  | zero => intro U17 v17_1 v17_2 v17_3 h; unfold v_parameterPlaces_L17 at h; exact h.elim
  | succ n ih =>
    intro U17 v17_1 v17_2 v17_3 h
    unfold v_parameterPlaces_L17 at h
    unfold w_parameterPlaces_L17
    obtain ⟨g9, h⟩ := h
    refine ⟨g9, ?_⟩
    rcases h with ⟨c, h⟩ | ⟨c, h⟩
    · refine ⟨fun _ => ?_, fun c2 => absurd c c2⟩
      obtain ⟨g9, h⟩ := h
      refine ⟨g9, ?_⟩
      rcases h with ⟨c, h⟩ | ⟨c, h⟩
      · refine ⟨fun _ => ?_, fun c2 => absurd c c2⟩
        obtain ⟨v9, e9, h⟩ := h
        intro x9 d9
        have c9 : v9 = x9 := e9.trans d9.symm
        subst c9
        obtain ⟨g9, h⟩ := h
        refine ⟨g9, ?_⟩
        rcases h with ⟨c, h⟩ | ⟨c, h⟩
        · refine ⟨fun _ => ?_, fun c2 => absurd c c2⟩
          exact vw_parameterPlaces_J94 h
        · refine ⟨fun c2 => absurd c2 c, fun _ => ?_⟩
          obtain ⟨g9, h⟩ := h
          refine ⟨g9, ?_⟩
          exact vw_parameterPlaces_J94 h
      · refine ⟨fun c2 => absurd c2 c, fun _ => ?_⟩
        exact ⟨h.1.symm, h.2.symm⟩
    · refine ⟨fun c2 => absurd c2 c, fun _ => ?_⟩
      obtain ⟨g9, h⟩ := h
      refine ⟨g9, ?_⟩
      rcases h with ⟨c, h⟩ | ⟨c, h⟩
      · refine ⟨fun _ => ?_, fun c2 => absurd c c2⟩
        exact vw_parameterPlaces_J43 (fun _ _ _ _ h => ih h) h
      · refine ⟨fun c2 => absurd c2 c, fun _ => ?_⟩
        exact vw_parameterPlaces_J43 (fun _ _ _ _ h => ih h) h
set_option maxRecDepth 100000 in
theorem vz_parameterPlaces_L17 {ro : Int32} {uo : MS} {Q : Int32 → MS → Prop} : ∀ (n m : Nat) {U17 : MS} {v17_1 : Int32} {v17_2 : Int32} {v17_3 : Int32}, v_parameterPlaces_L17 ro uo n U17 v17_1 v17_2 v17_3 → w_parameterPlaces_L17 Q m U17 v17_1 v17_2 v17_3 → Q ro uo := by
  intro n
  induction n with
  | zero => intro m U17 v17_1 v17_2 v17_3 h; unfold v_parameterPlaces_L17 at h; exact h.elim
  | succ n ih =>
    intro m U17 v17_1 v17_2 v17_3 h w
    cases m with
    | zero => unfold w_parameterPlaces_L17 at w; exact w.elim
    | succ m =>
      unfold v_parameterPlaces_L17 at h
      unfold w_parameterPlaces_L17 at w
      replace h := h.2
      replace w := w.2
      rcases h with ⟨c, h⟩ | ⟨c, h⟩
      · replace w := w.1 c
        replace h := h.2
        replace w := w.2
        rcases h with ⟨c, h⟩ | ⟨c, h⟩
        · replace w := w.1 c
          obtain ⟨v9, e9, h⟩ := h
          replace w := w v9 e9
          replace h := h.2
          replace w := w.2
          rcases h with ⟨c, h⟩ | ⟨c, h⟩
          · replace w := w.1 c
            exact vz_parameterPlaces_J94 h w
          · replace w := w.2 c
            replace h := h.2
            replace w := w.2
            exact vz_parameterPlaces_J94 h w
        · replace w := w.2 c
          rw [h.1, h.2]
          exact w
      · replace w := w.2 c
        replace h := h.2
        replace w := w.2
        rcases h with ⟨c, h⟩ | ⟨c, h⟩
        · replace w := w.1 c
          exact vz_parameterPlaces_J43 (fun _ _ _ _ h w => ih m h w) h w
        · replace w := w.2 c
          exact vz_parameterPlaces_J43 (fun _ _ _ _ h w => ih m h w) h w
set_option maxRecDepth 100000 in
theorem vw_parameterPlaces {S : MS} {x1 : Int32} {ro : Int32} {uo : MS} (h : v_parameterPlaces S x1 ro uo) : w_parameterPlaces S x1 (fun r u => r = ro ∧ u = uo) := by
  unfold v_parameterPlaces at h
  unfold w_parameterPlaces
  obtain ⟨g9, h⟩ := h
  refine ⟨g9, ?_⟩
  rcases h with ⟨c, h⟩ | ⟨c, h⟩
  · refine ⟨fun _ => ?_, fun c2 => absurd c c2⟩
    obtain ⟨n9, h⟩ := h
    exact ⟨n9, vw_parameterPlaces_L17 n9 h⟩
  · refine ⟨fun c2 => absurd c2 c, fun _ => ?_⟩
    exact ⟨h.1.symm, h.2.symm⟩
set_option maxRecDepth 100000 in
theorem vz_parameterPlaces {S : MS} {x1 : Int32} {ro : Int32} {uo : MS} {Q : Int32 → MS → Prop} (h : v_parameterPlaces S x1 ro uo) (w : w_parameterPlaces S x1 Q) : Q ro uo := by
  unfold v_parameterPlaces at h
  unfold w_parameterPlaces at w
  replace h := h.2
  replace w := w.2
  rcases h with ⟨c, h⟩ | ⟨c, h⟩
  · replace w := w.1 c
    obtain ⟨n9, h⟩ := h
    obtain ⟨n8, w⟩ := w
    exact vz_parameterPlaces_L17 n9 n8 h w
  · replace w := w.2 c
    rw [h.1, h.2]
    exact w
def v_within (S : MS) (y1 : Int64) (oo : (Int32 × MS) ⊕ MS) : Prop := (((lg_cmp (((qI S 0 13).toInt64) + y1) ((qI S 0 35).toInt64)).toInt ≤ 0 ∧ (∃ a4 : Int32, a4 = (qI S 0 13) ∧ (∃ S6 : MS, S6 = wI S 0 13 ((qI S 0 13) + (y1.toInt32)) ∧ (oo = .inl (a4, S6))))) ∨ (¬ (lg_cmp (((qI S 0 13).toInt64) + y1) ((qI S 0 35).toInt64)).toInt ≤ 0 ∧ (∃ (b11 : Nat) (S9 : MS), v_broken S (14 : Int32) (qI S 0 35) b11 S9 ∧ (oo = .inr S9))))
set_option maxRecDepth 100000 in
theorem ru_within {S : MS} {y1 : Int64} {Q : Int32 → MS → Prop} {E : MS → Prop} (h : w_within S y1 Q E) : ∃ oo, v_within S y1 oo ∧ oQ Q E oo := by
  have i0 : Unit := ()
  have K : ∀ (i : Unit) (oo : (Int32 × MS) ⊕ MS), v_within S y1 oo → v_within S y1 oo := fun _ _ z => z
  unfold w_within at h
  by_cases c : (lg_cmp (((qI S 0 13).toInt64) + y1) ((qI S 0 35).toInt64)).toInt ≤ 0
  · replace h := h.1 c
    replace K := fun i oo z => K i oo (Or.inl ⟨c, z⟩)
    obtain ⟨a4, ea4⟩ : ∃ x9 : Int32, x9 = (qI S 0 13) := ⟨_, rfl⟩
    replace h := h a4 ea4
    replace K := fun i oo z => K i oo ⟨a4, ea4, z⟩
    obtain ⟨S6, eS6⟩ : ∃ x9 : MS, x9 = wI S 0 13 ((qI S 0 13) + (y1.toInt32)) := ⟨_, rfl⟩
    replace h := h S6 eS6
    replace K := fun i oo z => K i oo ⟨S6, eS6, z⟩
    exact ⟨.inl (_, _), K i0 _ rfl, h⟩
  · replace h := h.2 c
    replace K := fun i oo z => K i oo (Or.inr ⟨c, z⟩)
    obtain ⟨Q9, h0, h⟩ := h
    obtain ⟨b11, S9, z9, g9⟩ := ru_broken h0
    replace h := h b11 S9 g9
    replace K := fun i oo z => K i oo ⟨b11, S9, z9, z⟩
    exact ⟨.inr S9, K i0 _ rfl, h⟩
set_option maxRecDepth 100000 in
theorem vw_within {S : MS} {y1 : Int64} {oo : (Int32 × MS) ⊕ MS} (h : v_within S y1 oo) : w_within S y1 (fun r u => oo = .inl (r, u)) (fun u => oo = .inr u) := by
  unfold v_within at h
  unfold w_within
  rcases h with ⟨c, h⟩ | ⟨c, h⟩
  · refine ⟨fun _ => ?_, fun c2 => absurd c c2⟩
    obtain ⟨v9, e9, h⟩ := h
    intro x9 d9
    have c9 : v9 = x9 := e9.trans d9.symm
    subst c9
    obtain ⟨v9, e9, h⟩ := h
    intro x9 d9
    have c9 : v9 = x9 := e9.trans d9.symm
    subst c9
    exact h
  · refine ⟨fun c2 => absurd c2 c, fun _ => ?_⟩
    obtain ⟨p9, q9, z9, h⟩ := h
    refine ⟨_, vw_broken z9, ?_⟩
    rintro p8 q8 ⟨d8, d9⟩
    subst d8
    subst d9
    exact h
set_option maxRecDepth 100000 in
theorem vz_within {S : MS} {y1 : Int64} {oo : (Int32 × MS) ⊕ MS} {Q : Int32 → MS → Prop} {E : MS → Prop} (h : v_within S y1 oo) (w : w_within S y1 Q E) : oQ Q E oo := by
  unfold v_within at h
  unfold w_within at w
  rcases h with ⟨c, h⟩ | ⟨c, h⟩
  · replace w := w.1 c
    obtain ⟨v9, e9, h⟩ := h
    replace w := w v9 e9
    obtain ⟨v9, e9, h⟩ := h
    replace w := w v9 e9
    rw [h]
    exact w
  · replace w := w.2 c
    obtain ⟨p9, q9, z9, h⟩ := h
    obtain ⟨Q9, w0, w⟩ := w
    replace w := w p9 q9 (vz_broken z9 w0)
    rw [h]
    exact w
def v_codeItems_J391 (oo : MS ⊕ MS) (U391 : MS) (t391_0 : Int32) : Prop := ((∃ (S102 : MS), v_must U391 t391_0 (14 : Int32) (qI U391 0 13) (.inl S102) ∧ (oo = .inl S102)) ∨ (∃ u9 : MS, v_must U391 t391_0 (14 : Int32) (qI U391 0 13) (.inr u9) ∧ (oo = .inr u9)))
def v_codeItems_L328 (oo : MS ⊕ MS) : Nat → MS → Int32 → Int32 → Prop
  | 0, _, _, _ => False
  | n328 + 1, U328, v328_6, v328_7 => ((v328_6.toInt ≤ v328_7.toInt ∧ (((qI U328 0 13).toInt = (qI U328 0 35).toInt ∧ (v_codeItems_J391 oo U328 1)) ∨ (¬ (qI U328 0 13).toInt = (qI U328 0 35).toInt ∧ (v_codeItems_J391 oo U328 0)))) ∨ (¬ v328_6.toInt ≤ v328_7.toInt ∧ ((∃ (r106 : Int32) (S107 : MS), v_within U328 (2 : Int64) (.inl (r106, S107)) ∧ ((∃ (r110 : Int32) (S111 : MS), v_within S107 (4 : Int64) (.inl (r110, S111)) ∧ (d_four S111 r110 ∧ ((∃ (r118 : Int32) (S119 : MS), v_within S111 (((f_four S111 r110).toInt64) &&& (4294967295 : Int64)) (.inl (r118, S119)) ∧ (∃ a121 : Int32, a121 = (v328_7 + Int32.ofInt 1) ∧ ((v_codeItems_L328 oo n328) S119 v328_6 a121))) ∨ (∃ u9 : MS, v_within S111 (((f_four S111 r110).toInt64) &&& (4294967295 : Int64)) (.inr u9) ∧ (oo = .inr u9))))) ∨ (∃ u9 : MS, v_within S107 (4 : Int64) (.inr u9) ∧ (oo = .inr u9)))) ∨ (∃ u9 : MS, v_within U328 (2 : Int64) (.inr u9) ∧ (oo = .inr u9)))))
def v_codeItems_L287 (oo : MS ⊕ MS) : Nat → MS → Int32 → Int32 → Prop
  | 0, _, _, _ => False
  | n287 + 1, U287, v287_1, v287_6 => (((0 : Int) ≤ v287_1.toInt ∧ v287_1.toInt < 24) ∧ (((qI U287 17 v287_1.toInt.toNat).toInt ≤ v287_6.toInt ∧ ((∃ (r93 : Int32) (S94 : MS), v_within U287 (2 : Int64) (.inl (r93, S94)) ∧ (d_two S94 r93 ∧ (∃ a99 : Int32, a99 = (f_two S94 r93) ∧ (∃ n, v_codeItems_L328 oo n S94 a99 0)))) ∨ (∃ u9 : MS, v_within U287 (2 : Int64) (.inr u9) ∧ (oo = .inr u9)))) ∨ (¬ (qI U287 17 v287_1.toInt.toNat).toInt ≤ v287_6.toInt ∧ ((∃ (r123 : Int32) (S124 : MS), v_within U287 (8 : Int64) (.inl (r123, S124)) ∧ (∃ a126 : Int32, a126 = (v287_6 + Int32.ofInt 1) ∧ ((v_codeItems_L287 oo n287) S124 v287_1 a126))) ∨ (∃ u9 : MS, v_within U287 (8 : Int64) (.inr u9) ∧ (oo = .inr u9))))))
def v_codeItems_J267 (oo : MS ⊕ MS) (U267 : MS) (t267_0 : Int32) (v267_1 : Int32) (v267_4 : Int32) : Prop := ((∃ (S85 : MS), v_must U267 t267_0 (13 : Int32) v267_4 (.inl S85) ∧ (((0 : Int) ≤ v267_1.toInt ∧ v267_1.toInt < 24) ∧ (∃ S88 : MS, S88 = wI S85 16 v267_1.toInt.toNat (qI S85 0 13) ∧ (∃ n, v_codeItems_L287 oo n S88 v267_1 0)))) ∨ (∃ u9 : MS, v_must U267 t267_0 (13 : Int32) v267_4 (.inr u9) ∧ (oo = .inr u9)))
def v_codeItems_J201 (oo : MS ⊕ MS) (U201 : MS) (t201_0 : Int32) (v201_1 : Int32) (v201_4 : Int32) (v201_5 : Int32) : Prop := ((∃ (S63 : MS), v_must U201 t201_0 (13 : Int32) v201_4 (.inl S63) ∧ ((∃ (r66 : Int32) (S67 : MS), v_within S63 (v201_5.toInt64) (.inl (r66, S67)) ∧ (((0 : Int) ≤ v201_1.toInt ∧ v201_1.toInt < 24) ∧ (∃ S70 : MS, S70 = wI S67 14 v201_1.toInt.toNat r66 ∧ (((0 : Int) ≤ v201_1.toInt ∧ v201_1.toInt < 24) ∧ (∃ S72 : MS, S72 = wI S70 15 v201_1.toInt.toNat v201_5 ∧ ((∃ (r74 : Int32) (S75 : MS), v_within S72 (2 : Int64) (.inl (r74, S75)) ∧ (d_two S75 r74 ∧ (((0 : Int) ≤ v201_1.toInt ∧ v201_1.toInt < 24) ∧ (∃ S81 : MS, S81 = wI S75 17 v201_1.toInt.toNat (f_two S75 r74) ∧ (((0 : Int) ≤ v201_1.toInt ∧ v201_1.toInt < 24) ∧ ((16 < (qI S81 17 v201_1.toInt.toNat).toInt ∧ (v_codeItems_J267 oo S81 0 v201_1 r74)) ∨ (¬ 16 < (qI S81 17 v201_1.toInt.toNat).toInt ∧ (v_codeItems_J267 oo S81 1 v201_1 r74)))))))) ∨ (∃ u9 : MS, v_within S72 (2 : Int64) (.inr u9) ∧ (oo = .inr u9)))))))) ∨ (∃ u9 : MS, v_within S63 (v201_5.toInt64) (.inr u9) ∧ (oo = .inr u9)))) ∨ (∃ u9 : MS, v_must U201 t201_0 (13 : Int32) v201_4 (.inr u9) ∧ (oo = .inr u9)))
def v_codeItems_J200 (oo : MS ⊕ MS) (U200 : MS) (v200_1 : Int32) (v200_4 : Int32) (v200_5 : Int32) : Prop := (v_codeItems_J201 oo U200 0 v200_1 v200_4 v200_5)
def v_codeItems_J157 (oo : MS ⊕ MS) (U157 : MS) (t157_0 : Int32) (v157_1 : Int32) (v157_4 : Int32) : Prop := ((∃ (S52 : MS), v_must U157 t157_0 (13 : Int32) v157_4 (.inl S52) ∧ ((∃ (r55 : Int32) (S56 : MS), v_within S52 (4 : Int64) (.inl (r55, S56)) ∧ (d_four S56 r55 ∧ (∃ a61 : Int32, a61 = (f_four S56 r55) ∧ ((a61.toInt < 1 ∧ (v_codeItems_J200 oo S56 v157_1 r55 a61)) ∨ (¬ a61.toInt < 1 ∧ ((1200 < a61.toInt ∧ (v_codeItems_J200 oo S56 v157_1 r55 a61)) ∨ (¬ 1200 < a61.toInt ∧ (v_codeItems_J201 oo S56 1 v157_1 r55 a61)))))))) ∨ (∃ u9 : MS, v_within S52 (4 : Int64) (.inr u9) ∧ (oo = .inr u9)))) ∨ (∃ u9 : MS, v_must U157 t157_0 (13 : Int32) v157_4 (.inr u9) ∧ (oo = .inr u9)))
def v_codeItems_J156 (oo : MS ⊕ MS) (U156 : MS) (v156_1 : Int32) (v156_4 : Int32) : Prop := (v_codeItems_J157 oo U156 0 v156_1 v156_4)
def v_codeItems_J102 (oo : MS ⊕ MS) (U102 : MS) (t102_0 : Int32) (v102_1 : Int32) (v102_3 : Int32) (v102_4 : Int32) : Prop := ((∃ (S38 : MS), v_must U102 t102_0 (13 : Int32) v102_4 (.inl S38) ∧ ((∃ (r41 : Int32) (S42 : MS), v_within S38 (2 : Int64) (.inl (r41, S42)) ∧ (d_two S42 r41 ∧ (((0 : Int) ≤ v102_1.toInt ∧ v102_1.toInt < 24) ∧ (∃ S48 : MS, S48 = wI S42 13 v102_1.toInt.toNat (f_two S42 r41) ∧ (((0 : Int) ≤ v102_1.toInt ∧ v102_1.toInt < 24) ∧ ((24 < (qI S48 13 v102_1.toInt.toNat).toInt ∧ (v_codeItems_J156 oo S48 v102_1 r41)) ∨ (¬ 24 < (qI S48 13 v102_1.toInt.toNat).toInt ∧ (((0 : Int) ≤ v102_1.toInt ∧ v102_1.toInt < 24) ∧ (((qI S48 13 v102_1.toInt.toNat).toInt < v102_3.toInt ∧ (v_codeItems_J156 oo S48 v102_1 r41)) ∨ (¬ (qI S48 13 v102_1.toInt.toNat).toInt < v102_3.toInt ∧ (v_codeItems_J157 oo S48 1 v102_1 r41))))))))))) ∨ (∃ u9 : MS, v_within S38 (2 : Int64) (.inr u9) ∧ (oo = .inr u9)))) ∨ (∃ u9 : MS, v_must U102 t102_0 (13 : Int32) v102_4 (.inr u9) ∧ (oo = .inr u9)))
def v_codeItems (S : MS) (x1 : Int32) (oo : MS ⊕ MS) : Prop := (∃ (r3 : Int32) (S4 : MS), v_codeOf S ((qI S 0 22) + x1) r3 S4 ∧ (∃ S7 : MS, S7 = wI S4 0 13 (r3 + (6 : Int32)) ∧ (d_four S7 (r3 + (2 : Int32)) ∧ (∃ S14 : MS, S14 = wI S7 0 35 ((((qI S7 0 13).toInt64) + (((f_four S7 (r3 + (2 : Int32))).toInt64) &&& (4294967295 : Int64))).toInt32) ∧ (((0 : Int) ≤ ((qI S14 0 22) + x1).toInt ∧ ((qI S14 0 22) + x1).toInt < 48) ∧ (d_two S14 ((qI S14 9 ((((qI S14 0 22) + x1).toInt).toNat)) + (4 : Int32)) ∧ (∃ (r23 : Int32) (S24 : MS), v_parameterPlaces S14 (f_two S14 ((qI S14 9 ((((qI S14 0 22) + x1).toInt).toNat)) + (4 : Int32))) r23 S24 ∧ ((∃ (r27 : Int32) (S28 : MS), v_within S24 (2 : Int64) (.inl (r27, S28)) ∧ (d_two S28 r27 ∧ (((0 : Int) ≤ x1.toInt ∧ x1.toInt < 24) ∧ (∃ S34 : MS, S34 = wI S28 12 x1.toInt.toNat (f_two S28 r27) ∧ (((0 : Int) ≤ x1.toInt ∧ x1.toInt < 24) ∧ ((24 < (qI S34 12 x1.toInt.toNat).toInt ∧ (v_codeItems_J102 oo S34 0 x1 r23 r27)) ∨ (¬ 24 < (qI S34 12 x1.toInt.toNat).toInt ∧ (v_codeItems_J102 oo S34 1 x1 r23 r27)))))))) ∨ (∃ u9 : MS, v_within S24 (2 : Int64) (.inr u9) ∧ (oo = .inr u9))))))))))
set_option maxRecDepth 100000 in
theorem ru_codeItems_J391 {ι : Type} {P : MS ⊕ MS → Prop} {Q : MS → Prop} {E : MS → Prop} {U391 : MS} {t391_0 : Int32} (i0 : ι) (K : ∀ (i : ι) (oo : MS ⊕ MS), v_codeItems_J391 oo U391 t391_0 → P oo) (h : w_codeItems_J391 Q E U391 t391_0) : ∃ oo, P oo ∧ oV Q E oo := by
  unfold w_codeItems_J391 at h
  obtain ⟨Q9, E9, h0, h⟩ := h
  obtain ⟨o9, z9, g9⟩ := ru_must h0
  rcases o9 with S102 | u9
  · replace h := h.1 S102 g9
    replace K := fun i oo z => K i oo (Or.inl ⟨S102, z9, z⟩)
    exact ⟨.inl _, K i0 _ rfl, h⟩
  · replace h := h.2 u9 g9
    replace K := fun i oo z => K i oo (Or.inr ⟨u9, z9, z⟩)
    exact ⟨.inr u9, K i0 _ rfl, h⟩
set_option maxRecDepth 100000 in
theorem ru_codeItems_L328 {ι : Type} {P : MS ⊕ MS → Prop} {Q : MS → Prop} {E : MS → Prop} : ∀ (n : Nat) {U328 : MS} {v328_6 : Int32} {v328_7 : Int32} (i0 : ι), (∀ (i : ι) (oo : MS ⊕ MS), (∃ n8, v_codeItems_L328 oo n8 U328 v328_6 v328_7) → P oo) → w_codeItems_L328 Q E n U328 v328_6 v328_7 → ∃ oo, P oo ∧ oV Q E oo := by
  intro n
  induction n with
  | zero => intro U328 v328_6 v328_7 i0 K h; unfold w_codeItems_L328 at h; exact h.elim
  | succ n ih =>
    intro U328 v328_6 v328_7 i0 K h
    unfold w_codeItems_L328 at h
    replace K := fun (i : ι × Nat) oo (z : v_codeItems_L328 oo (i.2 + 1) U328 v328_6 v328_7) => K i.1 oo ⟨i.2 + 1, z⟩
    have i00 := i0
    replace i0 : ι × Nat := (i0, 0)
    by_cases c : v328_6.toInt ≤ v328_7.toInt
    · replace h := h.1 c
      replace K := fun i oo z => K i oo (Or.inl ⟨c, z⟩)
      by_cases c : (qI U328 0 13).toInt = (qI U328 0 35).toInt
      · replace h := h.1 c
        replace K := fun i oo z => K i oo (Or.inl ⟨c, z⟩)
        exact ru_codeItems_J391 i0 K h
      · replace h := h.2 c
        replace K := fun i oo z => K i oo (Or.inr ⟨c, z⟩)
        exact ru_codeItems_J391 i0 K h
    · replace h := h.2 c
      replace K := fun i oo z => K i oo (Or.inr ⟨c, z⟩)
      obtain ⟨Q9, E9, h0, h⟩ := h
      obtain ⟨o9, z9, g9⟩ := ru_within h0
      rcases o9 with ⟨r106, S107⟩ | u9
      · replace h := h.1 r106 S107 g9
        replace K := fun i oo z => K i oo (Or.inl ⟨r106, S107, z9, z⟩)
        obtain ⟨Q9, E9, h0, h⟩ := h
        obtain ⟨o9, z9, g9⟩ := ru_within h0
        rcases o9 with ⟨r110, S111⟩ | u9
        · replace h := h.1 r110 S111 g9
          replace K := fun i oo z => K i oo (Or.inl ⟨r110, S111, z9, z⟩)
          obtain ⟨g1_, h⟩ := h
          replace K := fun i oo z => K i oo ⟨g1_, z⟩
          obtain ⟨Q9, E9, h0, h⟩ := h
          obtain ⟨o9, z9, g9⟩ := ru_within h0
          rcases o9 with ⟨r118, S119⟩ | u9
          · replace h := h.1 r118 S119 g9
            replace K := fun i oo z => K i oo (Or.inl ⟨r118, S119, z9, z⟩)
            obtain ⟨a121, ea121⟩ : ∃ x9 : Int32, x9 = (v328_7 + Int32.ofInt 1) := ⟨_, rfl⟩
            replace h := h a121 ea121
            replace K := fun i oo z => K i oo ⟨a121, ea121, z⟩
            exact ih i00 (fun i oo ⟨n8, z⟩ => K (i, n8) oo z) h
          · replace h := h.2 u9 g9
            replace K := fun i oo z => K i oo (Or.inr ⟨u9, z9, z⟩)
            exact ⟨.inr u9, K i0 _ rfl, h⟩
        · replace h := h.2 u9 g9
          replace K := fun i oo z => K i oo (Or.inr ⟨u9, z9, z⟩)
          exact ⟨.inr u9, K i0 _ rfl, h⟩
      · replace h := h.2 u9 g9
        replace K := fun i oo z => K i oo (Or.inr ⟨u9, z9, z⟩)
        exact ⟨.inr u9, K i0 _ rfl, h⟩
set_option maxRecDepth 100000 in
theorem ru_codeItems_L287 {ι : Type} {P : MS ⊕ MS → Prop} {Q : MS → Prop} {E : MS → Prop} : ∀ (n : Nat) {U287 : MS} {v287_1 : Int32} {v287_6 : Int32} (i0 : ι), (∀ (i : ι) (oo : MS ⊕ MS), (∃ n8, v_codeItems_L287 oo n8 U287 v287_1 v287_6) → P oo) → w_codeItems_L287 Q E n U287 v287_1 v287_6 → ∃ oo, P oo ∧ oV Q E oo := by
  intro n
  induction n with
  | zero => intro U287 v287_1 v287_6 i0 K h; unfold w_codeItems_L287 at h; exact h.elim
  | succ n ih =>
    intro U287 v287_1 v287_6 i0 K h
    unfold w_codeItems_L287 at h
    replace K := fun (i : ι × Nat) oo (z : v_codeItems_L287 oo (i.2 + 1) U287 v287_1 v287_6) => K i.1 oo ⟨i.2 + 1, z⟩
    have i00 := i0
    replace i0 : ι × Nat := (i0, 0)
    obtain ⟨g2_, h⟩ := h
    replace K := fun i oo z => K i oo ⟨g2_, z⟩
    by_cases c : (qI U287 17 v287_1.toInt.toNat).toInt ≤ v287_6.toInt
    · replace h := h.1 c
      replace K := fun i oo z => K i oo (Or.inl ⟨c, z⟩)
      obtain ⟨Q9, E9, h0, h⟩ := h
      obtain ⟨o9, z9, g9⟩ := ru_within h0
      rcases o9 with ⟨r93, S94⟩ | u9
      · replace h := h.1 r93 S94 g9
        replace K := fun i oo z => K i oo (Or.inl ⟨r93, S94, z9, z⟩)
        obtain ⟨g3_, h⟩ := h
        replace K := fun i oo z => K i oo ⟨g3_, z⟩
        obtain ⟨a99, ea99⟩ : ∃ x9 : Int32, x9 = (f_two S94 r93) := ⟨_, rfl⟩
        replace h := h a99 ea99
        replace K := fun i oo z => K i oo ⟨a99, ea99, z⟩
        obtain ⟨n9, h⟩ := h
        exact ru_codeItems_L328 n9 i0 K h
      · replace h := h.2 u9 g9
        replace K := fun i oo z => K i oo (Or.inr ⟨u9, z9, z⟩)
        exact ⟨.inr u9, K i0 _ rfl, h⟩
    · replace h := h.2 c
      replace K := fun i oo z => K i oo (Or.inr ⟨c, z⟩)
      obtain ⟨Q9, E9, h0, h⟩ := h
      obtain ⟨o9, z9, g9⟩ := ru_within h0
      rcases o9 with ⟨r123, S124⟩ | u9
      · replace h := h.1 r123 S124 g9
        replace K := fun i oo z => K i oo (Or.inl ⟨r123, S124, z9, z⟩)
        obtain ⟨a126, ea126⟩ : ∃ x9 : Int32, x9 = (v287_6 + Int32.ofInt 1) := ⟨_, rfl⟩
        replace h := h a126 ea126
        replace K := fun i oo z => K i oo ⟨a126, ea126, z⟩
        exact ih i00 (fun i oo ⟨n8, z⟩ => K (i, n8) oo z) h
      · replace h := h.2 u9 g9
        replace K := fun i oo z => K i oo (Or.inr ⟨u9, z9, z⟩)
        exact ⟨.inr u9, K i0 _ rfl, h⟩
set_option maxRecDepth 100000 in
theorem ru_codeItems_J267 {ι : Type} {P : MS ⊕ MS → Prop} {Q : MS → Prop} {E : MS → Prop} {U267 : MS} {t267_0 : Int32} {v267_1 : Int32} {v267_4 : Int32} (i0 : ι) (K : ∀ (i : ι) (oo : MS ⊕ MS), v_codeItems_J267 oo U267 t267_0 v267_1 v267_4 → P oo) (h : w_codeItems_J267 Q E U267 t267_0 v267_1 v267_4) : ∃ oo, P oo ∧ oV Q E oo := by
  unfold w_codeItems_J267 at h
  obtain ⟨Q9, E9, h0, h⟩ := h
  obtain ⟨o9, z9, g9⟩ := ru_must h0
  rcases o9 with S85 | u9
  · replace h := h.1 S85 g9
    replace K := fun i oo z => K i oo (Or.inl ⟨S85, z9, z⟩)
    obtain ⟨g4_, h⟩ := h
    replace K := fun i oo z => K i oo ⟨g4_, z⟩
    obtain ⟨S88, eS88⟩ : ∃ x9 : MS, x9 = wI S85 16 v267_1.toInt.toNat (qI S85 0 13) := ⟨_, rfl⟩
    replace h := h S88 eS88
    replace K := fun i oo z => K i oo ⟨S88, eS88, z⟩
    obtain ⟨n9, h⟩ := h
    exact ru_codeItems_L287 n9 i0 K h
  · replace h := h.2 u9 g9
    replace K := fun i oo z => K i oo (Or.inr ⟨u9, z9, z⟩)
    exact ⟨.inr u9, K i0 _ rfl, h⟩
set_option maxRecDepth 100000 in
theorem ru_codeItems_J201 {ι : Type} {P : MS ⊕ MS → Prop} {Q : MS → Prop} {E : MS → Prop} {U201 : MS} {t201_0 : Int32} {v201_1 : Int32} {v201_4 : Int32} {v201_5 : Int32} (i0 : ι) (K : ∀ (i : ι) (oo : MS ⊕ MS), v_codeItems_J201 oo U201 t201_0 v201_1 v201_4 v201_5 → P oo) (h : w_codeItems_J201 Q E U201 t201_0 v201_1 v201_4 v201_5) : ∃ oo, P oo ∧ oV Q E oo := by
  unfold w_codeItems_J201 at h
  obtain ⟨Q9, E9, h0, h⟩ := h
  obtain ⟨o9, z9, g9⟩ := ru_must h0
  rcases o9 with S63 | u9
  · replace h := h.1 S63 g9
    replace K := fun i oo z => K i oo (Or.inl ⟨S63, z9, z⟩)
    obtain ⟨Q9, E9, h0, h⟩ := h
    obtain ⟨o9, z9, g9⟩ := ru_within h0
    rcases o9 with ⟨r66, S67⟩ | u9
    · replace h := h.1 r66 S67 g9
      replace K := fun i oo z => K i oo (Or.inl ⟨r66, S67, z9, z⟩)
      obtain ⟨g5_, h⟩ := h
      replace K := fun i oo z => K i oo ⟨g5_, z⟩
      obtain ⟨S70, eS70⟩ : ∃ x9 : MS, x9 = wI S67 14 v201_1.toInt.toNat r66 := ⟨_, rfl⟩
      replace h := h S70 eS70
      replace K := fun i oo z => K i oo ⟨S70, eS70, z⟩
      obtain ⟨g6_, h⟩ := h
      replace K := fun i oo z => K i oo ⟨g6_, z⟩
      obtain ⟨S72, eS72⟩ : ∃ x9 : MS, x9 = wI S70 15 v201_1.toInt.toNat v201_5 := ⟨_, rfl⟩
      replace h := h S72 eS72
      replace K := fun i oo z => K i oo ⟨S72, eS72, z⟩
      obtain ⟨Q9, E9, h0, h⟩ := h
      obtain ⟨o9, z9, g9⟩ := ru_within h0
      rcases o9 with ⟨r74, S75⟩ | u9
      · replace h := h.1 r74 S75 g9
        replace K := fun i oo z => K i oo (Or.inl ⟨r74, S75, z9, z⟩)
        obtain ⟨g7_, h⟩ := h
        replace K := fun i oo z => K i oo ⟨g7_, z⟩
        obtain ⟨g8_, h⟩ := h
        replace K := fun i oo z => K i oo ⟨g8_, z⟩
        obtain ⟨S81, eS81⟩ : ∃ x9 : MS, x9 = wI S75 17 v201_1.toInt.toNat (f_two S75 r74) := ⟨_, rfl⟩
        replace h := h S81 eS81
        replace K := fun i oo z => K i oo ⟨S81, eS81, z⟩
        obtain ⟨g9_, h⟩ := h
        replace K := fun i oo z => K i oo ⟨g9_, z⟩
        by_cases c : 16 < (qI S81 17 v201_1.toInt.toNat).toInt
        · replace h := h.1 c
          replace K := fun i oo z => K i oo (Or.inl ⟨c, z⟩)
          exact ru_codeItems_J267 i0 K h
        · replace h := h.2 c
          replace K := fun i oo z => K i oo (Or.inr ⟨c, z⟩)
          exact ru_codeItems_J267 i0 K h
      · replace h := h.2 u9 g9
        replace K := fun i oo z => K i oo (Or.inr ⟨u9, z9, z⟩)
        exact ⟨.inr u9, K i0 _ rfl, h⟩
    · replace h := h.2 u9 g9
      replace K := fun i oo z => K i oo (Or.inr ⟨u9, z9, z⟩)
      exact ⟨.inr u9, K i0 _ rfl, h⟩
  · replace h := h.2 u9 g9
    replace K := fun i oo z => K i oo (Or.inr ⟨u9, z9, z⟩)
    exact ⟨.inr u9, K i0 _ rfl, h⟩
set_option maxRecDepth 100000 in
theorem ru_codeItems_J200 {ι : Type} {P : MS ⊕ MS → Prop} {Q : MS → Prop} {E : MS → Prop} {U200 : MS} {v200_1 : Int32} {v200_4 : Int32} {v200_5 : Int32} (i0 : ι) (K : ∀ (i : ι) (oo : MS ⊕ MS), v_codeItems_J200 oo U200 v200_1 v200_4 v200_5 → P oo) (h : w_codeItems_J200 Q E U200 v200_1 v200_4 v200_5) : ∃ oo, P oo ∧ oV Q E oo := by
  unfold w_codeItems_J200 at h
  exact ru_codeItems_J201 i0 K h
set_option maxRecDepth 100000 in
theorem ru_codeItems_J157 {ι : Type} {P : MS ⊕ MS → Prop} {Q : MS → Prop} {E : MS → Prop} {U157 : MS} {t157_0 : Int32} {v157_1 : Int32} {v157_4 : Int32} (i0 : ι) (K : ∀ (i : ι) (oo : MS ⊕ MS), v_codeItems_J157 oo U157 t157_0 v157_1 v157_4 → P oo) (h : w_codeItems_J157 Q E U157 t157_0 v157_1 v157_4) : ∃ oo, P oo ∧ oV Q E oo := by
  unfold w_codeItems_J157 at h
  obtain ⟨Q9, E9, h0, h⟩ := h
  obtain ⟨o9, z9, g9⟩ := ru_must h0
  rcases o9 with S52 | u9
  · replace h := h.1 S52 g9
    replace K := fun i oo z => K i oo (Or.inl ⟨S52, z9, z⟩)
    obtain ⟨Q9, E9, h0, h⟩ := h
    obtain ⟨o9, z9, g9⟩ := ru_within h0
    rcases o9 with ⟨r55, S56⟩ | u9
    · replace h := h.1 r55 S56 g9
      replace K := fun i oo z => K i oo (Or.inl ⟨r55, S56, z9, z⟩)
      obtain ⟨g10_, h⟩ := h
      replace K := fun i oo z => K i oo ⟨g10_, z⟩
      obtain ⟨a61, ea61⟩ : ∃ x9 : Int32, x9 = (f_four S56 r55) := ⟨_, rfl⟩
      replace h := h a61 ea61
      replace K := fun i oo z => K i oo ⟨a61, ea61, z⟩
      by_cases c : a61.toInt < 1
      · replace h := h.1 c
        replace K := fun i oo z => K i oo (Or.inl ⟨c, z⟩)
        exact ru_codeItems_J200 i0 K h
      · replace h := h.2 c
        replace K := fun i oo z => K i oo (Or.inr ⟨c, z⟩)
        by_cases c : 1200 < a61.toInt
        · replace h := h.1 c
          replace K := fun i oo z => K i oo (Or.inl ⟨c, z⟩)
          exact ru_codeItems_J200 i0 K h
        · replace h := h.2 c
          replace K := fun i oo z => K i oo (Or.inr ⟨c, z⟩)
          exact ru_codeItems_J201 i0 K h
    · replace h := h.2 u9 g9
      replace K := fun i oo z => K i oo (Or.inr ⟨u9, z9, z⟩)
      exact ⟨.inr u9, K i0 _ rfl, h⟩
  · replace h := h.2 u9 g9
    replace K := fun i oo z => K i oo (Or.inr ⟨u9, z9, z⟩)
    exact ⟨.inr u9, K i0 _ rfl, h⟩
set_option maxRecDepth 100000 in
theorem ru_codeItems_J156 {ι : Type} {P : MS ⊕ MS → Prop} {Q : MS → Prop} {E : MS → Prop} {U156 : MS} {v156_1 : Int32} {v156_4 : Int32} (i0 : ι) (K : ∀ (i : ι) (oo : MS ⊕ MS), v_codeItems_J156 oo U156 v156_1 v156_4 → P oo) (h : w_codeItems_J156 Q E U156 v156_1 v156_4) : ∃ oo, P oo ∧ oV Q E oo := by
  unfold w_codeItems_J156 at h
  exact ru_codeItems_J157 i0 K h
set_option maxRecDepth 100000 in
theorem ru_codeItems_J102 {ι : Type} {P : MS ⊕ MS → Prop} {Q : MS → Prop} {E : MS → Prop} {U102 : MS} {t102_0 : Int32} {v102_1 : Int32} {v102_3 : Int32} {v102_4 : Int32} (i0 : ι) (K : ∀ (i : ι) (oo : MS ⊕ MS), v_codeItems_J102 oo U102 t102_0 v102_1 v102_3 v102_4 → P oo) (h : w_codeItems_J102 Q E U102 t102_0 v102_1 v102_3 v102_4) : ∃ oo, P oo ∧ oV Q E oo := by
  unfold w_codeItems_J102 at h
  obtain ⟨Q9, E9, h0, h⟩ := h
  obtain ⟨o9, z9, g9⟩ := ru_must h0
  rcases o9 with S38 | u9
  · replace h := h.1 S38 g9
    replace K := fun i oo z => K i oo (Or.inl ⟨S38, z9, z⟩)
    obtain ⟨Q9, E9, h0, h⟩ := h
    obtain ⟨o9, z9, g9⟩ := ru_within h0
    rcases o9 with ⟨r41, S42⟩ | u9
    · replace h := h.1 r41 S42 g9
      replace K := fun i oo z => K i oo (Or.inl ⟨r41, S42, z9, z⟩)
      obtain ⟨g11_, h⟩ := h
      replace K := fun i oo z => K i oo ⟨g11_, z⟩
      obtain ⟨g12_, h⟩ := h
      replace K := fun i oo z => K i oo ⟨g12_, z⟩
      obtain ⟨S48, eS48⟩ : ∃ x9 : MS, x9 = wI S42 13 v102_1.toInt.toNat (f_two S42 r41) := ⟨_, rfl⟩
      replace h := h S48 eS48
      replace K := fun i oo z => K i oo ⟨S48, eS48, z⟩
      obtain ⟨g13_, h⟩ := h
      replace K := fun i oo z => K i oo ⟨g13_, z⟩
      by_cases c : 24 < (qI S48 13 v102_1.toInt.toNat).toInt
      · replace h := h.1 c
        replace K := fun i oo z => K i oo (Or.inl ⟨c, z⟩)
        exact ru_codeItems_J156 i0 K h
      · replace h := h.2 c
        replace K := fun i oo z => K i oo (Or.inr ⟨c, z⟩)
        obtain ⟨g14_, h⟩ := h
        replace K := fun i oo z => K i oo ⟨g14_, z⟩
        by_cases c : (qI S48 13 v102_1.toInt.toNat).toInt < v102_3.toInt
        · replace h := h.1 c
          replace K := fun i oo z => K i oo (Or.inl ⟨c, z⟩)
          exact ru_codeItems_J156 i0 K h
        · replace h := h.2 c
          replace K := fun i oo z => K i oo (Or.inr ⟨c, z⟩)
          exact ru_codeItems_J157 i0 K h
    · replace h := h.2 u9 g9
      replace K := fun i oo z => K i oo (Or.inr ⟨u9, z9, z⟩)
      exact ⟨.inr u9, K i0 _ rfl, h⟩
  · replace h := h.2 u9 g9
    replace K := fun i oo z => K i oo (Or.inr ⟨u9, z9, z⟩)
    exact ⟨.inr u9, K i0 _ rfl, h⟩
set_option maxRecDepth 100000 in
theorem ru_codeItems {S : MS} {x1 : Int32} {Q : MS → Prop} {E : MS → Prop} (h : w_codeItems S x1 Q E) : ∃ oo, v_codeItems S x1 oo ∧ oV Q E oo := by
  have i0 : Unit := ()
  have K : ∀ (i : Unit) (oo : MS ⊕ MS), v_codeItems S x1 oo → v_codeItems S x1 oo := fun _ _ z => z
  unfold w_codeItems at h
  obtain ⟨Q9, h0, h⟩ := h
  obtain ⟨r3, S4, z9, g9⟩ := ru_codeOf h0
  replace h := h r3 S4 g9
  replace K := fun i oo z => K i oo ⟨r3, S4, z9, z⟩
  obtain ⟨S7, eS7⟩ : ∃ x9 : MS, x9 = wI S4 0 13 (r3 + (6 : Int32)) := ⟨_, rfl⟩
  replace h := h S7 eS7
  replace K := fun i oo z => K i oo ⟨S7, eS7, z⟩
  obtain ⟨g15_, h⟩ := h
  replace K := fun i oo z => K i oo ⟨g15_, z⟩
  obtain ⟨S14, eS14⟩ : ∃ x9 : MS, x9 = wI S7 0 35 ((((qI S7 0 13).toInt64) + (((f_four S7 (r3 + (2 : Int32))).toInt64) &&& (4294967295 : Int64))).toInt32) := ⟨_, rfl⟩
  replace h := h S14 eS14
  replace K := fun i oo z => K i oo ⟨S14, eS14, z⟩
  obtain ⟨g16_, h⟩ := h
  replace K := fun i oo z => K i oo ⟨g16_, z⟩
  obtain ⟨g17_, h⟩ := h
  replace K := fun i oo z => K i oo ⟨g17_, z⟩
  obtain ⟨Q9, h0, h⟩ := h
  obtain ⟨r23, S24, z9, g9⟩ := ru_parameterPlaces h0
  replace h := h r23 S24 g9
  replace K := fun i oo z => K i oo ⟨r23, S24, z9, z⟩
  obtain ⟨Q9, E9, h0, h⟩ := h
  obtain ⟨o9, z9, g9⟩ := ru_within h0
  rcases o9 with ⟨r27, S28⟩ | u9
  · replace h := h.1 r27 S28 g9
    replace K := fun i oo z => K i oo (Or.inl ⟨r27, S28, z9, z⟩)
    obtain ⟨g18_, h⟩ := h
    replace K := fun i oo z => K i oo ⟨g18_, z⟩
    obtain ⟨g19_, h⟩ := h
    replace K := fun i oo z => K i oo ⟨g19_, z⟩
    obtain ⟨S34, eS34⟩ : ∃ x9 : MS, x9 = wI S28 12 x1.toInt.toNat (f_two S28 r27) := ⟨_, rfl⟩
    replace h := h S34 eS34
    replace K := fun i oo z => K i oo ⟨S34, eS34, z⟩
    obtain ⟨g20_, h⟩ := h
    replace K := fun i oo z => K i oo ⟨g20_, z⟩
    by_cases c : 24 < (qI S34 12 x1.toInt.toNat).toInt
    · replace h := h.1 c
      replace K := fun i oo z => K i oo (Or.inl ⟨c, z⟩)
      exact ru_codeItems_J102 i0 K h
    · replace h := h.2 c
      replace K := fun i oo z => K i oo (Or.inr ⟨c, z⟩)
      exact ru_codeItems_J102 i0 K h
  · replace h := h.2 u9 g9
    replace K := fun i oo z => K i oo (Or.inr ⟨u9, z9, z⟩)
    exact ⟨.inr u9, K i0 _ rfl, h⟩
set_option maxRecDepth 100000 in
theorem vw_codeItems_J391 {oo : MS ⊕ MS} {U391 : MS} {t391_0 : Int32} (h : v_codeItems_J391 oo U391 t391_0) : w_codeItems_J391 (fun u => oo = .inl u) (fun u => oo = .inr u) U391 t391_0 := by
  unfold v_codeItems_J391 at h
  unfold w_codeItems_J391
  rcases h with ⟨q9, z9, h⟩ | ⟨q9, z9, h⟩
  · refine ⟨_, _, vw_must z9, ?_, ?_⟩
    · intro q8 d9
      injection d9 with d9
      subst d9
      exact h
    · intro q8 d9
      exact nomatch d9
  · refine ⟨_, _, vw_must z9, ?_, ?_⟩
    · intro q8 d9
      exact nomatch d9
    · intro q8 d9
      injection d9 with d9
      subst d9
      exact h
set_option maxRecDepth 100000 in
theorem vz_codeItems_J391 {oo : MS ⊕ MS} {Q : MS → Prop} {E : MS → Prop} {U391 : MS} {t391_0 : Int32} (h : v_codeItems_J391 oo U391 t391_0) (w : w_codeItems_J391 Q E U391 t391_0) : oV Q E oo := by
  unfold v_codeItems_J391 at h
  unfold w_codeItems_J391 at w
  obtain ⟨Q9, E9, w0, w⟩ := w
  rcases h with ⟨q9, z9, h⟩ | ⟨q9, z9, h⟩
  · replace w := w.1 q9 (vz_must z9 w0)
    rw [h]
    exact w
  · replace w := w.2 q9 (vz_must z9 w0)
    rw [h]
    exact w
set_option maxRecDepth 100000 in
theorem vw_codeItems_L328 {oo : MS ⊕ MS} : ∀ (n : Nat) {U328 : MS} {v328_6 : Int32} {v328_7 : Int32}, v_codeItems_L328 oo n U328 v328_6 v328_7 → w_codeItems_L328 (fun u => oo = .inl u) (fun u => oo = .inr u) n U328 v328_6 v328_7 := by
  intro n
  induction n with
  | zero => intro U328 v328_6 v328_7 h; unfold v_codeItems_L328 at h; exact h.elim
  | succ n ih =>
    intro U328 v328_6 v328_7 h
    unfold v_codeItems_L328 at h
    unfold w_codeItems_L328
    rcases h with ⟨c, h⟩ | ⟨c, h⟩
    · refine ⟨fun _ => ?_, fun c2 => absurd c c2⟩
      rcases h with ⟨c, h⟩ | ⟨c, h⟩
      · refine ⟨fun _ => ?_, fun c2 => absurd c c2⟩
        exact vw_codeItems_J391 h
      · refine ⟨fun c2 => absurd c2 c, fun _ => ?_⟩
        exact vw_codeItems_J391 h
    · refine ⟨fun c2 => absurd c2 c, fun _ => ?_⟩
      rcases h with ⟨p9, q9, z9, h⟩ | ⟨q9, z9, h⟩
      · refine ⟨_, _, vw_within z9, ?_, ?_⟩
        · intro p8 q8 d9
          injection d9 with d9
          injection d9 with d8 d9
          subst d8
          subst d9
          rcases h with ⟨p9, q9, z9, h⟩ | ⟨q9, z9, h⟩
          · refine ⟨_, _, vw_within z9, ?_, ?_⟩
            · intro p8 q8 d9
              injection d9 with d9
              injection d9 with d8 d9
              subst d8
              subst d9
              obtain ⟨g9, h⟩ := h
              refine ⟨g9, ?_⟩
              rcases h with ⟨p9, q9, z9, h⟩ | ⟨q9, z9, h⟩
              · refine ⟨_, _, vw_within z9, ?_, ?_⟩
                · intro p8 q8 d9
                  injection d9 with d9
                  injection d9 with d8 d9
                  subst d8
                  subst d9
                  obtain ⟨v9, e9, h⟩ := h
                  intro x9 d9
                  have c9 : v9 = x9 := e9.trans d9.symm
                  subst c9
                  exact ih h
                · intro q8 d9
                  exact nomatch d9
              · refine ⟨_, _, vw_within z9, ?_, ?_⟩
                · intro p8 q8 d9
                  exact nomatch d9
                · intro q8 d9
                  injection d9 with d9
                  subst d9
                  exact h
            · intro q8 d9
              exact nomatch d9
          · refine ⟨_, _, vw_within z9, ?_, ?_⟩
            · intro p8 q8 d9
              exact nomatch d9
            · intro q8 d9
              injection d9 with d9
              subst d9
              exact h
        · intro q8 d9
          exact nomatch d9
      · refine ⟨_, _, vw_within z9, ?_, ?_⟩
        · intro p8 q8 d9
          exact nomatch d9
        · intro q8 d9
          injection d9 with d9
          subst d9
          exact h
set_option maxRecDepth 100000 in
theorem vz_codeItems_L328 {oo : MS ⊕ MS} {Q : MS → Prop} {E : MS → Prop} : ∀ (n m : Nat) {U328 : MS} {v328_6 : Int32} {v328_7 : Int32}, v_codeItems_L328 oo n U328 v328_6 v328_7 → w_codeItems_L328 Q E m U328 v328_6 v328_7 → oV Q E oo := by
  intro n
  induction n with
  | zero => intro m U328 v328_6 v328_7 h; unfold v_codeItems_L328 at h; exact h.elim
  | succ n ih =>
    intro m U328 v328_6 v328_7 h w
    cases m with
    | zero => unfold w_codeItems_L328 at w; exact w.elim
    | succ m =>
      unfold v_codeItems_L328 at h
      unfold w_codeItems_L328 at w
      rcases h with ⟨c, h⟩ | ⟨c, h⟩
      · replace w := w.1 c
        rcases h with ⟨c, h⟩ | ⟨c, h⟩
        · replace w := w.1 c
          exact vz_codeItems_J391 h w
        · replace w := w.2 c
          exact vz_codeItems_J391 h w
      · replace w := w.2 c
        obtain ⟨Q9, E9, w0, w⟩ := w
        rcases h with ⟨p9, q9, z9, h⟩ | ⟨q9, z9, h⟩
        · replace w := w.1 p9 q9 (vz_within z9 w0)
          obtain ⟨Q9, E9, w0, w⟩ := w
          rcases h with ⟨p9, q9, z9, h⟩ | ⟨q9, z9, h⟩
          · replace w := w.1 p9 q9 (vz_within z9 w0)
            replace h := h.2
            replace w := w.2
            obtain ⟨Q9, E9, w0, w⟩ := w
            rcases h with ⟨p9, q9, z9, h⟩ | ⟨q9, z9, h⟩
            · replace w := w.1 p9 q9 (vz_within z9 w0)
              obtain ⟨v9, e9, h⟩ := h
              replace w := w v9 e9
              exact ih m h w
            · replace w := w.2 q9 (vz_within z9 w0)
              rw [h]
              exact w
          · replace w := w.2 q9 (vz_within z9 w0)
            rw [h]
            exact w
        · replace w := w.2 q9 (vz_within z9 w0)
          rw [h]
          exact w
set_option maxRecDepth 100000 in
theorem vw_codeItems_L287 {oo : MS ⊕ MS} : ∀ (n : Nat) {U287 : MS} {v287_1 : Int32} {v287_6 : Int32}, v_codeItems_L287 oo n U287 v287_1 v287_6 → w_codeItems_L287 (fun u => oo = .inl u) (fun u => oo = .inr u) n U287 v287_1 v287_6 := by
  intro n
  induction n with
  | zero => intro U287 v287_1 v287_6 h; unfold v_codeItems_L287 at h; exact h.elim
  | succ n ih =>
    intro U287 v287_1 v287_6 h
    unfold v_codeItems_L287 at h
    unfold w_codeItems_L287
    obtain ⟨g9, h⟩ := h
    refine ⟨g9, ?_⟩
    rcases h with ⟨c, h⟩ | ⟨c, h⟩
    · refine ⟨fun _ => ?_, fun c2 => absurd c c2⟩
      rcases h with ⟨p9, q9, z9, h⟩ | ⟨q9, z9, h⟩
      · refine ⟨_, _, vw_within z9, ?_, ?_⟩
        · intro p8 q8 d9
          injection d9 with d9
          injection d9 with d8 d9
          subst d8
          subst d9
          obtain ⟨g9, h⟩ := h
          refine ⟨g9, ?_⟩
          obtain ⟨v9, e9, h⟩ := h
          intro x9 d9
          have c9 : v9 = x9 := e9.trans d9.symm
          subst c9
          obtain ⟨n9, h⟩ := h
          exact ⟨n9, vw_codeItems_L328 n9 h⟩
        · intro q8 d9
          exact nomatch d9
      · refine ⟨_, _, vw_within z9, ?_, ?_⟩
        · intro p8 q8 d9
          exact nomatch d9
        · intro q8 d9
          injection d9 with d9
          subst d9
          exact h
    · refine ⟨fun c2 => absurd c2 c, fun _ => ?_⟩
      rcases h with ⟨p9, q9, z9, h⟩ | ⟨q9, z9, h⟩
      · refine ⟨_, _, vw_within z9, ?_, ?_⟩
        · intro p8 q8 d9
          injection d9 with d9
          injection d9 with d8 d9
          subst d8
          subst d9
          obtain ⟨v9, e9, h⟩ := h
          intro x9 d9
          have c9 : v9 = x9 := e9.trans d9.symm
          subst c9
          exact ih h
        · intro q8 d9
          exact nomatch d9
      · refine ⟨_, _, vw_within z9, ?_, ?_⟩
        · intro p8 q8 d9
          exact nomatch d9
        · intro q8 d9
          injection d9 with d9
          subst d9
          exact h
set_option maxRecDepth 100000 in
theorem vz_codeItems_L287 {oo : MS ⊕ MS} {Q : MS → Prop} {E : MS → Prop} : ∀ (n m : Nat) {U287 : MS} {v287_1 : Int32} {v287_6 : Int32}, v_codeItems_L287 oo n U287 v287_1 v287_6 → w_codeItems_L287 Q E m U287 v287_1 v287_6 → oV Q E oo := by
  intro n
  induction n with
  | zero => intro m U287 v287_1 v287_6 h; unfold v_codeItems_L287 at h; exact h.elim
  | succ n ih =>
    intro m U287 v287_1 v287_6 h w
    cases m with
    | zero => unfold w_codeItems_L287 at w; exact w.elim
    | succ m =>
      unfold v_codeItems_L287 at h
      unfold w_codeItems_L287 at w
      replace h := h.2
      replace w := w.2
      rcases h with ⟨c, h⟩ | ⟨c, h⟩
      · replace w := w.1 c
        obtain ⟨Q9, E9, w0, w⟩ := w
        rcases h with ⟨p9, q9, z9, h⟩ | ⟨q9, z9, h⟩
        · replace w := w.1 p9 q9 (vz_within z9 w0)
          replace h := h.2
          replace w := w.2
          obtain ⟨v9, e9, h⟩ := h
          replace w := w v9 e9
          obtain ⟨n9, h⟩ := h
          obtain ⟨n8, w⟩ := w
          exact vz_codeItems_L328 n9 n8 h w
        · replace w := w.2 q9 (vz_within z9 w0)
          rw [h]
          exact w
      · replace w := w.2 c
        obtain ⟨Q9, E9, w0, w⟩ := w
        rcases h with ⟨p9, q9, z9, h⟩ | ⟨q9, z9, h⟩
        · replace w := w.1 p9 q9 (vz_within z9 w0)
          obtain ⟨v9, e9, h⟩ := h
          replace w := w v9 e9
          exact ih m h w
        · replace w := w.2 q9 (vz_within z9 w0)
          rw [h]
          exact w
set_option maxRecDepth 100000 in
theorem vw_codeItems_J267 {oo : MS ⊕ MS} {U267 : MS} {t267_0 : Int32} {v267_1 : Int32} {v267_4 : Int32} (h : v_codeItems_J267 oo U267 t267_0 v267_1 v267_4) : w_codeItems_J267 (fun u => oo = .inl u) (fun u => oo = .inr u) U267 t267_0 v267_1 v267_4 := by
  unfold v_codeItems_J267 at h
  unfold w_codeItems_J267
  rcases h with ⟨q9, z9, h⟩ | ⟨q9, z9, h⟩
  · refine ⟨_, _, vw_must z9, ?_, ?_⟩
    · intro q8 d9
      injection d9 with d9
      subst d9
      obtain ⟨g9, h⟩ := h
      refine ⟨g9, ?_⟩
      obtain ⟨v9, e9, h⟩ := h
      intro x9 d9
      have c9 : v9 = x9 := e9.trans d9.symm
      subst c9
      obtain ⟨n9, h⟩ := h
      exact ⟨n9, vw_codeItems_L287 n9 h⟩
    · intro q8 d9
      exact nomatch d9
  · refine ⟨_, _, vw_must z9, ?_, ?_⟩
    · intro q8 d9
      exact nomatch d9
    · intro q8 d9
      injection d9 with d9
      subst d9
      exact h
set_option maxRecDepth 100000 in
theorem vz_codeItems_J267 {oo : MS ⊕ MS} {Q : MS → Prop} {E : MS → Prop} {U267 : MS} {t267_0 : Int32} {v267_1 : Int32} {v267_4 : Int32} (h : v_codeItems_J267 oo U267 t267_0 v267_1 v267_4) (w : w_codeItems_J267 Q E U267 t267_0 v267_1 v267_4) : oV Q E oo := by
  unfold v_codeItems_J267 at h
  unfold w_codeItems_J267 at w
  obtain ⟨Q9, E9, w0, w⟩ := w
  rcases h with ⟨q9, z9, h⟩ | ⟨q9, z9, h⟩
  · replace w := w.1 q9 (vz_must z9 w0)
    replace h := h.2
    replace w := w.2
    obtain ⟨v9, e9, h⟩ := h
    replace w := w v9 e9
    obtain ⟨n9, h⟩ := h
    obtain ⟨n8, w⟩ := w
    exact vz_codeItems_L287 n9 n8 h w
  · replace w := w.2 q9 (vz_must z9 w0)
    rw [h]
    exact w
set_option maxRecDepth 100000 in
theorem vw_codeItems_J201 {oo : MS ⊕ MS} {U201 : MS} {t201_0 : Int32} {v201_1 : Int32} {v201_4 : Int32} {v201_5 : Int32} (h : v_codeItems_J201 oo U201 t201_0 v201_1 v201_4 v201_5) : w_codeItems_J201 (fun u => oo = .inl u) (fun u => oo = .inr u) U201 t201_0 v201_1 v201_4 v201_5 := by
  unfold v_codeItems_J201 at h
  unfold w_codeItems_J201
  rcases h with ⟨q9, z9, h⟩ | ⟨q9, z9, h⟩
  · refine ⟨_, _, vw_must z9, ?_, ?_⟩
    · intro q8 d9
      injection d9 with d9
      subst d9
      rcases h with ⟨p9, q9, z9, h⟩ | ⟨q9, z9, h⟩
      · refine ⟨_, _, vw_within z9, ?_, ?_⟩
        · intro p8 q8 d9
          injection d9 with d9
          injection d9 with d8 d9
          subst d8
          subst d9
          obtain ⟨g9, h⟩ := h
          refine ⟨g9, ?_⟩
          obtain ⟨v9, e9, h⟩ := h
          intro x9 d9
          have c9 : v9 = x9 := e9.trans d9.symm
          subst c9
          obtain ⟨g9, h⟩ := h
          refine ⟨g9, ?_⟩
          obtain ⟨v9, e9, h⟩ := h
          intro x9 d9
          have c9 : v9 = x9 := e9.trans d9.symm
          subst c9
          rcases h with ⟨p9, q9, z9, h⟩ | ⟨q9, z9, h⟩
          · refine ⟨_, _, vw_within z9, ?_, ?_⟩
            · intro p8 q8 d9
              injection d9 with d9
              injection d9 with d8 d9
              subst d8
              subst d9
              obtain ⟨g9, h⟩ := h
              refine ⟨g9, ?_⟩
              obtain ⟨g9, h⟩ := h
              refine ⟨g9, ?_⟩
              obtain ⟨v9, e9, h⟩ := h
              intro x9 d9
              have c9 : v9 = x9 := e9.trans d9.symm
              subst c9
              obtain ⟨g9, h⟩ := h
              refine ⟨g9, ?_⟩
              rcases h with ⟨c, h⟩ | ⟨c, h⟩
              · refine ⟨fun _ => ?_, fun c2 => absurd c c2⟩
                exact vw_codeItems_J267 h
              · refine ⟨fun c2 => absurd c2 c, fun _ => ?_⟩
                exact vw_codeItems_J267 h
            · intro q8 d9
              exact nomatch d9
          · refine ⟨_, _, vw_within z9, ?_, ?_⟩
            · intro p8 q8 d9
              exact nomatch d9
            · intro q8 d9
              injection d9 with d9
              subst d9
              exact h
        · intro q8 d9
          exact nomatch d9
      · refine ⟨_, _, vw_within z9, ?_, ?_⟩
        · intro p8 q8 d9
          exact nomatch d9
        · intro q8 d9
          injection d9 with d9
          subst d9
          exact h
    · intro q8 d9
      exact nomatch d9
  · refine ⟨_, _, vw_must z9, ?_, ?_⟩
    · intro q8 d9
      exact nomatch d9
    · intro q8 d9
      injection d9 with d9
      subst d9
      exact h
set_option maxRecDepth 100000 in
theorem vz_codeItems_J201 {oo : MS ⊕ MS} {Q : MS → Prop} {E : MS → Prop} {U201 : MS} {t201_0 : Int32} {v201_1 : Int32} {v201_4 : Int32} {v201_5 : Int32} (h : v_codeItems_J201 oo U201 t201_0 v201_1 v201_4 v201_5) (w : w_codeItems_J201 Q E U201 t201_0 v201_1 v201_4 v201_5) : oV Q E oo := by
  unfold v_codeItems_J201 at h
  unfold w_codeItems_J201 at w
  obtain ⟨Q9, E9, w0, w⟩ := w
  rcases h with ⟨q9, z9, h⟩ | ⟨q9, z9, h⟩
  · replace w := w.1 q9 (vz_must z9 w0)
    obtain ⟨Q9, E9, w0, w⟩ := w
    rcases h with ⟨p9, q9, z9, h⟩ | ⟨q9, z9, h⟩
    · replace w := w.1 p9 q9 (vz_within z9 w0)
      replace h := h.2
      replace w := w.2
      obtain ⟨v9, e9, h⟩ := h
      replace w := w v9 e9
      replace h := h.2
      replace w := w.2
      obtain ⟨v9, e9, h⟩ := h
      replace w := w v9 e9
      obtain ⟨Q9, E9, w0, w⟩ := w
      rcases h with ⟨p9, q9, z9, h⟩ | ⟨q9, z9, h⟩
      · replace w := w.1 p9 q9 (vz_within z9 w0)
        replace h := h.2
        replace w := w.2
        replace h := h.2
        replace w := w.2
        obtain ⟨v9, e9, h⟩ := h
        replace w := w v9 e9
        replace h := h.2
        replace w := w.2
        rcases h with ⟨c, h⟩ | ⟨c, h⟩
        · replace w := w.1 c
          exact vz_codeItems_J267 h w
        · replace w := w.2 c
          exact vz_codeItems_J267 h w
      · replace w := w.2 q9 (vz_within z9 w0)
        rw [h]
        exact w
    · replace w := w.2 q9 (vz_within z9 w0)
      rw [h]
      exact w
  · replace w := w.2 q9 (vz_must z9 w0)
    rw [h]
    exact w
set_option maxRecDepth 100000 in
theorem vw_codeItems_J200 {oo : MS ⊕ MS} {U200 : MS} {v200_1 : Int32} {v200_4 : Int32} {v200_5 : Int32} (h : v_codeItems_J200 oo U200 v200_1 v200_4 v200_5) : w_codeItems_J200 (fun u => oo = .inl u) (fun u => oo = .inr u) U200 v200_1 v200_4 v200_5 := by
  unfold v_codeItems_J200 at h
  unfold w_codeItems_J200
  exact vw_codeItems_J201 h
set_option maxRecDepth 100000 in
theorem vz_codeItems_J200 {oo : MS ⊕ MS} {Q : MS → Prop} {E : MS → Prop} {U200 : MS} {v200_1 : Int32} {v200_4 : Int32} {v200_5 : Int32} (h : v_codeItems_J200 oo U200 v200_1 v200_4 v200_5) (w : w_codeItems_J200 Q E U200 v200_1 v200_4 v200_5) : oV Q E oo := by
  unfold v_codeItems_J200 at h
  unfold w_codeItems_J200 at w
  exact vz_codeItems_J201 h w
set_option maxRecDepth 100000 in
theorem vw_codeItems_J157 {oo : MS ⊕ MS} {U157 : MS} {t157_0 : Int32} {v157_1 : Int32} {v157_4 : Int32} (h : v_codeItems_J157 oo U157 t157_0 v157_1 v157_4) : w_codeItems_J157 (fun u => oo = .inl u) (fun u => oo = .inr u) U157 t157_0 v157_1 v157_4 := by
  unfold v_codeItems_J157 at h
  unfold w_codeItems_J157
  rcases h with ⟨q9, z9, h⟩ | ⟨q9, z9, h⟩
  · refine ⟨_, _, vw_must z9, ?_, ?_⟩
    · intro q8 d9
      injection d9 with d9
      subst d9
      rcases h with ⟨p9, q9, z9, h⟩ | ⟨q9, z9, h⟩
      · refine ⟨_, _, vw_within z9, ?_, ?_⟩
        · intro p8 q8 d9
          injection d9 with d9
          injection d9 with d8 d9
          subst d8
          subst d9
          obtain ⟨g9, h⟩ := h
          refine ⟨g9, ?_⟩
          obtain ⟨v9, e9, h⟩ := h
          intro x9 d9
          have c9 : v9 = x9 := e9.trans d9.symm
          subst c9
          rcases h with ⟨c, h⟩ | ⟨c, h⟩
          · refine ⟨fun _ => ?_, fun c2 => absurd c c2⟩
            exact vw_codeItems_J200 h
          · refine ⟨fun c2 => absurd c2 c, fun _ => ?_⟩
            rcases h with ⟨c, h⟩ | ⟨c, h⟩
            · refine ⟨fun _ => ?_, fun c2 => absurd c c2⟩
              exact vw_codeItems_J200 h
            · refine ⟨fun c2 => absurd c2 c, fun _ => ?_⟩
              exact vw_codeItems_J201 h
        · intro q8 d9
          exact nomatch d9
      · refine ⟨_, _, vw_within z9, ?_, ?_⟩
        · intro p8 q8 d9
          exact nomatch d9
        · intro q8 d9
          injection d9 with d9
          subst d9
          exact h
    · intro q8 d9
      exact nomatch d9
  · refine ⟨_, _, vw_must z9, ?_, ?_⟩
    · intro q8 d9
      exact nomatch d9
    · intro q8 d9
      injection d9 with d9
      subst d9
      exact h
set_option maxRecDepth 100000 in
theorem vz_codeItems_J157 {oo : MS ⊕ MS} {Q : MS → Prop} {E : MS → Prop} {U157 : MS} {t157_0 : Int32} {v157_1 : Int32} {v157_4 : Int32} (h : v_codeItems_J157 oo U157 t157_0 v157_1 v157_4) (w : w_codeItems_J157 Q E U157 t157_0 v157_1 v157_4) : oV Q E oo := by
  unfold v_codeItems_J157 at h
  unfold w_codeItems_J157 at w
  obtain ⟨Q9, E9, w0, w⟩ := w
  rcases h with ⟨q9, z9, h⟩ | ⟨q9, z9, h⟩
  · replace w := w.1 q9 (vz_must z9 w0)
    obtain ⟨Q9, E9, w0, w⟩ := w
    rcases h with ⟨p9, q9, z9, h⟩ | ⟨q9, z9, h⟩
    · replace w := w.1 p9 q9 (vz_within z9 w0)
      replace h := h.2
      replace w := w.2
      obtain ⟨v9, e9, h⟩ := h
      replace w := w v9 e9
      rcases h with ⟨c, h⟩ | ⟨c, h⟩
      · replace w := w.1 c
        exact vz_codeItems_J200 h w
      · replace w := w.2 c
        rcases h with ⟨c, h⟩ | ⟨c, h⟩
        · replace w := w.1 c
          exact vz_codeItems_J200 h w
        · replace w := w.2 c
          exact vz_codeItems_J201 h w
    · replace w := w.2 q9 (vz_within z9 w0)
      rw [h]
      exact w
  · replace w := w.2 q9 (vz_must z9 w0)
    rw [h]
    exact w
set_option maxRecDepth 100000 in
theorem vw_codeItems_J156 {oo : MS ⊕ MS} {U156 : MS} {v156_1 : Int32} {v156_4 : Int32} (h : v_codeItems_J156 oo U156 v156_1 v156_4) : w_codeItems_J156 (fun u => oo = .inl u) (fun u => oo = .inr u) U156 v156_1 v156_4 := by
  unfold v_codeItems_J156 at h
  unfold w_codeItems_J156
  exact vw_codeItems_J157 h
set_option maxRecDepth 100000 in
theorem vz_codeItems_J156 {oo : MS ⊕ MS} {Q : MS → Prop} {E : MS → Prop} {U156 : MS} {v156_1 : Int32} {v156_4 : Int32} (h : v_codeItems_J156 oo U156 v156_1 v156_4) (w : w_codeItems_J156 Q E U156 v156_1 v156_4) : oV Q E oo := by
  unfold v_codeItems_J156 at h
  unfold w_codeItems_J156 at w
  exact vz_codeItems_J157 h w
set_option maxRecDepth 100000 in
theorem vw_codeItems_J102 {oo : MS ⊕ MS} {U102 : MS} {t102_0 : Int32} {v102_1 : Int32} {v102_3 : Int32} {v102_4 : Int32} (h : v_codeItems_J102 oo U102 t102_0 v102_1 v102_3 v102_4) : w_codeItems_J102 (fun u => oo = .inl u) (fun u => oo = .inr u) U102 t102_0 v102_1 v102_3 v102_4 := by
  unfold v_codeItems_J102 at h
  unfold w_codeItems_J102
  rcases h with ⟨q9, z9, h⟩ | ⟨q9, z9, h⟩
  · refine ⟨_, _, vw_must z9, ?_, ?_⟩
    · intro q8 d9
      injection d9 with d9
      subst d9
      rcases h with ⟨p9, q9, z9, h⟩ | ⟨q9, z9, h⟩
      · refine ⟨_, _, vw_within z9, ?_, ?_⟩
        · intro p8 q8 d9
          injection d9 with d9
          injection d9 with d8 d9
          subst d8
          subst d9
          obtain ⟨g9, h⟩ := h
          refine ⟨g9, ?_⟩
          obtain ⟨g9, h⟩ := h
          refine ⟨g9, ?_⟩
          obtain ⟨v9, e9, h⟩ := h
          intro x9 d9
          have c9 : v9 = x9 := e9.trans d9.symm
          subst c9
          obtain ⟨g9, h⟩ := h
          refine ⟨g9, ?_⟩
          rcases h with ⟨c, h⟩ | ⟨c, h⟩
          · refine ⟨fun _ => ?_, fun c2 => absurd c c2⟩
            exact vw_codeItems_J156 h
          · refine ⟨fun c2 => absurd c2 c, fun _ => ?_⟩
            obtain ⟨g9, h⟩ := h
            refine ⟨g9, ?_⟩
            rcases h with ⟨c, h⟩ | ⟨c, h⟩
            · refine ⟨fun _ => ?_, fun c2 => absurd c c2⟩
              exact vw_codeItems_J156 h
            · refine ⟨fun c2 => absurd c2 c, fun _ => ?_⟩
              exact vw_codeItems_J157 h
        · intro q8 d9
          exact nomatch d9
      · refine ⟨_, _, vw_within z9, ?_, ?_⟩
        · intro p8 q8 d9
          exact nomatch d9
        · intro q8 d9
          injection d9 with d9
          subst d9
          exact h
    · intro q8 d9
      exact nomatch d9
  · refine ⟨_, _, vw_must z9, ?_, ?_⟩
    · intro q8 d9
      exact nomatch d9
    · intro q8 d9
      injection d9 with d9
      subst d9
      exact h
set_option maxRecDepth 100000 in
theorem vz_codeItems_J102 {oo : MS ⊕ MS} {Q : MS → Prop} {E : MS → Prop} {U102 : MS} {t102_0 : Int32} {v102_1 : Int32} {v102_3 : Int32} {v102_4 : Int32} (h : v_codeItems_J102 oo U102 t102_0 v102_1 v102_3 v102_4) (w : w_codeItems_J102 Q E U102 t102_0 v102_1 v102_3 v102_4) : oV Q E oo := by
  unfold v_codeItems_J102 at h
  unfold w_codeItems_J102 at w
  obtain ⟨Q9, E9, w0, w⟩ := w
  rcases h with ⟨q9, z9, h⟩ | ⟨q9, z9, h⟩
  · replace w := w.1 q9 (vz_must z9 w0)
    obtain ⟨Q9, E9, w0, w⟩ := w
    rcases h with ⟨p9, q9, z9, h⟩ | ⟨q9, z9, h⟩
    · replace w := w.1 p9 q9 (vz_within z9 w0)
      replace h := h.2
      replace w := w.2
      replace h := h.2
      replace w := w.2
      obtain ⟨v9, e9, h⟩ := h
      replace w := w v9 e9
      replace h := h.2
      replace w := w.2
      rcases h with ⟨c, h⟩ | ⟨c, h⟩
      · replace w := w.1 c
        exact vz_codeItems_J156 h w
      · replace w := w.2 c
        replace h := h.2
        replace w := w.2
        rcases h with ⟨c, h⟩ | ⟨c, h⟩
        · replace w := w.1 c
          exact vz_codeItems_J156 h w
        · replace w := w.2 c
          exact vz_codeItems_J157 h w
    · replace w := w.2 q9 (vz_within z9 w0)
      rw [h]
      exact w
  · replace w := w.2 q9 (vz_must z9 w0)
    rw [h]
    exact w
set_option maxRecDepth 100000 in
theorem vw_codeItems {S : MS} {x1 : Int32} {oo : MS ⊕ MS} (h : v_codeItems S x1 oo) : w_codeItems S x1 (fun u => oo = .inl u) (fun u => oo = .inr u) := by
  unfold v_codeItems at h
  unfold w_codeItems
  obtain ⟨p9, q9, z9, h⟩ := h
  refine ⟨_, vw_codeOf z9, ?_⟩
  rintro p8 q8 ⟨d8, d9⟩
  subst d8
  subst d9
  obtain ⟨v9, e9, h⟩ := h
  intro x9 d9
  have c9 : v9 = x9 := e9.trans d9.symm
  subst c9
  obtain ⟨g9, h⟩ := h
  refine ⟨g9, ?_⟩
  obtain ⟨v9, e9, h⟩ := h
  intro x9 d9
  have c9 : v9 = x9 := e9.trans d9.symm
  subst c9
  obtain ⟨g9, h⟩ := h
  refine ⟨g9, ?_⟩
  obtain ⟨g9, h⟩ := h
  refine ⟨g9, ?_⟩
  obtain ⟨p9, q9, z9, h⟩ := h
  refine ⟨_, vw_parameterPlaces z9, ?_⟩
  rintro p8 q8 ⟨d8, d9⟩
  subst d8
  subst d9
  rcases h with ⟨p9, q9, z9, h⟩ | ⟨q9, z9, h⟩
  · refine ⟨_, _, vw_within z9, ?_, ?_⟩
    · intro p8 q8 d9
      injection d9 with d9
      injection d9 with d8 d9
      subst d8
      subst d9
      obtain ⟨g9, h⟩ := h
      refine ⟨g9, ?_⟩
      obtain ⟨g9, h⟩ := h
      refine ⟨g9, ?_⟩
      obtain ⟨v9, e9, h⟩ := h
      intro x9 d9
      have c9 : v9 = x9 := e9.trans d9.symm
      subst c9
      obtain ⟨g9, h⟩ := h
      refine ⟨g9, ?_⟩
      rcases h with ⟨c, h⟩ | ⟨c, h⟩
      · refine ⟨fun _ => ?_, fun c2 => absurd c c2⟩
        exact vw_codeItems_J102 h
      · refine ⟨fun c2 => absurd c2 c, fun _ => ?_⟩
        exact vw_codeItems_J102 h
    · intro q8 d9
      exact nomatch d9
  · refine ⟨_, _, vw_within z9, ?_, ?_⟩
    · intro p8 q8 d9
      exact nomatch d9
    · intro q8 d9
      injection d9 with d9
      subst d9
      exact h
set_option maxRecDepth 100000 in
theorem vz_codeItems {S : MS} {x1 : Int32} {oo : MS ⊕ MS} {Q : MS → Prop} {E : MS → Prop} (h : v_codeItems S x1 oo) (w : w_codeItems S x1 Q E) : oV Q E oo := by
  unfold v_codeItems at h
  unfold w_codeItems at w
  obtain ⟨p9, q9, z9, h⟩ := h
  obtain ⟨Q9, w0, w⟩ := w
  replace w := w p9 q9 (vz_codeOf z9 w0)
  obtain ⟨v9, e9, h⟩ := h
  replace w := w v9 e9
  replace h := h.2
  replace w := w.2
  obtain ⟨v9, e9, h⟩ := h
  replace w := w v9 e9
  replace h := h.2
  replace w := w.2
  replace h := h.2
  replace w := w.2
  obtain ⟨p9, q9, z9, h⟩ := h
  obtain ⟨Q9, w0, w⟩ := w
  replace w := w p9 q9 (vz_parameterPlaces z9 w0)
  obtain ⟨Q9, E9, w0, w⟩ := w
  rcases h with ⟨p9, q9, z9, h⟩ | ⟨q9, z9, h⟩
  · replace w := w.1 p9 q9 (vz_within z9 w0)
    replace h := h.2
    replace w := w.2
    replace h := h.2
    replace w := w.2
    obtain ⟨v9, e9, h⟩ := h
    replace w := w v9 e9
    replace h := h.2
    replace w := w.2
    rcases h with ⟨c, h⟩ | ⟨c, h⟩
    · replace w := w.1 c
      exact vz_codeItems_J102 h w
    · replace w := w.2 c
      exact vz_codeItems_J102 h w
  · replace w := w.2 q9 (vz_within z9 w0)
    rw [h]
    exact w
def v_codes_J27 (oo : MS ⊕ MS) (k5 : MS → Int32 → Prop) (U27 : MS) (t27_0 : Int32) (v27_1 : Int32) : Prop := (((0 : Int) ≤ v27_1.toInt ∧ v27_1.toInt < 48) ∧ ((∃ (S10 : MS), v_must U27 t27_0 (12 : Int32) (qI U27 9 v27_1.toInt.toNat) (.inl S10) ∧ (∃ a12 : Int32, a12 = (v27_1 + Int32.ofInt 1) ∧ (k5 S10 a12))) ∨ (∃ u9 : MS, v_must U27 t27_0 (12 : Int32) (qI U27 9 v27_1.toInt.toNat) (.inr u9) ∧ (oo = .inr u9))))
def v_codes_L5 (oo : MS ⊕ MS) : Nat → MS → Int32 → Prop
  | 0, _, _ => False
  | n5 + 1, U5, v5_1 => (((qI U5 0 21).toInt ≤ v5_1.toInt ∧ (oo = .inl U5)) ∨ (¬ (qI U5 0 21).toInt ≤ v5_1.toInt ∧ (∃ (r4 : Int32) (S5 : MS), v_codeOf U5 v5_1 r4 S5 ∧ ((r4.toInt < 0 ∧ (v_codes_J27 oo (v_codes_L5 oo n5) S5 0 v5_1)) ∨ (¬ r4.toInt < 0 ∧ (v_codes_J27 oo (v_codes_L5 oo n5) S5 1 v5_1))))))
def v_codes (S : MS) (oo : MS ⊕ MS) : Prop := (∃ a1 : Int32, a1 = (qI S 0 22) ∧ (∃ n, v_codes_L5 oo n S a1))
set_option maxRecDepth 100000 in
theorem ru_codes_J27 {ι : Type} {P : MS ⊕ MS → Prop} {Q : MS → Prop} {E : MS → Prop} {k5 : MS → Int32 → Prop} {k5v : ι → MS ⊕ MS → MS → Int32 → Prop} {U27 : MS} {t27_0 : Int32} {v27_1 : Int32} (i0 : ι) (hk5 : ∀ (u : MS) (z0 : Int32), k5 u z0 → (∀ (i : ι) (oo : MS ⊕ MS), k5v i oo u z0 → P oo) → ∃ oo, P oo ∧ oV Q E oo) (K : ∀ (i : ι) (oo : MS ⊕ MS), v_codes_J27 oo (k5v i oo) U27 t27_0 v27_1 → P oo) (h : w_codes_J27 Q E k5 U27 t27_0 v27_1) : ∃ oo, P oo ∧ oV Q E oo := by
  unfold w_codes_J27 at h
  obtain ⟨g1_, h⟩ := h
  replace K := fun i oo z => K i oo ⟨g1_, z⟩
  obtain ⟨Q9, E9, h0, h⟩ := h
  obtain ⟨o9, z9, g9⟩ := ru_must h0
  rcases o9 with S10 | u9
  · replace h := h.1 S10 g9
    replace K := fun i oo z => K i oo (Or.inl ⟨S10, z9, z⟩)
    obtain ⟨a12, ea12⟩ : ∃ x9 : Int32, x9 = (v27_1 + Int32.ofInt 1) := ⟨_, rfl⟩
    replace h := h a12 ea12
    replace K := fun i oo z => K i oo ⟨a12, ea12, z⟩
    exact hk5 _ _ h K
  · replace h := h.2 u9 g9
    replace K := fun i oo z => K i oo (Or.inr ⟨u9, z9, z⟩)
    exact ⟨.inr u9, K i0 _ rfl, h⟩
set_option maxRecDepth 100000 in
theorem ru_codes_L5 {ι : Type} {P : MS ⊕ MS → Prop} {Q : MS → Prop} {E : MS → Prop} : ∀ (n : Nat) {U5 : MS} {v5_1 : Int32} (i0 : ι), (∀ (i : ι) (oo : MS ⊕ MS), (∃ n8, v_codes_L5 oo n8 U5 v5_1) → P oo) → w_codes_L5 Q E n U5 v5_1 → ∃ oo, P oo ∧ oV Q E oo := by
  intro n
  induction n with
  | zero => intro U5 v5_1 i0 K h; unfold w_codes_L5 at h; exact h.elim
  | succ n ih =>
    intro U5 v5_1 i0 K h
    unfold w_codes_L5 at h
    replace K := fun (i : ι × Nat) oo (z : v_codes_L5 oo (i.2 + 1) U5 v5_1) => K i.1 oo ⟨i.2 + 1, z⟩
    have i00 := i0
    replace i0 : ι × Nat := (i0, 0)
    by_cases c : (qI U5 0 21).toInt ≤ v5_1.toInt
    · replace h := h.1 c
      replace K := fun i oo z => K i oo (Or.inl ⟨c, z⟩)
      exact ⟨.inl _, K i0 _ rfl, h⟩
    · replace h := h.2 c
      replace K := fun i oo z => K i oo (Or.inr ⟨c, z⟩)
      obtain ⟨Q9, h0, h⟩ := h
      obtain ⟨r4, S5, z9, g9⟩ := ru_codeOf h0
      replace h := h r4 S5 g9
      replace K := fun i oo z => K i oo ⟨r4, S5, z9, z⟩
      by_cases c : r4.toInt < 0
      · replace h := h.1 c
        replace K := fun i oo z => K i oo (Or.inl ⟨c, z⟩)
        exact ru_codes_J27 i0 (fun _ _ h K => ih i00 (fun i oo ⟨n8, z⟩ => K (i, n8) oo z) h) K h
      · replace h := h.2 c
        replace K := fun i oo z => K i oo (Or.inr ⟨c, z⟩)
        exact ru_codes_J27 i0 (fun _ _ h K => ih i00 (fun i oo ⟨n8, z⟩ => K (i, n8) oo z) h) K h
set_option maxRecDepth 100000 in
theorem ru_codes {S : MS} {Q : MS → Prop} {E : MS → Prop} (h : w_codes S Q E) : ∃ oo, v_codes S oo ∧ oV Q E oo := by
  have i0 : Unit := ()
  have K : ∀ (i : Unit) (oo : MS ⊕ MS), v_codes S oo → v_codes S oo := fun _ _ z => z
  unfold w_codes at h
  obtain ⟨a1, ea1⟩ : ∃ x9 : Int32, x9 = (qI S 0 22) := ⟨_, rfl⟩
  replace h := h a1 ea1
  replace K := fun i oo z => K i oo ⟨a1, ea1, z⟩
  obtain ⟨n9, h⟩ := h
  exact ru_codes_L5 n9 i0 K h
set_option maxRecDepth 100000 in
theorem vw_codes_J27 {oo : MS ⊕ MS} {k5 k5v : MS → Int32 → Prop} {U27 : MS} {t27_0 : Int32} {v27_1 : Int32} (hk5 : ∀ (u : MS) (z0 : Int32), k5v u z0 → k5 u z0) (h : v_codes_J27 oo k5v U27 t27_0 v27_1) : w_codes_J27 (fun u => oo = .inl u) (fun u => oo = .inr u) k5 U27 t27_0 v27_1 := by
  unfold v_codes_J27 at h
  unfold w_codes_J27
  obtain ⟨g9, h⟩ := h
  refine ⟨g9, ?_⟩
  rcases h with ⟨q9, z9, h⟩ | ⟨q9, z9, h⟩
  · refine ⟨_, _, vw_must z9, ?_, ?_⟩
    · intro q8 d9
      injection d9 with d9
      subst d9
      obtain ⟨v9, e9, h⟩ := h
      intro x9 d9
      have c9 : v9 = x9 := e9.trans d9.symm
      subst c9
      exact hk5 _ _ h
    · intro q8 d9
      exact nomatch d9
  · refine ⟨_, _, vw_must z9, ?_, ?_⟩
    · intro q8 d9
      exact nomatch d9
    · intro q8 d9
      injection d9 with d9
      subst d9
      exact h
set_option maxRecDepth 100000 in
theorem vz_codes_J27 {oo : MS ⊕ MS} {Q : MS → Prop} {E : MS → Prop} {k5 k5v : MS → Int32 → Prop} {U27 : MS} {t27_0 : Int32} {v27_1 : Int32} (hk5 : ∀ (u : MS) (z0 : Int32), k5v u z0 → k5 u z0 → oV Q E oo) (h : v_codes_J27 oo k5v U27 t27_0 v27_1) (w : w_codes_J27 Q E k5 U27 t27_0 v27_1) : oV Q E oo := by
  unfold v_codes_J27 at h
  unfold w_codes_J27 at w
  replace h := h.2
  replace w := w.2
  obtain ⟨Q9, E9, w0, w⟩ := w
  rcases h with ⟨q9, z9, h⟩ | ⟨q9, z9, h⟩
  · replace w := w.1 q9 (vz_must z9 w0)
    obtain ⟨v9, e9, h⟩ := h
    replace w := w v9 e9
    exact hk5 _ _ h w
  · replace w := w.2 q9 (vz_must z9 w0)
    rw [h]
    exact w
set_option maxRecDepth 100000 in
theorem vw_codes_L5 {oo : MS ⊕ MS} : ∀ (n : Nat) {U5 : MS} {v5_1 : Int32}, v_codes_L5 oo n U5 v5_1 → w_codes_L5 (fun u => oo = .inl u) (fun u => oo = .inr u) n U5 v5_1 := by
  intro n
  induction n with
  | zero => intro U5 v5_1 h; unfold v_codes_L5 at h; exact h.elim
  | succ n ih =>
    intro U5 v5_1 h
    unfold v_codes_L5 at h
    unfold w_codes_L5
    rcases h with ⟨c, h⟩ | ⟨c, h⟩
    · refine ⟨fun _ => ?_, fun c2 => absurd c c2⟩
      exact h
    · refine ⟨fun c2 => absurd c2 c, fun _ => ?_⟩
      obtain ⟨p9, q9, z9, h⟩ := h
      refine ⟨_, vw_codeOf z9, ?_⟩
      rintro p8 q8 ⟨d8, d9⟩
      subst d8
      subst d9
      rcases h with ⟨c, h⟩ | ⟨c, h⟩
      · refine ⟨fun _ => ?_, fun c2 => absurd c c2⟩
        exact vw_codes_J27 (fun _ _ h => ih h) h
      · refine ⟨fun c2 => absurd c2 c, fun _ => ?_⟩
        exact vw_codes_J27 (fun _ _ h => ih h) h
set_option maxRecDepth 100000 in
theorem vz_codes_L5 {oo : MS ⊕ MS} {Q : MS → Prop} {E : MS → Prop} : ∀ (n m : Nat) {U5 : MS} {v5_1 : Int32}, v_codes_L5 oo n U5 v5_1 → w_codes_L5 Q E m U5 v5_1 → oV Q E oo := by
  intro n
  induction n with
  | zero => intro m U5 v5_1 h; unfold v_codes_L5 at h; exact h.elim
  | succ n ih =>
    intro m U5 v5_1 h w
    cases m with
    | zero => unfold w_codes_L5 at w; exact w.elim
    | succ m =>
      unfold v_codes_L5 at h
      unfold w_codes_L5 at w
      rcases h with ⟨c, h⟩ | ⟨c, h⟩
      · replace w := w.1 c
        rw [h]
        exact w
      · replace w := w.2 c
        obtain ⟨p9, q9, z9, h⟩ := h
        obtain ⟨Q9, w0, w⟩ := w
        replace w := w p9 q9 (vz_codeOf z9 w0)
        rcases h with ⟨c, h⟩ | ⟨c, h⟩
        · replace w := w.1 c
          exact vz_codes_J27 (fun _ _ h w => ih m h w) h w
        · replace w := w.2 c
          exact vz_codes_J27 (fun _ _ h w => ih m h w) h w
set_option maxRecDepth 100000 in
theorem vw_codes {S : MS} {oo : MS ⊕ MS} (h : v_codes S oo) : w_codes S (fun u => oo = .inl u) (fun u => oo = .inr u) := by
  unfold v_codes at h
  unfold w_codes
  obtain ⟨v9, e9, h⟩ := h
  intro x9 d9
  have c9 : v9 = x9 := e9.trans d9.symm
  subst c9
  obtain ⟨n9, h⟩ := h
  exact ⟨n9, vw_codes_L5 n9 h⟩
set_option maxRecDepth 100000 in
theorem vz_codes {S : MS} {oo : MS ⊕ MS} {Q : MS → Prop} {E : MS → Prop} (h : v_codes S oo) (w : w_codes S Q E) : oV Q E oo := by
  unfold v_codes at h
  unfold w_codes at w
  obtain ⟨v9, e9, h⟩ := h
  replace w := w v9 e9
  obtain ⟨n9, h⟩ := h
  obtain ⟨n8, w⟩ := w
  exact vz_codes_L5 n9 n8 h w
def v_collect_J183 (oo : MS ⊕ MS) (k149 : MS → Nat → Int32 → Int32 → Prop) (U183 : MS) (v183_1 : Nat) (v183_4 : Int32) (v183_5 : Int32) : Prop := (∃ a49 : Int32, a49 = (v183_5 + Int32.ofInt 1) ∧ (k149 U183 v183_1 v183_4 a49))
def v_collect_L149 (oo : MS ⊕ MS) (k81 : MS → Nat → Int32 → Prop) : Nat → MS → Nat → Int32 → Int32 → Prop
  | 0, _, _, _, _ => False
  | n149 + 1, U149, v149_1, v149_4, v149_5 => (((qI U149 0 54).toInt ≤ v149_5.toInt ∧ (∃ a45 : Int32, a45 = (v149_4 + Int32.ofInt 1) ∧ (k81 U149 v149_1 a45))) ∨ (¬ (qI U149 0 54).toInt ≤ v149_5.toInt ∧ (d_catchWord U149 v149_5 (3 : Int32) ∧ (((f_catchWord U149 v149_5 (3 : Int32)).toInt < 0 ∧ (v_collect_J183 oo (v_collect_L149 oo k81 n149) U149 v149_1 v149_4 v149_5)) ∨ (¬ (f_catchWord U149 v149_5 (3 : Int32)).toInt < 0 ∧ (d_catchWord U149 v149_5 (3 : Int32) ∧ (d_errorName U149 (f_catchWord U149 v149_5 (3 : Int32)) ∧ ((∃ (r58 : Int32) (S59 : MS), v_classNumber U149 (f_errorName U149 (f_catchWord U149 v149_5 (3 : Int32))) (.inl (r58, S59)) ∧ (v_collect_J183 oo (v_collect_L149 oo k81 n149) S59 v149_1 v149_4 v149_5)) ∨ (∃ u9 : MS, v_classNumber U149 (f_errorName U149 (f_catchWord U149 v149_5 (3 : Int32))) (.inr u9) ∧ (oo = .inr u9))))))))))
def v_collect_L124 (oo : MS ⊕ MS) (k81 : MS → Nat → Int32 → Prop) : Nat → MS → Nat → Int32 → Int32 → Prop
  | 0, _, _, _, _ => False
  | n124 + 1, U124, v124_1, v124_4, v124_5 => (((qI U124 0 52).toInt ≤ v124_5.toInt ∧ (∃ n, v_collect_L149 oo k81 n U124 v124_1 v124_4 0)) ∨ (¬ (qI U124 0 52).toInt ≤ v124_5.toInt ∧ ((∃ (r62 : Int32) (S63 : MS), v_needOf U124 v124_5 (.inl (r62, S63)) ∧ (∃ a65 : Int32, a65 = (v124_5 + Int32.ofInt 1) ∧ ((v_collect_L124 oo k81 n124) S63 v124_1 v124_4 a65))) ∨ (∃ u9 : MS, v_needOf U124 v124_5 (.inr u9) ∧ (oo = .inr u9)))))
def v_collect_L81 (oo : MS ⊕ MS) : Nat → MS → Nat → Int32 → Prop
  | 0, _, _, _ => False
  | n81 + 1, U81, v81_1, v81_4 => (((qI U81 v81_1 4).toInt ≤ v81_4.toInt ∧ (oo = .inl U81)) ∨ (¬ (qI U81 v81_1 4).toInt ≤ v81_4.toInt ∧ ((qR U81 v81_1 8 = some (qO U81 v81_1 8)) ∧ (((0 : Int) ≤ v81_4.toInt ∧ v81_4.toInt < (qN U81 (qO U81 v81_1 8) : Int)) ∧ ((qR U81 (qO U81 v81_1 8) v81_4.toInt.toNat = some (qO U81 (qO U81 v81_1 8) v81_4.toInt.toNat)) ∧ ((∃ (r28 : Int32) (S29 : MS), v_nameNumber U81 (qO U81 (qO U81 v81_1 8) v81_4.toInt.toNat) (.inl (r28, S29)) ∧ ((qR S29 v81_1 9 = some (qO S29 v81_1 9)) ∧ (((0 : Int) ≤ v81_4.toInt ∧ v81_4.toInt < (qN S29 (qO S29 v81_1 9) : Int)) ∧ ((qR S29 (qO S29 v81_1 9) v81_4.toInt.toNat = some (qO S29 (qO S29 v81_1 9) v81_4.toInt.toNat)) ∧ ((∃ (r37 : Int32) (S38 : MS), v_nameNumber S29 (qO S29 (qO S29 v81_1 9) v81_4.toInt.toNat) (.inl (r37, S38)) ∧ (∃ (S41 : MS), v_look S38 v81_1 v81_4 S41 ∧ (∃ n, v_collect_L124 oo (v_collect_L81 oo n81) n S41 v81_1 v81_4 0))) ∨ (∃ u9 : MS, v_nameNumber S29 (qO S29 (qO S29 v81_1 9) v81_4.toInt.toNat) (.inr u9) ∧ (oo = .inr u9))))))) ∨ (∃ u9 : MS, v_nameNumber U81 (qO U81 (qO U81 v81_1 8) v81_4.toInt.toNat) (.inr u9) ∧ (oo = .inr u9))))))))
def v_collect_L39 (oo : MS ⊕ MS) : Nat → MS → Nat → Int32 → Prop
  | 0, _, _, _ => False
  | n39 + 1, U39, v39_1, v39_4 => (((qI U39 v39_1 3).toInt ≤ v39_4.toInt ∧ (∃ n, v_collect_L81 oo n U39 v39_1 0)) ∨ (¬ (qI U39 v39_1 3).toInt ≤ v39_4.toInt ∧ ((qR U39 v39_1 5 = some (qO U39 v39_1 5)) ∧ (((0 : Int) ≤ v39_4.toInt ∧ v39_4.toInt < (qN U39 (qO U39 v39_1 5) : Int)) ∧ ((qR U39 (qO U39 v39_1 5) v39_4.toInt.toNat = some (qO U39 (qO U39 v39_1 5) v39_4.toInt.toNat)) ∧ ((∃ (r72 : Int32) (S73 : MS), v_nameNumber U39 (qO U39 (qO U39 v39_1 5) v39_4.toInt.toNat) (.inl (r72, S73)) ∧ ((qR S73 v39_1 6 = some (qO S73 v39_1 6)) ∧ (((0 : Int) ≤ v39_4.toInt ∧ v39_4.toInt < (qN S73 (qO S73 v39_1 6) : Int)) ∧ ((qR S73 (qO S73 v39_1 6) v39_4.toInt.toNat = some (qO S73 (qO S73 v39_1 6) v39_4.toInt.toNat)) ∧ ((∃ (r81 : Int32) (S82 : MS), v_nameNumber S73 (qO S73 (qO S73 v39_1 6) v39_4.toInt.toNat) (.inl (r81, S82)) ∧ (∃ a84 : Int32, a84 = (v39_4 + Int32.ofInt 1) ∧ ((v_collect_L39 oo n39) S82 v39_1 a84))) ∨ (∃ u9 : MS, v_nameNumber S73 (qO S73 (qO S73 v39_1 6) v39_4.toInt.toNat) (.inr u9) ∧ (oo = .inr u9))))))) ∨ (∃ u9 : MS, v_nameNumber U39 (qO U39 (qO U39 v39_1 5) v39_4.toInt.toNat) (.inr u9) ∧ (oo = .inr u9))))))))
def v_collect (S : MS) (p1 : Nat) (oo : MS ⊕ MS) : Prop := (∃ S1 : MS, S1 = wI S 0 73 0 ∧ (∃ S2 : MS, S2 = wI S1 0 74 1 ∧ ((∃ (r5 : Int32) (S6 : MS), v_nameNumber S2 10000000 (.inl (r5, S6)) ∧ ((qR S6 p1 0 = some (qO S6 p1 0)) ∧ ((∃ (r11 : Int32) (S12 : MS), v_classNumber S6 (qO S6 p1 0) (.inl (r11, S12)) ∧ ((qR S12 p1 1 = some (qO S12 p1 1)) ∧ ((∃ (r17 : Int32) (S18 : MS), v_classNumber S12 (qO S12 p1 1) (.inl (r17, S18)) ∧ (∃ n, v_collect_L39 oo n S18 p1 0)) ∨ (∃ u9 : MS, v_classNumber S12 (qO S12 p1 1) (.inr u9) ∧ (oo = .inr u9))))) ∨ (∃ u9 : MS, v_classNumber S6 (qO S6 p1 0) (.inr u9) ∧ (oo = .inr u9))))) ∨ (∃ u9 : MS, v_nameNumber S2 10000000 (.inr u9) ∧ (oo = .inr u9)))))
set_option maxRecDepth 100000 in
theorem ru_collect_J183 {ι : Type} {P : MS ⊕ MS → Prop} {Q : MS → Prop} {E : MS → Prop} {k149 : MS → Nat → Int32 → Int32 → Prop} {k149v : ι → MS ⊕ MS → MS → Nat → Int32 → Int32 → Prop} {U183 : MS} {v183_1 : Nat} {v183_4 : Int32} {v183_5 : Int32} (i0 : ι) (hk149 : ∀ (u : MS) (z0 : Nat) (z1 : Int32) (z2 : Int32), k149 u z0 z1 z2 → (∀ (i : ι) (oo : MS ⊕ MS), k149v i oo u z0 z1 z2 → P oo) → ∃ oo, P oo ∧ oV Q E oo) (K : ∀ (i : ι) (oo : MS ⊕ MS), v_collect_J183 oo (k149v i oo) U183 v183_1 v183_4 v183_5 → P oo) (h : w_collect_J183 Q E k149 U183 v183_1 v183_4 v183_5) : ∃ oo, P oo ∧ oV Q E oo := by
  unfold w_collect_J183 at h
  obtain ⟨a49, ea49⟩ : ∃ x9 : Int32, x9 = (v183_5 + Int32.ofInt 1) := ⟨_, rfl⟩
  replace h := h a49 ea49
  replace K := fun i oo z => K i oo ⟨a49, ea49, z⟩
  exact hk149 _ _ _ _ h K
set_option maxRecDepth 100000 in
theorem ru_collect_L149 {ι : Type} {P : MS ⊕ MS → Prop} {Q : MS → Prop} {E : MS → Prop} {k81 : MS → Nat → Int32 → Prop} {k81v : ι → MS ⊕ MS → MS → Nat → Int32 → Prop} : ∀ (n : Nat) {U149 : MS} {v149_1 : Nat} {v149_4 : Int32} {v149_5 : Int32} (i0 : ι) (hk81 : ∀ (u : MS) (z0 : Nat) (z1 : Int32), k81 u z0 z1 → (∀ (i : ι) (oo : MS ⊕ MS), k81v i oo u z0 z1 → P oo) → ∃ oo, P oo ∧ oV Q E oo), (∀ (i : ι) (oo : MS ⊕ MS), (∃ n8, v_collect_L149 oo (k81v i oo) n8 U149 v149_1 v149_4 v149_5) → P oo) → w_collect_L149 Q E k81 n U149 v149_1 v149_4 v149_5 → ∃ oo, P oo ∧ oV Q E oo := by
  intro n
  induction n with
  | zero => intro U149 v149_1 v149_4 v149_5 i0 hk81 K h; unfold w_collect_L149 at h; exact h.elim
  | succ n ih =>
    intro U149 v149_1 v149_4 v149_5 i0 hk81 K h
    unfold w_collect_L149 at h
    replace K := fun (i : ι × Nat) oo (z : v_collect_L149 oo (k81v i.1 oo) (i.2 + 1) U149 v149_1 v149_4 v149_5) => K i.1 oo ⟨i.2 + 1, z⟩
    have i00 := i0
    replace i0 : ι × Nat := (i0, 0)
    by_cases c : (qI U149 0 54).toInt ≤ v149_5.toInt
    · replace h := h.1 c
      replace K := fun i oo z => K i oo (Or.inl ⟨c, z⟩)
      obtain ⟨a45, ea45⟩ : ∃ x9 : Int32, x9 = (v149_4 + Int32.ofInt 1) := ⟨_, rfl⟩
      replace h := h a45 ea45
      replace K := fun i oo z => K i oo ⟨a45, ea45, z⟩
      exact hk81 _ _ _ h (fun i oo z => K (i, 0) oo z)
    · replace h := h.2 c
      replace K := fun i oo z => K i oo (Or.inr ⟨c, z⟩)
      obtain ⟨g1_, h⟩ := h
      replace K := fun i oo z => K i oo ⟨g1_, z⟩
      by_cases c : (f_catchWord U149 v149_5 (3 : Int32)).toInt < 0
      · replace h := h.1 c
        replace K := fun i oo z => K i oo (Or.inl ⟨c, z⟩)
        exact ru_collect_J183 i0 (fun _ _ _ _ h K => ih i00 hk81 (fun i oo ⟨n8, z⟩ => K (i, n8) oo z) h) K h
      · replace h := h.2 c
        replace K := fun i oo z => K i oo (Or.inr ⟨c, z⟩)
        obtain ⟨g2_, h⟩ := h
        replace K := fun i oo z => K i oo ⟨g2_, z⟩
        obtain ⟨g3_, h⟩ := h
        replace K := fun i oo z => K i oo ⟨g3_, z⟩
        obtain ⟨Q9, E9, h0, h⟩ := h
        obtain ⟨o9, z9, g9⟩ := ru_classNumber h0
        rcases o9 with ⟨r58, S59⟩ | u9
        · replace h := h.1 r58 S59 g9
          replace K := fun i oo z => K i oo (Or.inl ⟨r58, S59, z9, z⟩)
          exact ru_collect_J183 i0 (fun _ _ _ _ h K => ih i00 hk81 (fun i oo ⟨n8, z⟩ => K (i, n8) oo z) h) K h
        · replace h := h.2 u9 g9
          replace K := fun i oo z => K i oo (Or.inr ⟨u9, z9, z⟩)
          exact ⟨.inr u9, K i0 _ rfl, h⟩
set_option maxRecDepth 100000 in
theorem ru_collect_L124 {ι : Type} {P : MS ⊕ MS → Prop} {Q : MS → Prop} {E : MS → Prop} {k81 : MS → Nat → Int32 → Prop} {k81v : ι → MS ⊕ MS → MS → Nat → Int32 → Prop} : ∀ (n : Nat) {U124 : MS} {v124_1 : Nat} {v124_4 : Int32} {v124_5 : Int32} (i0 : ι) (hk81 : ∀ (u : MS) (z0 : Nat) (z1 : Int32), k81 u z0 z1 → (∀ (i : ι) (oo : MS ⊕ MS), k81v i oo u z0 z1 → P oo) → ∃ oo, P oo ∧ oV Q E oo), (∀ (i : ι) (oo : MS ⊕ MS), (∃ n8, v_collect_L124 oo (k81v i oo) n8 U124 v124_1 v124_4 v124_5) → P oo) → w_collect_L124 Q E k81 n U124 v124_1 v124_4 v124_5 → ∃ oo, P oo ∧ oV Q E oo := by
  intro n
  induction n with
  | zero => intro U124 v124_1 v124_4 v124_5 i0 hk81 K h; unfold w_collect_L124 at h; exact h.elim
  | succ n ih =>
    intro U124 v124_1 v124_4 v124_5 i0 hk81 K h
    unfold w_collect_L124 at h
    replace K := fun (i : ι × Nat) oo (z : v_collect_L124 oo (k81v i.1 oo) (i.2 + 1) U124 v124_1 v124_4 v124_5) => K i.1 oo ⟨i.2 + 1, z⟩
    have i00 := i0
    replace i0 : ι × Nat := (i0, 0)
    by_cases c : (qI U124 0 52).toInt ≤ v124_5.toInt
    · replace h := h.1 c
      replace K := fun i oo z => K i oo (Or.inl ⟨c, z⟩)
      obtain ⟨n9, h⟩ := h
      exact ru_collect_L149 n9 i0 (fun _ _ _ h K => hk81 _ _ _ h (fun i oo z => K (i, 0) oo z)) K h
    · replace h := h.2 c
      replace K := fun i oo z => K i oo (Or.inr ⟨c, z⟩)
      obtain ⟨Q9, E9, h0, h⟩ := h
      obtain ⟨o9, z9, g9⟩ := ru_needOf h0
      rcases o9 with ⟨r62, S63⟩ | u9
      · replace h := h.1 r62 S63 g9
        replace K := fun i oo z => K i oo (Or.inl ⟨r62, S63, z9, z⟩)
        obtain ⟨a65, ea65⟩ : ∃ x9 : Int32, x9 = (v124_5 + Int32.ofInt 1) := ⟨_, rfl⟩
        replace h := h a65 ea65
        replace K := fun i oo z => K i oo ⟨a65, ea65, z⟩
        exact ih i00 hk81 (fun i oo ⟨n8, z⟩ => K (i, n8) oo z) h
      · replace h := h.2 u9 g9
        replace K := fun i oo z => K i oo (Or.inr ⟨u9, z9, z⟩)
        exact ⟨.inr u9, K i0 _ rfl, h⟩
set_option maxRecDepth 100000 in
theorem ru_collect_L81 {ι : Type} {P : MS ⊕ MS → Prop} {Q : MS → Prop} {E : MS → Prop} : ∀ (n : Nat) {U81 : MS} {v81_1 : Nat} {v81_4 : Int32} (i0 : ι), (∀ (i : ι) (oo : MS ⊕ MS), (∃ n8, v_collect_L81 oo n8 U81 v81_1 v81_4) → P oo) → w_collect_L81 Q E n U81 v81_1 v81_4 → ∃ oo, P oo ∧ oV Q E oo := by
  intro n
  induction n with
  | zero => intro U81 v81_1 v81_4 i0 K h; unfold w_collect_L81 at h; exact h.elim
  | succ n ih =>
    intro U81 v81_1 v81_4 i0 K h
    unfold w_collect_L81 at h
    replace K := fun (i : ι × Nat) oo (z : v_collect_L81 oo (i.2 + 1) U81 v81_1 v81_4) => K i.1 oo ⟨i.2 + 1, z⟩
    have i00 := i0
    replace i0 : ι × Nat := (i0, 0)
    by_cases c : (qI U81 v81_1 4).toInt ≤ v81_4.toInt
    · replace h := h.1 c
      replace K := fun i oo z => K i oo (Or.inl ⟨c, z⟩)
      exact ⟨.inl _, K i0 _ rfl, h⟩
    · replace h := h.2 c
      replace K := fun i oo z => K i oo (Or.inr ⟨c, z⟩)
      obtain ⟨g4_, h⟩ := h
      replace K := fun i oo z => K i oo ⟨g4_, z⟩
      obtain ⟨g5_, h⟩ := h
      replace K := fun i oo z => K i oo ⟨g5_, z⟩
      obtain ⟨g6_, h⟩ := h
      replace K := fun i oo z => K i oo ⟨g6_, z⟩
      obtain ⟨Q9, E9, h0, h⟩ := h
      obtain ⟨o9, z9, g9⟩ := ru_nameNumber h0
      rcases o9 with ⟨r28, S29⟩ | u9
      · replace h := h.1 r28 S29 g9
        replace K := fun i oo z => K i oo (Or.inl ⟨r28, S29, z9, z⟩)
        obtain ⟨g7_, h⟩ := h
        replace K := fun i oo z => K i oo ⟨g7_, z⟩
        obtain ⟨g8_, h⟩ := h
        replace K := fun i oo z => K i oo ⟨g8_, z⟩
        obtain ⟨g9_, h⟩ := h
        replace K := fun i oo z => K i oo ⟨g9_, z⟩
        obtain ⟨Q9, E9, h0, h⟩ := h
        obtain ⟨o9, z9, g9⟩ := ru_nameNumber h0
        rcases o9 with ⟨r37, S38⟩ | u9
        · replace h := h.1 r37 S38 g9
          replace K := fun i oo z => K i oo (Or.inl ⟨r37, S38, z9, z⟩)
          obtain ⟨Q9, h0, h⟩ := h
          obtain ⟨S41, z9, g9⟩ := ru_look h0
          replace h := h S41 g9
          replace K := fun i oo z => K i oo ⟨S41, z9, z⟩
          obtain ⟨n9, h⟩ := h
          exact ru_collect_L124 n9 i0 (fun _ _ _ h K => ih i00 (fun i oo ⟨n8, z⟩ => K (i, n8) oo z) h) K h
        · replace h := h.2 u9 g9
          replace K := fun i oo z => K i oo (Or.inr ⟨u9, z9, z⟩)
          exact ⟨.inr u9, K i0 _ rfl, h⟩
      · replace h := h.2 u9 g9
        replace K := fun i oo z => K i oo (Or.inr ⟨u9, z9, z⟩)
        exact ⟨.inr u9, K i0 _ rfl, h⟩
set_option maxRecDepth 100000 in
theorem ru_collect_L39 {ι : Type} {P : MS ⊕ MS → Prop} {Q : MS → Prop} {E : MS → Prop} : ∀ (n : Nat) {U39 : MS} {v39_1 : Nat} {v39_4 : Int32} (i0 : ι), (∀ (i : ι) (oo : MS ⊕ MS), (∃ n8, v_collect_L39 oo n8 U39 v39_1 v39_4) → P oo) → w_collect_L39 Q E n U39 v39_1 v39_4 → ∃ oo, P oo ∧ oV Q E oo := by
  intro n
  induction n with
  | zero => intro U39 v39_1 v39_4 i0 K h; unfold w_collect_L39 at h; exact h.elim
  | succ n ih =>
    intro U39 v39_1 v39_4 i0 K h
    unfold w_collect_L39 at h
    replace K := fun (i : ι × Nat) oo (z : v_collect_L39 oo (i.2 + 1) U39 v39_1 v39_4) => K i.1 oo ⟨i.2 + 1, z⟩
    have i00 := i0
    replace i0 : ι × Nat := (i0, 0)
    by_cases c : (qI U39 v39_1 3).toInt ≤ v39_4.toInt
    · replace h := h.1 c
      replace K := fun i oo z => K i oo (Or.inl ⟨c, z⟩)
      obtain ⟨n9, h⟩ := h
      exact ru_collect_L81 n9 i0 K h
    · replace h := h.2 c
      replace K := fun i oo z => K i oo (Or.inr ⟨c, z⟩)
      obtain ⟨g10_, h⟩ := h
      replace K := fun i oo z => K i oo ⟨g10_, z⟩
      obtain ⟨g11_, h⟩ := h
      replace K := fun i oo z => K i oo ⟨g11_, z⟩
      obtain ⟨g12_, h⟩ := h
      replace K := fun i oo z => K i oo ⟨g12_, z⟩
      obtain ⟨Q9, E9, h0, h⟩ := h
      obtain ⟨o9, z9, g9⟩ := ru_nameNumber h0
      rcases o9 with ⟨r72, S73⟩ | u9
      · replace h := h.1 r72 S73 g9
        replace K := fun i oo z => K i oo (Or.inl ⟨r72, S73, z9, z⟩)
        obtain ⟨g13_, h⟩ := h
        replace K := fun i oo z => K i oo ⟨g13_, z⟩
        obtain ⟨g14_, h⟩ := h
        replace K := fun i oo z => K i oo ⟨g14_, z⟩
        obtain ⟨g15_, h⟩ := h
        replace K := fun i oo z => K i oo ⟨g15_, z⟩
        obtain ⟨Q9, E9, h0, h⟩ := h
        obtain ⟨o9, z9, g9⟩ := ru_nameNumber h0
        rcases o9 with ⟨r81, S82⟩ | u9
        · replace h := h.1 r81 S82 g9
          replace K := fun i oo z => K i oo (Or.inl ⟨r81, S82, z9, z⟩)
          obtain ⟨a84, ea84⟩ : ∃ x9 : Int32, x9 = (v39_4 + Int32.ofInt 1) := ⟨_, rfl⟩
          replace h := h a84 ea84
          replace K := fun i oo z => K i oo ⟨a84, ea84, z⟩
          exact ih i00 (fun i oo ⟨n8, z⟩ => K (i, n8) oo z) h
        · replace h := h.2 u9 g9
          replace K := fun i oo z => K i oo (Or.inr ⟨u9, z9, z⟩)
          exact ⟨.inr u9, K i0 _ rfl, h⟩
      · replace h := h.2 u9 g9
        replace K := fun i oo z => K i oo (Or.inr ⟨u9, z9, z⟩)
        exact ⟨.inr u9, K i0 _ rfl, h⟩
set_option maxRecDepth 100000 in
theorem ru_collect {S : MS} {p1 : Nat} {Q : MS → Prop} {E : MS → Prop} (h : w_collect S p1 Q E) : ∃ oo, v_collect S p1 oo ∧ oV Q E oo := by
  have i0 : Unit := ()
  have K : ∀ (i : Unit) (oo : MS ⊕ MS), v_collect S p1 oo → v_collect S p1 oo := fun _ _ z => z
  unfold w_collect at h
  obtain ⟨S1, eS1⟩ : ∃ x9 : MS, x9 = wI S 0 73 0 := ⟨_, rfl⟩
  replace h := h S1 eS1
  replace K := fun i oo z => K i oo ⟨S1, eS1, z⟩
  obtain ⟨S2, eS2⟩ : ∃ x9 : MS, x9 = wI S1 0 74 1 := ⟨_, rfl⟩
  replace h := h S2 eS2
  replace K := fun i oo z => K i oo ⟨S2, eS2, z⟩
  obtain ⟨Q9, E9, h0, h⟩ := h
  obtain ⟨o9, z9, g9⟩ := ru_nameNumber h0
  rcases o9 with ⟨r5, S6⟩ | u9
  · replace h := h.1 r5 S6 g9
    replace K := fun i oo z => K i oo (Or.inl ⟨r5, S6, z9, z⟩)
    obtain ⟨g16_, h⟩ := h
    replace K := fun i oo z => K i oo ⟨g16_, z⟩
    obtain ⟨Q9, E9, h0, h⟩ := h
    obtain ⟨o9, z9, g9⟩ := ru_classNumber h0
    rcases o9 with ⟨r11, S12⟩ | u9
    · replace h := h.1 r11 S12 g9
      replace K := fun i oo z => K i oo (Or.inl ⟨r11, S12, z9, z⟩)
      obtain ⟨g17_, h⟩ := h
      replace K := fun i oo z => K i oo ⟨g17_, z⟩
      obtain ⟨Q9, E9, h0, h⟩ := h
      obtain ⟨o9, z9, g9⟩ := ru_classNumber h0
      rcases o9 with ⟨r17, S18⟩ | u9
      · replace h := h.1 r17 S18 g9
        replace K := fun i oo z => K i oo (Or.inl ⟨r17, S18, z9, z⟩)
        obtain ⟨n9, h⟩ := h
        exact ru_collect_L39 n9 i0 K h
      · replace h := h.2 u9 g9
        replace K := fun i oo z => K i oo (Or.inr ⟨u9, z9, z⟩)
        exact ⟨.inr u9, K i0 _ rfl, h⟩
    · replace h := h.2 u9 g9
      replace K := fun i oo z => K i oo (Or.inr ⟨u9, z9, z⟩)
      exact ⟨.inr u9, K i0 _ rfl, h⟩
  · replace h := h.2 u9 g9
    replace K := fun i oo z => K i oo (Or.inr ⟨u9, z9, z⟩)
    exact ⟨.inr u9, K i0 _ rfl, h⟩
set_option maxRecDepth 100000 in
theorem vw_collect_J183 {oo : MS ⊕ MS} {k149 k149v : MS → Nat → Int32 → Int32 → Prop} {U183 : MS} {v183_1 : Nat} {v183_4 : Int32} {v183_5 : Int32} (hk149 : ∀ (u : MS) (z0 : Nat) (z1 : Int32) (z2 : Int32), k149v u z0 z1 z2 → k149 u z0 z1 z2) (h : v_collect_J183 oo k149v U183 v183_1 v183_4 v183_5) : w_collect_J183 (fun u => oo = .inl u) (fun u => oo = .inr u) k149 U183 v183_1 v183_4 v183_5 := by
  unfold v_collect_J183 at h
  unfold w_collect_J183
  obtain ⟨v9, e9, h⟩ := h
  intro x9 d9
  have c9 : v9 = x9 := e9.trans d9.symm
  subst c9
  exact hk149 _ _ _ _ h
set_option maxRecDepth 100000 in
theorem vz_collect_J183 {oo : MS ⊕ MS} {Q : MS → Prop} {E : MS → Prop} {k149 k149v : MS → Nat → Int32 → Int32 → Prop} {U183 : MS} {v183_1 : Nat} {v183_4 : Int32} {v183_5 : Int32} (hk149 : ∀ (u : MS) (z0 : Nat) (z1 : Int32) (z2 : Int32), k149v u z0 z1 z2 → k149 u z0 z1 z2 → oV Q E oo) (h : v_collect_J183 oo k149v U183 v183_1 v183_4 v183_5) (w : w_collect_J183 Q E k149 U183 v183_1 v183_4 v183_5) : oV Q E oo := by
  unfold v_collect_J183 at h
  unfold w_collect_J183 at w
  obtain ⟨v9, e9, h⟩ := h
  replace w := w v9 e9
  exact hk149 _ _ _ _ h w
set_option maxRecDepth 100000 in
theorem vw_collect_L149 {oo : MS ⊕ MS} {k81 k81v : MS → Nat → Int32 → Prop} : ∀ (n : Nat) {U149 : MS} {v149_1 : Nat} {v149_4 : Int32} {v149_5 : Int32} (hk81 : ∀ (u : MS) (z0 : Nat) (z1 : Int32), k81v u z0 z1 → k81 u z0 z1), v_collect_L149 oo k81v n U149 v149_1 v149_4 v149_5 → w_collect_L149 (fun u => oo = .inl u) (fun u => oo = .inr u) k81 n U149 v149_1 v149_4 v149_5 := by
  intro n
  induction n with
  | zero => intro U149 v149_1 v149_4 v149_5 hk81 h; unfold v_collect_L149 at h; exact h.elim
  | succ n ih =>
    intro U149 v149_1 v149_4 v149_5 hk81 h
    unfold v_collect_L149 at h
    unfold w_collect_L149
    rcases h with ⟨c, h⟩ | ⟨c, h⟩
    · refine ⟨fun _ => ?_, fun c2 => absurd c c2⟩
      obtain ⟨v9, e9, h⟩ := h
      intro x9 d9
      have c9 : v9 = x9 := e9.trans d9.symm
      subst c9
      exact hk81 _ _ _ h
    · refine ⟨fun c2 => absurd c2 c, fun _ => ?_⟩
      obtain ⟨g9, h⟩ := h
      refine ⟨g9, ?_⟩
      rcases h with ⟨c, h⟩ | ⟨c, h⟩
      · refine ⟨fun _ => ?_, fun c2 => absurd c c2⟩
        exact vw_collect_J183 (fun _ _ _ _ h => ih hk81 h) h
      · refine ⟨fun c2 => absurd c2 c, fun _ => ?_⟩
        obtain ⟨g9, h⟩ := h
        refine ⟨g9, ?_⟩
        obtain ⟨g9, h⟩ := h
        refine ⟨g9, ?_⟩
        rcases h with ⟨p9, q9, z9, h⟩ | ⟨q9, z9, h⟩
        · refine ⟨_, _, vw_classNumber z9, ?_, ?_⟩
          · intro p8 q8 d9
            injection d9 with d9
            injection d9 with d8 d9
            subst d8
            subst d9
            exact vw_collect_J183 (fun _ _ _ _ h => ih hk81 h) h
          · intro q8 d9
            exact nomatch d9
        · refine ⟨_, _, vw_classNumber z9, ?_, ?_⟩
          · intro p8 q8 d9
            exact nomatch d9
          · intro q8 d9
            injection d9 with d9
            subst d9
            exact h
set_option maxRecDepth 100000 in
theorem vz_collect_L149 {oo : MS ⊕ MS} {Q : MS → Prop} {E : MS → Prop} {k81 k81v : MS → Nat → Int32 → Prop} : ∀ (n m : Nat) {U149 : MS} {v149_1 : Nat} {v149_4 : Int32} {v149_5 : Int32} (hk81 : ∀ (u : MS) (z0 : Nat) (z1 : Int32), k81v u z0 z1 → k81 u z0 z1 → oV Q E oo), v_collect_L149 oo k81v n U149 v149_1 v149_4 v149_5 → w_collect_L149 Q E k81 m U149 v149_1 v149_4 v149_5 → oV Q E oo := by
  intro n
  induction n with
  | zero => intro m U149 v149_1 v149_4 v149_5 hk81 h; unfold v_collect_L149 at h; exact h.elim
  | succ n ih =>
    intro m U149 v149_1 v149_4 v149_5 hk81 h w
    cases m with
    | zero => unfold w_collect_L149 at w; exact w.elim
    | succ m =>
      unfold v_collect_L149 at h
      unfold w_collect_L149 at w
      rcases h with ⟨c, h⟩ | ⟨c, h⟩
      · replace w := w.1 c
        obtain ⟨v9, e9, h⟩ := h
        replace w := w v9 e9
        exact hk81 _ _ _ h w
      · replace w := w.2 c
        replace h := h.2
        replace w := w.2
        rcases h with ⟨c, h⟩ | ⟨c, h⟩
        · replace w := w.1 c
          exact vz_collect_J183 (fun _ _ _ _ h w => ih m hk81 h w) h w
        · replace w := w.2 c
          replace h := h.2
          replace w := w.2
          replace h := h.2
          replace w := w.2
          obtain ⟨Q9, E9, w0, w⟩ := w
          rcases h with ⟨p9, q9, z9, h⟩ | ⟨q9, z9, h⟩
          · replace w := w.1 p9 q9 (vz_classNumber z9 w0)
            exact vz_collect_J183 (fun _ _ _ _ h w => ih m hk81 h w) h w
          · replace w := w.2 q9 (vz_classNumber z9 w0)
            rw [h]
            exact w
set_option maxRecDepth 100000 in
theorem vw_collect_L124 {oo : MS ⊕ MS} {k81 k81v : MS → Nat → Int32 → Prop} : ∀ (n : Nat) {U124 : MS} {v124_1 : Nat} {v124_4 : Int32} {v124_5 : Int32} (hk81 : ∀ (u : MS) (z0 : Nat) (z1 : Int32), k81v u z0 z1 → k81 u z0 z1), v_collect_L124 oo k81v n U124 v124_1 v124_4 v124_5 → w_collect_L124 (fun u => oo = .inl u) (fun u => oo = .inr u) k81 n U124 v124_1 v124_4 v124_5 := by
  intro n
  induction n with
  | zero => intro U124 v124_1 v124_4 v124_5 hk81 h; unfold v_collect_L124 at h; exact h.elim
  | succ n ih =>
    intro U124 v124_1 v124_4 v124_5 hk81 h
    unfold v_collect_L124 at h
    unfold w_collect_L124
    rcases h with ⟨c, h⟩ | ⟨c, h⟩
    · refine ⟨fun _ => ?_, fun c2 => absurd c c2⟩
      obtain ⟨n9, h⟩ := h
      exact ⟨n9, vw_collect_L149 n9 hk81 h⟩
    · refine ⟨fun c2 => absurd c2 c, fun _ => ?_⟩
      rcases h with ⟨p9, q9, z9, h⟩ | ⟨q9, z9, h⟩
      · refine ⟨_, _, vw_needOf z9, ?_, ?_⟩
        · intro p8 q8 d9
          injection d9 with d9
          injection d9 with d8 d9
          subst d8
          subst d9
          obtain ⟨v9, e9, h⟩ := h
          intro x9 d9
          have c9 : v9 = x9 := e9.trans d9.symm
          subst c9
          exact ih hk81 h
        · intro q8 d9
          exact nomatch d9
      · refine ⟨_, _, vw_needOf z9, ?_, ?_⟩
        · intro p8 q8 d9
          exact nomatch d9
        · intro q8 d9
          injection d9 with d9
          subst d9
          exact h
set_option maxRecDepth 100000 in
theorem vz_collect_L124 {oo : MS ⊕ MS} {Q : MS → Prop} {E : MS → Prop} {k81 k81v : MS → Nat → Int32 → Prop} : ∀ (n m : Nat) {U124 : MS} {v124_1 : Nat} {v124_4 : Int32} {v124_5 : Int32} (hk81 : ∀ (u : MS) (z0 : Nat) (z1 : Int32), k81v u z0 z1 → k81 u z0 z1 → oV Q E oo), v_collect_L124 oo k81v n U124 v124_1 v124_4 v124_5 → w_collect_L124 Q E k81 m U124 v124_1 v124_4 v124_5 → oV Q E oo := by
  intro n
  induction n with
  | zero => intro m U124 v124_1 v124_4 v124_5 hk81 h; unfold v_collect_L124 at h; exact h.elim
  | succ n ih =>
    intro m U124 v124_1 v124_4 v124_5 hk81 h w
    cases m with
    | zero => unfold w_collect_L124 at w; exact w.elim
    | succ m =>
      unfold v_collect_L124 at h
      unfold w_collect_L124 at w
      rcases h with ⟨c, h⟩ | ⟨c, h⟩
      · replace w := w.1 c
        obtain ⟨n9, h⟩ := h
        obtain ⟨n8, w⟩ := w
        exact vz_collect_L149 n9 n8 hk81 h w
      · replace w := w.2 c
        obtain ⟨Q9, E9, w0, w⟩ := w
        rcases h with ⟨p9, q9, z9, h⟩ | ⟨q9, z9, h⟩
        · replace w := w.1 p9 q9 (vz_needOf z9 w0)
          obtain ⟨v9, e9, h⟩ := h
          replace w := w v9 e9
          exact ih m hk81 h w
        · replace w := w.2 q9 (vz_needOf z9 w0)
          rw [h]
          exact w
set_option maxRecDepth 100000 in
theorem vw_collect_L81 {oo : MS ⊕ MS} : ∀ (n : Nat) {U81 : MS} {v81_1 : Nat} {v81_4 : Int32}, v_collect_L81 oo n U81 v81_1 v81_4 → w_collect_L81 (fun u => oo = .inl u) (fun u => oo = .inr u) n U81 v81_1 v81_4 := by
  intro n
  induction n with
  | zero => intro U81 v81_1 v81_4 h; unfold v_collect_L81 at h; exact h.elim
  | succ n ih =>
    intro U81 v81_1 v81_4 h
    unfold v_collect_L81 at h
    unfold w_collect_L81
    rcases h with ⟨c, h⟩ | ⟨c, h⟩
    · refine ⟨fun _ => ?_, fun c2 => absurd c c2⟩
      exact h
    · refine ⟨fun c2 => absurd c2 c, fun _ => ?_⟩
      obtain ⟨g9, h⟩ := h
      refine ⟨g9, ?_⟩
      obtain ⟨g9, h⟩ := h
      refine ⟨g9, ?_⟩
      obtain ⟨g9, h⟩ := h
      refine ⟨g9, ?_⟩
      rcases h with ⟨p9, q9, z9, h⟩ | ⟨q9, z9, h⟩
      · refine ⟨_, _, vw_nameNumber z9, ?_, ?_⟩
        · intro p8 q8 d9
          injection d9 with d9
          injection d9 with d8 d9
          subst d8
          subst d9
          obtain ⟨g9, h⟩ := h
          refine ⟨g9, ?_⟩
          obtain ⟨g9, h⟩ := h
          refine ⟨g9, ?_⟩
          obtain ⟨g9, h⟩ := h
          refine ⟨g9, ?_⟩
          rcases h with ⟨p9, q9, z9, h⟩ | ⟨q9, z9, h⟩
          · refine ⟨_, _, vw_nameNumber z9, ?_, ?_⟩
            · intro p8 q8 d9
              injection d9 with d9
              injection d9 with d8 d9
              subst d8
              subst d9
              obtain ⟨q9, z9, h⟩ := h
              refine ⟨_, vw_look z9, ?_⟩
              intro q8 d9
              subst d9
              obtain ⟨n9, h⟩ := h
              exact ⟨n9, vw_collect_L124 n9 (fun _ _ _ h => ih h) h⟩
            · intro q8 d9
              exact nomatch d9
          · refine ⟨_, _, vw_nameNumber z9, ?_, ?_⟩
            · intro p8 q8 d9
              exact nomatch d9
            · intro q8 d9
              injection d9 with d9
              subst d9
              exact h
        · intro q8 d9
          exact nomatch d9
      · refine ⟨_, _, vw_nameNumber z9, ?_, ?_⟩
        · intro p8 q8 d9
          exact nomatch d9
        · intro q8 d9
          injection d9 with d9
          subst d9
          exact h
set_option maxRecDepth 100000 in
theorem vz_collect_L81 {oo : MS ⊕ MS} {Q : MS → Prop} {E : MS → Prop} : ∀ (n m : Nat) {U81 : MS} {v81_1 : Nat} {v81_4 : Int32}, v_collect_L81 oo n U81 v81_1 v81_4 → w_collect_L81 Q E m U81 v81_1 v81_4 → oV Q E oo := by
  intro n
  induction n with
  | zero => intro m U81 v81_1 v81_4 h; unfold v_collect_L81 at h; exact h.elim
  | succ n ih =>
    intro m U81 v81_1 v81_4 h w
    cases m with
    | zero => unfold w_collect_L81 at w; exact w.elim
    | succ m =>
      unfold v_collect_L81 at h
      unfold w_collect_L81 at w
      rcases h with ⟨c, h⟩ | ⟨c, h⟩
      · replace w := w.1 c
        rw [h]
        exact w
      · replace w := w.2 c
        replace h := h.2
        replace w := w.2
        replace h := h.2
        replace w := w.2
        replace h := h.2
        replace w := w.2
        obtain ⟨Q9, E9, w0, w⟩ := w
        rcases h with ⟨p9, q9, z9, h⟩ | ⟨q9, z9, h⟩
        · replace w := w.1 p9 q9 (vz_nameNumber z9 w0)
          replace h := h.2
          replace w := w.2
          replace h := h.2
          replace w := w.2
          replace h := h.2
          replace w := w.2
          obtain ⟨Q9, E9, w0, w⟩ := w
          rcases h with ⟨p9, q9, z9, h⟩ | ⟨q9, z9, h⟩
          · replace w := w.1 p9 q9 (vz_nameNumber z9 w0)
            obtain ⟨q9, z9, h⟩ := h
            obtain ⟨Q9, w0, w⟩ := w
            replace w := w q9 (vz_look z9 w0)
            obtain ⟨n9, h⟩ := h
            obtain ⟨n8, w⟩ := w
            exact vz_collect_L124 n9 n8 (fun _ _ _ h w => ih m h w) h w
          · replace w := w.2 q9 (vz_nameNumber z9 w0)
            rw [h]
            exact w
        · replace w := w.2 q9 (vz_nameNumber z9 w0)
          rw [h]
          exact w
set_option maxRecDepth 100000 in
theorem vw_collect_L39 {oo : MS ⊕ MS} : ∀ (n : Nat) {U39 : MS} {v39_1 : Nat} {v39_4 : Int32}, v_collect_L39 oo n U39 v39_1 v39_4 → w_collect_L39 (fun u => oo = .inl u) (fun u => oo = .inr u) n U39 v39_1 v39_4 := by
  intro n
  induction n with
  | zero => intro U39 v39_1 v39_4 h; unfold v_collect_L39 at h; exact h.elim
  | succ n ih =>
    intro U39 v39_1 v39_4 h
    unfold v_collect_L39 at h
    unfold w_collect_L39
    rcases h with ⟨c, h⟩ | ⟨c, h⟩
    · refine ⟨fun _ => ?_, fun c2 => absurd c c2⟩
      obtain ⟨n9, h⟩ := h
      exact ⟨n9, vw_collect_L81 n9 h⟩
    · refine ⟨fun c2 => absurd c2 c, fun _ => ?_⟩
      obtain ⟨g9, h⟩ := h
      refine ⟨g9, ?_⟩
      obtain ⟨g9, h⟩ := h
      refine ⟨g9, ?_⟩
      obtain ⟨g9, h⟩ := h
      refine ⟨g9, ?_⟩
      rcases h with ⟨p9, q9, z9, h⟩ | ⟨q9, z9, h⟩
      · refine ⟨_, _, vw_nameNumber z9, ?_, ?_⟩
        · intro p8 q8 d9
          injection d9 with d9
          injection d9 with d8 d9
          subst d8
          subst d9
          obtain ⟨g9, h⟩ := h
          refine ⟨g9, ?_⟩
          obtain ⟨g9, h⟩ := h
          refine ⟨g9, ?_⟩
          obtain ⟨g9, h⟩ := h
          refine ⟨g9, ?_⟩
          rcases h with ⟨p9, q9, z9, h⟩ | ⟨q9, z9, h⟩
          · refine ⟨_, _, vw_nameNumber z9, ?_, ?_⟩
            · intro p8 q8 d9
              injection d9 with d9
              injection d9 with d8 d9
              subst d8
              subst d9
              obtain ⟨v9, e9, h⟩ := h
              intro x9 d9
              have c9 : v9 = x9 := e9.trans d9.symm
              subst c9
              exact ih h
            · intro q8 d9
              exact nomatch d9
          · refine ⟨_, _, vw_nameNumber z9, ?_, ?_⟩
            · intro p8 q8 d9
              exact nomatch d9
            · intro q8 d9
              injection d9 with d9
              subst d9
              exact h
        · intro q8 d9
          exact nomatch d9
      · refine ⟨_, _, vw_nameNumber z9, ?_, ?_⟩
        · intro p8 q8 d9
          exact nomatch d9
        · intro q8 d9
          injection d9 with d9
          subst d9
          exact h
set_option maxRecDepth 100000 in
theorem vz_collect_L39 {oo : MS ⊕ MS} {Q : MS → Prop} {E : MS → Prop} : ∀ (n m : Nat) {U39 : MS} {v39_1 : Nat} {v39_4 : Int32}, v_collect_L39 oo n U39 v39_1 v39_4 → w_collect_L39 Q E m U39 v39_1 v39_4 → oV Q E oo := by
  intro n
  induction n with
  | zero => intro m U39 v39_1 v39_4 h; unfold v_collect_L39 at h; exact h.elim
  | succ n ih =>
    intro m U39 v39_1 v39_4 h w
    cases m with
    | zero => unfold w_collect_L39 at w; exact w.elim
    | succ m =>
      unfold v_collect_L39 at h
      unfold w_collect_L39 at w
      rcases h with ⟨c, h⟩ | ⟨c, h⟩
      · replace w := w.1 c
        obtain ⟨n9, h⟩ := h
        obtain ⟨n8, w⟩ := w
        exact vz_collect_L81 n9 n8 h w
      · replace w := w.2 c
        replace h := h.2
        replace w := w.2
        replace h := h.2
        replace w := w.2
        replace h := h.2
        replace w := w.2
        obtain ⟨Q9, E9, w0, w⟩ := w
        rcases h with ⟨p9, q9, z9, h⟩ | ⟨q9, z9, h⟩
        · replace w := w.1 p9 q9 (vz_nameNumber z9 w0)
          replace h := h.2
          replace w := w.2
          replace h := h.2
          replace w := w.2
          replace h := h.2
          replace w := w.2
          obtain ⟨Q9, E9, w0, w⟩ := w
          rcases h with ⟨p9, q9, z9, h⟩ | ⟨q9, z9, h⟩
          · replace w := w.1 p9 q9 (vz_nameNumber z9 w0)
            obtain ⟨v9, e9, h⟩ := h
            replace w := w v9 e9
            exact ih m h w
          · replace w := w.2 q9 (vz_nameNumber z9 w0)
            rw [h]
            exact w
        · replace w := w.2 q9 (vz_nameNumber z9 w0)
          rw [h]
          exact w
set_option maxRecDepth 100000 in
theorem vw_collect {S : MS} {p1 : Nat} {oo : MS ⊕ MS} (h : v_collect S p1 oo) : w_collect S p1 (fun u => oo = .inl u) (fun u => oo = .inr u) := by
  unfold v_collect at h
  unfold w_collect
  obtain ⟨v9, e9, h⟩ := h
  intro x9 d9
  have c9 : v9 = x9 := e9.trans d9.symm
  subst c9
  obtain ⟨v9, e9, h⟩ := h
  intro x9 d9
  have c9 : v9 = x9 := e9.trans d9.symm
  subst c9
  rcases h with ⟨p9, q9, z9, h⟩ | ⟨q9, z9, h⟩
  · refine ⟨_, _, vw_nameNumber z9, ?_, ?_⟩
    · intro p8 q8 d9
      injection d9 with d9
      injection d9 with d8 d9
      subst d8
      subst d9
      obtain ⟨g9, h⟩ := h
      refine ⟨g9, ?_⟩
      rcases h with ⟨p9, q9, z9, h⟩ | ⟨q9, z9, h⟩
      · refine ⟨_, _, vw_classNumber z9, ?_, ?_⟩
        · intro p8 q8 d9
          injection d9 with d9
          injection d9 with d8 d9
          subst d8
          subst d9
          obtain ⟨g9, h⟩ := h
          refine ⟨g9, ?_⟩
          rcases h with ⟨p9, q9, z9, h⟩ | ⟨q9, z9, h⟩
          · refine ⟨_, _, vw_classNumber z9, ?_, ?_⟩
            · intro p8 q8 d9
              injection d9 with d9
              injection d9 with d8 d9
              subst d8
              subst d9
              obtain ⟨n9, h⟩ := h
              exact ⟨n9, vw_collect_L39 n9 h⟩
            · intro q8 d9
              exact nomatch d9
          · refine ⟨_, _, vw_classNumber z9, ?_, ?_⟩
            · intro p8 q8 d9
              exact nomatch d9
            · intro q8 d9
              injection d9 with d9
              subst d9
              exact h
        · intro q8 d9
          exact nomatch d9
      · refine ⟨_, _, vw_classNumber z9, ?_, ?_⟩
        · intro p8 q8 d9
          exact nomatch d9
        · intro q8 d9
          injection d9 with d9
          subst d9
          exact h
    · intro q8 d9
      exact nomatch d9
  · refine ⟨_, _, vw_nameNumber z9, ?_, ?_⟩
    · intro p8 q8 d9
      exact nomatch d9
    · intro q8 d9
      injection d9 with d9
      subst d9
      exact h
set_option maxRecDepth 100000 in
theorem vz_collect {S : MS} {p1 : Nat} {oo : MS ⊕ MS} {Q : MS → Prop} {E : MS → Prop} (h : v_collect S p1 oo) (w : w_collect S p1 Q E) : oV Q E oo := by
  unfold v_collect at h
  unfold w_collect at w
  obtain ⟨v9, e9, h⟩ := h
  replace w := w v9 e9
  obtain ⟨v9, e9, h⟩ := h
  replace w := w v9 e9
  obtain ⟨Q9, E9, w0, w⟩ := w
  rcases h with ⟨p9, q9, z9, h⟩ | ⟨q9, z9, h⟩
  · replace w := w.1 p9 q9 (vz_nameNumber z9 w0)
    replace h := h.2
    replace w := w.2
    obtain ⟨Q9, E9, w0, w⟩ := w
    rcases h with ⟨p9, q9, z9, h⟩ | ⟨q9, z9, h⟩
    · replace w := w.1 p9 q9 (vz_classNumber z9 w0)
      replace h := h.2
      replace w := w.2
      obtain ⟨Q9, E9, w0, w⟩ := w
      rcases h with ⟨p9, q9, z9, h⟩ | ⟨q9, z9, h⟩
      · replace w := w.1 p9 q9 (vz_classNumber z9 w0)
        obtain ⟨n9, h⟩ := h
        obtain ⟨n8, w⟩ := w
        exact vz_collect_L39 n9 n8 h w
      · replace w := w.2 q9 (vz_classNumber z9 w0)
        rw [h]
        exact w
    · replace w := w.2 q9 (vz_classNumber z9 w0)
      rw [h]
      exact w
  · replace w := w.2 q9 (vz_nameNumber z9 w0)
    rw [h]
    exact w
