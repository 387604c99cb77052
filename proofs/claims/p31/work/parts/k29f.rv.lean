def v_come_J34 (uo : MS) (U34 : MS) (t34_0 : Int32) (v34_1 : Int32) (v34_3 : Int32) : Prop := (∃ S6 : MS, S6 = wI U34 0 57 t34_0 ∧ (((0 : Int) ≤ v34_1.toInt ∧ v34_1.toInt < 9600) ∧ (∃ S8 : MS, S8 = wI S6 22 v34_1.toInt.toNat v34_3 ∧ (uo = S8))))
def v_come_J29 (uo : MS) (U29 : MS) (v29_1 : Int32) (v29_3 : Int32) : Prop := (v_come_J34 uo U29 1 v29_1 v29_3)
def v_come (S : MS) (x1 : Int32) (x2 : Int32) (uo : MS) : Prop := (((0 : Int) ≤ x1.toInt ∧ x1.toInt < 9600) ∧ (∃ a5 : Int32, a5 = ((qI S 22 x1.toInt.toNat) ||| ((1 : Int32) <<< (x2 &&& 31))) ∧ (((qI S 0 57).toInt = 0 ∧ (((0 : Int) ≤ x1.toInt ∧ x1.toInt < 9600) ∧ ((a5.toInt = (qI S 22 x1.toInt.toNat).toInt ∧ (v_come_J34 uo S 0 x1 a5)) ∨ (¬ a5.toInt = (qI S 22 x1.toInt.toNat).toInt ∧ (v_come_J29 uo S x1 a5))))) ∨ (¬ (qI S 0 57).toInt = 0 ∧ (v_come_J29 uo S x1 a5)))))
set_option maxRecDepth 100000 in
theorem ru_come_J34 {ι : Type} {P : MS → Prop} {Q : MS → Prop} {U34 : MS} {t34_0 : Int32} {v34_1 : Int32} {v34_3 : Int32} (i0 : ι) (K : ∀ (i : ι) (uo : MS), v_come_J34 uo U34 t34_0 v34_1 v34_3 → P uo) (h : w_come_J34 Q U34 t34_0 v34_1 v34_3) : ∃ uo, P uo ∧ Q uo := by
  unfold w_come_J34 at h
  obtain ⟨S6, eS6⟩ : ∃ x9 : MS, x9 = wI U34 0 57 t34_0 := ⟨_, rfl⟩
  replace h := h S6 eS6
  replace K := fun i uo z => K i uo ⟨S6, eS6, z⟩
  obtain ⟨g1_, h⟩ := h
  replace K := fun i uo z => K i uo ⟨g1_, z⟩
  obtain ⟨S8, eS8⟩ : ∃ x9 : MS, x9 = wI S6 22 v34_1.toInt.toNat v34_3 := ⟨_, rfl⟩
  replace h := h S8 eS8
  replace K := fun i uo z => K i uo ⟨S8, eS8, z⟩
  exact ⟨_, K i0 _ rfl, h⟩
set_option maxRecDepth 100000 in
theorem ru_come_J29 {ι : Type} {P : MS → Prop} {Q : MS → Prop} {U29 : MS} {v29_1 : Int32} {v29_3 : Int32} (i0 : ι) (K : ∀ (i : ι) (uo : MS), v_come_J29 uo U29 v29_1 v29_3 → P uo) (h : w_come_J29 Q U29 v29_1 v29_3) : ∃ uo, P uo ∧ Q uo := by
  unfold w_come_J29 at h
  exact ru_come_J34 i0 K h
set_option maxRecDepth 100000 in
theorem ru_come {S : MS} {x1 : Int32} {x2 : Int32} {Q : MS → Prop} (h : w_come S x1 x2 Q) : ∃ uo, v_come S x1 x2 uo ∧ Q uo := by
  have i0 : Unit := ()
  have K : ∀ (i : Unit) (uo : MS), v_come S x1 x2 uo → v_come S x1 x2 uo := fun _ _ z => z
  unfold w_come at h
  obtain ⟨g2_, h⟩ := h
  replace K := fun i uo z => K i uo ⟨g2_, z⟩
  obtain ⟨a5, ea5⟩ : ∃ x9 : Int32, x9 = ((qI S 22 x1.toInt.toNat) ||| ((1 : Int32) <<< (x2 &&& 31))) := ⟨_, rfl⟩
  replace h := h a5 ea5
  replace K := fun i uo z => K i uo ⟨a5, ea5, z⟩
  by_cases c : (qI S 0 57).toInt = 0
  · replace h := h.1 c
    replace K := fun i uo z => K i uo (Or.inl ⟨c, z⟩)
    obtain ⟨g3_, h⟩ := h
    replace K := fun i uo z => K i uo ⟨g3_, z⟩
    by_cases c : a5.toInt = (qI S 22 x1.toInt.toNat).toInt
    · replace h := h.1 c
      replace K := fun i uo z => K i uo (Or.inl ⟨c, z⟩)
      exact ru_come_J34 i0 K h
    · replace h := h.2 c
      replace K := fun i uo z => K i uo (Or.inr ⟨c, z⟩)
      exact ru_come_J29 i0 K h
  · replace h := h.2 c
    replace K := fun i uo z => K i uo (Or.inr ⟨c, z⟩)
    exact ru_come_J29 i0 K h
set_option maxRecDepth 100000 in
theorem vw_come_J34 {uo : MS} {U34 : MS} {t34_0 : Int32} {v34_1 : Int32} {v34_3 : Int32} (h : v_come_J34 uo U34 t34_0 v34_1 v34_3) : w_come_J34 (fun u => u = uo) U34 t34_0 v34_1 v34_3 := by
  unfold v_come_J34 at h
  unfold w_come_J34
  obtain ⟨v9, e9, h⟩ := h
  intro x9 d9
  have c9 : v9 = x9 := e9.trans d9.symm
  subst c9
  obtain ⟨g9, h⟩ := h
  refine ⟨g9, ?_⟩
  obtain ⟨v9, e9, h⟩ := h
  intro x9 d9
  have c9 : v9 = x9 := e9.trans d9.symm
  subst c9
  exact h.symm
set_option maxRecDepth 100000 in
theorem vz_come_J34 {uo : MS} {Q : MS → Prop} {U34 : MS} {t34_0 : Int32} {v34_1 : Int32} {v34_3 : Int32} (h : v_come_J34 uo U34 t34_0 v34_1 v34_3) (w : w_come_J34 Q U34 t34_0 v34_1 v34_3) : Q uo := by
  unfold v_come_J34 at h
  unfold w_come_J34 at w
  obtain ⟨v9, e9, h⟩ := h
  replace w := w v9 e9
  replace h := h.2
  replace w := w.2
  obtain ⟨v9, e9, h⟩ := h
  replace w := w v9 e9
  rw [h]
  exact w
set_option maxRecDepth 100000 in
theorem vw_come_J29 {uo : MS} {U29 : MS} {v29_1 : Int32} {v29_3 : Int32} (h : v_come_J29 uo U29 v29_1 v29_3) : w_come_J29 (fun u => u = uo) U29 v29_1 v29_3 := by
  unfold v_come_J29 at h
  unfold w_come_J29
  exact vw_come_J34 h
set_option maxRecDepth 100000 in
theorem vz_come_J29 {uo : MS} {Q : MS → Prop} {U29 : MS} {v29_1 : Int32} {v29_3 : Int32} (h : v_come_J29 uo U29 v29_1 v29_3) (w : w_come_J29 Q U29 v29_1 v29_3) : Q uo := by
  unfold v_come_J29 at h
  unfold w_come_J29 at w
  exact vz_come_J34 h w
set_option maxRecDepth 100000 in
theorem vw_come {S : MS} {x1 : Int32} {x2 : Int32} {uo : MS} (h : v_come S x1 x2 uo) : w_come S x1 x2 (fun u => u = uo) := by
  unfold v_come at h
  unfold w_come
  obtain ⟨g9, h⟩ := h
  refine ⟨g9, ?_⟩
  obtain ⟨v9, e9, h⟩ := h
  intro x9 d9
  have c9 : v9 = x9 := e9.trans d9.symm
  subst c9
  rcases h with ⟨c, h⟩ | ⟨c, h⟩
  · refine ⟨fun _ => ?_, fun c2 => absurd c c2⟩
    obtain ⟨g9, h⟩ := h
    refine ⟨g9, ?_⟩
    rcases h with ⟨c, h⟩ | ⟨c, h⟩
    · refine ⟨fun _ => ?_, fun c2 => absurd c c2⟩
      exact vw_come_J34 h
    · refine ⟨fun c2 => absurd c2 c, fun _ => ?_⟩
      exact vw_come_J29 h
  · refine ⟨fun c2 => absurd c2 c, fun _ => ?_⟩
    exact vw_come_J29 h
set_option maxRecDepth 100000 in
theorem vz_come {S : MS} {x1 : Int32} {x2 : Int32} {uo : MS} {Q : MS → Prop} (h : v_come S x1 x2 uo) (w : w_come S x1 x2 Q) : Q uo := by
  unfold v_come at h
  unfold w_come at w
  replace h := h.2
  replace w := w.2
  obtain ⟨v9, e9, h⟩ := h
  replace w := w v9 e9
  rcases h with ⟨c, h⟩ | ⟨c, h⟩
  · replace w := w.1 c
    replace h := h.2
    replace w := w.2
    rcases h with ⟨c, h⟩ | ⟨c, h⟩
    · replace w := w.1 c
      exact vz_come_J34 h w
    · replace w := w.2 c
      exact vz_come_J29 h w
  · replace w := w.2 c
    exact vz_come_J29 h w
def v_copyHead_L183 (uo : MS) : Nat → MS → Nat → Int32 → Prop
  | 0, _, _, _ => False
  | n183 + 1, U183, v183_1, v183_2 => ((qR U183 v183_1 19 = some (qO U183 v183_1 19)) ∧ (((Int32.ofNat (qN U183 (qO U183 v183_1 19))).toInt ≤ v183_2.toInt ∧ (∃ S14 : MS, S14 = wR U183 60 18 (some 74) ∧ (∃ S15 : MS, S15 = wR S14 60 19 (some 75) ∧ (∃ S16 : MS, S16 = wR S15 60 20 (some 76) ∧ (∃ S17 : MS, S17 = wI S16 0 122 0 ∧ (∃ S18 : MS, S18 = wI S17 0 123 0 ∧ (uo = S18))))))) ∨ (¬ (Int32.ofNat (qN U183 (qO U183 v183_1 19))).toInt ≤ v183_2.toInt ∧ ((qR U183 v183_1 19 = some (qO U183 v183_1 19)) ∧ (((0 : Int) ≤ v183_2.toInt ∧ v183_2.toInt < (qN U183 (qO U183 v183_1 19) : Int)) ∧ (((0 : Int) ≤ v183_2.toInt ∧ v183_2.toInt < 40000) ∧ (∃ S24 : MS, S24 = wI U183 75 v183_2.toInt.toNat (qI U183 (qO U183 v183_1 19) v183_2.toInt.toNat) ∧ (∃ a25 : Int32, a25 = (v183_2 + Int32.ofInt 1) ∧ ((v_copyHead_L183 uo n183) S24 v183_1 a25)))))))))
def v_copyHead_L107 (uo : MS) : Nat → MS → Nat → Int32 → Prop
  | 0, _, _, _ => False
  | n107 + 1, U107, v107_1, v107_2 => (((qI U107 v107_1 4).toInt ≤ v107_2.toInt ∧ (∃ n, v_copyHead_L183 uo n U107 v107_1 0)) ∨ (¬ (qI U107 v107_1 4).toInt ≤ v107_2.toInt ∧ ((qR U107 60 8 = some (qO U107 60 8)) ∧ ((qR U107 v107_1 8 = some (qO U107 v107_1 8)) ∧ (((0 : Int) ≤ v107_2.toInt ∧ v107_2.toInt < (qN U107 (qO U107 v107_1 8) : Int)) ∧ ((qR U107 (qO U107 v107_1 8) v107_2.toInt.toNat = some (qO U107 (qO U107 v107_1 8) v107_2.toInt.toNat)) ∧ (((0 : Int) ≤ v107_2.toInt ∧ v107_2.toInt < (qN U107 (qO U107 60 8) : Int)) ∧ (∃ S34 : MS, S34 = wR U107 (qO U107 60 8) v107_2.toInt.toNat (some (qO U107 (qO U107 v107_1 8) v107_2.toInt.toNat)) ∧ ((qR S34 60 9 = some (qO S34 60 9)) ∧ ((qR S34 v107_1 9 = some (qO S34 v107_1 9)) ∧ (((0 : Int) ≤ v107_2.toInt ∧ v107_2.toInt < (qN S34 (qO S34 v107_1 9) : Int)) ∧ ((qR S34 (qO S34 v107_1 9) v107_2.toInt.toNat = some (qO S34 (qO S34 v107_1 9) v107_2.toInt.toNat)) ∧ (((0 : Int) ≤ v107_2.toInt ∧ v107_2.toInt < (qN S34 (qO S34 60 9) : Int)) ∧ (∃ S43 : MS, S43 = wR S34 (qO S34 60 9) v107_2.toInt.toNat (some (qO S34 (qO S34 v107_1 9) v107_2.toInt.toNat)) ∧ ((qR S43 60 10 = some (qO S43 60 10)) ∧ ((qR S43 v107_1 10 = some (qO S43 v107_1 10)) ∧ (((0 : Int) ≤ v107_2.toInt ∧ v107_2.toInt < (qN S43 (qO S43 v107_1 10) : Int)) ∧ ((qR S43 (qO S43 v107_1 10) v107_2.toInt.toNat = some (qO S43 (qO S43 v107_1 10) v107_2.toInt.toNat)) ∧ (((0 : Int) ≤ v107_2.toInt ∧ v107_2.toInt < (qN S43 (qO S43 60 10) : Int)) ∧ (∃ S52 : MS, S52 = wR S43 (qO S43 60 10) v107_2.toInt.toNat (some (qO S43 (qO S43 v107_1 10) v107_2.toInt.toNat)) ∧ ((qR S52 60 11 = some (qO S52 60 11)) ∧ ((qR S52 v107_1 11 = some (qO S52 v107_1 11)) ∧ (((0 : Int) ≤ v107_2.toInt ∧ v107_2.toInt < (qN S52 (qO S52 v107_1 11) : Int)) ∧ ((qR S52 (qO S52 v107_1 11) v107_2.toInt.toNat = some (qO S52 (qO S52 v107_1 11) v107_2.toInt.toNat)) ∧ (((0 : Int) ≤ v107_2.toInt ∧ v107_2.toInt < (qN S52 (qO S52 60 11) : Int)) ∧ (∃ S61 : MS, S61 = wR S52 (qO S52 60 11) v107_2.toInt.toNat (some (qO S52 (qO S52 v107_1 11) v107_2.toInt.toNat)) ∧ (∃ a62 : Int32, a62 = (v107_2 + Int32.ofInt 1) ∧ ((v_copyHead_L107 uo n107) S61 v107_1 a62))))))))))))))))))))))))))))
def v_copyHead_L46 (uo : MS) : Nat → MS → Nat → Int32 → Prop
  | 0, _, _, _ => False
  | n46 + 1, U46, v46_1, v46_2 => (((qI U46 v46_1 3).toInt ≤ v46_2.toInt ∧ (∃ n, v_copyHead_L107 uo n U46 v46_1 0)) ∨ (¬ (qI U46 v46_1 3).toInt ≤ v46_2.toInt ∧ ((qR U46 60 5 = some (qO U46 60 5)) ∧ ((qR U46 v46_1 5 = some (qO U46 v46_1 5)) ∧ (((0 : Int) ≤ v46_2.toInt ∧ v46_2.toInt < (qN U46 (qO U46 v46_1 5) : Int)) ∧ ((qR U46 (qO U46 v46_1 5) v46_2.toInt.toNat = some (qO U46 (qO U46 v46_1 5) v46_2.toInt.toNat)) ∧ (((0 : Int) ≤ v46_2.toInt ∧ v46_2.toInt < (qN U46 (qO U46 60 5) : Int)) ∧ (∃ S71 : MS, S71 = wR U46 (qO U46 60 5) v46_2.toInt.toNat (some (qO U46 (qO U46 v46_1 5) v46_2.toInt.toNat)) ∧ ((qR S71 60 6 = some (qO S71 60 6)) ∧ ((qR S71 v46_1 6 = some (qO S71 v46_1 6)) ∧ (((0 : Int) ≤ v46_2.toInt ∧ v46_2.toInt < (qN S71 (qO S71 v46_1 6) : Int)) ∧ ((qR S71 (qO S71 v46_1 6) v46_2.toInt.toNat = some (qO S71 (qO S71 v46_1 6) v46_2.toInt.toNat)) ∧ (((0 : Int) ≤ v46_2.toInt ∧ v46_2.toInt < (qN S71 (qO S71 60 6) : Int)) ∧ (∃ S80 : MS, S80 = wR S71 (qO S71 60 6) v46_2.toInt.toNat (some (qO S71 (qO S71 v46_1 6) v46_2.toInt.toNat)) ∧ ((qR S80 60 7 = some (qO S80 60 7)) ∧ ((qR S80 v46_1 7 = some (qO S80 v46_1 7)) ∧ (((0 : Int) ≤ v46_2.toInt ∧ v46_2.toInt < (qN S80 (qO S80 v46_1 7) : Int)) ∧ ((qR S80 (qO S80 v46_1 7) v46_2.toInt.toNat = some (qO S80 (qO S80 v46_1 7) v46_2.toInt.toNat)) ∧ (((0 : Int) ≤ v46_2.toInt ∧ v46_2.toInt < (qN S80 (qO S80 60 7) : Int)) ∧ (∃ S89 : MS, S89 = wR S80 (qO S80 60 7) v46_2.toInt.toNat (some (qO S80 (qO S80 v46_1 7) v46_2.toInt.toNat)) ∧ (∃ a90 : Int32, a90 = (v46_2 + Int32.ofInt 1) ∧ ((v_copyHead_L46 uo n46) S89 v46_1 a90))))))))))))))))))))))
def v_copyHead (S : MS) (p1 : Nat) (uo : MS) : Prop := ((qR S p1 0 = some (qO S p1 0)) ∧ (∃ S3 : MS, S3 = wR S 60 0 (some (qO S p1 0)) ∧ ((qR S3 p1 1 = some (qO S3 p1 1)) ∧ (∃ S6 : MS, S6 = wR S3 60 1 (some (qO S3 p1 1)) ∧ (∃ S7 : MS, S7 = wI S6 60 3 (qI S6 p1 3) ∧ (∃ S8 : MS, S8 = wI S7 60 4 (qI S7 p1 4) ∧ (∃ n, v_copyHead_L46 uo n S8 p1 0)))))))
set_option maxRecDepth 100000 in
theorem ru_copyHead_L183 {ι : Type} {P : MS → Prop} {Q : MS → Prop} : ∀ (n : Nat) {U183 : MS} {v183_1 : Nat} {v183_2 : Int32} (i0 : ι), (∀ (i : ι) (uo : MS), (∃ n8, v_copyHead_L183 uo n8 U183 v183_1 v183_2) → P uo) → w_copyHead_L183 Q n U183 v183_1 v183_2 → ∃ uo, P uo ∧ Q uo := by
  intro n
  induction n with
  | zero => intro U183 v183_1 v183_2 i0 K h; unfold w_copyHead_L183 at h; exact h.elim
  | succ n ih =>
    intro U183 v183_1 v183_2 i0 K h
    unfold w_copyHead_L183 at h
    replace K := fun (i : ι × Nat) uo (z : v_copyHead_L183 uo (i.2 + 1) U183 v183_1 v183_2) => K i.1 uo ⟨i.2 + 1, z⟩
    have i00 := i0
    replace i0 : ι × Nat := (i0, 0)
    obtain ⟨g1_, h⟩ := h
    replace K := fun i uo z => K i uo ⟨g1_, z⟩
    by_cases c : (Int32.ofNat (qN U183 (qO U183 v183_1 19))).toInt ≤ v183_2.toInt
    · replace h := h.1 c
      replace K := fun i uo z => K i uo (Or.inl ⟨c, z⟩)
      obtain ⟨S14, eS14⟩ : ∃ x9 : MS, x9 = wR U183 60 18 (some 74) := ⟨_, rfl⟩
      replace h := h S14 eS14
      replace K := fun i uo z => K i uo ⟨S14, eS14, z⟩
      obtain ⟨S15, eS15⟩ : ∃ x9 : MS, x9 = wR S14 60 19 (some 75) := ⟨_, rfl⟩
      replace h := h S15 eS15
      replace K := fun i uo z => K i uo ⟨S15, eS15, z⟩
      obtain ⟨S16, eS16⟩ : ∃ x9 : MS, x9 = wR S15 60 20 (some 76) := ⟨_, rfl⟩
      replace h := h S16 eS16
      replace K := fun i uo z => K i uo ⟨S16, eS16, z⟩
      obtain ⟨S17, eS17⟩ : ∃ x9 : MS, x9 = wI S16 0 122 0 := ⟨_, rfl⟩
      replace h := h S17 eS17
      replace K := fun i uo z => K i uo ⟨S17, eS17, z⟩
      obtain ⟨S18, eS18⟩ : ∃ x9 : MS, x9 = wI S17 0 123 0 := ⟨_, rfl⟩
      replace h := h S18 eS18
      replace K := fun i uo z => K i uo ⟨S18, eS18, z⟩
      exact ⟨_, K i0 _ rfl, h⟩
    · replace h := h.2 c
      replace K := fun i uo z => K i uo (Or.inr ⟨c, z⟩)
      obtain ⟨g2_, h⟩ := h
      replace K := fun i uo z => K i uo ⟨g2_, z⟩
      obtain ⟨g3_, h⟩ := h
      replace K := fun i uo z => K i uo ⟨g3_, z⟩
      obtain ⟨g4_, h⟩ := h
      replace K := fun i uo z => K i uo ⟨g4_, z⟩
      obtain ⟨S24, eS24⟩ : ∃ x9 : MS, x9 = wI U183 75 v183_2.toInt.toNat (qI U183 (qO U183 v183_1 19) v183_2.toInt.toNat) := ⟨_, rfl⟩
      replace h := h S24 eS24
      replace K := fun i uo z => K i uo ⟨S24, eS24, z⟩
      obtain ⟨a25, ea25⟩ : ∃ x9 : Int32, x9 = (v183_2 + Int32.ofInt 1) := ⟨_, rfl⟩
      replace h := h a25 ea25
      replace K := fun i uo z => K i uo ⟨a25, ea25, z⟩
      exact ih i00 (fun i uo ⟨n8, z⟩ => K (i, n8) uo z) h
set_option maxRecDepth 100000 in
theorem ru_copyHead_L107 {ι : Type} {P : MS → Prop} {Q : MS → Prop} : ∀ (n : Nat) {U107 : MS} {v107_1 : Nat} {v107_2 : Int32} (i0 : ι), (∀ (i : ι) (uo : MS), (∃ n8, v_copyHead_L107 uo n8 U107 v107_1 v107_2) → P uo) → w_copyHead_L107 Q n U107 v107_1 v107_2 → ∃ uo, P uo ∧ Q uo := by
  intro n
  induction n with
  | zero => intro U107 v107_1 v107_2 i0 K h; unfold w_copyHead_L107 at h; exact h.elim
  | succ n ih =>
    intro U107 v107_1 v107_2 i0 K h
    unfold w_copyHead_L107 at h
    replace K := fun (i : ι × Nat) uo (z : v_copyHead_L107 uo (i.2 + 1) U107 v107_1 v107_2) => K i.1 uo ⟨i.2 + 1, z⟩
    have i00 := i0
    replace i0 : ι × Nat := (i0, 0)
    by_cases c : (qI U107 v107_1 4).toInt ≤ v107_2.toInt
    · replace h := h.1 c
      replace K := fun i uo z => K i uo (Or.inl ⟨c, z⟩)
      obtain ⟨n9, h⟩ := h
      exact ru_copyHead_L183 n9 i0 K h
    · replace h := h.2 c
      replace K := fun i uo z => K i uo (Or.inr ⟨c, z⟩)
      obtain ⟨g5_, h⟩ := h
      replace K := fun i uo z => K i uo ⟨g5_, z⟩
      obtain ⟨g6_, h⟩ := h
      replace K := fun i uo z => K i uo ⟨g6_, z⟩
      obtain ⟨g7_, h⟩ := h
      replace K := fun i uo z => K i uo ⟨g7_, z⟩
      obtain ⟨g8_, h⟩ := h
      replace K := fun i uo z => K i uo ⟨g8_, z⟩
      obtain ⟨g9_, h⟩ := h
      replace K := fun i uo z => K i uo ⟨g9_, z⟩
      obtain ⟨S34, eS34⟩ : ∃ x9 : MS, x9 = wR U107 (qO U107 60 8) v107_2.toInt.toNat (some (qO U107 (qO U107 v107_1 8) v107_2.toInt.toNat)) := ⟨_, rfl⟩
      replace h := h S34 eS34
      replace K := fun i uo z => K i uo ⟨S34, eS34, z⟩
      obtain ⟨g10_, h⟩ := h
      replace K := fun i uo z => K i uo ⟨g10_, z⟩
      obtain ⟨g11_, h⟩ := h
      replace K := fun i uo z => K i uo ⟨g11_, z⟩
      obtain ⟨g12_, h⟩ := h
      replace K := fun i uo z => K i uo ⟨g12_, z⟩
      obtain ⟨g13_, h⟩ := h
      replace K := fun i uo z => K i uo ⟨g13_, z⟩
      obtain ⟨g14_, h⟩ := h
      replace K := fun i uo z => K i uo ⟨g14_, z⟩
      obtain ⟨S43, eS43⟩ : ∃ x9 : MS, x9 = wR S34 (qO S34 60 9) v107_2.toInt.toNat (some (qO S34 (qO S34 v107_1 9) v107_2.toInt.toNat)) := ⟨_, rfl⟩
      replace h := h S43 eS43
      replace K := fun i uo z => K i uo ⟨S43, eS43, z⟩
      obtain ⟨g15_, h⟩ := h
      replace K := fun i uo z => K i uo ⟨g15_, z⟩
      obtain ⟨g16_, h⟩ := h
      replace K := fun i uo z => K i uo ⟨g16_, z⟩
      obtain ⟨g17_, h⟩ := h
      replace K := fun i uo z => K i uo ⟨g17_, z⟩
      obtain ⟨g18_, h⟩ := h
      replace K := fun i uo z => K i uo ⟨g18_, z⟩
      obtain ⟨g19_, h⟩ := h
      replace K := fun i uo z => K i uo ⟨g19_, z⟩
      obtain ⟨S52, eS52⟩ : ∃ x9 : MS, x9 = wR S43 (qO S43 60 10) v107_2.toInt.toNat (some (qO S43 (qO S43 v107_1 10) v107_2.toInt.toNat)) := ⟨_, rfl⟩
      replace h := h S52 eS52
      replace K := fun i uo z => K i uo ⟨S52, eS52, z⟩
      obtain ⟨g20_, h⟩ := h
      replace K := fun i uo z => K i uo ⟨g20_, z⟩
      obtain ⟨g21_, h⟩ := h
      replace K := fun i uo z => K i uo ⟨g21_, z⟩
      obtain ⟨g22_, h⟩ := h
      replace K := fun i uo z => K i uo ⟨g22_, z⟩
      obtain ⟨g23_, h⟩ := h
      replace K := fun i uo z => K i uo ⟨g23_, z⟩
      obtain ⟨g24_, h⟩ := h
      replace K := fun i uo z => K i uo ⟨g24_, z⟩
      obtain ⟨S61, eS61⟩ : ∃ x9 : MS, x9 = wR S52 (qO S52 60 11) v107_2.toInt.toNat (some (qO S52 (qO S52 v107_1 11) v107_2.toInt.toNat)) := ⟨_, rfl⟩
      replace h := h S61 eS61
      replace K := fun i uo z => K i uo ⟨S61, eS61, z⟩
      obtain ⟨a62, ea62⟩ : ∃ x9 : Int32, x9 = (v107_2 + Int32.ofInt 1) := ⟨_, rfl⟩
      replace h := h a62 ea62
      replace K := fun i uo z => K i uo ⟨a62, ea62, z⟩
      exact ih i00 (fun i uo ⟨n8, z⟩ => K (i, n8) uo z) h
set_option maxRecDepth 100000 in
theorem ru_copyHead_L46 {ι : Type} {P : MS → Prop} {Q : MS → Prop} : ∀ (n : Nat) {U46 : MS} {v46_1 : Nat} {v46_2 : Int32} (i0 : ι), (∀ (i : ι) (uo : MS), (∃ n8, v_copyHead_L46 uo n8 U46 v46_1 v46_2) → P uo) → w_copyHead_L46 Q n U46 v46_1 v46_2 → ∃ uo, P uo ∧ Q uo := by
  intro n
  induction n with
  | zero => intro U46 v46_1 v46_2 i0 K h; unfold w_copyHead_L46 at h; exact h.elim
  | succ n ih =>
    intro U46 v46_1 v46_2 i0 K h
    unfold w_copyHead_L46 at h
    replace K := fun (i : ι × Nat) uo (z : v_copyHead_L46 uo (i.2 + 1) U46 v46_1 v46_2) => K i.1 uo ⟨i.2 + 1, z⟩
    have i00 := i0
    replace i0 : ι × Nat := (i0, 0)
    by_cases c : (qI U46 v46_1 3).toInt ≤ v46_2.toInt
    · replace h := h.1 c
      replace K := fun i uo z => K i uo (Or.inl ⟨c, z⟩)
      obtain ⟨n9, h⟩ := h
      exact ru_copyHead_L107 n9 i0 K h
    · replace h := h.2 c
      replace K := fun i uo z => K i uo (Or.inr ⟨c, z⟩)
      obtain ⟨g25_, h⟩ := h
      replace K := fun i uo z => K i uo ⟨g25_, z⟩
      obtain ⟨g26_, h⟩ := h
      replace K := fun i uo z => K i uo ⟨g26_, z⟩
      obtain ⟨g27_, h⟩ := h
      replace K := fun i uo z => K i uo ⟨g27_, z⟩
      obtain ⟨g28_, h⟩ := h
      replace K := fun i uo z => K i uo ⟨g28_, z⟩
      obtain ⟨g29_, h⟩ := h
      replace K := fun i uo z => K i uo ⟨g29_, z⟩
      obtain ⟨S71, eS71⟩ : ∃ x9 : MS, x9 = wR U46 (qO U46 60 5) v46_2.toInt.toNat (some (qO U46 (qO U46 v46_1 5) v46_2.toInt.toNat)) := ⟨_, rfl⟩
      replace h := h S71 eS71
      replace K := fun i uo z => K i uo ⟨S71, eS71, z⟩
      obtain ⟨g30_, h⟩ := h
      replace K := fun i uo z => K i uo ⟨g30_, z⟩
      obtain ⟨g31_, h⟩ := h
      replace K := fun i uo z => K i uo ⟨g31_, z⟩
      obtain ⟨g32_, h⟩ := h
      replace K := fun i uo z => K i uo ⟨g32_, z⟩
      obtain ⟨g33_, h⟩ := h
      replace K := fun i uo z => K i uo ⟨g33_, z⟩
      obtain ⟨g34_, h⟩ := h
      replace K := fun i uo z => K i uo ⟨g34_, z⟩
      obtain ⟨S80, eS80⟩ : ∃ x9 : MS, x9 = wR S71 (qO S71 60 6) v46_2.toInt.toNat (some (qO S71 (qO S71 v46_1 6) v46_2.toInt.toNat)) := ⟨_, rfl⟩
      replace h := h S80 eS80
      replace K := fun i uo z => K i uo ⟨S80, eS80, z⟩
      obtain ⟨g35_, h⟩ := h
      replace K := fun i uo z => K i uo ⟨g35_, z⟩
      obtain ⟨g36_, h⟩ := h
      replace K := fun i uo z => K i uo ⟨g36_, z⟩
      obtain ⟨g37_, h⟩ := h
      replace K := fun i uo z => K i uo ⟨g37_, z⟩
      obtain ⟨g38_, h⟩ := h
      replace K := fun i uo z => K i uo ⟨g38_, z⟩
      obtain ⟨g39_, h⟩ := h
      replace K := fun i uo z => K i uo ⟨g39_, z⟩
      obtain ⟨S89, eS89⟩ : ∃ x9 : MS, x9 = wR S80 (qO S80 60 7) v46_2.toInt.toNat (some (qO S80 (qO S80 v46_1 7) v46_2.toInt.toNat)) := ⟨_, rfl⟩
      replace h := h S89 eS89
      replace K := fun i uo z => K i uo ⟨S89, eS89, z⟩
      obtain ⟨a90, ea90⟩ : ∃ x9 : Int32, x9 = (v46_2 + Int32.ofInt 1) := ⟨_, rfl⟩
      replace h := h a90 ea90
      replace K := fun i uo z => K i uo ⟨a90, ea90, z⟩
      exact ih i00 (fun i uo ⟨n8, z⟩ => K (i, n8) uo z) h
set_option maxRecDepth 100000 in
theorem ru_copyHead {S : MS} {p1 : Nat} {Q : MS → Prop} (h : w_copyHead S p1 Q) : ∃ uo, v_copyHead S p1 uo ∧ Q uo := by
  have i0 : Unit := ()
  have K : ∀ (i : Unit) (uo : MS), v_copyHead S p1 uo → v_copyHead S p1 uo := fun _ _ z => z
  unfold w_copyHead at h
  obtain ⟨g40_, h⟩ := h
  replace K := fun i uo z => K i uo ⟨g40_, z⟩
  obtain ⟨S3, eS3⟩ : ∃ x9 : MS, x9 = wR S 60 0 (some (qO S p1 0)) := ⟨_, rfl⟩
  replace h := h S3 eS3
  replace K := fun i uo z => K i uo ⟨S3, eS3, z⟩
  obtain ⟨g41_, h⟩ := h
  replace K := fun i uo z => K i uo ⟨g41_, z⟩
  obtain ⟨S6, eS6⟩ : ∃ x9 : MS, x9 = wR S3 60 1 (some (qO S3 p1 1)) := ⟨_, rfl⟩
  replace h := h S6 eS6
  replace K := fun i uo z => K i uo ⟨S6, eS6, z⟩
  obtain ⟨S7, eS7⟩ : ∃ x9 : MS, x9 = wI S6 60 3 (qI S6 p1 3) := ⟨_, rfl⟩
  replace h := h S7 eS7
  replace K := fun i uo z => K i uo ⟨S7, eS7, z⟩
  obtain ⟨S8, eS8⟩ : ∃ x9 : MS, x9 = wI S7 60 4 (qI S7 p1 4) := ⟨_, rfl⟩
  replace h := h S8 eS8
  replace K := fun i uo z => K i uo ⟨S8, eS8, z⟩
  obtain ⟨n9, h⟩ := h
  exact ru_copyHead_L46 n9 i0 K h
set_option maxRecDepth 100000 in
theorem vw_copyHead_L183 {uo : MS} : ∀ (n : Nat) {U183 : MS} {v183_1 : Nat} {v183_2 : Int32}, v_copyHead_L183 uo n U183 v183_1 v183_2 → w_copyHead_L183 (fun u => u = uo) n U183 v183_1 v183_2 := by
  intro n
  induction n with
  | zero => intro U183 v183_1 v183_2 h; unfold v_copyHead_L183 at h; exact h.elim
  | succ n ih =>
    intro U183 v183_1 v183_2 h
    unfold v_copyHead_L183 at h
    unfold w_copyHead_L183
    obtain ⟨g9, h⟩ := h
    refine ⟨g9, ?_⟩
    rcases h with ⟨c, h⟩ | ⟨c, h⟩
    · refine ⟨fun _ => ?_, fun c2 => absurd c c2⟩
      obtain ⟨v9, e9, h⟩ := h
      intro x9 d9
      have c9 : v9 = x9 := e9.trans d9.symm
      subst c9
      obtain ⟨v9, e9, h⟩ := h
      intro x9 d9
      have c9 : v9 = x9 := e9.trans d9.symm
      subst c9
      obtain ⟨v9, e9, h⟩ := h
      intro x9 d9
      have c9 : v9 = x9 := e9.trans d9.symm
      subst c9
      obtain ⟨v9, e9, h⟩ := h
      intro x9 d9
      have c9 : v9 = x9 := e9.trans d9.symm
      subst c9
      obtain ⟨v9, e9, h⟩ := h
      intro x9 d9
      have c9 : v9 = x9 := e9.trans d9.symm
      subst c9
      exact h.symm
    · refine ⟨fun c2 => absurd c2 c, fun _ => ?_⟩
      obtain ⟨g9, h⟩ := h
      refine ⟨g9, ?_⟩
      obtain ⟨g9, h⟩ := h
      refine ⟨g9, ?_⟩
      obtain ⟨g9, h⟩ := h
      refine ⟨g9, ?_⟩
      obtain ⟨v9, e9, h⟩ := h
      intro x9 d9
      have c9 : v9 = x9 := e9.trans d9.symm
      subst c9
      obtain ⟨v9, e9, h⟩ := h
      intro x9 d9
      have c9 : v9 = x9 := e9.trans d9.symm
      subst c9
      exact ih h
set_option maxRecDepth 100000 in
theorem vz_copyHead_L183 {uo : MS} {Q : MS → Prop} : ∀ (n m : Nat) {U183 : MS} {v183_1 : Nat} {v183_2 : Int32}, v_copyHead_L183 uo n U183 v183_1 v183_2 → w_copyHead_L183 Q m U183 v183_1 v183_2 → Q uo := by
  intro n
  induction n with
  | zero => intro m U183 v183_1 v183_2 h; unfold v_copyHead_L183 at h; exact h.elim
  | succ n ih =>
    intro m U183 v183_1 v183_2 h w
    cases m with
    | zero => unfold w_copyHead_L183 at w; exact w.elim
    | succ m =>
      unfold v_copyHead_L183 at h
      unfold w_copyHead_L183 at w
      replace h := h.2
      replace w := w.2
      rcases h with ⟨c, h⟩ | ⟨c, h⟩
      · replace w := w.1 c
        obtain ⟨v9, e9, h⟩ := h
        replace w := w v9 e9
        obtain ⟨v9, e9, h⟩ := h
        replace w := w v9 e9
        obtain ⟨v9, e9, h⟩ := h
        replace w := w v9 e9
        obtain ⟨v9, e9, h⟩ := h
        replace w := w v9 e9
        obtain ⟨v9, e9, h⟩ := h
        replace w := w v9 e9
        rw [h]
        exact w
      · replace w := w.2 c
        replace h := h.2
        replace w := w.2
        replace h := h.2
        replace w := w.2
        replace h := h.2
        replace w := w.2
        obtain ⟨v9, e9, h⟩ := h
        replace w := w v9 e9
        obtain ⟨v9, e9, h⟩ := h
        replace w := w v9 e9
        exact ih m h w
set_option maxRecDepth 100000 in
theorem vw_copyHead_L107 {uo : MS} : ∀ (n : Nat) {U107 : MS} {v107_1 : Nat} {v107_2 : Int32}, v_copyHead_L107 uo n U107 v107_1 v107_2 → w_copyHead_L107 (fun u => u = uo) n U107 v107_1 v107_2 := by
  intro n
  induction n with
  | zero => intro U107 v107_1 v107_2 h; unfold v_copyHead_L107 at h; exact h.elim
  | succ n ih =>
    intro U107 v107_1 v107_2 h
    unfold v_copyHead_L107 at h
    unfold w_copyHead_L107
    rcases h with ⟨c, h⟩ | ⟨c, h⟩
    · refine ⟨fun _ => ?_, fun c2 => absurd c c2⟩
      obtain ⟨n9, h⟩ := h
      exact ⟨n9, vw_copyHead_L183 n9 h⟩
    · refine ⟨fun c2 => absurd c2 c, fun _ => ?_⟩
      obtain ⟨g9, h⟩ := h
      refine ⟨g9, ?_⟩
      obtain ⟨g9, h⟩ := h
      refine ⟨g9, ?_⟩
      obtain ⟨g9, h⟩ := h
      refine ⟨g9, ?_⟩
      obtain ⟨g9, h⟩ := h
      refine ⟨g9, ?_⟩
      obtain ⟨g9, h⟩ := h
      refine ⟨g9, ?_⟩
      obtain ⟨v9, e9, h⟩ := h
      intro x9 d9
      have c9 : v9 = x9 := e9.trans d9.symm
      subst c9
      obtain ⟨g9, h⟩ := h
      refine ⟨g9, ?_⟩
      obtain ⟨g9, h⟩ := h
      refine ⟨g9, ?_⟩
      obtain ⟨g9, h⟩ := h
      refine ⟨g9, ?_⟩
      obtain ⟨g9, h⟩ := h
      refine ⟨g9, ?_⟩
      obtain ⟨g9, h⟩ := h
      refine ⟨g9, ?_⟩
      obtain ⟨v9, e9, h⟩ := h
      intro x9 d9
      have c9 : v9 = x9 := e9.trans d9.symm
      subst c9
      obtain ⟨g9, h⟩ := h
      refine ⟨g9, ?_⟩
      obtain ⟨g9, h⟩ := h
      refine ⟨g9, ?_⟩
      obtain ⟨g9, h⟩ := h
      refine ⟨g9, ?_⟩
      obtain ⟨g9, h⟩ := h
      refine ⟨g9, ?_⟩
      obtain ⟨g9, h⟩ := h
      refine ⟨g9, ?_⟩
      obtain ⟨v9, e9, h⟩ := h
      intro x9 d9
      have c9 : v9 = x9 := e9.trans d9.symm
      subst c9
      obtain ⟨g9, h⟩ := h
      refine ⟨g9, ?_⟩
      obtain ⟨g9, h⟩ := h
      refine ⟨g9, ?_⟩
      obtain ⟨g9, h⟩ := h
      refine ⟨g9, ?_⟩
      obtain ⟨g9, h⟩ := h
      refine ⟨g9, ?_⟩
      obtain ⟨g9, h⟩ := h
      refine ⟨g9, ?_⟩
      obtain ⟨v9, e9, h⟩ := h
      intro x9 d9
      have c9 : v9 = x9 := e9.trans d9.symm
      subst c9
      obtain ⟨v9, e9, h⟩ := h
      intro x9 d9
      have c9 : v9 = x9 := e9.trans d9.symm
      subst c9
      exact ih h
set_option maxRecDepth 100000 in
theorem vz_copyHead_L107 {uo : MS} {Q : MS → Prop} : ∀ (n m : Nat) {U107 : MS} {v107_1 : Nat} {v107_2 : Int32}, v_copyHead_L107 uo n U107 v107_1 v107_2 → w_copyHead_L107 Q m U107 v107_1 v107_2 → Q uo := by
  intro n
  induction n with
  | zero => intro m U107 v107_1 v107_2 h; unfold v_copyHead_L107 at h; exact h.elim
  | succ n ih =>
    intro m U107 v107_1 v107_2 h w
    cases m with
    | zero => unfold w_copyHead_L107 at w; exact w.elim
    | succ m =>
      unfold v_copyHead_L107 at h
      unfold w_copyHead_L107 at w
      rcases h with ⟨c, h⟩ | ⟨c, h⟩
      · replace w := w.1 c
        obtain ⟨n9, h⟩ := h
        obtain ⟨n8, w⟩ := w
        exact vz_copyHead_L183 n9 n8 h w
      · replace w := w.2 c
        replace h := h.2
        replace w := w.2
        replace h := h.2
        replace w := w.2
        replace h := h.2
        replace w := w.2
        replace h := h.2
        replace w := w.2
        replace h := h.2
        replace w := w.2
        obtain ⟨v9, e9, h⟩ := h
        replace w := w v9 e9
        replace h := h.2
        replace w := w.2
        replace h := h.2
        replace w := w.2
        replace h := h.2
        replace w := w.2
        replace h := h.2
        replace w := w.2
        replace h := h.2
        replace w := w.2
        obtain ⟨v9, e9, h⟩ := h
        replace w := w v9 e9
        replace h := h.2
        replace w := w.2
        replace h := h.2
        replace w := w.2
        replace h := h.2
        replace w := w.2
        replace h := h.2
        replace w := w.2
        replace h := h.2
        replace w := w.2
        obtain ⟨v9, e9, h⟩ := h
        replace w := w v9 e9
        replace h := h.2
        replace w := w.2
        replace h := h.2
        replace w := w.2
        replace h := h.2
        replace w := w.2
        replace h := h.2
        replace w := w.2
        replace h := h.2
        replace w := w.2
        obtain ⟨v9, e9, h⟩ := h
        replace w := w v9 e9
        obtain ⟨v9, e9, h⟩ := h
        replace w := w v9 e9
        exact ih m h w
set_option maxRecDepth 100000 in
theorem vw_copyHead_L46 {uo : MS} : ∀ (n : Nat) {U46 : MS} {v46_1 : Nat} {v46_2 : Int32}, v_copyHead_L46 uo n U46 v46_1 v46_2 → w_copyHead_L46 (fun u => u = uo) n U46 v46_1 v46_2 := by
  intro n
  induction n with
  | zero => intro U46 v46_1 v46_2 h; unfold v_copyHead_L46 at h; exact h.elim
  | succ n ih =>
    intro U46 v46_1 v46_2 h
    unfold v_copyHead_L46 at h
    unfold w_copyHead_L46
    rcases h with ⟨c, h⟩ | ⟨c, h⟩
    · refine ⟨fun _ => ?_, fun c2 => absurd c c2⟩
      obtain ⟨n9, h⟩ := h
      exact ⟨n9, vw_copyHead_L107 n9 h⟩
    · refine ⟨fun c2 => absurd c2 c, fun _ => ?_⟩
      obtain ⟨g9, h⟩ := h
      refine ⟨g9, ?_⟩
      obtain ⟨g9, h⟩ := h
      refine ⟨g9, ?_⟩
      obtain ⟨g9, h⟩ := h
      refine ⟨g9, ?_⟩
      obtain ⟨g9, h⟩ := h
      refine ⟨g9, ?_⟩
      obtain ⟨g9, h⟩ := h
      refine ⟨g9, ?_⟩
      obtain ⟨v9, e9, h⟩ := h
      intro x9 d9
      have c9 : v9 = x9 := e9.trans d9.symm
      subst c9
      obtain ⟨g9, h⟩ := h
      refine ⟨g9, ?_⟩
      obtain ⟨g9, h⟩ := h
      refine ⟨g9, ?_⟩
      obtain ⟨g9, h⟩ := h
      refine ⟨g9, ?_⟩
      obtain ⟨g9, h⟩ := h
      refine ⟨g9, ?_⟩
      obtain ⟨g9, h⟩ := h
      refine ⟨g9, ?_⟩
      obtain ⟨v9, e9, h⟩ := h
      intro x9 d9
      have c9 : v9 = x9 := e9.trans d9.symm
      subst c9
      obtain ⟨g9, h⟩ := h
      refine ⟨g9, ?_⟩
      obtain ⟨g9, h⟩ := h
      refine ⟨g9, ?_⟩
      obtain ⟨g9, h⟩ := h
      refine ⟨g9, ?_⟩
      obtain ⟨g9, h⟩ := h
      refine ⟨g9, ?_⟩
      obtain ⟨g9, h⟩ := h
      refine ⟨g9, ?_⟩
      obtain ⟨v9, e9, h⟩ := h
      intro x9 d9
      have c9 : v9 = x9 := e9.trans d9.symm
      subst c9
      obtain ⟨v9, e9, h⟩ := h
      intro x9 d9
      have c9 : v9 = x9 := e9.trans d9.symm
      subst c9
      exact ih h
set_option maxRecDepth 100000 in
theorem vz_copyHead_L46 {uo : MS} {Q : MS → Prop} : ∀ (n m : Nat) {U46 : MS} {v46_1 : Nat} {v46_2 : Int32}, v_copyHead_L46 uo n U46 v46_1 v46_2 → w_copyHead_L46 Q m U46 v46_1 v46_2 → Q uo := by
  intro n
  induction n with
  | zero => intro m U46 v46_1 v46_2 h; unfold v_copyHead_L46 at h; exact h.elim
  | succ n ih =>
    intro m U46 v46_1 v46_2 h w
    cases m with
    | zero => unfold w_copyHead_L46 at w; exact w.elim
    | succ m =>
      unfold v_copyHead_L46 at h
      unfold w_copyHead_L46 at w
      rcases h with ⟨c, h⟩ | ⟨c, h⟩
      · replace w := w.1 c
        obtain ⟨n9, h⟩ := h
        obtain ⟨n8, w⟩ := w
        exact vz_copyHead_L107 n9 n8 h w
      · replace w := w.2 c
        replace h := h.2
        replace w := w.2
        replace h := h.2
        replace w := w.2
        replace h := h.2
        replace w := w.2
        replace h := h.2
        replace w := w.2
        replace h := h.2
        replace w := w.2
        obtain ⟨v9, e9, h⟩ := h
        replace w := w v9 e9
        replace h := h.2
        replace w := w.2
        replace h := h.2
        replace w := w.2
        replace h := h.2
        replace w := w.2
        replace h := h.2
        replace w := w.2
        replace h := h.2
        replace w := w.2
        obtain ⟨v9, e9, h⟩ := h
        replace w := w v9 e9
        replace h := h.2
        replace w := w.2
        replace h := h.2
        replace w := w.2
        replace h := h.2
        replace w := w.2
        replace h := h.2
        replace w := w.2
        replace h := h.2
        replace w := w.2
        obtain ⟨v9, e9, h⟩ := h
        replace w := w v9 e9
        obtain ⟨v9, e9, h⟩ := h
        replace w := w v9 e9
        exact ih m h w
set_option maxRecDepth 100000 in
theorem vw_copyHead {S : MS} {p1 : Nat} {uo : MS} (h : v_copyHead S p1 uo) : w_copyHead S p1 (fun u => u = uo) := by
  unfold v_copyHead at h
  unfold w_copyHead
  obtain ⟨g9, h⟩ := h
  refine ⟨g9, ?_⟩
  obtain ⟨v9, e9, h⟩ := h
  intro x9 d9
  have c9 : v9 = x9 := e9.trans d9.symm
  subst c9
  obtain ⟨g9, h⟩ := h
  refine ⟨g9, ?_⟩
  obtain ⟨v9, e9, h⟩ := h
  intro x9 d9
  have c9 : v9 = x9 := e9.trans d9.symm
  subst c9
  obtain ⟨v9, e9, h⟩ := h
  intro x9 d9
  have c9 : v9 = x9 := e9.trans d9.symm
  subst c9
  obtain ⟨v9, e9, h⟩ := h
  intro x9 d9
  have c9 : v9 = x9 := e9.trans d9.symm
  subst c9
  obtain ⟨n9, h⟩ := h
  exact ⟨n9, vw_copyHead_L46 n9 h⟩
set_option maxRecDepth 100000 in
theorem vz_copyHead {S : MS} {p1 : Nat} {uo : MS} {Q : MS → Prop} (h : v_copyHead S p1 uo) (w : w_copyHead S p1 Q) : Q uo := by
  unfold v_copyHead at h
  unfold w_copyHead at w
  replace h := h.2
  replace w := w.2
  obtain ⟨v9, e9, h⟩ := h
  replace w := w v9 e9
  replace h := h.2
  replace w := w.2
  obtain ⟨v9, e9, h⟩ := h
  replace w := w v9 e9
  obtain ⟨v9, e9, h⟩ := h
  replace w := w v9 e9
  obtain ⟨v9, e9, h⟩ := h
  replace w := w v9 e9
  obtain ⟨n9, h⟩ := h
  obtain ⟨n8, w⟩ := w
  exact vz_copyHead_L46 n9 n8 h w
def v_isRight_J25 (ro : Int32) (uo : MS) (U25 : MS) : Prop := (ro = (0 : Int32) ∧ uo = U25)
def v_isRight (S : MS) (x1 : Int32) (ro : Int32) (uo : MS) : Prop := (∃ (b5 : Option Nat) (S3 : MS), v_fileAt S x1 b5 S3 ∧ ((b5 = none ∧ (v_isRight_J25 ro uo S3)) ∨ (¬ b5 = none ∧ (((0 : Int) ≤ x1.toInt ∧ x1.toInt < 12) ∧ ((qR S3 1 x1.toInt.toNat = some (qO S3 1 x1.toInt.toNat)) ∧ (((qI S3 (qO S3 1 x1.toInt.toNat) 21).toInt = 1 ∧ (ro = (1 : Int32) ∧ uo = S3)) ∨ (¬ (qI S3 (qO S3 1 x1.toInt.toNat) 21).toInt = 1 ∧ (v_isRight_J25 ro uo S3))))))))
set_option maxRecDepth 100000 in
theorem ru_isRight_J25 {ι : Type} {P : Int32 → MS → Prop} {Q : Int32 → MS → Prop} {U25 : MS} (i0 : ι) (K : ∀ (i : ι) (ro : Int32) (uo : MS), v_isRight_J25 ro uo U25 → P ro uo) (h : w_isRight_J25 Q U25) : ∃ ro uo, P ro uo ∧ Q ro uo := by
  unfold w_isRight_J25 at h
  exact ⟨_, _, K i0 _ _ ⟨rfl, rfl⟩, h⟩
set_option maxRecDepth 100000 in
theorem ru_isRight {S : MS} {x1 : Int32} {Q : Int32 → MS → Prop} (h : w_isRight S x1 Q) : ∃ ro uo, v_isRight S x1 ro uo ∧ Q ro uo := by
  have i0 : Unit := ()
  have K : ∀ (i : Unit) (ro : Int32) (uo : MS), v_isRight S x1 ro uo → v_isRight S x1 ro uo := fun _ _ _ z => z
  unfold w_isRight at h
  obtain ⟨Q9, h0, h⟩ := h
  obtain ⟨b5, S3, z9, g9⟩ := ru_fileAt h0
  replace h := h b5 S3 g9
  replace K := fun i ro uo z => K i ro uo ⟨b5, S3, z9, z⟩
  by_cases c : b5 = none
  · replace h := h.1 c
    replace K := fun i ro uo z => K i ro uo (Or.inl ⟨c, z⟩)
    exact ru_isRight_J25 i0 K h
  · replace h := h.2 c
    replace K := fun i ro uo z => K i ro uo (Or.inr ⟨c, z⟩)
    obtain ⟨g1_, h⟩ := h
    replace K := fun i ro uo z => K i ro uo ⟨g1_, z⟩
    obtain ⟨g2_, h⟩ := h
    replace K := fun i ro uo z => K i ro uo ⟨g2_, z⟩
    by_cases c : (qI S3 (qO S3 1 x1.toInt.toNat) 21).toInt = 1
    · replace h := h.1 c
      replace K := fun i ro uo z => K i ro uo (Or.inl ⟨c, z⟩)
      exact ⟨_, _, K i0 _ _ ⟨rfl, rfl⟩, h⟩
    · replace h := h.2 c
      replace K := fun i ro uo z => K i ro uo (Or.inr ⟨c, z⟩)
      exact ru_isRight_J25 i0 K h
set_option maxRecDepth 100000 in
theorem vw_isRight_J25 {ro : Int32} {uo : MS} {U25 : MS} (h : v_isRight_J25 ro uo U25) : w_isRight_J25 (fun r u => r = ro ∧ u = uo) U25 := by
  unfold v_isRight_J25 at h
  unfold w_isRight_J25
  exact ⟨h.1.symm, h.2.symm⟩
set_option maxRecDepth 100000 in
theorem vz_isRight_J25 {ro : Int32} {uo : MS} {Q : Int32 → MS → Prop} {U25 : MS} (h : v_isRight_J25 ro uo U25) (w : w_isRight_J25 Q U25) : Q ro uo := by
  unfold v_isRight_J25 at h
  unfold w_isRight_J25 at w
  rw [h.1, h.2]
  exact w
set_option maxRecDepth 100000 in
theorem vw_isRight {S : MS} {x1 : Int32} {ro : Int32} {uo : MS} (h : v_isRight S x1 ro uo) : w_isRight S x1 (fun r u => r = ro ∧ u = uo) := by
  unfold v_isRight at h
  unfold w_isRight
  obtain ⟨p9, q9, z9, h⟩ := h
  refine ⟨_, vw_fileAt z9, ?_⟩
  rintro p8 q8 ⟨d8, d9⟩
  subst d8
  subst d9
  rcases h with ⟨c, h⟩ | ⟨c, h⟩
  · refine ⟨fun _ => ?_, fun c2 => absurd c c2⟩
    exact vw_isRight_J25 h
  · refine ⟨fun c2 => absurd c2 c, fun _ => ?_⟩
    obtain ⟨g9, h⟩ := h
    refine ⟨g9, ?_⟩
    obtain ⟨g9, h⟩ := h
    refine ⟨g9, ?_⟩
    rcases h with ⟨c, h⟩ | ⟨c, h⟩
    · refine ⟨fun _ => ?_, fun c2 => absurd c c2⟩
      exact ⟨h.1.symm, h.2.symm⟩
    · refine ⟨fun c2 => absurd c2 c, fun _ => ?_⟩
      exact vw_isRight_J25 h
set_option maxRecDepth 100000 in
theorem vz_isRight {S : MS} {x1 : Int32} {ro : Int32} {uo : MS} {Q : Int32 → MS → Prop} (h : v_isRight S x1 ro uo) (w : w_isRight S x1 Q) : Q ro uo := by
  unfold v_isRight at h
  unfold w_isRight at w
  obtain ⟨p9, q9, z9, h⟩ := h
  obtain ⟨Q9, w0, w⟩ := w
  replace w := w p9 q9 (vz_fileAt z9 w0)
  rcases h with ⟨c, h⟩ | ⟨c, h⟩
  · replace w := w.1 c
    exact vz_isRight_J25 h w
  · replace w := w.2 c
    replace h := h.2
    replace w := w.2
    replace h := h.2
    replace w := w.2
    rcases h with ⟨c, h⟩ | ⟨c, h⟩
    · replace w := w.1 c
      rw [h.1, h.2]
      exact w
    · replace w := w.2 c
      exact vz_isRight_J25 h w
def v_kept (S : MS) (p1 : Nat) (ro : Int32) (uo : MS) : Prop := (((0 : Int) ≤ (qI S 0 1).toInt ∧ (qI S 0 1).toInt < 12) ∧ (∃ S2 : MS, S2 = wR S 1 (((qI S 0 1).toInt).toNat) (some p1) ∧ (∃ S4 : MS, S4 = wI S2 0 1 ((qI S2 0 1) + (1 : Int32)) ∧ (ro = ((qI S4 0 1) - (1 : Int32)) ∧ uo = S4))))
set_option maxRecDepth 100000 in
theorem ru_kept {S : MS} {p1 : Nat} {Q : Int32 → MS → Prop} (h : w_kept S p1 Q) : ∃ ro uo, v_kept S p1 ro uo ∧ Q ro uo := by
  have i0 : Unit := ()
  have K : ∀ (i : Unit) (ro : Int32) (uo : MS), v_kept S p1 ro uo → v_kept S p1 ro uo := fun _ _ _ z => z
  unfold w_kept at h
  obtain ⟨g1_, h⟩ := h
  replace K := fun i ro uo z => K i ro uo ⟨g1_, z⟩
  obtain ⟨S2, eS2⟩ : ∃ x9 : MS, x9 = wR S 1 (((qI S 0 1).toInt).toNat) (some p1) := ⟨_, rfl⟩
  replace h := h S2 eS2
  replace K := fun i ro uo z => K i ro uo ⟨S2, eS2, z⟩
  obtain ⟨S4, eS4⟩ : ∃ x9 : MS, x9 = wI S2 0 1 ((qI S2 0 1) + (1 : Int32)) := ⟨_, rfl⟩
  replace h := h S4 eS4
  replace K := fun i ro uo z => K i ro uo ⟨S4, eS4, z⟩
  exact ⟨_, _, K i0 _ _ ⟨rfl, rfl⟩, h⟩
set_option maxRecDepth 100000 in
theorem vw_kept {S : MS} {p1 : Nat} {ro : Int32} {uo : MS} (h : v_kept S p1 ro uo) : w_kept S p1 (fun r u => r = ro ∧ u = uo) := by
  unfold v_kept at h
  unfold w_kept
  obtain ⟨g9, h⟩ := h
  refine ⟨g9, ?_⟩
  obtain ⟨v9, e9, h⟩ := h
  intro x9 d9
  have c9 : v9 = x9 := e9.trans d9.symm
  subst c9
  obtain ⟨v9, e9, h⟩ := h
  intro x9 d9
  have c9 : v9 = x9 := e9.trans d9.symm
  subst c9
  exact ⟨h.1.symm, h.2.symm⟩
set_option maxRecDepth 100000 in
theorem vz_kept {S : MS} {p1 : Nat} {ro : Int32} {uo : MS} {Q : Int32 → MS → Prop} (h : v_kept S p1 ro uo) (w : w_kept S p1 Q) : Q ro uo := by
  unfold v_kept at h
  unfold w_kept at w
  replace h := h.2
  replace w := w.2
  obtain ⟨v9, e9, h⟩ := h
  replace w := w v9 e9
  obtain ⟨v9, e9, h⟩ := h
  replace w := w v9 e9
  rw [h.1, h.2]
  exact w
def v_out_L5 (uo : MS) : Nat → MS → Int64 → Int32 → Prop
  | 0, _, _, _ => False
  | n5 + 1, U5, v5_1, v5_4 => ((v5_4.toInt < 0 ∧ (uo = U5)) ∨ (¬ v5_4.toInt < 0 ∧ ((qR U5 0 75 = some (qO U5 0 75)) ∧ (((0 : Int) ≤ (qI U5 0 77).toInt ∧ (qI U5 0 77).toInt < (qN U5 (qO U5 0 75) : Int)) ∧ (∃ S8 : MS, S8 = wI U5 (qO U5 0 75) (((qI U5 0 77).toInt).toNat) (vp_nar .byte (((v5_1 >>> (((8 : Int32) * v5_4).toInt64 &&& 63)).toInt32).toInt8.toInt32)) ∧ (∃ S10 : MS, S10 = wI S8 0 77 ((qI S8 0 77) + (1 : Int32)) ∧ (∃ a11 : Int32, a11 = (v5_4 + Int32.ofInt (-1)) ∧ ((v_out_L5 uo n5) S10 v5_1 a11))))))))
def v_out (S : MS) (y1 : Int64) (x3 : Int32) (uo : MS) : Prop := (∃ a2 : Int32, a2 = (x3 - (1 : Int32)) ∧ (∃ n, v_out_L5 uo n S y1 a2))
set_option maxRecDepth 100000 in
theorem ru_out_L5 {ι : Type} {P : MS → Prop} {Q : MS → Prop} : ∀ (n : Nat) {U5 : MS} {v5_1 : Int64} {v5_4 : Int32} (i0 : ι), (∀ (i : ι) (uo : MS), (∃ n8, v_out_L5 uo n8 U5 v5_1 v5_4) → P uo) → w_out_L5 Q n U5 v5_1 v5_4 → ∃ uo, P uo ∧ Q uo := by
  intro n
  induction n with
  | zero => intro U5 v5_1 v5_4 i0 K h; unfold w_out_L5 at h; exact h.elim
  | succ n ih =>
    intro U5 v5_1 v5_4 i0 K h
    unfold w_out_L5 at h
    replace K := fun (i : ι × Nat) uo (z : v_out_L5 uo (i.2 + 1) U5 v5_1 v5_4) => K i.1 uo ⟨i.2 + 1, z⟩
    have i00 := i0
    replace i0 : ι × Nat := (i0, 0)
    by_cases c : v5_4.toInt < 0
    · replace h := h.1 c
      replace K := fun i uo z => K i uo (Or.inl ⟨c, z⟩)
      exact ⟨_, K i0 _ rfl, h⟩
    · replace h := h.2 c
      replace K := fun i uo z => K i uo (Or.inr ⟨c, z⟩)
      obtain ⟨g1_, h⟩ := h
      replace K := fun i uo z => K i uo ⟨g1_, z⟩
      obtain ⟨g2_, h⟩ := h
      replace K := fun i uo z => K i uo ⟨g2_, z⟩
      obtain ⟨S8, eS8⟩ : ∃ x9 : MS, x9 = wI U5 (qO U5 0 75) (((qI U5 0 77).toInt).toNat) (vp_nar .byte (((v5_1 >>> (((8 : Int32) * v5_4).toInt64 &&& 63)).toInt32).toInt8.toInt32)) := ⟨_, rfl⟩
      replace h := h S8 eS8
      replace K := fun i uo z => K i uo ⟨S8, eS8, z⟩
      obtain ⟨S10, eS10⟩ : ∃ x9 : MS, x9 = wI S8 0 77 ((qI S8 0 77) + (1 : Int32)) := ⟨_, rfl⟩
      replace h := h S10 eS10
      replace K := fun i uo z => K i uo ⟨S10, eS10, z⟩
      obtain ⟨a11, ea11⟩ : ∃ x9 : Int32, x9 = (v5_4 + Int32.ofInt (-1)) := ⟨_, rfl⟩
      replace h := h a11 ea11
      replace K := fun i uo z => K i uo ⟨a11, ea11, z⟩
      exact ih i00 (fun i uo ⟨n8, z⟩ => K (i, n8) uo z) h
set_option maxRecDepth 100000 in
theorem ru_out {S : MS} {y1 : Int64} {x3 : Int32} {Q : MS → Prop} (h : w_out S y1 x3 Q) : ∃ uo, v_out S y1 x3 uo ∧ Q uo := by
  have i0 : Unit := ()
  have K : ∀ (i : Unit) (uo : MS), v_out S y1 x3 uo → v_out S y1 x3 uo := fun _ _ z => z
  unfold w_out at h
  obtain ⟨a2, ea2⟩ : ∃ x9 : Int32, x9 = (x3 - (1 : Int32)) := ⟨_, rfl⟩
  replace h := h a2 ea2
  replace K := fun i uo z => K i uo ⟨a2, ea2, z⟩
  obtain ⟨n9, h⟩ := h
  exact ru_out_L5 n9 i0 K h
set_option maxRecDepth 100000 in
theorem vw_out_L5 {uo : MS} : ∀ (n : Nat) {U5 : MS} {v5_1 : Int64} {v5_4 : Int32}, v_out_L5 uo n U5 v5_1 v5_4 → w_out_L5 (fun u => u = uo) n U5 v5_1 v5_4 := by
  intro n
  induction n with
  | zero => intro U5 v5_1 v5_4 h; unfold v_out_L5 at h; exact h.elim
  | succ n ih =>
    intro U5 v5_1 v5_4 h
    unfold v_out_L5 at h
    unfold w_out_L5
    rcases h with ⟨c, h⟩ | ⟨c, h⟩
    · refine ⟨fun _ => ?_, fun c2 => absurd c c2⟩
      exact h.symm
    · refine ⟨fun c2 => absurd c2 c, fun _ => ?_⟩
      obtain ⟨g9, h⟩ := h
      refine ⟨g9, ?_⟩
      obtain ⟨g9, h⟩ := h
      refine ⟨g9, ?_⟩
      obtain ⟨v9, e9, h⟩ := h
      intro x9 d9
      have c9 : v9 = x9 := e9.trans d9.symm
      subst c9
      obtain ⟨v9, e9, h⟩ := h
      intro x9 d9
      have c9 : v9 = x9 := e9.trans d9.symm
      subst c9
      obtain ⟨v9, e9, h⟩ := h
      intro x9 d9
      have c9 : v9 = x9 := e9.trans d9.symm
      subst c9
      exact ih h
set_option maxRecDepth 100000 in
theorem vz_out_L5 {uo : MS} {Q : MS → Prop} : ∀ (n m : Nat) {U5 : MS} {v5_1 : Int64} {v5_4 : Int32}, v_out_L5 uo n U5 v5_1 v5_4 → w_out_L5 Q m U5 v5_1 v5_4 → Q uo := by
  intro n
  induction n with
  | zero => intro m U5 v5_1 v5_4 h; unfold v_out_L5 at h; exact h.elim
  | succ n ih =>
    intro m U5 v5_1 v5_4 h w
    cases m with
    | zero => unfold w_out_L5 at w; exact w.elim
    | succ m =>
      unfold v_out_L5 at h
      unfold w_out_L5 at w
      rcases h with ⟨c, h⟩ | ⟨c, h⟩
      · replace w := w.1 c
        rw [h]
        exact w
      · replace w := w.2 c
        replace h := h.2
        replace w := w.2
        replace h := h.2
        replace w := w.2
        obtain ⟨v9, e9, h⟩ := h
        replace w := w v9 e9
        obtain ⟨v9, e9, h⟩ := h
        replace w := w v9 e9
        obtain ⟨v9, e9, h⟩ := h
        replace w := w v9 e9
        exact ih m h w
set_option maxRecDepth 100000 in
theorem vw_out {S : MS} {y1 : Int64} {x3 : Int32} {uo : MS} (h : v_out S y1 x3 uo) : w_out S y1 x3 (fun u => u = uo) := by
  unfold v_out at h
  unfold w_out
  obtain ⟨v9, e9, h⟩ := h
  intro x9 d9
  have c9 : v9 = x9 := e9.trans d9.symm
  subst c9
  obtain ⟨n9, h⟩ := h
  exact ⟨n9, vw_out_L5 n9 h⟩
set_option maxRecDepth 100000 in
theorem vz_out {S : MS} {y1 : Int64} {x3 : Int32} {uo : MS} {Q : MS → Prop} (h : v_out S y1 x3 uo) (w : w_out S y1 x3 Q) : Q uo := by
  unfold v_out at h
  unfold w_out at w
  obtain ⟨v9, e9, h⟩ := h
  replace w := w v9 e9
  obtain ⟨n9, h⟩ := h
  obtain ⟨n8, w⟩ := w
  exact vz_out_L5 n9 n8 h w
def v_outEntry_L77 (uo : MS) : Nat → MS → Int32 → Int32 → Prop
  | 0, _, _, _ => False
  | n77 + 1, U77, v77_1, v77_2 => (((0 : Int) ≤ v77_1.toInt ∧ v77_1.toInt < 700) ∧ ((qR U77 33 v77_1.toInt.toNat = some (qO U77 33 v77_1.toInt.toNat)) ∧ (((Int32.ofNat (qN U77 ((qO U77 33 v77_1.toInt.toNat) + 1))).toInt ≤ v77_2.toInt ∧ (uo = U77)) ∨ (¬ (Int32.ofNat (qN U77 ((qO U77 33 v77_1.toInt.toNat) + 1))).toInt ≤ v77_2.toInt ∧ (((0 : Int) ≤ v77_1.toInt ∧ v77_1.toInt < 700) ∧ ((qR U77 33 v77_1.toInt.toNat = some (qO U77 33 v77_1.toInt.toNat)) ∧ (((0 : Int) ≤ v77_2.toInt ∧ v77_2.toInt < (qN U77 ((qO U77 33 v77_1.toInt.toNat) + 1) : Int)) ∧ (∃ (S26 : MS), v_out U77 ((cAt U77 (qO U77 33 v77_1.toInt.toNat) v77_2).toInt64) (1 : Int32) S26 ∧ (∃ a28 : Int32, a28 = (v77_2 + Int32.ofInt 1) ∧ ((v_outEntry_L77 uo n77) S26 v77_1 a28))))))))))
def v_outEntry (S : MS) (x1 : Int32) (uo : MS) : Prop := (((0 : Int) ≤ x1.toInt ∧ x1.toInt < 700) ∧ (∃ (S4 : MS), v_out S ((qI S 28 x1.toInt.toNat).toInt64) (1 : Int32) S4 ∧ (((0 : Int) ≤ x1.toInt ∧ x1.toInt < 700) ∧ (((qI S4 28 x1.toInt.toNat).toInt = 1 ∧ (((0 : Int) ≤ x1.toInt ∧ x1.toInt < 700) ∧ ((qR S4 33 x1.toInt.toNat = some (qO S4 33 x1.toInt.toNat)) ∧ (∃ (S13 : MS), v_out S4 ((Int32.ofNat (qN S4 ((qO S4 33 x1.toInt.toNat) + 1))).toInt64) (2 : Int32) S13 ∧ (∃ n, v_outEntry_L77 uo n S13 x1 0))))) ∨ (¬ (qI S4 28 x1.toInt.toNat).toInt = 1 ∧ (((qI S4 28 x1.toInt.toNat).toInt = 2 ∧ (((0 : Int) ≤ x1.toInt ∧ x1.toInt < 700) ∧ (∃ (S32 : MS), v_out S4 ((qI S4 30 x1.toInt.toNat).toInt64) (2 : Int32) S32 ∧ (((0 : Int) ≤ x1.toInt ∧ x1.toInt < 700) ∧ (∃ (S37 : MS), v_out S32 ((qI S32 31 x1.toInt.toNat).toInt64) (2 : Int32) S37 ∧ (uo = S37)))))) ∨ (¬ (qI S4 28 x1.toInt.toNat).toInt = 2 ∧ (((qI S4 28 x1.toInt.toNat).toInt = 3 ∧ (((0 : Int) ≤ x1.toInt ∧ x1.toInt < 700) ∧ (∃ (S42 : MS), v_out S4 (qJ S4 32 x1.toInt.toNat) (4 : Int32) S42 ∧ (uo = S42)))) ∨ (¬ (qI S4 28 x1.toInt.toNat).toInt = 3 ∧ (((qI S4 28 x1.toInt.toNat).toInt = 4 ∧ (((0 : Int) ≤ x1.toInt ∧ x1.toInt < 700) ∧ (∃ (S47 : MS), v_out S4 ((qI S4 30 x1.toInt.toNat).toInt64) (2 : Int32) S47 ∧ (((0 : Int) ≤ x1.toInt ∧ x1.toInt < 700) ∧ (∃ (S52 : MS), v_out S47 ((qI S47 31 x1.toInt.toNat).toInt64) (2 : Int32) S52 ∧ (uo = S52)))))) ∨ (¬ (qI S4 28 x1.toInt.toNat).toInt = 4 ∧ (((qI S4 28 x1.toInt.toNat).toInt = 5 ∧ (((0 : Int) ≤ x1.toInt ∧ x1.toInt < 700) ∧ (∃ (S57 : MS), v_out S4 (qJ S4 32 x1.toInt.toNat) (8 : Int32) S57 ∧ (uo = S57)))) ∨ (¬ (qI S4 28 x1.toInt.toNat).toInt = 5 ∧ (((qI S4 28 x1.toInt.toNat).toInt = 6 ∧ (((0 : Int) ≤ x1.toInt ∧ x1.toInt < 700) ∧ (∃ (S62 : MS), v_out S4 ((qI S4 30 x1.toInt.toNat).toInt64) (2 : Int32) S62 ∧ (((0 : Int) ≤ x1.toInt ∧ x1.toInt < 700) ∧ (∃ (S67 : MS), v_out S62 ((qI S62 31 x1.toInt.toNat).toInt64) (2 : Int32) S67 ∧ (uo = S67)))))) ∨ (¬ (qI S4 28 x1.toInt.toNat).toInt = 6 ∧ (((qI S4 28 x1.toInt.toNat).toInt = 7 ∧ (((0 : Int) ≤ x1.toInt ∧ x1.toInt < 700) ∧ (∃ (S72 : MS), v_out S4 ((qI S4 30 x1.toInt.toNat).toInt64) (2 : Int32) S72 ∧ (uo = S72)))) ∨ (¬ (qI S4 28 x1.toInt.toNat).toInt = 7 ∧ (((0 : Int) ≤ x1.toInt ∧ x1.toInt < 700) ∧ (∃ (S77 : MS), v_out S4 ((qI S4 30 x1.toInt.toNat).toInt64) (2 : Int32) S77 ∧ (((0 : Int) ≤ x1.toInt ∧ x1.toInt < 700) ∧ (∃ (S82 : MS), v_out S77 ((qI S77 31 x1.toInt.toNat).toInt64) (2 : Int32) S82 ∧ (uo = S82))))))))))))))))))))))
set_option maxRecDepth 100000 in
theorem ru_outEntry_L77 {ι : Type} {P : MS → Prop} {Q : MS → Prop} : ∀ (n : Nat) {U77 : MS} {v77_1 : Int32} {v77_2 : Int32} (i0 : ι), (∀ (i : ι) (uo : MS), (∃ n8, v_outEntry_L77 uo n8 U77 v77_1 v77_2) → P uo) → w_outEntry_L77 Q n U77 v77_1 v77_2 → ∃ uo, P uo ∧ Q uo := by
  intro n
  induction n with
  | zero => intro U77 v77_1 v77_2 i0 K h; unfold w_outEntry_L77 at h; exact h.elim
  | succ n ih =>
    intro U77 v77_1 v77_2 i0 K h
    unfold w_outEntry_L77 at h
    replace K := fun (i : ι × Nat) uo (z : v_outEntry_L77 uo (i.2 + 1) U77 v77_1 v77_2) => K i.1 uo ⟨i.2 + 1, z⟩
    have i00 := i0
    replace i0 : ι × Nat := (i0, 0)
    obtain ⟨g1_, h⟩ := h
    replace K := fun i uo z => K i uo ⟨g1_, z⟩
    obtain ⟨g2_, h⟩ := h
    replace K := fun i uo z => K i uo ⟨g2_, z⟩
    by_cases c : (Int32.ofNat (qN U77 ((qO U77 33 v77_1.toInt.toNat) + 1))).toInt ≤ v77_2.toInt
    · replace h := h.1 c
      replace K := fun i uo z => K i uo (Or.inl ⟨c, z⟩)
      exact ⟨_, K i0 _ rfl, h⟩
    · replace h := h.2 c
      replace K := fun i uo z => K i uo (Or.inr ⟨c, z⟩)
      obtain ⟨g3_, h⟩ := h
      replace K := fun i uo z => K i uo ⟨g3_, z⟩
      obtain ⟨g4_, h⟩ := h
      replace K := fun i uo z => K i uo ⟨g4_, z⟩
      obtain ⟨g5_, h⟩ := h
      replace K := fun i uo z => K i uo ⟨g5_, z⟩
      obtain ⟨Q9, h0, h⟩ := h
      obtain ⟨S26, z9, g9⟩ := ru_out h0
      replace h := h S26 g9
      replace K := fun i uo z => K i uo ⟨S26, z9, z⟩
      obtain ⟨a28, ea28⟩ : ∃ x9 : Int32, x9 = (v77_2 + Int32.ofInt 1) := ⟨_, rfl⟩
      replace h := h a28 ea28
      replace K := fun i uo z => K i uo ⟨a28, ea28, z⟩
      exact ih i00 (fun i uo ⟨n8, z⟩ => K (i, n8) uo z) h
set_option maxRecDepth 100000 in
theorem ru_outEntry {S : MS} {x1 : Int32} {Q : MS → Prop} (h : w_outEntry S x1 Q) : ∃ uo, v_outEntry S x1 uo ∧ Q uo := by
  have i0 : Unit := ()
  have K : ∀ (i : Unit) (uo : MS), v_outEntry S x1 uo → v_outEntry S x1 uo := fun _ _ z => z
  unfold w_outEntry at h
  obtain ⟨g6_, h⟩ := h
  replace K := fun i uo z => K i uo ⟨g6_, z⟩
  obtain ⟨Q9, h0, h⟩ := h
  obtain ⟨S4, z9, g9⟩ := ru_out h0
  replace h := h S4 g9
  replace K := fun i uo z => K i uo ⟨S4, z9, z⟩
  obtain ⟨g7_, h⟩ := h
  replace K := fun i uo z => K i uo ⟨g7_, z⟩
  by_cases c : (qI S4 28 x1.toInt.toNat).toInt = 1
  · replace h := h.1 c
    replace K := fun i uo z => K i uo (Or.inl ⟨c, z⟩)
    obtain ⟨g8_, h⟩ := h
    replace K := fun i uo z => K i uo ⟨g8_, z⟩
    obtain ⟨g9_, h⟩ := h
    replace K := fun i uo z => K i uo ⟨g9_, z⟩
    obtain ⟨Q9, h0, h⟩ := h
    obtain ⟨S13, z9, g9⟩ := ru_out h0
    replace h := h S13 g9
    replace K := fun i uo z => K i uo ⟨S13, z9, z⟩
    obtain ⟨n9, h⟩ := h
    exact ru_outEntry_L77 n9 i0 K h
  · replace h := h.2 c
    replace K := fun i uo z => K i uo (Or.inr ⟨c, z⟩)
    by_cases c : (qI S4 28 x1.toInt.toNat).toInt = 2
    · replace h := h.1 c
      replace K := fun i uo z => K i uo (Or.inl ⟨c, z⟩)
      obtain ⟨g10_, h⟩ := h
      replace K := fun i uo z => K i uo ⟨g10_, z⟩
      obtain ⟨Q9, h0, h⟩ := h
      obtain ⟨S32, z9, g9⟩ := ru_out h0
      replace h := h S32 g9
      replace K := fun i uo z => K i uo ⟨S32, z9, z⟩
      obtain ⟨g11_, h⟩ := h
      replace K := fun i uo z => K i uo ⟨g11_, z⟩
      obtain ⟨Q9, h0, h⟩ := h
      obtain ⟨S37, z9, g9⟩ := ru_out h0
      replace h := h S37 g9
      replace K := fun i uo z => K i uo ⟨S37, z9, z⟩
      exact ⟨_, K i0 _ rfl, h⟩
    · replace h := h.2 c
      replace K := fun i uo z => K i uo (Or.inr ⟨c, z⟩)
      by_cases c : (qI S4 28 x1.toInt.toNat).toInt = 3
      · replace h := h.1 c
        replace K := fun i uo z => K i uo (Or.inl ⟨c, z⟩)
        obtain ⟨g12_, h⟩ := h
        replace K := fun i uo z => K i uo ⟨g12_, z⟩
        obtain ⟨Q9, h0, h⟩ := h
        obtain ⟨S42, z9, g9⟩ := ru_out h0
        replace h := h S42 g9
        replace K := fun i uo z => K i uo ⟨S42, z9, z⟩
        exact ⟨_, K i0 _ rfl, h⟩
      · replace h := h.2 c
        replace K := fun i uo z => K i uo (Or.inr ⟨c, z⟩)
        by_cases c : (qI S4 28 x1.toInt.toNat).toInt = 4
        · replace h := h.1 c
          replace K := fun i uo z => K i uo (Or.inl ⟨c, z⟩)
          obtain ⟨g13_, h⟩ := h
          replace K := fun i uo z => K i uo ⟨g13_, z⟩
          obtain ⟨Q9, h0, h⟩ := h
          obtain ⟨S47, z9, g9⟩ := ru_out h0
          replace h := h S47 g9
          replace K := fun i uo z => K i uo ⟨S47, z9, z⟩
          obtain ⟨g14_, h⟩ := h
          replace K := fun i uo z => K i uo ⟨g14_, z⟩
          obtain ⟨Q9, h0, h⟩ := h
          obtain ⟨S52, z9, g9⟩ := ru_out h0
          replace h := h S52 g9
          replace K := fun i uo z => K i uo ⟨S52, z9, z⟩
          exact ⟨_, K i0 _ rfl, h⟩
        · replace h := h.2 c
          replace K := fun i uo z => K i uo (Or.inr ⟨c, z⟩)
          by_cases c : (qI S4 28 x1.toInt.toNat).toInt = 5
          · replace h := h.1 c
            replace K := fun i uo z => K i uo (Or.inl ⟨c, z⟩)
            obtain ⟨g15_, h⟩ := h
            replace K := fun i uo z => K i uo ⟨g15_, z⟩
            obtain ⟨Q9, h0, h⟩ := h
            obtain ⟨S57, z9, g9⟩ := ru_out h0
            replace h := h S57 g9
            replace K := fun i uo z => K i uo ⟨S57, z9, z⟩
            exact ⟨_, K i0 _ rfl, h⟩
          · replace h := h.2 c
            replace K := fun i uo z => K i uo (Or.inr ⟨c, z⟩)
            by_cases c : (qI S4 28 x1.toInt.toNat).toInt = 6
            · replace h := h.1 c
              replace K := fun i uo z => K i uo (Or.inl ⟨c, z⟩)
              obtain ⟨g16_, h⟩ := h
              replace K := fun i uo z => K i uo ⟨g16_, z⟩
              obtain ⟨Q9, h0, h⟩ := h
              obtain ⟨S62, z9, g9⟩ := ru_out h0
              replace h := h S62 g9
              replace K := fun i uo z => K i uo ⟨S62, z9, z⟩
              obtain ⟨g17_, h⟩ := h
              replace K := fun i uo z => K i uo ⟨g17_, z⟩
              obtain ⟨Q9, h0, h⟩ := h
              obtain ⟨S67, z9, g9⟩ := ru_out h0
              replace h := h S67 g9
              replace K := fun i uo z => K i uo ⟨S67, z9, z⟩
              exact ⟨_, K i0 _ rfl, h⟩
            · replace h := h.2 c
              replace K := fun i uo z => K i uo (Or.inr ⟨c, z⟩)
              by_cases c : (qI S4 28 x1.toInt.toNat).toInt = 7
              · replace h := h.1 c
                replace K := fun i uo z => K i uo (Or.inl ⟨c, z⟩)
                obtain ⟨g18_, h⟩ := h
                replace K := fun i uo z => K i uo ⟨g18_, z⟩
                obtain ⟨Q9, h0, h⟩ := h
                obtain ⟨S72, z9, g9⟩ := ru_out h0
                replace h := h S72 g9
                replace K := fun i uo z => K i uo ⟨S72, z9, z⟩
                exact ⟨_, K i0 _ rfl, h⟩
              · replace h := h.2 c
                replace K := fun i uo z => K i uo (Or.inr ⟨c, z⟩)
                obtain ⟨g19_, h⟩ := h
                replace K := fun i uo z => K i uo ⟨g19_, z⟩
                obtain ⟨Q9, h0, h⟩ := h
                obtain ⟨S77, z9, g9⟩ := ru_out h0
                replace h := h S77 g9
                replace K := fun i uo z => K i uo ⟨S77, z9, z⟩
                obtain ⟨g20_, h⟩ := h
                replace K := fun i uo z => K i uo ⟨g20_, z⟩
                obtain ⟨Q9, h0, h⟩ := h
                obtain ⟨S82, z9, g9⟩ := ru_out h0
                replace h := h S82 g9
                replace K := fun i uo z => K i uo ⟨S82, z9, z⟩
                exact ⟨_, K i0 _ rfl, h⟩
set_option maxRecDepth 100000 in
theorem vw_outEntry_L77 {uo : MS} : ∀ (n : Nat) {U77 : MS} {v77_1 : Int32} {v77_2 : Int32}, v_outEntry_L77 uo n U77 v77_1 v77_2 → w_outEntry_L77 (fun u => u = uo) n U77 v77_1 v77_2 := by
  intro n
  induction n with
  | zero => intro U77 v77_1 v77_2 h; unfold v_outEntry_L77 at h; exact h.elim
  | succ n ih =>
    intro U77 v77_1 v77_2 h
    unfold v_outEntry_L77 at h
    unfold w_outEntry_L77
    obtain ⟨g9, h⟩ := h
    refine ⟨g9, ?_⟩
    obtain ⟨g9, h⟩ := h
    refine ⟨g9, ?_⟩
    rcases h with ⟨c, h⟩ | ⟨c, h⟩
    · refine ⟨fun _ => ?_, fun c2 => absurd c c2⟩
      exact h.symm
    · refine ⟨fun c2 => absurd c2 c, fun _ => ?_⟩
      obtain ⟨g9, h⟩ := h
      refine ⟨g9, ?_⟩
      obtain ⟨g9, h⟩ := h
      refine ⟨g9, ?_⟩
      obtain ⟨g9, h⟩ := h
      refine ⟨g9, ?_⟩
      obtain ⟨q9, z9, h⟩ := h
      refine ⟨_, vw_out z9, ?_⟩
      intro q8 d9
      subst d9
      obtain ⟨v9, e9, h⟩ := h
      intro x9 d9
      have c9 : v9 = x9 := e9.trans d9.symm
      subst c9
      exact ih h
set_option maxRecDepth 100000 in
theorem vz_outEntry_L77 {uo : MS} {Q : MS → Prop} : ∀ (n m : Nat) {U77 : MS} {v77_1 : Int32} {v77_2 : Int32}, v_outEntry_L77 uo n U77 v77_1 v77_2 → w_outEntry_L77 Q m U77 v77_1 v77_2 → Q uo := by
  intro n
  induction n with
  | zero => intro m U77 v77_1 v77_2 h; unfold v_outEntry_L77 at h; exact h.elim
  | succ n ih =>
    intro m U77 v77_1 v77_2 h w
    cases m with
    | zero => unfold w_outEntry_L77 at w; exact w.elim
    | succ m =>
      unfold v_outEntry_L77 at h
      unfold w_outEntry_L77 at w
      replace h := h.2
      replace w := w.2
      replace h := h.2
      replace w := w.2
      rcases h with ⟨c, h⟩ | ⟨c, h⟩
      · replace w := w.1 c
        rw [h]
        exact w
      · replace w := w.2 c
        replace h := h.2
        replace w := w.2
        replace h := h.2
        replace w := w.2
        replace h := h.2
        replace w := w.2
        obtain ⟨q9, z9, h⟩ := h
        obtain ⟨Q9, w0, w⟩ := w
        replace w := w q9 (vz_out z9 w0)
        obtain ⟨v9, e9, h⟩ := h
        replace w := w v9 e9
        exact ih m h w
set_option maxRecDepth 100000 in
theorem vw_outEntry {S : MS} {x1 : Int32} {uo : MS} (h : v_outEntry S x1 uo) : w_outEntry S x1 (fun u => u = uo) := by
  unfold v_outEntry at h
  unfold w_outEntry
  obtain ⟨g9, h⟩ := h
  refine ⟨g9, ?_⟩
  obtain ⟨q9, z9, h⟩ := h
  refine ⟨_, vw_out z9, ?_⟩
  intro q8 d9
  subst d9
  obtain ⟨g9, h⟩ := h
  refine ⟨g9, ?_⟩
  rcases h with ⟨c, h⟩ | ⟨c, h⟩
  · refine ⟨fun _ => ?_, fun c2 => absurd c c2⟩
    obtain ⟨g9, h⟩ := h
    refine ⟨g9, ?_⟩
    obtain ⟨g9, h⟩ := h
    refine ⟨g9, ?_⟩
    obtain ⟨q9, z9, h⟩ := h
    refine ⟨_, vw_out z9, ?_⟩
    intro q8 d9
    subst d9
    obtain ⟨n9, h⟩ := h
    exact ⟨n9, vw_outEntry_L77 n9 h⟩
  · refine ⟨fun c2 => absurd c2 c, fun _ => ?_⟩
    rcases h with ⟨c, h⟩ | ⟨c, h⟩
    · refine ⟨fun _ => ?_, fun c2 => absurd c c2⟩
      obtain ⟨g9, h⟩ := h
      refine ⟨g9, ?_⟩
      obtain ⟨q9, z9, h⟩ := h
      refine ⟨_, vw_out z9, ?_⟩
      intro q8 d9
      subst d9
      obtain ⟨g9, h⟩ := h
      refine ⟨g9, ?_⟩
      obtain ⟨q9, z9, h⟩ := h
      refine ⟨_, vw_out z9, ?_⟩
      intro q8 d9
      subst d9
      exact h.symm
    · refine ⟨fun c2 => absurd c2 c, fun _ => ?_⟩
      rcases h with ⟨c, h⟩ | ⟨c, h⟩
      · refine ⟨fun _ => ?_, fun c2 => absurd c c2⟩
        obtain ⟨g9, h⟩ := h
        refine ⟨g9, ?_⟩
        obtain ⟨q9, z9, h⟩ := h
        refine ⟨_, vw_out z9, ?_⟩
        intro q8 d9
        subst d9
        exact h.symm
      · refine ⟨fun c2 => absurd c2 c, fun _ => ?_⟩
        rcases h with ⟨c, h⟩ | ⟨c, h⟩
        · refine ⟨fun _ => ?_, fun c2 => absurd c c2⟩
          obtain ⟨g9, h⟩ := h
          refine ⟨g9, ?_⟩
          obtain ⟨q9, z9, h⟩ := h
          refine ⟨_, vw_out z9, ?_⟩
          intro q8 d9
          subst d9
          obtain ⟨g9, h⟩ := h
          refine ⟨g9, ?_⟩
          obtain ⟨q9, z9, h⟩ := h
          refine ⟨_, vw_out z9, ?_⟩
          intro q8 d9
          subst d9
          exact h.symm
        · refine ⟨fun c2 => absurd c2 c, fun _ => ?_⟩
          rcases h with ⟨c, h⟩ | ⟨c, h⟩
          · refine ⟨fun _ => ?_, fun c2 => absurd c c2⟩
            obtain ⟨g9, h⟩ := h
            refine ⟨g9, ?_⟩
            obtain ⟨q9, z9, h⟩ := h
            refine ⟨_, vw_out z9, ?_⟩
            intro q8 d9
            subst d9
            exact h.symm
          · refine ⟨fun c2 => absurd c2 c, fun _ => ?_⟩
            rcases h with ⟨c, h⟩ | ⟨c, h⟩
            · refine ⟨fun _ => ?_, fun c2 => absurd c c2⟩
              obtain ⟨g9, h⟩ := h
              refine ⟨g9, ?_⟩
              obtain ⟨q9, z9, h⟩ := h
              refine ⟨_, vw_out z9, ?_⟩
              intro q8 d9
              subst d9
              obtain ⟨g9, h⟩ := h
              refine ⟨g9, ?_⟩
              obtain ⟨q9, z9, h⟩ := h
              refine ⟨_, vw_out z9, ?_⟩
              intro q8 d9
              subst d9
              exact h.symm
            · refine ⟨fun c2 => absurd c2 c, fun _ => ?_⟩
              rcases h with ⟨c, h⟩ | ⟨c, h⟩
              · refine ⟨fun _ => ?_, fun c2 => absurd c c2⟩
                obtain ⟨g9, h⟩ := h
                refine ⟨g9, ?_⟩
                obtain ⟨q9, z9, h⟩ := h
                refine ⟨_, vw_out z9, ?_⟩
                intro q8 d9
                subst d9
                exact h.symm
              · refine ⟨fun c2 => absurd c2 c, fun _ => ?_⟩
                obtain ⟨g9, h⟩ := h
                refine ⟨g9, ?_⟩
                obtain ⟨q9, z9, h⟩ := h
                refine ⟨_, vw_out z9, ?_⟩
                intro q8 d9
                subst d9
                obtain ⟨g9, h⟩ := h
                refine ⟨g9, ?_⟩
                obtain ⟨q9, z9, h⟩ := h
                refine ⟨_, vw_out z9, ?_⟩
                intro q8 d9
                subst d9
                exact h.symm
set_option maxRecDepth 100000 in
theorem vz_outEntry {S : MS} {x1 : Int32} {uo : MS} {Q : MS → Prop} (h : v_outEntry S x1 uo) (w : w_outEntry S x1 Q) : Q uo := by
  unfold v_outEntry at h
  unfold w_outEntry at w
  replace h := h.2
  replace w := w.2
  obtain ⟨q9, z9, h⟩ := h
  obtain ⟨Q9, w0, w⟩ := w
  replace w := w q9 (vz_out z9 w0)
  replace h := h.2
  replace w := w.2
  rcases h with ⟨c, h⟩ | ⟨c, h⟩
  · replace w := w.1 c
    replace h := h.2
    replace w := w.2
    replace h := h.2
    replace w := w.2
    obtain ⟨q9, z9, h⟩ := h
    obtain ⟨Q9, w0, w⟩ := w
    replace w := w q9 (vz_out z9 w0)
    obtain ⟨n9, h⟩ := h
    obtain ⟨n8, w⟩ := w
    exact vz_outEntry_L77 n9 n8 h w
  · replace w := w.2 c
    rcases h with ⟨c, h⟩ | ⟨c, h⟩
    · replace w := w.1 c
      replace h := h.2
      replace w := w.2
      obtain ⟨q9, z9, h⟩ := h
      obtain ⟨Q9, w0, w⟩ := w
      replace w := w q9 (vz_out z9 w0)
      replace h := h.2
      replace w := w.2
      obtain ⟨q9, z9, h⟩ := h
      obtain ⟨Q9, w0, w⟩ := w
      replace w := w q9 (vz_out z9 w0)
      rw [h]
      exact w
    · replace w := w.2 c
      rcases h with ⟨c, h⟩ | ⟨c, h⟩
      · replace w := w.1 c
        replace h := h.2
        replace w := w.2
        obtain ⟨q9, z9, h⟩ := h
        obtain ⟨Q9, w0, w⟩ := w
        replace w := w q9 (vz_out z9 w0)
        rw [h]
        exact w
      · replace w := w.2 c
        rcases h with ⟨c, h⟩ | ⟨c, h⟩
        · replace w := w.1 c
          replace h := h.2
          replace w := w.2
          obtain ⟨q9, z9, h⟩ := h
          obtain ⟨Q9, w0, w⟩ := w
          replace w := w q9 (vz_out z9 w0)
          replace h := h.2
          replace w := w.2
          obtain ⟨q9, z9, h⟩ := h
          obtain ⟨Q9, w0, w⟩ := w
          replace w := w q9 (vz_out z9 w0)
          rw [h]
          exact w
        · replace w := w.2 c
          rcases h with ⟨c, h⟩ | ⟨c, h⟩
          · replace w := w.1 c
            replace h := h.2
            replace w := w.2
            obtain ⟨q9, z9, h⟩ := h
            obtain ⟨Q9, w0, w⟩ := w
            replace w := w q9 (vz_out z9 w0)
            rw [h]
            exact w
          · replace w := w.2 c
            rcases h with ⟨c, h⟩ | ⟨c, h⟩
            · replace w := w.1 c
              replace h := h.2
              replace w := w.2
              obtain ⟨q9, z9, h⟩ := h
              obtain ⟨Q9, w0, w⟩ := w
              replace w := w q9 (vz_out z9 w0)
              replace h := h.2
              replace w := w.2
              obtain ⟨q9, z9, h⟩ := h
              obtain ⟨Q9, w0, w⟩ := w
              replace w := w q9 (vz_out z9 w0)
              rw [h]
              exact w
            · replace w := w.2 c
              rcases h with ⟨c, h⟩ | ⟨c, h⟩
              · replace w := w.1 c
                replace h := h.2
                replace w := w.2
                obtain ⟨q9, z9, h⟩ := h
                obtain ⟨Q9, w0, w⟩ := w
                replace w := w q9 (vz_out z9 w0)
                rw [h]
                exact w
              · replace w := w.2 c
                replace h := h.2
                replace w := w.2
                obtain ⟨q9, z9, h⟩ := h
                obtain ⟨Q9, w0, w⟩ := w
                replace w := w q9 (vz_out z9 w0)
                replace h := h.2
                replace w := w.2
                obtain ⟨q9, z9, h⟩ := h
                obtain ⟨Q9, w0, w⟩ := w
                replace w := w q9 (vz_out z9 w0)
                rw [h]
                exact w
def v_leastLocals_J96 (ro : Int32) (uo : MS) (k7 : MS → Int32 → Int32 → Prop) (U96 : MS) (v96_2 : Int32) (v96_3 : Int32) : Prop := (∃ a10 : Int32, a10 = (v96_3 + Int32.ofInt 1) ∧ (k7 U96 v96_2 a10))
def v_leastLocals_J84 (ro : Int32) (uo : MS) (k7 : MS → Int32 → Int32 → Prop) (U84 : MS) (v84_2 : Int32) (v84_3 : Int32) : Prop := (d_first U84 v84_3 ∧ (∃ a16 : Int32, a16 = (if v84_2 < ((f_first U84 v84_3) + (1 : Int32)) then ((f_first U84 v84_3) + (1 : Int32)) else v84_2) ∧ (v_leastLocals_J96 ro uo k7 U84 a16 v84_3)))
def v_leastLocals_J48 (ro : Int32) (uo : MS) (k7 : MS → Int32 → Int32 → Prop) (U48 : MS) (v48_2 : Int32) (v48_3 : Int32) (v48_4 : Int32) : Prop := ((v48_4.toInt = 21 ∧ (v_leastLocals_J84 ro uo k7 U48 v48_2 v48_3)) ∨ (¬ v48_4.toInt = 21 ∧ ((v48_4.toInt = 25 ∧ (v_leastLocals_J84 ro uo k7 U48 v48_2 v48_3)) ∨ (¬ v48_4.toInt = 25 ∧ ((v48_4.toInt = 54 ∧ (v_leastLocals_J84 ro uo k7 U48 v48_2 v48_3)) ∨ (¬ v48_4.toInt = 54 ∧ ((v48_4.toInt = 58 ∧ (v_leastLocals_J84 ro uo k7 U48 v48_2 v48_3)) ∨ (¬ v48_4.toInt = 58 ∧ ((v48_4.toInt = 132 ∧ (v_leastLocals_J84 ro uo k7 U48 v48_2 v48_3)) ∨ (¬ v48_4.toInt = 132 ∧ (v_leastLocals_J96 ro uo k7 U48 v48_2 v48_3)))))))))))
def v_leastLocals_J36 (ro : Int32) (uo : MS) (k7 : MS → Int32 → Int32 → Prop) (U36 : MS) (v36_2 : Int32) (v36_3 : Int32) (v36_4 : Int32) : Prop := (d_first U36 v36_3 ∧ (∃ a27 : Int32, a27 = (if v36_2 < ((f_first U36 v36_3) + (2 : Int32)) then ((f_first U36 v36_3) + (2 : Int32)) else v36_2) ∧ (v_leastLocals_J48 ro uo k7 U36 a27 v36_3 v36_4)))
def v_leastLocals_L7 (ro : Int32) (uo : MS) : Nat → MS → Int32 → Int32 → Prop
  | 0, _, _, _ => False
  | n7 + 1, U7, v7_2, v7_3 => (((qI U7 0 52).toInt ≤ v7_3.toInt ∧ (ro = v7_2 ∧ uo = U7)) ∨ (¬ (qI U7 0 52).toInt ≤ v7_3.toInt ∧ (d_op U7 v7_3 ∧ (∃ a9 : Int32, a9 = (f_op U7 v7_3) ∧ ((a9.toInt = 22 ∧ (v_leastLocals_J36 ro uo (v_leastLocals_L7 ro uo n7) U7 v7_2 v7_3 a9)) ∨ (¬ a9.toInt = 22 ∧ ((a9.toInt = 55 ∧ (v_leastLocals_J36 ro uo (v_leastLocals_L7 ro uo n7) U7 v7_2 v7_3 a9)) ∨ (¬ a9.toInt = 55 ∧ (v_leastLocals_J48 ro uo (v_leastLocals_L7 ro uo n7) U7 v7_2 v7_3 a9)))))))))
def v_leastLocals (S : MS) (p1 : Nat) (ro : Int32) (uo : MS) : Prop := (∃ (r2 : Int32) (S3 : MS), v_placesOf S p1 r2 S3 ∧ (∃ n, v_leastLocals_L7 ro uo n S3 r2 0))
set_option maxRecDepth 100000 in
theorem ru_leastLocals_J96 {ι : Type} {P : Int32 → MS → Prop} {Q : Int32 → MS → Prop} {k7 : MS → Int32 → Int32 → Prop} {k7v : ι → Int32 → MS → MS → Int32 → Int32 → Prop} {U96 : MS} {v96_2 : Int32} {v96_3 : Int32} (i0 : ι) (hk7 : ∀ (u : MS) (z0 : Int32) (z1 : Int32), k7 u z0 z1 → (∀ (i : ι) (ro : Int32) (uo : MS), k7v i ro uo u z0 z1 → P ro uo) → ∃ ro uo, P ro uo ∧ Q ro uo) (K : ∀ (i : ι) (ro : Int32) (uo : MS), v_leastLocals_J96 ro uo (k7v i ro uo) U96 v96_2 v96_3 → P ro uo) (h : w_leastLocals_J96 Q k7 U96 v96_2 v96_3) : ∃ ro uo, P ro uo ∧ Q ro uo := by
  unfold w_leastLocals_J96 at h
  obtain ⟨a10, ea10⟩ : ∃ x9 : Int32, x9 = (v96_3 + Int32.ofInt 1) := ⟨_, rfl⟩
  replace h := h a10 ea10
  replace K := fun i ro uo z => K i ro uo ⟨a10, ea10, z⟩
  exact hk7 _ _ _ h K
set_option maxRecDepth 100000 in
theorem ru_leastLocals_J84 {ι : Type} {P : Int32 → MS → Prop} {Q : Int32 → MS → Prop} {k7 : MS → Int32 → Int32 → Prop} {k7v : ι → Int32 → MS → MS → Int32 → Int32 → Prop} {U84 : MS} {v84_2 : Int32} {v84_3 : Int32} (i0 : ι) (hk7 : ∀ (u : MS) (z0 : Int32) (z1 : Int32), k7 u z0 z1 → (∀ (i : ι) (ro : Int32) (uo : MS), k7v i ro uo u z0 z1 → P ro uo) → ∃ ro uo, P ro uo ∧ Q ro uo) (K : ∀ (i : ι) (ro : Int32) (uo : MS), v_leastLocals_J84 ro uo (k7v i ro uo) U84 v84_2 v84_3 → P ro uo) (h : w_leastLocals_J84 Q k7 U84 v84_2 v84_3) : ∃ ro uo, P ro uo ∧ Q ro uo := by
  unfold w_leastLocals_J84 at h
  obtain ⟨g1_, h⟩ := h
  replace K := fun i ro uo z => K i ro uo ⟨g1_, z⟩
  obtain ⟨a16, ea16⟩ : ∃ x9 : Int32, x9 = (if v84_2 < ((f_first U84 v84_3) + (1 : Int32)) then ((f_first U84 v84_3) + (1 : Int32)) else v84_2) := ⟨_, rfl⟩
  replace h := h a16 ea16
  replace K := fun i ro uo z => K i ro uo ⟨a16, ea16, z⟩
  exact ru_leastLocals_J96 i0 hk7 K h
set_option maxRecDepth 100000 in
theorem ru_leastLocals_J48 {ι : Type} {P : Int32 → MS → Prop} {Q : Int32 → MS → Prop} {k7 : MS → Int32 → Int32 → Prop} {k7v : ι → Int32 → MS → MS → Int32 → Int32 → Prop} {U48 : MS} {v48_2 : Int32} {v48_3 : Int32} {v48_4 : Int32} (i0 : ι) (hk7 : ∀ (u : MS) (z0 : Int32) (z1 : Int32), k7 u z0 z1 → (∀ (i : ι) (ro : Int32) (uo : MS), k7v i ro uo u z0 z1 → P ro uo) → ∃ ro uo, P ro uo ∧ Q ro uo) (K : ∀ (i : ι) (ro : Int32) (uo : MS), v_leastLocals_J48 ro uo (k7v i ro uo) U48 v48_2 v48_3 v48_4 → P ro uo) (h : w_leastLocals_J48 Q k7 U48 v48_2 v48_3 v48_4) : ∃ ro uo, P ro uo ∧ Q ro uo := by
  unfold w_leastLocals_J48 at h
  by_cases c : v48_4.toInt = 21
  · replace h := h.1 c
    replace K := fun i ro uo z => K i ro uo (Or.inl ⟨c, z⟩)
    exact ru_leastLocals_J84 i0 hk7 K h
  · replace h := h.2 c
    replace K := fun i ro uo z => K i ro uo (Or.inr ⟨c, z⟩)
    by_cases c : v48_4.toInt = 25
    · replace h := h.1 c
      replace K := fun i ro uo z => K i ro uo (Or.inl ⟨c, z⟩)
      exact ru_leastLocals_J84 i0 hk7 K h
    · replace h := h.2 c
      replace K := fun i ro uo z => K i ro uo (Or.inr ⟨c, z⟩)
      by_cases c : v48_4.toInt = 54
      · replace h := h.1 c
        replace K := fun i ro uo z => K i ro uo (Or.inl ⟨c, z⟩)
        exact ru_leastLocals_J84 i0 hk7 K h
      · replace h := h.2 c
        replace K := fun i ro uo z => K i ro uo (Or.inr ⟨c, z⟩)
        by_cases c : v48_4.toInt = 58
        · replace h := h.1 c
          replace K := fun i ro uo z => K i ro uo (Or.inl ⟨c, z⟩)
          exact ru_leastLocals_J84 i0 hk7 K h
        · replace h := h.2 c
          replace K := fun i ro uo z => K i ro uo (Or.inr ⟨c, z⟩)
          by_cases c : v48_4.toInt = 132
          · replace h := h.1 c
            replace K := fun i ro uo z => K i ro uo (Or.inl ⟨c, z⟩)
            exact ru_leastLocals_J84 i0 hk7 K h
          · replace h := h.2 c
            replace K := fun i ro uo z => K i ro uo (Or.inr ⟨c, z⟩)
            exact ru_leastLocals_J96 i0 hk7 K h
set_option maxRecDepth 100000 in
theorem ru_leastLocals_J36 {ι : Type} {P : Int32 → MS → Prop} {Q : Int32 → MS → Prop} {k7 : MS → Int32 → Int32 → Prop} {k7v : ι → Int32 → MS → MS → Int32 → Int32 → Prop} {U36 : MS} {v36_2 : Int32} {v36_3 : Int32} {v36_4 : Int32} (i0 : ι) (hk7 : ∀ (u : MS) (z0 : Int32) (z1 : Int32), k7 u z0 z1 → (∀ (i : ι) (ro : Int32) (uo : MS), k7v i ro uo u z0 z1 → P ro uo) → ∃ ro uo, P ro uo ∧ Q ro uo) (K : ∀ (i : ι) (ro : Int32) (uo : MS), v_leastLocals_J36 ro uo (k7v i ro uo) U36 v36_2 v36_3 v36_4 → P ro uo) (h : w_leastLocals_J36 Q k7 U36 v36_2 v36_3 v36_4) : ∃ ro uo, P ro uo ∧ Q ro uo := by
  unfold w_leastLocals_J36 at h
  obtain ⟨g2_, h⟩ := h
  replace K := fun i ro uo z => K i ro uo ⟨g2_, z⟩
  obtain ⟨a27, ea27⟩ : ∃ x9 : Int32, x9 = (if v36_2 < ((f_first U36 v36_3) + (2 : Int32)) then ((f_first U36 v36_3) + (2 : Int32)) else v36_2) := ⟨_, rfl⟩
  replace h := h a27 ea27
  replace K := fun i ro uo z => K i ro uo ⟨a27, ea27, z⟩
  exact ru_leastLocals_J48 i0 hk7 K h
set_option maxRecDepth 100000 in
theorem ru_leastLocals_L7 {ι : Type} {P : Int32 → MS → Prop} {Q : Int32 → MS → Prop} : ∀ (n : Nat) {U7 : MS} {v7_2 : Int32} {v7_3 : Int32} (i0 : ι), (∀ (i : ι) (ro : Int32) (uo : MS), (∃ n8, v_leastLocals_L7 ro uo n8 U7 v7_2 v7_3) → P ro uo) → w_leastLocals_L7 Q n U7 v7_2 v7_3 → ∃ ro uo, P ro uo ∧ Q ro uo := by
  intro n
  induction n with
  | zero => intro U7 v7_2 v7_3 i0 K h; unfold w_leastLocals_L7 at h; exact h.elim
  | succ n ih =>
    intro U7 v7_2 v7_3 i0 K h
    unfold w_leastLocals_L7 at h
    replace K := fun (i : ι × Nat) ro uo (z : v_leastLocals_L7 ro uo (i.2 + 1) U7 v7_2 v7_3) => K i.1 ro uo ⟨i.2 + 1, z⟩
    have i00 := i0
    replace i0 : ι × Nat := (i0, 0)
    by_cases c : (qI U7 0 52).toInt ≤ v7_3.toInt
    · replace h := h.1 c
      replace K := fun i ro uo z => K i ro uo (Or.inl ⟨c, z⟩)
      exact ⟨_, _, K i0 _ _ ⟨rfl, rfl⟩, h⟩
    · replace h := h.2 c
      replace K := fun i ro uo z => K i ro uo (Or.inr ⟨c, z⟩)
      obtain ⟨g3_, h⟩ := h
      replace K := fun i ro uo z => K i ro uo ⟨g3_, z⟩
      obtain ⟨a9, ea9⟩ : ∃ x9 : Int32, x9 = (f_op U7 v7_3) := ⟨_, rfl⟩
      replace h := h a9 ea9
      replace K := fun i ro uo z => K i ro uo ⟨a9, ea9, z⟩
      by_cases c : a9.toInt = 22
      · replace h := h.1 c
        replace K := fun i ro uo z => K i ro uo (Or.inl ⟨c, z⟩)
        exact ru_leastLocals_J36 i0 (fun _ _ _ h K => ih i00 (fun i ro uo ⟨n8, z⟩ => K (i, n8) ro uo z) h) K h
      · replace h := h.2 c
        replace K := fun i ro uo z => K i ro uo (Or.inr ⟨c, z⟩)
        by_cases c : a9.toInt = 55
        · replace h := h.1 c
          replace K := fun i ro uo z => K i ro uo (Or.inl ⟨c, z⟩)
          exact ru_leastLocals_J36 i0 (fun _ _ _ h K => ih i00 (fun i ro uo ⟨n8, z⟩ => K (i, n8) ro uo z) h) K h
        · replace h := h.2 c
          replace K := fun i ro uo z => K i ro uo (Or.inr ⟨c, z⟩)
          exact ru_leastLocals_J48 i0 (fun _ _ _ h K => ih i00 (fun i ro uo ⟨n8, z⟩ => K (i, n8) ro uo z) h) K h
set_option maxRecDepth 100000 in
theorem ru_leastLocals {S : MS} {p1 : Nat} {Q : Int32 → MS → Prop} (h : w_leastLocals S p1 Q) : ∃ ro uo, v_leastLocals S p1 ro uo ∧ Q ro uo := by
  have i0 : Unit := ()
  have K : ∀ (i : Unit) (ro : Int32) (uo : MS), v_leastLocals S p1 ro uo → v_leastLocals S p1 ro uo := fun _ _ _ z => z
  unfold w_leastLocals at h
  obtain ⟨Q9, h0, h⟩ := h
  obtain ⟨r2, S3, z9, g9⟩ := ru_placesOf h0
  replace h := h r2 S3 g9
  replace K := fun i ro uo z => K i ro uo ⟨r2, S3, z9, z⟩
  obtain ⟨n9, h⟩ := h
  exact ru_leastLocals_L7 n9 i0 K h
set_option maxRecDepth 100000 in
theorem vw_leastLocals_J96 {ro : Int32} {uo : MS} {k7 k7v : MS → Int32 → Int32 → Prop} {U96 : MS} {v96_2 : Int32} {v96_3 : Int32} (hk7 : ∀ (u : MS) (z0 : Int32) (z1 : Int32), k7v u z0 z1 → k7 u z0 z1) (h : v_leastLocals_J96 ro uo k7v U96 v96_2 v96_3) : w_leastLocals_J96 (fun r u => r = ro ∧ u = uo) k7 U96 v96_2 v96_3 := by
  unfold v_leastLocals_J96 at h
  unfold w_leastLocals_J96
  obtain ⟨v9, e9, h⟩ := h
  intro x9 d9
  have c9 : v9 = x9 := e9.trans d9.symm
  subst c9
  exact hk7 _ _ _ h
set_option maxRecDepth 100000 in
theorem vz_leastLocals_J96 {ro : Int32} {uo : MS} {Q : Int32 → MS → Prop} {k7 k7v : MS → Int32 → Int32 → Prop} {U96 : MS} {v96_2 : Int32} {v96_3 : Int32} (hk7 : ∀ (u : MS) (z0 : Int32) (z1 : Int32), k7v u z0 z1 → k7 u z0 z1 → Q ro uo) (h : v_leastLocals_J96 ro uo k7v U96 v96_2 v96_3) (w : w_leastLocals_J96 Q k7 U96 v96_2 v96_3) : Q ro uo := by
  unfold v_leastLocals_J96 at h
  unfold w_leastLocals_J96 at w
  obtain ⟨v9, e9, h⟩ := h
  replace w := w v9 e9
  exact hk7 _ _ _ h w
set_option maxRecDepth 100000 in
theorem vw_leastLocals_J84 {ro : Int32} {uo : MS} {k7 k7v : MS → Int32 → Int32 → Prop} {U84 : MS} {v84_2 : Int32} {v84_3 : Int32} (hk7 : ∀ (u : MS) (z0 : Int32) (z1 : Int32), k7v u z0 z1 → k7 u z0 z1) (h : v_leastLocals_J84 ro uo k7v U84 v84_2 v84_3) : w_leastLocals_J84 (fun r u => r = ro ∧ u = uo) k7 U84 v84_2 v84_3 := by
  unfold v_leastLocals_J84 at h
  unfold w_leastLocals_J84
  obtain ⟨g9, h⟩ := h
  refine ⟨g9, ?_⟩
  obtain ⟨v9, e9, h⟩ := h
  intro x9 d9
  have c9 : v9 = x9 := e9.trans d9.symm
  subst c9
  exact vw_leastLocals_J96 hk7 h
set_option maxRecDepth 100000 in
theorem vz_leastLocals_J84 {ro : Int32} {uo : MS} {Q : Int32 → MS → Prop} {k7 k7v : MS → Int32 → Int32 → Prop} {U84 : MS} {v84_2 : Int32} {v84_3 : Int32} (hk7 : ∀ (u : MS) (z0 : Int32) (z1 : Int32), k7v u z0 z1 → k7 u z0 z1 → Q ro uo) (h : v_leastLocals_J84 ro uo k7v U84 v84_2 v84_3) (w : w_leastLocals_J84 Q k7 U84 v84_2 v84_3) : Q ro uo := by
  unfold v_leastLocals_J84 at h
  unfold w_leastLocals_J84 at w
  replace h := h.2
  replace w := w.2
  obtain ⟨v9, e9, h⟩ := h
  replace w := w v9 e9
  exact vz_leastLocals_J96 hk7 h w
set_option maxRecDepth 100000 in
theorem vw_leastLocals_J48 {ro : Int32} {uo : MS} {k7 k7v : MS → Int32 → Int32 → Prop} {U48 : MS} {v48_2 : Int32} {v48_3 : Int32} {v48_4 : Int32} (hk7 : ∀ (u : MS) (z0 : Int32) (z1 : Int32), k7v u z0 z1 → k7 u z0 z1) (h : v_leastLocals_J48 ro uo k7v U48 v48_2 v48_3 v48_4) : w_leastLocals_J48 (fun r u => r = ro ∧ u = uo) k7 U48 v48_2 v48_3 v48_4 := by
  unfold v_leastLocals_J48 at h
  unfold w_leastLocals_J48
  rcases h with ⟨c, h⟩ | ⟨c, h⟩
  · refine ⟨fun _ => ?_, fun c2 => absurd c c2⟩
    exact vw_leastLocals_J84 hk7 h
  · refine ⟨fun c2 => absurd c2 c, fun _ => ?_⟩
    rcases h with ⟨c, h⟩ | ⟨c, h⟩
    · refine ⟨fun _ => ?_, fun c2 => absurd c c2⟩
      exact vw_leastLocals_J84 hk7 h
    · refine ⟨fun c2 => absurd c2 c, fun _ => ?_⟩
      rcases h with ⟨c, h⟩ | ⟨c, h⟩
      · refine ⟨fun _ => ?_, fun c2 => absurd c c2⟩
        exact vw_leastLocals_J84 hk7 h
      · refine ⟨fun c2 => absurd c2 c, fun _ => ?_⟩
        rcases h with ⟨c, h⟩ | ⟨c, h⟩
        · refine ⟨fun _ => ?_, fun c2 => absurd c c2⟩
          exact vw_leastLocals_J84 hk7 h
        · refine ⟨fun c2 => absurd c2 c, fun _ => ?_⟩
          rcases h with ⟨c, h⟩ | ⟨c, h⟩
          · refine ⟨fun _ => ?_, fun c2 => absurd c c2⟩
            exact vw_leastLocals_J84 hk7 h
          · refine ⟨fun c2 => absurd c2 c, fun _ => ?_⟩
            exact vw_leastLocals_J96 hk7 h
set_option maxRecDepth 100000 in
theorem vz_leastLocals_J48 {ro : Int32} {uo : MS} {Q : Int32 → MS → Prop} {k7 k7v : MS → Int32 → Int32 → Prop} {U48 : MS} {v48_2 : Int32} {v48_3 : Int32} {v48_4 : Int32} (hk7 : ∀ (u : MS) (z0 : Int32) (z1 : Int32), k7v u z0 z1 → k7 u z0 z1 → Q ro uo) (h : v_leastLocals_J48 ro uo k7v U48 v48_2 v48_3 v48_4) (w : w_leastLocals_J48 Q k7 U48 v48_2 v48_3 v48_4) : Q ro uo := by
  unfold v_leastLocals_J48 at h
  unfold w_leastLocals_J48 at w
  rcases h with ⟨c, h⟩ | ⟨c, h⟩
  · replace w := w.1 c
    exact vz_leastLocals_J84 hk7 h w
  · replace w := w.2 c
    rcases h with ⟨c, h⟩ | ⟨c, h⟩
    · replace w := w.1 c
      exact vz_leastLocals_J84 hk7 h w
    · replace w := w.2 c
      rcases h with ⟨c, h⟩ | ⟨c, h⟩
      · replace w := w.1 c
        exact vz_leastLocals_J84 hk7 h w
      · replace w := w.2 c
        rcases h with ⟨c, h⟩ | ⟨c, h⟩
        · replace w := w.1 c
          exact vz_leastLocals_J84 hk7 h w
        · replace w := w.2 c
          rcases h with ⟨c, h⟩ | ⟨c, h⟩
          · replace w := w.1 c
            exact vz_leastLocals_J84 hk7 h w
          · replace w := w.2 c
            exact vz_leastLocals_J96 hk7 h w
set_option maxRecDepth 100000 in
theorem vw_leastLocals_J36 {ro : Int32} {uo : MS} {k7 k7v : MS → Int32 → Int32 → Prop} {U36 : MS} {v36_2 : Int32} {v36_3 : Int32} {v36_4 : Int32} (hk7 : ∀ (u : MS) (z0 : Int32) (z1 : Int32), k7v u z0 z1 → k7 u z0 z1) (h : v_leastLocals_J36 ro uo k7v U36 v36_2 v36_3 v36_4) : w_leastLocals_J36 (fun r u => r = ro ∧ u = uo) k7 U36 v36_2 v36_3 v36_4 := by
  unfold v_leastLocals_J36 at h
  unfold w_leastLocals_J36
  obtain ⟨g9, h⟩ := h
  refine ⟨g9, ?_⟩
  obtain ⟨v9, e9, h⟩ := h
  intro x9 d9
  have c9 : v9 = x9 := e9.trans d9.symm
  subst c9
  exact vw_leastLocals_J48 hk7 h
set_option maxRecDepth 100000 in
theorem vz_leastLocals_J36 {ro : Int32} {uo : MS} {Q : Int32 → MS → Prop} {k7 k7v : MS → Int32 → Int32 → Prop} {U36 : MS} {v36_2 : Int32} {v36_3 : Int32} {v36_4 : Int32} (hk7 : ∀ (u : MS) (z0 : Int32) (z1 : Int32), k7v u z0 z1 → k7 u z0 z1 → Q ro uo) (h : v_leastLocals_J36 ro uo k7v U36 v36_2 v36_3 v36_4) (w : w_leastLocals_J36 Q k7 U36 v36_2 v36_3 v36_4) : Q ro uo := by
  unfold v_leastLocals_J36 at h
  unfold w_leastLocals_J36 at w
  replace h := h.2
  replace w := w.2
  obtain ⟨v9, e9, h⟩ := h
  replace w := w v9 e9
  exact vz_leastLocals_J48 hk7 h w
set_option maxRecDepth 100000 in
theorem vw_leastLocals_L7 {ro : Int32} {uo : MS} : ∀ (n : Nat) {U7 : MS} {v7_2 : Int32} {v7_3 : Int32}, v_leastLocals_L7 ro uo n U7 v7_2 v7_3 → w_leastLocals_L7 (fun r u => r = ro ∧ u = uo) n U7 v7_2 v7_3 := by
  intro n
  induction n with
  | zero => intro U7 v7_2 v7_3 h; unfold v_leastLocals_L7 at h; exact h.elim
  | succ n ih =>
    intro U7 v7_2 v7_3 h
    unfold v_leastLocals_L7 at h
    unfold w_leastLocals_L7
    rcases h with ⟨c, h⟩ | ⟨c, h⟩
    · refine ⟨fun _ => ?_, fun c2 => absurd c c2⟩
      exact ⟨h.1.symm, h.2.symm⟩
    · refine ⟨fun c2 => absurd c2 c, fun _ => ?_⟩
      obtain ⟨g9, h⟩ := h
      refine ⟨g9, ?_⟩
      obtain ⟨v9, e9, h⟩ := h
      intro x9 d9
      have c9 : v9 = x9 := e9.trans d9.symm
      subst c9
      rcases h with ⟨c, h⟩ | ⟨c, h⟩
      · refine ⟨fun _ => ?_, fun c2 => absurd c c2⟩
        exact vw_leastLocals_J36 (fun _ _ _ h => ih h) h
      · refine ⟨fun c2 => absurd c2 c, fun _ => ?_⟩
        rcases h with ⟨c, h⟩ | ⟨c, h⟩
        · refine ⟨fun _ => ?_, fun c2 => absurd c c2⟩
          exact vw_leastLocals_J36 (fun _ _ _ h => ih h) h
        · refine ⟨fun c2 => absurd c2 c, fun _ => ?_⟩
          exact vw_leastLocals_J48 (fun _ _ _ h => ih h) h
set_option maxRecDepth 100000 in
theorem vz_leastLocals_L7 {ro : Int32} {uo : MS} {Q : Int32 → MS → Prop} : ∀ (n m : Nat) {U7 : MS} {v7_2 : Int32} {v7_3 : Int32}, v_leastLocals_L7 ro uo n U7 v7_2 v7_3 → w_leastLocals_L7 Q m U7 v7_2 v7_3 → Q ro uo := by
  intro n
  induction n with
  | zero => intro m U7 v7_2 v7_3 h; unfold v_leastLocals_L7 at h; exact h.elim
  | succ n ih =>
    intro m U7 v7_2 v7_3 h w
    cases m with
    | zero => unfold w_leastLocals_L7 at w; exact w.elim
    | succ m =>
      unfold v_leastLocals_L7 at h
      unfold w_leastLocals_L7 at w
      rcases h with ⟨c, h⟩ | ⟨c, h⟩
      · replace w := w.1 c
        rw [h.1, h.2]
        exact w
      · replace w := w.2 c
        replace h := h.2
        replace w := w.2
        obtain ⟨v9, e9, h⟩ := h
        replace w := w v9 e9
        rcases h with ⟨c, h⟩ | ⟨c, h⟩
        · replace w := w.1 c
          exact vz_leastLocals_J36 (fun _ _ _ h w => ih m h w) h w
        · replace w := w.2 c
          rcases h with ⟨c, h⟩ | ⟨c, h⟩
          · replace w := w.1 c
            exact vz_leastLocals_J36 (fun _ _ _ h w => ih m h w) h w
          · replace w := w.2 c
            exact vz_leastLocals_J48 (fun _ _ _ h w => ih m h w) h w
set_option maxRecDepth 100000 in
theorem vw_leastLocals {S : MS} {p1 : Nat} {ro : Int32} {uo : MS} (h : v_leastLocals S p1 ro uo) : w_leastLocals S p1 (fun r u => r = ro ∧ u = uo) := by
  unfold v_leastLocals at h
  unfold w_leastLocals
  obtain ⟨p9, q9, z9, h⟩ := h
  refine ⟨_, vw_placesOf z9, ?_⟩
  rintro p8 q8 ⟨d8, d9⟩
  subst d8
  subst d9
  obtain ⟨n9, h⟩ := h
  exact ⟨n9, vw_leastLocals_L7 n9 h⟩
set_option maxRecDepth 100000 in
theorem vz_leastLocals {S : MS} {p1 : Nat} {ro : Int32} {uo : MS} {Q : Int32 → MS → Prop} (h : v_leastLocals S p1 ro uo) (w : w_leastLocals S p1 Q) : Q ro uo := by
  unfold v_leastLocals at h
  unfold w_leastLocals at w
  obtain ⟨p9, q9, z9, h⟩ := h
  obtain ⟨Q9, w0, w⟩ := w
  replace w := w p9 q9 (vz_placesOf z9 w0)
  obtain ⟨n9, h⟩ := h
  obtain ⟨n8, w⟩ := w
  exact vz_leastLocals_L7 n9 n8 h w
def v_hasCatch_L2 (ro : Int32) (uo : MS) : Nat → MS → Int32 → Int32 → Prop
  | 0, _, _, _ => False
  | n2 + 1, U2, v2_1, v2_2 => (((qI U2 0 54).toInt ≤ v2_2.toInt ∧ (ro = (0 : Int32) ∧ uo = U2)) ∨ (¬ (qI U2 0 54).toInt ≤ v2_2.toInt ∧ (d_isCaught U2 v2_1 v2_2 ∧ (((f_isCaught U2 v2_1 v2_2).toInt = 0 ∧ (∃ a6 : Int32, a6 = (v2_2 + Int32.ofInt 1) ∧ ((v_hasCatch_L2 ro uo n2) U2 v2_1 a6))) ∨ (¬ (f_isCaught U2 v2_1 v2_2).toInt = 0 ∧ (ro = (1 : Int32) ∧ uo = U2))))))
def v_hasCatch (S : MS) (x1 : Int32) (ro : Int32) (uo : MS) : Prop := (∃ n, v_hasCatch_L2 ro uo n S x1 0)
set_option maxRecDepth 100000 in
theorem ru_hasCatch_L2 {ι : Type} {P : Int32 → MS → Prop} {Q : Int32 → MS → Prop} : ∀ (n : Nat) {U2 : MS} {v2_1 : Int32} {v2_2 : Int32} (i0 : ι), (∀ (i : ι) (ro : Int32) (uo : MS), (∃ n8, v_hasCatch_L2 ro uo n8 U2 v2_1 v2_2) → P ro uo) → w_hasCatch_L2 Q n U2 v2_1 v2_2 → ∃ ro uo, P ro uo ∧ Q ro uo := by
  intro n
  induction n with
  | zero => intro U2 v2_1 v2_2 i0 K h; unfold w_hasCatch_L2 at h; exact h.elim
  | succ n ih =>
    intro U2 v2_1 v2_2 i0 K h
    unfold w_hasCatch_L2 at h
    replace K := fun (i : ι × Nat) ro uo (z : v_hasCatch_L2 ro uo (i.2 + 1) U2 v2_1 v2_2) => K i.1 ro uo ⟨i.2 + 1, z⟩
    have i00 := i0
    replace i0 : ι × Nat := (i0, 0)
    by_cases c : (qI U2 0 54).toInt ≤ v2_2.toInt
    · replace h := h.1 c
      replace K := fun i ro uo z => K i ro uo (Or.inl ⟨c, z⟩)
      exact ⟨_, _, K i0 _ _ ⟨rfl, rfl⟩, h⟩
    · replace h := h.2 c
      replace K := fun i ro uo z => K i ro uo (Or.inr ⟨c, z⟩)
      obtain ⟨g1_, h⟩ := h
      replace K := fun i ro uo z => K i ro uo ⟨g1_, z⟩
      by_cases c : (f_isCaught U2 v2_1 v2_2).toInt = 0
      · replace h := h.1 c
        replace K := fun i ro uo z => K i ro uo (Or.inl ⟨c, z⟩)
        obtain ⟨a6, ea6⟩ : ∃ x9 : Int32, x9 = (v2_2 + Int32.ofInt 1) := ⟨_, rfl⟩
        replace h := h a6 ea6
        replace K := fun i ro uo z => K i ro uo ⟨a6, ea6, z⟩
        exact ih i00 (fun i ro uo ⟨n8, z⟩ => K (i, n8) ro uo z) h
      · replace h := h.2 c
        replace K := fun i ro uo z => K i ro uo (Or.inr ⟨c, z⟩)
        exact ⟨_, _, K i0 _ _ ⟨rfl, rfl⟩, h⟩
set_option maxRecDepth 100000 in
theorem ru_hasCatch {S : MS} {x1 : Int32} {Q : Int32 → MS → Prop} (h : w_hasCatch S x1 Q) : ∃ ro uo, v_hasCatch S x1 ro uo ∧ Q ro uo := by
  have i0 : Unit := ()
  have K : ∀ (i : Unit) (ro : Int32) (uo : MS), v_hasCatch S x1 ro uo → v_hasCatch S x1 ro uo := fun _ _ _ z => z
  unfold w_hasCatch at h
  obtain ⟨n9, h⟩ := h
  exact ru_hasCatch_L2 n9 i0 K h
set_option maxRecDepth 100000 in
theorem vw_hasCatch_L2 {ro : Int32} {uo : MS} : ∀ (n : Nat) {U2 : MS} {v2_1 : Int32} {v2_2 : Int32}, v_hasCatch_L2 ro uo n U2 v2_1 v2_2 → w_hasCatch_L2 (fun r u => r = ro ∧ u = uo) n U2 v2_1 v2_2 := by
  intro n
  induction n with
  | zero => intro U2 v2_1 v2_2 h; unfold v_hasCatch_L2 at h; exact h.elim
  | succ n ih =>
    intro U2 v2_1 v2_2 h
    unfold v_hasCatch_L2 at h
    unfold w_hasCatch_L2
    rcases h with ⟨c, h⟩ | ⟨c, h⟩
    · refine ⟨fun _ => ?_, fun c2 => absurd c c2⟩
      exact ⟨h.1.symm, h.2.symm⟩
    · refine ⟨fun c2 => absurd c2 c, fun _ => ?_⟩
      obtain ⟨g9, h⟩ := h
      refine ⟨g9, ?_⟩
      rcases h with ⟨c, h⟩ | ⟨c, h⟩
      · refine ⟨fun _ => ?_, fun c2 => absurd c c2⟩
        obtain ⟨v9, e9, h⟩ := h
        intro x9 d9
        have c9 : v9 = x9 := e9.trans d9.symm
        subst c9
        exact ih h
      · refine ⟨fun c2 => absurd c2 c, fun _ => ?_⟩
        exact ⟨h.1.symm, h.2.symm⟩
set_option maxRecDepth 100000 in
theorem vz_hasCatch_L2 {ro : Int32} {uo : MS} {Q : Int32 → MS → Prop} : ∀ (n m : Nat) {U2 : MS} {v2_1 : Int32} {v2_2 : Int32}, v_hasCatch_L2 ro uo n U2 v2_1 v2_2 → w_hasCatch_L2 Q m U2 v2_1 v2_2 → Q ro uo := by
  intro n
  induction n with
  | zero => intro m U2 v2_1 v2_2 h; unfold v_hasCatch_L2 at h; exact h.elim
  | succ n ih =>
    intro m U2 v2_1 v2_2 h w
    cases m with
    | zero => unfold w_hasCatch_L2 at w; exact w.elim
    | succ m =>
      unfold v_hasCatch_L2 at h
      unfold w_hasCatch_L2 at w
      rcases h with ⟨c, h⟩ | ⟨c, h⟩
      · replace w := w.1 c
        rw [h.1, h.2]
        exact w
      · replace w := w.2 c
        replace h := h.2
        replace w := w.2
        rcases h with ⟨c, h⟩ | ⟨c, h⟩
        · replace w := w.1 c
          obtain ⟨v9, e9, h⟩ := h
          replace w := w v9 e9
          exact ih m h w
        · replace w := w.2 c
          rw [h.1, h.2]
          exact w
set_option maxRecDepth 100000 in
theorem vw_hasCatch {S : MS} {x1 : Int32} {ro : Int32} {uo : MS} (h : v_hasCatch S x1 ro uo) : w_hasCatch S x1 (fun r u => r = ro ∧ u = uo) := by
  unfold v_hasCatch at h
  unfold w_hasCatch
  obtain ⟨n9, h⟩ := h
  exact ⟨n9, vw_hasCatch_L2 n9 h⟩
set_option maxRecDepth 100000 in
theorem vz_hasCatch {S : MS} {x1 : Int32} {ro : Int32} {uo : MS} {Q : Int32 → MS → Prop} (h : v_hasCatch S x1 ro uo) (w : w_hasCatch S x1 Q) : Q ro uo := by
  unfold v_hasCatch at h
  unfold w_hasCatch at w
  obtain ⟨n9, h⟩ := h
  obtain ⟨n8, w⟩ := w
  exact vz_hasCatch_L2 n9 n8 h w
def v_heightBehind_J28 (ro : Int32) (uo : MS) (U28 : MS) (t28_0 : Int32) (v28_1 : Int32) (v28_2 : Int32) (v28_3 : Int32) : Prop := ((t28_0.toInt ≤ v28_2.toInt ∧ (d_moved U28 v28_3 ∧ (((f_moved U28 v28_3).toInt ≤ 0 ∧ (d_givesOf U28 v28_1 ∧ (∃ (r18 : Int32) (S19 : MS), v_placesOf U28 (f_givesOf U28 v28_1) r18 S19 ∧ (ro = ((v28_2 - t28_0) + r18) ∧ uo = S19)))) ∨ (¬ (f_moved U28 v28_3).toInt ≤ 0 ∧ (d_left U28 v28_3 ∧ (ro = ((v28_2 - t28_0) + (f_left U28 v28_3)) ∧ uo = U28)))))) ∨ (¬ t28_0.toInt ≤ v28_2.toInt ∧ (ro = (-1 : Int32) ∧ uo = U28)))
def v_heightBehind (S : MS) (x1 : Int32) (x2 : Int32) (ro : Int32) (uo : MS) : Prop := (d_op S x1 ∧ (∃ a4 : Int32, a4 = (f_op S x1) ∧ (d_moved S a4 ∧ (((f_moved S a4).toInt ≤ 0 ∧ (d_takesOf S x1 ∧ (∃ (r31 : Int32) (S32 : MS), v_placesOf S (f_takesOf S x1) r31 S32 ∧ (v_heightBehind_J28 ro uo S32 r31 x1 x2 a4)))) ∨ (¬ (f_moved S a4).toInt ≤ 0 ∧ (d_moved S a4 ∧ (v_heightBehind_J28 ro uo S (f_moved S a4) x1 x2 a4)))))))
set_option maxRecDepth 100000 in
theorem ru_heightBehind_J28 {ι : Type} {P : Int32 → MS → Prop} {Q : Int32 → MS → Prop} {U28 : MS} {t28_0 : Int32} {v28_1 : Int32} {v28_2 : Int32} {v28_3 : Int32} (i0 : ι) (K : ∀ (i : ι) (ro : Int32) (uo : MS), v_heightBehind_J28 ro uo U28 t28_0 v28_1 v28_2 v28_3 → P ro uo) (h : w_heightBehind_J28 Q U28 t28_0 v28_1 v28_2 v28_3) : ∃ ro uo, P ro uo ∧ Q ro uo := by
  unfold w_heightBehind_J28 at h
  by_cases c : t28_0.toInt ≤ v28_2.toInt
  · replace h := h.1 c
    replace K := fun i ro uo z => K i ro uo (Or.inl ⟨c, z⟩)
    obtain ⟨g1_, h⟩ := h
    replace K := fun i ro uo z => K i ro uo ⟨g1_, z⟩
    by_cases c : (f_moved U28 v28_3).toInt ≤ 0
    · replace h := h.1 c
      replace K := fun i ro uo z => K i ro uo (Or.inl ⟨c, z⟩)
      obtain ⟨g2_, h⟩ := h
      replace K := fun i ro uo z => K i ro uo ⟨g2_, z⟩
      obtain ⟨Q9, h0, h⟩ := h
      obtain ⟨r18, S19, z9, g9⟩ := ru_placesOf h0
      replace h := h r18 S19 g9
      replace K := fun i ro uo z => K i ro uo ⟨r18, S19, z9, z⟩
      exact ⟨_, _, K i0 _ _ ⟨rfl, rfl⟩, h⟩
    · replace h := h.2 c
      replace K := fun i ro uo z => K i ro uo (Or.inr ⟨c, z⟩)
      obtain ⟨g3_, h⟩ := h
      replace K := fun i ro uo z => K i ro uo ⟨g3_, z⟩
      exact ⟨_, _, K i0 _ _ ⟨rfl, rfl⟩, h⟩
  · replace h := h.2 c
    replace K := fun i ro uo z => K i ro uo (Or.inr ⟨c, z⟩)
    exact ⟨_, _, K i0 _ _ ⟨rfl, rfl⟩, h⟩
set_option maxRecDepth 100000 in
theorem ru_heightBehind {S : MS} {x1 : Int32} {x2 : Int32} {Q : Int32 → MS → Prop} (h : w_heightBehind S x1 x2 Q) : ∃ ro uo, v_heightBehind S x1 x2 ro uo ∧ Q ro uo := by
  have i0 : Unit := ()
  have K : ∀ (i : Unit) (ro : Int32) (uo : MS), v_heightBehind S x1 x2 ro uo → v_heightBehind S x1 x2 ro uo := fun _ _ _ z => z
  unfold w_heightBehind at h
  obtain ⟨g4_, h⟩ := h
  replace K := fun i ro uo z => K i ro uo ⟨g4_, z⟩
  obtain ⟨a4, ea4⟩ : ∃ x9 : Int32, x9 = (f_op S x1) := ⟨_, rfl⟩
  replace h := h a4 ea4
  replace K := fun i ro uo z => K i ro uo ⟨a4, ea4, z⟩
  obtain ⟨g5_, h⟩ := h
  replace K := fun i ro uo z => K i ro uo ⟨g5_, z⟩
  by_cases c : (f_moved S a4).toInt ≤ 0
  · replace h := h.1 c
    replace K := fun i ro uo z => K i ro uo (Or.inl ⟨c, z⟩)
    obtain ⟨g6_, h⟩ := h
    replace K := fun i ro uo z => K i ro uo ⟨g6_, z⟩
    obtain ⟨Q9, h0, h⟩ := h
    obtain ⟨r31, S32, z9, g9⟩ := ru_placesOf h0
    replace h := h r31 S32 g9
    replace K := fun i ro uo z => K i ro uo ⟨r31, S32, z9, z⟩
    exact ru_heightBehind_J28 i0 K h
  · replace h := h.2 c
    replace K := fun i ro uo z => K i ro uo (Or.inr ⟨c, z⟩)
    obtain ⟨g7_, h⟩ := h
    replace K := fun i ro uo z => K i ro uo ⟨g7_, z⟩
    exact ru_heightBehind_J28 i0 K h
set_option maxRecDepth 100000 in
theorem vw_heightBehind_J28 {ro : Int32} {uo : MS} {U28 : MS} {t28_0 : Int32} {v28_1 : Int32} {v28_2 : Int32} {v28_3 : Int32} (h : v_heightBehind_J28 ro uo U28 t28_0 v28_1 v28_2 v28_3) : w_heightBehind_J28 (fun r u => r = ro ∧ u = uo) U28 t28_0 v28_1 v28_2 v28_3 := by
  unfold v_heightBehind_J28 at h
  unfold w_heightBehind_J28
  rcases h with ⟨c, h⟩ | ⟨c, h⟩
  · refine ⟨fun _ => ?_, fun c2 => absurd c c2⟩
    obtain ⟨g9, h⟩ := h
    refine ⟨g9, ?_⟩
    rcases h with ⟨c, h⟩ | ⟨c, h⟩
    · refine ⟨fun _ => ?_, fun c2 => absurd c c2⟩
      obtain ⟨g9, h⟩ := h
      refine ⟨g9, ?_⟩
      obtain ⟨p9, q9, z9, h⟩ := h
      refine ⟨_, vw_placesOf z9, ?_⟩
      rintro p8 q8 ⟨d8, d9⟩
      subst d8
      subst d9
      exact ⟨h.1.symm, h.2.symm⟩
    · refine ⟨fun c2 => absurd c2 c, fun _ => ?_⟩
      obtain ⟨g9, h⟩ := h
      refine ⟨g9, ?_⟩
      exact ⟨h.1.symm, h.2.symm⟩
  · refine ⟨fun c2 => absurd c2 c, fun _ => ?_⟩
    exact ⟨h.1.symm, h.2.symm⟩
set_option maxRecDepth 100000 in
theorem vz_heightBehind_J28 {ro : Int32} {uo : MS} {Q : Int32 → MS → Prop} {U28 : MS} {t28_0 : Int32} {v28_1 : Int32} {v28_2 : Int32} {v28_3 : Int32} (h : v_heightBehind_J28 ro uo U28 t28_0 v28_1 v28_2 v28_3) (w : w_heightBehind_J28 Q U28 t28_0 v28_1 v28_2 v28_3) : Q ro uo := by
  unfold v_heightBehind_J28 at h
  unfold w_heightBehind_J28 at w
  rcases h with ⟨c, h⟩ | ⟨c, h⟩
  · replace w := w.1 c
    replace h := h.2
    replace w := w.2
    rcases h with ⟨c, h⟩ | ⟨c, h⟩
    · replace w := w.1 c
      replace h := h.2
      replace w := w.2
      obtain ⟨p9, q9, z9, h⟩ := h
      obtain ⟨Q9, w0, w⟩ := w
      replace w := w p9 q9 (vz_placesOf z9 w0)
      rw [h.1, h.2]
      exact w
    · replace w := w.2 c
      replace h := h.2
      replace w := w.2
      rw [h.1, h.2]
      exact w
  · replace w := w.2 c
    rw [h.1, h.2]
    exact w
set_option maxRecDepth 100000 in
theorem vw_heightBehind {S : MS} {x1 : Int32} {x2 : Int32} {ro : Int32} {uo : MS} (h : v_heightBehind S x1 x2 ro uo) : w_heightBehind S x1 x2 (fun r u => r = ro ∧ u = uo) := by
  unfold v_heightBehind at h
  unfold w_heightBehind
  obtain ⟨g9, h⟩ := h
  refine ⟨g9, ?_⟩
  obtain ⟨v9, e9, h⟩ := h
  intro x9 d9
  have c9 : v9 = x9 := e9.trans d9.symm
  subst c9
  obtain ⟨g9, h⟩ := h
  refine ⟨g9, ?_⟩
  rcases h with ⟨c, h⟩ | ⟨c, h⟩
  · refine ⟨fun _ => ?_, fun c2 => absurd c c2⟩
    obtain ⟨g9, h⟩ := h
    refine ⟨g9, ?_⟩
    obtain ⟨p9, q9, z9, h⟩ := h
    refine ⟨_, vw_placesOf z9, ?_⟩
    rintro p8 q8 ⟨d8, d9⟩
    subst d8
    subst d9
    exact vw_heightBehind_J28 h
  · refine ⟨fun c2 => absurd c2 c, fun _ => ?_⟩
    obtain ⟨g9, h⟩ := h
    refine ⟨g9, ?_⟩
    exact vw_heightBehind_J28 h
set_option maxRecDepth 100000 in
theorem vz_heightBehind {S : MS} {x1 : Int32} {x2 : Int32} {ro : Int32} {uo : MS} {Q : Int32 → MS → Prop} (h : v_heightBehind S x1 x2 ro uo) (w : w_heightBehind S x1 x2 Q) : Q ro uo := by
  unfold v_heightBehind at h
  unfold w_heightBehind at w
  replace h := h.2
  replace w := w.2
  obtain ⟨v9, e9, h⟩ := h
  replace w := w v9 e9
  replace h := h.2
  replace w := w.2
  rcases h with ⟨c, h⟩ | ⟨c, h⟩
  · replace w := w.1 c
    replace h := h.2
    replace w := w.2
    obtain ⟨p9, q9, z9, h⟩ := h
    obtain ⟨Q9, w0, w⟩ := w
    replace w := w p9 q9 (vz_placesOf z9 w0)
    exact vz_heightBehind_J28 h w
  · replace w := w.2 c
    replace h := h.2
    replace w := w.2
    exact vz_heightBehind_J28 h w
def v_isRightHeight_J59 (ro : Int32) (uo : MS) (U59 : MS) : Prop := (ro = (0 : Int32) ∧ uo = U59)
def v_isRightHeight_J55 (ro : Int32) (uo : MS) (U55 : MS) : Prop := (ro = (1 : Int32) ∧ uo = U55)
def v_isRightHeight_J34 (ro : Int32) (uo : MS) (U34 : MS) (v34_1 : Int32) : Prop := (d_op U34 v34_1 ∧ (d_goesOn U34 (f_op U34 v34_1) ∧ (((f_goesOn U34 (f_op U34 v34_1)).toInt = 0 ∧ (v_isRightHeight_J55 ro uo U34)) ∨ (¬ (f_goesOn U34 (f_op U34 v34_1)).toInt = 0 ∧ ((v34_1.toInt = ((qI U34 0 52) - (1 : Int32)).toInt ∧ (v_isRightHeight_J59 ro uo U34)) ∨ (¬ v34_1.toInt = ((qI U34 0 52) - (1 : Int32)).toInt ∧ (v_isRightHeight_J55 ro uo U34)))))))
def v_isRightHeight (S : MS) (x1 : Int32) (x2 : Int32) (ro : Int32) (uo : MS) : Prop := (∃ (r2 : Int32) (S3 : MS), v_heightBehind S x1 x2 r2 S3 ∧ ((r2.toInt < 0 ∧ (v_isRightHeight_J59 ro uo S3)) ∨ (¬ r2.toInt < 0 ∧ (((qI S3 0 56).toInt < r2.toInt ∧ (v_isRightHeight_J59 ro uo S3)) ∨ (¬ (qI S3 0 56).toInt < r2.toInt ∧ ((0 < (qI S3 0 56).toInt ∧ (v_isRightHeight_J34 ro uo S3 x1)) ∨ (¬ 0 < (qI S3 0 56).toInt ∧ (∃ (r18 : Int32) (S19 : MS), v_hasCatch S3 x1 r18 S19 ∧ ((r18.toInt = 0 ∧ (v_isRightHeight_J34 ro uo S19 x1)) ∨ (¬ r18.toInt = 0 ∧ (v_isRightHeight_J59 ro uo S19)))))))))))
set_option maxRecDepth 100000 in
theorem ru_isRightHeight_J59 {ι : Type} {P : Int32 → MS → Prop} {Q : Int32 → MS → Prop} {U59 : MS} (i0 : ι) (K : ∀ (i : ι) (ro : Int32) (uo : MS), v_isRightHeight_J59 ro uo U59 → P ro uo) (h : w_isRightHeight_J59 Q U59) : ∃ ro uo, P ro uo ∧ Q ro uo := by
  unfold w_isRightHeight_J59 at h
  exact ⟨_, _, K i0 _ _ ⟨rfl, rfl⟩, h⟩
set_option maxRecDepth 100000 in
theorem ru_isRightHeight_J55 {ι : Type} {P : Int32 → MS → Prop} {Q : Int32 → MS → Prop} {U55 : MS} (i0 : ι) (K : ∀ (i : ι) (ro : Int32) (uo : MS), v_isRightHeight_J55 ro uo U55 → P ro uo) (h : w_isRightHeight_J55 Q U55) : ∃ ro uo, P ro uo ∧ Q ro uo := by
  unfold w_isRightHeight_J55 at h
  exact ⟨_, _, K i0 _ _ ⟨rfl, rfl⟩, h⟩
set_option maxRecDepth 100000 in
theorem ru_isRightHeight_J34 {ι : Type} {P : Int32 → MS → Prop} {Q : Int32 → MS → Prop} {U34 : MS} {v34_1 : Int32} (i0 : ι) (K : ∀ (i : ι) (ro : Int32) (uo : MS), v_isRightHeight_J34 ro uo U34 v34_1 → P ro uo) (h : w_isRightHeight_J34 Q U34 v34_1) : ∃ ro uo, P ro uo ∧ Q ro uo := by
  unfold w_isRightHeight_J34 at h
  obtain ⟨g1_, h⟩ := h
  replace K := fun i ro uo z => K i ro uo ⟨g1_, z⟩
  obtain ⟨g2_, h⟩ := h
  replace K := fun i ro uo z => K i ro uo ⟨g2_, z⟩
  by_cases c : (f_goesOn U34 (f_op U34 v34_1)).toInt = 0
  · replace h := h.1 c
    replace K := fun i ro uo z => K i ro uo (Or.inl ⟨c, z⟩)
    exact ru_isRightHeight_J55 i0 K h
  · replace h := h.2 c
    replace K := fun i ro uo z => K i ro uo (Or.inr ⟨c, z⟩)
    by_cases c : v34_1.toInt = ((qI U34 0 52) - (1 : Int32)).toInt
    · replace h := h.1 c
      replace K := fun i ro uo z => K i ro uo (Or.inl ⟨c, z⟩)
      exact ru_isRightHeight_J59 i0 K h
    · replace h := h.2 c
      replace K := fun i ro uo z => K i ro uo (Or.inr ⟨c, z⟩)
      exact ru_isRightHeight_J55 i0 K h
set_option maxRecDepth 100000 in
theorem ru_isRightHeight {S : MS} {x1 : Int32} {x2 : Int32} {Q : Int32 → MS → Prop} (h : w_isRightHeight S x1 x2 Q) : ∃ ro uo, v_isRightHeight S x1 x2 ro uo ∧ Q ro uo := by
  have i0 : Unit := ()
  have K : ∀ (i : Unit) (ro : Int32) (uo : MS), v_isRightHeight S x1 x2 ro uo → v_isRightHeight S x1 x2 ro uo := fun _ _ _ z => z
  unfold w_isRightHeight at h
  obtain ⟨Q9, h0, h⟩ := h
  obtain ⟨r2, S3, z9, g9⟩ := ru_heightBehind h0
  replace h := h r2 S3 g9
  replace K := fun i ro uo z => K i ro uo ⟨r2, S3, z9, z⟩
  by_cases c : r2.toInt < 0
  · replace h := h.1 c
    replace K := fun i ro uo z => K i ro uo (Or.inl ⟨c, z⟩)
    exact ru_isRightHeight_J59 i0 K h
  · replace h := h.2 c
    replace K := fun i ro uo z => K i ro uo (Or.inr ⟨c, z⟩)
    by_cases c : (qI S3 0 56).toInt < r2.toInt
    · replace h := h.1 c
      replace K := fun i ro uo z => K i ro uo (Or.inl ⟨c, z⟩)
      exact ru_isRightHeight_J59 i0 K h
    · replace h := h.2 c
      replace K := fun i ro uo z => K i ro uo (Or.inr ⟨c, z⟩)
      by_cases c : 0 < (qI S3 0 56).toInt
      · replace h := h.1 c
        replace K := fun i ro uo z => K i ro uo (Or.inl ⟨c, z⟩)
        exact ru_isRightHeight_J34 i0 K h
      · replace h := h.2 c
        replace K := fun i ro uo z => K i ro uo (Or.inr ⟨c, z⟩)
        obtain ⟨Q9, h0, h⟩ := h
        obtain ⟨r18, S19, z9, g9⟩ := ru_hasCatch h0
        replace h := h r18 S19 g9
        replace K := fun i ro uo z => K i ro uo ⟨r18, S19, z9, z⟩
        by_cases c : r18.toInt = 0
        · replace h := h.1 c
          replace K := fun i ro uo z => K i ro uo (Or.inl ⟨c, z⟩)
          exact ru_isRightHeight_J34 i0 K h
        · replace h := h.2 c
          replace K := fun i ro uo z => K i ro uo (Or.inr ⟨c, z⟩)
          exact ru_isRightHeight_J59 i0 K h
set_option maxRecDepth 100000 in
theorem vw_isRightHeight_J59 {ro : Int32} {uo : MS} {U59 : MS} (h : v_isRightHeight_J59 ro uo U59) : w_isRightHeight_J59 (fun r u => r = ro ∧ u = uo) U59 := by
  unfold v_isRightHeight_J59 at h
  unfold w_isRightHeight_J59
  exact ⟨h.1.symm, h.2.symm⟩
set_option maxRecDepth 100000 in
theorem vz_isRightHeight_J59 {ro : Int32} {uo : MS} {Q : Int32 → MS → Prop} {U59 : MS} (h : v_isRightHeight_J59 ro uo U59) (w : w_isRightHeight_J59 Q U59) : Q ro uo := by
  unfold v_isRightHeight_J59 at h
  unfold w_isRightHeight_J59 at w
  rw [h.1, h.2]
  exact w
set_option maxRecDepth 100000 in
theorem vw_isRightHeight_J55 {ro : Int32} {uo : MS} {U55 : MS} (h : v_isRightHeight_J55 ro uo U55) : w_isRightHeight_J55 (fun r u => r = ro ∧ u = uo) U55 := by
  unfold v_isRightHeight_J55 at h
  unfold w_isRightHeight_J55
  exact ⟨h.1.symm, h.2.symm⟩
set_option maxRecDepth 100000 in
theorem vz_isRightHeight_J55 {ro : Int32} {uo : MS} {Q : Int32 → MS → Prop} {U55 : MS} (h : v_isRightHeight_J55 ro uo U55) (w : w_isRightHeight_J55 Q U55) : Q ro uo := by
  unfold v_isRightHeight_J55 at h
  unfold w_isRightHeight_J55 at w
  rw [h.1, h.2]
  exact w
set_option maxRecDepth 100000 in
theorem vw_isRightHeight_J34 {ro : Int32} {uo : MS} {U34 : MS} {v34_1 : Int32} (h : v_isRightHeight_J34 ro uo U34 v34_1) : w_isRightHeight_J34 (fun r u => r = ro ∧ u = uo) U34 v34_1 := by
  unfold v_isRightHeight_J34 at h
  unfold w_isRightHeight_J34
  obtain ⟨g9, h⟩ := h
  refine ⟨g9, ?_⟩
  obtain ⟨g9, h⟩ := h
  refine ⟨g9, ?_⟩
  rcases h with ⟨c, h⟩ | ⟨c, h⟩
  · refine ⟨fun _ => ?_, fun c2 => absurd c c2⟩
    exact vw_isRightHeight_J55 h
  · refine ⟨fun c2 => absurd c2 c, fun _ => ?_⟩
    rcases h with ⟨c, h⟩ | ⟨c, h⟩
    · refine ⟨fun _ => ?_, fun c2 => absurd c c2⟩
      exact vw_isRightHeight_J59 h
    · refine ⟨fun c2 => absurd c2 c, fun _ => ?_⟩
      exact vw_isRightHeight_J55 h
set_option maxRecDepth 100000 in
theorem vz_isRightHeight_J34 {ro : Int32} {uo : MS} {Q : Int32 → MS → Prop} {U34 : MS} {v34_1 : Int32} (h : v_isRightHeight_J34 ro uo U34 v34_1) (w : w_isRightHeight_J34 Q U34 v34_1) : Q ro uo := by
  unfold v_isRightHeight_J34 at h
  unfold w_isRightHeight_J34 at w
  replace h := h.2
  replace w := w.2
  replace h := h.2
  replace w := w.2
  rcases h with ⟨c, h⟩ | ⟨c, h⟩
  · replace w := w.1 c
    exact vz_isRightHeight_J55 h w
  · replace w := w.2 c
    rcases h with ⟨c, h⟩ | ⟨c, h⟩
    · replace w := w.1 c
      exact vz_isRightHeight_J59 h w
    · replace w := w.2 c
      exact vz_isRightHeight_J55 h w
set_option maxRecDepth 100000 in
theorem vw_isRightHeight {S : MS} {x1 : Int32} {x2 : Int32} {ro : Int32} {uo : MS} (h : v_isRightHeight S x1 x2 ro uo) : w_isRightHeight S x1 x2 (fun r u => r = ro ∧ u = uo) := by
  unfold v_isRightHeight at h
  unfold w_isRightHeight
  obtain ⟨p9, q9, z9, h⟩ := h
  refine ⟨_, vw_heightBehind z9, ?_⟩
  rintro p8 q8 ⟨d8, d9⟩
  subst d8
  subst d9
  rcases h with ⟨c, h⟩ | ⟨c, h⟩
  · refine ⟨fun _ => ?_, fun c2 => absurd c c2⟩
    exact vw_isRightHeight_J59 h
  · refine ⟨fun c2 => absurd c2 c, fun _ => ?_⟩
    rcases h with ⟨c, h⟩ | ⟨c, h⟩
    · refine ⟨fun _ => ?_, fun c2 => absurd c c2⟩
      exact vw_isRightHeight_J59 h
    · refine ⟨fun c2 => absurd c2 c, fun _ => ?_⟩
      rcases h with ⟨c, h⟩ | ⟨c, h⟩
      · refine ⟨fun _ => ?_, fun c2 => absurd c c2⟩
        exact vw_isRightHeight_J34 h
      · refine ⟨fun c2 => absurd c2 c, fun _ => ?_⟩
        obtain ⟨p9, q9, z9, h⟩ := h
        refine ⟨_, vw_hasCatch z9, ?_⟩
        rintro p8 q8 ⟨d8, d9⟩
        subst d8
        subst d9
        rcases h with ⟨c, h⟩ | ⟨c, h⟩
        · refine ⟨fun _ => ?_, fun c2 => absurd c c2⟩
          exact vw_isRightHeight_J34 h
        · refine ⟨fun c2 => absurd c2 c, fun _ => ?_⟩
          exact vw_isRightHeight_J59 h
set_option maxRecDepth 100000 in
theorem vz_isRightHeight {S : MS} {x1 : Int32} {x2 : Int32} {ro : Int32} {uo : MS} {Q : Int32 → MS → Prop} (h : v_isRightHeight S x1 x2 ro uo) (w : w_isRightHeight S x1 x2 Q) : Q ro uo := by
  unfold v_isRightHeight at h
  unfold w_isRightHeight at w
  obtain ⟨p9, q9, z9, h⟩ := h
  obtain ⟨Q9, w0, w⟩ := w
  replace w := w p9 q9 (vz_heightBehind z9 w0)
  rcases h with ⟨c, h⟩ | ⟨c, h⟩
  · replace w := w.1 c
    exact vz_isRightHeight_J59 h w
  · replace w := w.2 c
    rcases h with ⟨c, h⟩ | ⟨c, h⟩
    · replace w := w.1 c
      exact vz_isRightHeight_J59 h w
    · replace w := w.2 c
      rcases h with ⟨c, h⟩ | ⟨c, h⟩
      · replace w := w.1 c
        exact vz_isRightHeight_J34 h w
      · replace w := w.2 c
        obtain ⟨p9, q9, z9, h⟩ := h
        obtain ⟨Q9, w0, w⟩ := w
        replace w := w p9 q9 (vz_hasCatch z9 w0)
        rcases h with ⟨c, h⟩ | ⟨c, h⟩
        · replace w := w.1 c
          exact vz_isRightHeight_J34 h w
        · replace w := w.2 c
          exact vz_isRightHeight_J59 h w
def v_spread_J91 (uo : MS) (k60 : MS → Int32 → Int32 → Prop) (U91 : MS) (v91_1 : Int32) (v91_4 : Int32) : Prop := (∃ a19 : Int32, a19 = (v91_4 + Int32.ofInt 1) ∧ (k60 U91 v91_1 a19))
def v_spread_L60 (uo : MS) : Nat → MS → Int32 → Int32 → Prop
  | 0, _, _, _ => False
  | n60 + 1, U60, v60_1, v60_4 => (((qI U60 0 54).toInt ≤ v60_4.toInt ∧ (uo = U60)) ∨ (¬ (qI U60 0 54).toInt ≤ v60_4.toInt ∧ (d_isCaught U60 v60_1 v60_4 ∧ (((f_isCaught U60 v60_1 v60_4).toInt = 0 ∧ (v_spread_J91 uo (v_spread_L60 uo n60) U60 v60_1 v60_4)) ∨ (¬ (f_isCaught U60 v60_1 v60_4).toInt = 0 ∧ (d_catchWord U60 v60_4 (2 : Int32) ∧ (∃ (S25 : MS), v_come U60 (f_catchWord U60 v60_4 (2 : Int32)) (1 : Int32) S25 ∧ (v_spread_J91 uo (v_spread_L60 uo n60) S25 v60_1 v60_4))))))))
def v_spread_L29 (uo : MS) : Nat → MS → Int32 → Int32 → Int32 → Prop
  | 0, _, _, _, _ => False
  | n29 + 1, U29, v29_1, v29_3, v29_4 => (d_ways U29 v29_1 ∧ (((f_ways U29 v29_1).toInt ≤ v29_4.toInt ∧ (∃ n, v_spread_L60 uo n U29 v29_1 0)) ∨ (¬ (f_ways U29 v29_1).toInt ≤ v29_4.toInt ∧ (d_way U29 v29_1 v29_4 ∧ (∃ (S31 : MS), v_come U29 (f_way U29 v29_1 v29_4) v29_3 S31 ∧ (∃ a33 : Int32, a33 = (v29_4 + Int32.ofInt 1) ∧ ((v_spread_L29 uo n29) S31 v29_1 v29_3 a33)))))))
def v_spread_J26 (uo : MS) (U26 : MS) (v26_1 : Int32) (v26_3 : Int32) : Prop := (∃ n, v_spread_L29 uo n U26 v26_1 v26_3 0)
def v_spread (S : MS) (x1 : Int32) (x2 : Int32) (uo : MS) : Prop := (∃ (r2 : Int32) (S3 : MS), v_heightBehind S x1 x2 r2 S3 ∧ (d_op S3 x1 ∧ (d_goesOn S3 (f_op S3 x1) ∧ (((f_goesOn S3 (f_op S3 x1)).toInt = 0 ∧ (v_spread_J26 uo S3 x1 r2)) ∨ (¬ (f_goesOn S3 (f_op S3 x1)).toInt = 0 ∧ (∃ (S37 : MS), v_come S3 (x1 + (1 : Int32)) r2 S37 ∧ (v_spread_J26 uo S37 x1 r2)))))))
set_option maxRecDepth 100000 in
theorem ru_spread_J91 {ι : Type} {P : MS → Prop} {Q : MS → Prop} {k60 : MS → Int32 → Int32 → Prop} {k60v : ι → MS → MS → Int32 → Int32 → Prop} {U91 : MS} {v91_1 : Int32} {v91_4 : Int32} (i0 : ι) (hk60 : ∀ (u : MS) (z0 : Int32) (z1 : Int32), k60 u z0 z1 → (∀ (i : ι) (uo : MS), k60v i uo u z0 z1 → P uo) → ∃ uo, P uo ∧ Q uo) (K : ∀ (i : ι) (uo : MS), v_spread_J91 uo (k60v i uo) U91 v91_1 v91_4 → P uo) (h : w_spread_J91 Q k60 U91 v91_1 v91_4) : ∃ uo, P uo ∧ Q uo := by
  unfold w_spread_J91 at h
  obtain ⟨a19, ea19⟩ : ∃ x9 : Int32, x9 = (v91_4 + Int32.ofInt 1) := ⟨_, rfl⟩
  replace h := h a19 ea19
  replace K := fun i uo z => K i uo ⟨a19, ea19, z⟩
  exact hk60 _ _ _ h K
set_option maxRecDepth 100000 in
theorem ru_spread_L60 {ι : Type} {P : MS → Prop} {Q : MS → Prop} : ∀ (n : Nat) {U60 : MS} {v60_1 : Int32} {v60_4 : Int32} (i0 : ι), (∀ (i : ι) (uo : MS), (∃ n8, v_spread_L60 uo n8 U60 v60_1 v60_4) → P uo) → w_spread_L60 Q n U60 v60_1 v60_4 → ∃ uo, P uo ∧ Q uo := by
  intro n
  induction n with
  | zero => intro U60 v60_1 v60_4 i0 K h; unfold w_spread_L60 at h; exact h.elim
  | succ n ih =>
    intro U60 v60_1 v60_4 i0 K h
    unfold w_spread_L60 at h
    replace K := fun (i : ι × Nat) uo (z : v_spread_L60 uo (i.2 + 1) U60 v60_1 v60_4) => K i.1 uo ⟨i.2 + 1, z⟩
    have i00 := i0
    replace i0 : ι × Nat := (i0, 0)
    by_cases c : (qI U60 0 54).toInt ≤ v60_4.toInt
    · replace h := h.1 c
      replace K := fun i uo z => K i uo (Or.inl ⟨c, z⟩)
      exact ⟨_, K i0 _ rfl, h⟩
    · replace h := h.2 c
      replace K := fun i uo z => K i uo (Or.inr ⟨c, z⟩)
      obtain ⟨g1_, h⟩ := h
      replace K := fun i uo z => K i uo ⟨g1_, z⟩
      by_cases c : (f_isCaught U60 v60_1 v60_4).toInt = 0
      · replace h := h.1 c
        replace K := fun i uo z => K i uo (Or.inl ⟨c, z⟩)
        exact ru_spread_J91 i0 (fun _ _ _ h K => ih i00 (fun i uo ⟨n8, z⟩ => K (i, n8) uo z) h) K h
      · replace h := h.2 c
        replace K := fun i uo z => K i uo (Or.inr ⟨c, z⟩)
        obtain ⟨g2_, h⟩ := h
        replace K := fun i uo z => K i uo ⟨g2_, z⟩
        obtain ⟨Q9, h0, h⟩ := h
        obtain ⟨S25, z9, g9⟩ := ru_come h0
        replace h := h S25 g9
        replace K := fun i uo z => K i uo ⟨S25, z9, z⟩
        exact ru_spread_J91 i0 (fun _ _ _ h K => ih i00 (fun i uo ⟨n8, z⟩ => K (i, n8) uo z) h) K h
set_option maxRecDepth 100000 in
theorem ru_spread_L29 {ι : Type} {P : MS → Prop} {Q : MS → Prop} : ∀ (n : Nat) {U29 : MS} {v29_1 : Int32} {v29_3 : Int32} {v29_4 : Int32} (i0 : ι), (∀ (i : ι) (uo : MS), (∃ n8, v_spread_L29 uo n8 U29 v29_1 v29_3 v29_4) → P uo) → w_spread_L29 Q n U29 v29_1 v29_3 v29_4 → ∃ uo, P uo ∧ Q uo := by
  intro n
  induction n with
  | zero => intro U29 v29_1 v29_3 v29_4 i0 K h; unfold w_spread_L29 at h; exact h.elim
  | succ n ih =>
    intro U29 v29_1 v29_3 v29_4 i0 K h
    unfold w_spread_L29 at h
    replace K := fun (i : ι × Nat) uo (z : v_spread_L29 uo (i.2 + 1) U29 v29_1 v29_3 v29_4) => K i.1 uo ⟨i.2 + 1, z⟩
    have i00 := i0
    replace i0 : ι × Nat := (i0, 0)
    obtain ⟨g3_, h⟩ := h
    replace K := fun i uo z => K i uo ⟨g3_, z⟩
    by_cases c : (f_ways U29 v29_1).toInt ≤ v29_4.toInt
    · replace h := h.1 c
      replace K := fun i uo z => K i uo (Or.inl ⟨c, z⟩)
      obtain ⟨n9, h⟩ := h
      exact ru_spread_L60 n9 i0 K h
    · replace h := h.2 c
      replace K := fun i uo z => K i uo (Or.inr ⟨c, z⟩)
      obtain ⟨g4_, h⟩ := h
      replace K := fun i uo z => K i uo ⟨g4_, z⟩
      obtain ⟨Q9, h0, h⟩ := h
      obtain ⟨S31, z9, g9⟩ := ru_come h0
      replace h := h S31 g9
      replace K := fun i uo z => K i uo ⟨S31, z9, z⟩
      obtain ⟨a33, ea33⟩ : ∃ x9 : Int32, x9 = (v29_4 + Int32.ofInt 1) := ⟨_, rfl⟩
      replace h := h a33 ea33
      replace K := fun i uo z => K i uo ⟨a33, ea33, z⟩
      exact ih i00 (fun i uo ⟨n8, z⟩ => K (i, n8) uo z) h
set_option maxRecDepth 100000 in
theorem ru_spread_J26 {ι : Type} {P : MS → Prop} {Q : MS → Prop} {U26 : MS} {v26_1 : Int32} {v26_3 : Int32} (i0 : ι) (K : ∀ (i : ι) (uo : MS), v_spread_J26 uo U26 v26_1 v26_3 → P uo) (h : w_spread_J26 Q U26 v26_1 v26_3) : ∃ uo, P uo ∧ Q uo := by
  unfold w_spread_J26 at h
  obtain ⟨n9, h⟩ := h
  exact ru_spread_L29 n9 i0 K h
set_option maxRecDepth 100000 in
theorem ru_spread {S : MS} {x1 : Int32} {x2 : Int32} {Q : MS → Prop} (h : w_spread S x1 x2 Q) : ∃ uo, v_spread S x1 x2 uo ∧ Q uo := by
  have i0 : Unit := ()
  have K : ∀ (i : Unit) (uo : MS), v_spread S x1 x2 uo → v_spread S x1 x2 uo := fun _ _ z => z
  unfold w_spread at h
  obtain ⟨Q9, h0, h⟩ := h
  obtain ⟨r2, S3, z9, g9⟩ := ru_heightBehind h0
  replace h := h r2 S3 g9
  replace K := fun i uo z => K i uo ⟨r2, S3, z9, z⟩
  obtain ⟨g5_, h⟩ := h
  replace K := fun i uo z => K i uo ⟨g5_, z⟩
  obtain ⟨g6_, h⟩ := h
  replace K := fun i uo z => K i uo ⟨g6_, z⟩
  by_cases c : (f_goesOn S3 (f_op S3 x1)).toInt = 0
  · replace h := h.1 c
    replace K := fun i uo z => K i uo (Or.inl ⟨c, z⟩)
    exact ru_spread_J26 i0 K h
  · replace h := h.2 c
    replace K := fun i uo z => K i uo (Or.inr ⟨c, z⟩)
    obtain ⟨Q9, h0, h⟩ := h
    obtain ⟨S37, z9, g9⟩ := ru_come h0
    replace h := h S37 g9
    replace K := fun i uo z => K i uo ⟨S37, z9, z⟩
    exact ru_spread_J26 i0 K h
set_option maxRecDepth 100000 in
theorem vw_spread_J91 {uo : MS} {k60 k60v : MS → Int32 → Int32 → Prop} {U91 : MS} {v91_1 : Int32} {v91_4 : Int32} (hk60 : ∀ (u : MS) (z0 : Int32) (z1 : Int32), k60v u z0 z1 → k60 u z0 z1) (h : v_spread_J91 uo k60v U91 v91_1 v91_4) : w_spread_J91 (fun u => u = uo) k60 U91 v91_1 v91_4 := by
  unfold v_spread_J91 at h
  unfold w_spread_J91
  obtain ⟨v9, e9, h⟩ := h
  intro x9 d9
  have c9 : v9 = x9 := e9.trans d9.symm
  subst c9
  exact hk60 _ _ _ h
set_option maxRecDepth 100000 in
theorem vz_spread_J91 {uo : MS} {Q : MS → Prop} {k60 k60v : MS → Int32 → Int32 → Prop} {U91 : MS} {v91_1 : Int32} {v91_4 : Int32} (hk60 : ∀ (u : MS) (z0 : Int32) (z1 : Int32), k60v u z0 z1 → k60 u z0 z1 → Q uo) (h : v_spread_J91 uo k60v U91 v91_1 v91_4) (w : w_spread_J91 Q k60 U91 v91_1 v91_4) : Q uo := by
  unfold v_spread_J91 at h
  unfold w_spread_J91 at w
  obtain ⟨v9, e9, h⟩ := h
  replace w := w v9 e9
  exact hk60 _ _ _ h w
set_option maxRecDepth 100000 in
theorem vw_spread_L60 {uo : MS} : ∀ (n : Nat) {U60 : MS} {v60_1 : Int32} {v60_4 : Int32}, v_spread_L60 uo n U60 v60_1 v60_4 → w_spread_L60 (fun u => u = uo) n U60 v60_1 v60_4 := by
  intro n
  induction n with
  | zero => intro U60 v60_1 v60_4 h; unfold v_spread_L60 at h; exact h.elim
  | succ n ih =>
    intro U60 v60_1 v60_4 h
    unfold v_spread_L60 at h
    unfold w_spread_L60
    rcases h with ⟨c, h⟩ | ⟨c, h⟩
    · refine ⟨fun _ => ?_, fun c2 => absurd c c2⟩
      exact h.symm
    · refine ⟨fun c2 => absurd c2 c, fun _ => ?_⟩
      obtain ⟨g9, h⟩ := h
      refine ⟨g9, ?_⟩
      rcases h with ⟨c, h⟩ | ⟨c, h⟩
      · refine ⟨fun _ => ?_, fun c2 => absurd c c2⟩
        exact vw_spread_J91 (fun _ _ _ h => ih h) h
      · refine ⟨fun c2 => absurd c2 c, fun _ => ?_⟩
        obtain ⟨g9, h⟩ := h
        refine ⟨g9, ?_⟩
        obtain ⟨q9, z9, h⟩ := h
        refine ⟨_, vw_come z9, ?_⟩
        intro q8 d9
        subst d9
        exact vw_spread_J91 (fun _ _ _ h => ih h) h
set_option maxRecDepth 100000 in
theorem vz_spread_L60 {uo : MS} {Q : MS → Prop} : ∀ (n m : Nat) {U60 : MS} {v60_1 : Int32} {v60_4 : Int32}, v_spread_L60 uo n U60 v60_1 v60_4 → w_spread_L60 Q m U60 v60_1 v60_4 → Q uo := by
  intro n
  induction n with
  | zero => intro m U60 v60_1 v60_4 h; unfold v_spread_L60 at h; exact h.elim
  | succ n ih =>
    intro m U60 v60_1 v60_4 h w
    cases m with
    | zero => unfold w_spread_L60 at w; exact w.elim
    | succ m =>
      unfold v_spread_L60 at h
      unfold w_spread_L60 at w
      rcases h with ⟨c, h⟩ | ⟨c, h⟩
      · replace w := w.1 c
        rw [h]
        exact w
      · replace w := w.2 c
        replace h := h.2
        replace w := w.2
        rcases h with ⟨c, h⟩ | ⟨c, h⟩
        · replace w := w.1 c
          exact vz_spread_J91 (fun _ _ _ h w => ih m h w) h w
        · replace w := w.2 c
          replace h := h.2
          replace w := w.2
          obtain ⟨q9, z9, h⟩ := h
          obtain ⟨Q9, w0, w⟩ := w
          replace w := w q9 (vz_come z9 w0)
          exact vz_spread_J91 (fun _ _ _ h w => ih m h w) h w
set_option maxRecDepth 100000 in
theorem vw_spread_L29 {uo : MS} : ∀ (n : Nat) {U29 : MS} {v29_1 : Int32} {v29_3 : Int32} {v29_4 : Int32}, v_spread_L29 uo n U29 v29_1 v29_3 v29_4 → w_spread_L29 (fun u => u = uo) n U29 v29_1 v29_3 v29_4 := by
  intro n
  induction n with
  | zero => intro U29 v29_1 v29_3 v29_4 h; unfold v_spread_L29 at h; exact h.elim
  | succ n ih =>
    intro U29 v29_1 v29_3 v29_4 h
    unfold v_spread_L29 at h
    unfold w_spread_L29
    obtain ⟨g9, h⟩ := h
    refine ⟨g9, ?_⟩
    rcases h with ⟨c, h⟩ | ⟨c, h⟩
    · refine ⟨fun _ => ?_, fun c2 => absurd c c2⟩
      obtain ⟨n9, h⟩ := h
      exact ⟨n9, vw_spread_L60 n9 h⟩
    · refine ⟨fun c2 => absurd c2 c, fun _ => ?_⟩
      obtain ⟨g9, h⟩ := h
      refine ⟨g9, ?_⟩
      obtain ⟨q9, z9, h⟩ := h
      refine ⟨_, vw_come z9, ?_⟩
      intro q8 d9
      subst d9
      obtain ⟨v9, e9, h⟩ := h
      intro x9 d9
      have c9 : v9 = x9 := e9.trans d9.symm
      subst c9
      exact ih h
set_option maxRecDepth 100000 in
theorem vz_spread_L29 {uo : MS} {Q : MS → Prop} : ∀ (n m : Nat) {U29 : MS} {v29_1 : Int32} {v29_3 : Int32} {v29_4 : Int32}, v_spread_L29 uo n U29 v29_1 v29_3 v29_4 → w_spread_L29 Q m U29 v29_1 v29_3 v29_4 → Q uo := by
  intro n
  induction n with
  | zero => intro m U29 v29_1 v29_3 v29_4 h; unfold v_spread_L29 at h; exact h.elim
  | succ n ih =>
    intro m U29 v29_1 v29_3 v29_4 h w
    cases m with
    | zero => unfold w_spread_L29 at w; exact w.elim
    | succ m =>
      unfold v_spread_L29 at h
      unfold w_spread_L29 at w
      replace h := h.2
      replace w := w.2
      rcases h with ⟨c, h⟩ | ⟨c, h⟩
      · replace w := w.1 c
        obtain ⟨n9, h⟩ := h
        obtain ⟨n8, w⟩ := w
        exact vz_spread_L60 n9 n8 h w
      · replace w := w.2 c
        replace h := h.2
        replace w := w.2
        obtain ⟨q9, z9, h⟩ := h
        obtain ⟨Q9, w0, w⟩ := w
        replace w := w q9 (vz_come z9 w0)
        obtain ⟨v9, e9, h⟩ := h
        replace w := w v9 e9
        exact ih m h w
set_option maxRecDepth 100000 in
theorem vw_spread_J26 {uo : MS} {U26 : MS} {v26_1 : Int32} {v26_3 : Int32} (h : v_spread_J26 uo U26 v26_1 v26_3) : w_spread_J26 (fun u => u = uo) U26 v26_1 v26_3 := by
  unfold v_spread_J26 at h
  unfold w_spread_J26
  obtain ⟨n9, h⟩ := h
  exact ⟨n9, vw_spread_L29 n9 h⟩
set_option maxRecDepth 100000 in
theorem vz_spread_J26 {uo : MS} {Q : MS → Prop} {U26 : MS} {v26_1 : Int32} {v26_3 : Int32} (h : v_spread_J26 uo U26 v26_1 v26_3) (w : w_spread_J26 Q U26 v26_1 v26_3) : Q uo := by
  unfold v_spread_J26 at h
  unfold w_spread_J26 at w
  obtain ⟨n9, h⟩ := h
  obtain ⟨n8, w⟩ := w
  exact vz_spread_L29 n9 n8 h w
set_option maxRecDepth 100000 in
theorem vw_spread {S : MS} {x1 : Int32} {x2 : Int32} {uo : MS} (h : v_spread S x1 x2 uo) : w_spread S x1 x2 (fun u => u = uo) := by
  unfold v_spread at h
  unfold w_spread
  obtain ⟨p9, q9, z9, h⟩ := h
  refine ⟨_, vw_heightBehind z9, ?_⟩
  rintro p8 q8 ⟨d8, d9⟩
  subst d8
  subst d9
  obtain ⟨g9, h⟩ := h
  refine ⟨g9, ?_⟩
  obtain ⟨g9, h⟩ := h
  refine ⟨g9, ?_⟩
  rcases h with ⟨c, h⟩ | ⟨c, h⟩
  · refine ⟨fun _ => ?_, fun c2 => absurd c c2⟩
    exact vw_spread_J26 h
  · refine ⟨fun c2 => absurd c2 c, fun _ => ?_⟩
    obtain ⟨q9, z9, h⟩ := h
    refine ⟨_, vw_come z9, ?_⟩
    intro q8 d9
    subst d9
    exact vw_spread_J26 h
set_option maxRecDepth 100000 in
theorem vz_spread {S : MS} {x1 : Int32} {x2 : Int32} {uo : MS} {Q : MS → Prop} (h : v_spread S x1 x2 uo) (w : w_spread S x1 x2 Q) : Q uo := by
  unfold v_spread at h
  unfold w_spread at w
  obtain ⟨p9, q9, z9, h⟩ := h
  obtain ⟨Q9, w0, w⟩ := w
  replace w := w p9 q9 (vz_heightBehind z9 w0)
  replace h := h.2
  replace w := w.2
  replace h := h.2
  replace w := w.2
  rcases h with ⟨c, h⟩ | ⟨c, h⟩
  · replace w := w.1 c
    exact vz_spread_J26 h w
  · replace w := w.2 c
    obtain ⟨q9, z9, h⟩ := h
    obtain ⟨Q9, w0, w⟩ := w
    replace w := w q9 (vz_come z9 w0)
    exact vz_spread_J26 h w
def v_findHeights_J98 (uo : MS) (k64 : MS → Int32 → Int32 → Int32 → Prop) (U98 : MS) (v98_1 : Int32) (v98_2 : Int32) (v98_3 : Int32) : Prop := (∃ a14 : Int32, a14 = (v98_3 + Int32.ofInt 1) ∧ (k64 U98 v98_1 v98_2 a14))
def v_findHeights_L64 (uo : MS) (k54 : MS → Int32 → Int32 → Prop) : Nat → MS → Int32 → Int32 → Int32 → Prop
  | 0, _, _, _, _ => False
  | n64 + 1, U64, v64_1, v64_2, v64_3 => ((v64_1.toInt < v64_3.toInt ∧ (∃ a9 : Int32, a9 = (v64_2 + Int32.ofInt 1) ∧ (k54 U64 v64_1 a9))) ∨ (¬ v64_1.toInt < v64_3.toInt ∧ (((0 : Int) ≤ v64_2.toInt ∧ v64_2.toInt < 9600) ∧ (((((qI U64 22 v64_2.toInt.toNat) >>> (v64_3 &&& 31)) &&& (1 : Int32)).toInt = 1 ∧ (∃ (r17 : Int32) (S18 : MS), v_isRightHeight U64 v64_2 v64_3 r17 S18 ∧ ((r17.toInt = 0 ∧ (v_findHeights_J98 uo (v_findHeights_L64 uo k54 n64) S18 v64_1 v64_2 v64_3)) ∨ (¬ r17.toInt = 0 ∧ (∃ (S22 : MS), v_spread S18 v64_2 v64_3 S22 ∧ (v_findHeights_J98 uo (v_findHeights_L64 uo k54 n64) S22 v64_1 v64_2 v64_3)))))) ∨ (¬ (((qI U64 22 v64_2.toInt.toNat) >>> (v64_3 &&& 31)) &&& (1 : Int32)).toInt = 1 ∧ (v_findHeights_J98 uo (v_findHeights_L64 uo k54 n64) U64 v64_1 v64_2 v64_3))))))
def v_findHeights_L54 (uo : MS) (k40 : MS → Int32 → Prop) : Nat → MS → Int32 → Int32 → Prop
  | 0, _, _, _ => False
  | n54 + 1, U54, v54_1, v54_2 => (((qI U54 0 52).toInt ≤ v54_2.toInt ∧ (k40 U54 v54_1)) ∨ (¬ (qI U54 0 52).toInt ≤ v54_2.toInt ∧ (∃ n, v_findHeights_L64 uo (v_findHeights_L54 uo k40 n54) n U54 v54_1 v54_2 0)))
def v_findHeights_L40 (uo : MS) : Nat → MS → Int32 → Prop
  | 0, _, _ => False
  | n40 + 1, U40, v40_1 => (((qI U40 0 57).toInt = 0 ∧ (uo = U40)) ∨ (¬ (qI U40 0 57).toInt = 0 ∧ (∃ S6 : MS, S6 = wI U40 0 57 0 ∧ (∃ n, v_findHeights_L54 uo (v_findHeights_L40 uo n40) n S6 v40_1 0))))
def v_findHeights_L7 (uo : MS) : Nat → MS → Int32 → Int32 → Prop
  | 0, _, _, _ => False
  | n7 + 1, U7, v7_1, v7_2 => (((qI U7 0 52).toInt ≤ v7_2.toInt ∧ (∃ S3 : MS, S3 = wI U7 22 0 (1 : Int32) ∧ (∃ S4 : MS, S4 = wI S3 0 57 1 ∧ (∃ n, v_findHeights_L40 uo n S4 v7_1)))) ∨ (¬ (qI U7 0 52).toInt ≤ v7_2.toInt ∧ (((0 : Int) ≤ v7_2.toInt ∧ v7_2.toInt < 9600) ∧ (∃ S25 : MS, S25 = wI U7 22 v7_2.toInt.toNat (0 : Int32) ∧ (∃ a26 : Int32, a26 = (v7_2 + Int32.ofInt 1) ∧ ((v_findHeights_L7 uo n7) S25 v7_1 a26))))))
def v_findHeights (S : MS) (x1 : Int32) (uo : MS) : Prop := (∃ S1 : MS, S1 = wI S 0 56 x1 ∧ (∃ n, v_findHeights_L7 uo n S1 x1 0))
set_option maxRecDepth 100000 in
theorem ru_findHeights_J98 {ι : Type} {P : MS → Prop} {Q : MS → Prop} {k64 : MS → Int32 → Int32 → Int32 → Prop} {k64v : ι → MS → MS → Int32 → Int32 → Int32 → Prop} {U98 : MS} {v98_1 : Int32} {v98_2 : Int32} {v98_3 : Int32} (i0 : ι) (hk64 : ∀ (u : MS) (z0 : Int32) (z1 : Int32) (z2 : Int32), k64 u z0 z1 z2 → (∀ (i : ι) (uo : MS), k64v i uo u z0 z1 z2 → P uo) → ∃ uo, P uo ∧ Q uo) (K : ∀ (i : ι) (uo : MS), v_findHeights_J98 uo (k64v i uo) U98 v98_1 v98_2 v98_3 → P uo) (h : w_findHeights_J98 Q k64 U98 v98_1 v98_2 v98_3) : ∃ uo, P uo ∧ Q uo := by
  unfold w_findHeights_J98 at h
  obtain ⟨a14, ea14⟩ : ∃ x9 : Int32, x9 = (v98_3 + Int32.ofInt 1) := ⟨_, rfl⟩
  replace h := h a14 ea14
  replace K := fun i uo z => K i uo ⟨a14, ea14, z⟩
  exact hk64 _ _ _ _ h K
set_option maxRecDepth 100000 in
theorem ru_findHeights_L64 {ι : Type} {P : MS → Prop} {Q : MS → Prop} {k54 : MS → Int32 → Int32 → Prop} {k54v : ι → MS → MS → Int32 → Int32 → Prop} : ∀ (n : Nat) {U64 : MS} {v64_1 : Int32} {v64_2 : Int32} {v64_3 : Int32} (i0 : ι) (hk54 : ∀ (u : MS) (z0 : Int32) (z1 : Int32), k54 u z0 z1 → (∀ (i : ι) (uo : MS), k54v i uo u z0 z1 → P uo) → ∃ uo, P uo ∧ Q uo), (∀ (i : ι) (uo : MS), (∃ n8, v_findHeights_L64 uo (k54v i uo) n8 U64 v64_1 v64_2 v64_3) → P uo) → w_findHeights_L64 Q k54 n U64 v64_1 v64_2 v64_3 → ∃ uo, P uo ∧ Q uo := by
  intro n
  induction n with
  | zero => intro U64 v64_1 v64_2 v64_3 i0 hk54 K h; unfold w_findHeights_L64 at h; exact h.elim
  | succ n ih =>
    intro U64 v64_1 v64_2 v64_3 i0 hk54 K h
    unfold w_findHeights_L64 at h
    replace K := fun (i : ι × Nat) uo (z : v_findHeights_L64 uo (k54v i.1 uo) (i.2 + 1) U64 v64_1 v64_2 v64_3) => K i.1 uo ⟨i.2 + 1, z⟩
    have i00 := i0
    replace i0 : ι × Nat := (i0, 0)
    by_cases c : v64_1.toInt < v64_3.toInt
    · replace h := h.1 c
      replace K := fun i uo z => K i uo (Or.inl ⟨c, z⟩)
      obtain ⟨a9, ea9⟩ : ∃ x9 : Int32, x9 = (v64_2 + Int32.ofInt 1) := ⟨_, rfl⟩
      replace h := h a9 ea9
      replace K := fun i uo z => K i uo ⟨a9, ea9, z⟩
      exact hk54 _ _ _ h (fun i uo z => K (i, 0) uo z)
    · replace h := h.2 c
      replace K := fun i uo z => K i uo (Or.inr ⟨c, z⟩)
      obtain ⟨g1_, h⟩ := h
      replace K := fun i uo z => K i uo ⟨g1_, z⟩
      by_cases c : (((qI U64 22 v64_2.toInt.toNat) >>> (v64_3 &&& 31)) &&& (1 : Int32)).toInt = 1
      · replace h := h.1 c
        replace K := fun i uo z => K i uo (Or.inl ⟨c, z⟩)
        obtain ⟨Q9, h0, h⟩ := h
        obtain ⟨r17, S18, z9, g9⟩ := ru_isRightHeight h0
        replace h := h r17 S18 g9
        replace K := fun i uo z => K i uo ⟨r17, S18, z9, z⟩
        by_cases c : r17.toInt = 0
        · replace h := h.1 c
          replace K := fun i uo z => K i uo (Or.inl ⟨c, z⟩)
          exact ru_findHeights_J98 i0 (fun _ _ _ _ h K => ih i00 hk54 (fun i uo ⟨n8, z⟩ => K (i, n8) uo z) h) K h
        · replace h := h.2 c
          replace K := fun i uo z => K i uo (Or.inr ⟨c, z⟩)
          obtain ⟨Q9, h0, h⟩ := h
          obtain ⟨S22, z9, g9⟩ := ru_spread h0
          replace h := h S22 g9
          replace K := fun i uo z => K i uo ⟨S22, z9, z⟩
          exact ru_findHeights_J98 i0 (fun _ _ _ _ h K => ih i00 hk54 (fun i uo ⟨n8, z⟩ => K (i, n8) uo z) h) K h
      · replace h := h.2 c
        replace K := fun i uo z => K i uo (Or.inr ⟨c, z⟩)
        exact ru_findHeights_J98 i0 (fun _ _ _ _ h K => ih i00 hk54 (fun i uo ⟨n8, z⟩ => K (i, n8) uo z) h) K h
set_option maxRecDepth 100000 in
theorem ru_findHeights_L54 {ι : Type} {P : MS → Prop} {Q : MS → Prop} {k40 : MS → Int32 → Prop} {k40v : ι → MS → MS → Int32 → Prop} : ∀ (n : Nat) {U54 : MS} {v54_1 : Int32} {v54_2 : Int32} (i0 : ι) (hk40 : ∀ (u : MS) (z0 : Int32), k40 u z0 → (∀ (i : ι) (uo : MS), k40v i uo u z0 → P uo) → ∃ uo, P uo ∧ Q uo), (∀ (i : ι) (uo : MS), (∃ n8, v_findHeights_L54 uo (k40v i uo) n8 U54 v54_1 v54_2) → P uo) → w_findHeights_L54 Q k40 n U54 v54_1 v54_2 → ∃ uo, P uo ∧ Q uo := by
  intro n
  induction n with
  | zero => intro U54 v54_1 v54_2 i0 hk40 K h; unfold w_findHeights_L54 at h; exact h.elim
  | succ n ih =>
    intro U54 v54_1 v54_2 i0 hk40 K h
    unfold w_findHeights_L54 at h
    replace K := fun (i : ι × Nat) uo (z : v_findHeights_L54 uo (k40v i.1 uo) (i.2 + 1) U54 v54_1 v54_2) => K i.1 uo ⟨i.2 + 1, z⟩
    have i00 := i0
    replace i0 : ι × Nat := (i0, 0)
    by_cases c : (qI U54 0 52).toInt ≤ v54_2.toInt
    · replace h := h.1 c
      replace K := fun i uo z => K i uo (Or.inl ⟨c, z⟩)
      exact hk40 _ _ h (fun i uo z => K (i, 0) uo z)
    · replace h := h.2 c
      replace K := fun i uo z => K i uo (Or.inr ⟨c, z⟩)
      obtain ⟨n9, h⟩ := h
      exact ru_findHeights_L64 n9 i0 (fun _ _ _ h K => ih i00 hk40 (fun i uo ⟨n8, z⟩ => K (i, n8) uo z) h) K h
set_option maxRecDepth 100000 in
theorem ru_findHeights_L40 {ι : Type} {P : MS → Prop} {Q : MS → Prop} : ∀ (n : Nat) {U40 : MS} {v40_1 : Int32} (i0 : ι), (∀ (i : ι) (uo : MS), (∃ n8, v_findHeights_L40 uo n8 U40 v40_1) → P uo) → w_findHeights_L40 Q n U40 v40_1 → ∃ uo, P uo ∧ Q uo := by
  intro n
  induction n with
  | zero => intro U40 v40_1 i0 K h; unfold w_findHeights_L40 at h; exact h.elim
  | succ n ih =>
    intro U40 v40_1 i0 K h
    unfold w_findHeights_L40 at h
    replace K := fun (i : ι × Nat) uo (z : v_findHeights_L40 uo (i.2 + 1) U40 v40_1) => K i.1 uo ⟨i.2 + 1, z⟩
    have i00 := i0
    replace i0 : ι × Nat := (i0, 0)
    by_cases c : (qI U40 0 57).toInt = 0
    · replace h := h.1 c
      replace K := fun i uo z => K i uo (Or.inl ⟨c, z⟩)
      exact ⟨_, K i0 _ rfl, h⟩
    · replace h := h.2 c
      replace K := fun i uo z => K i uo (Or.inr ⟨c, z⟩)
      obtain ⟨S6, eS6⟩ : ∃ x9 : MS, x9 = wI U40 0 57 0 := ⟨_, rfl⟩
      replace h := h S6 eS6
      replace K := fun i uo z => K i uo ⟨S6, eS6, z⟩
      obtain ⟨n9, h⟩ := h
      exact ru_findHeights_L54 n9 i0 (fun _ _ h K => ih i00 (fun i uo ⟨n8, z⟩ => K (i, n8) uo z) h) K h
set_option maxRecDepth 100000 in
theorem ru_findHeights_L7 {ι : Type} {P : MS → Prop} {Q : MS → Prop} : ∀ (n : Nat) {U7 : MS} {v7_1 : Int32} {v7_2 : Int32} (i0 : ι), (∀ (i : ι) (uo : MS), (∃ n8, v_findHeights_L7 uo n8 U7 v7_1 v7_2) → P uo) → w_findHeights_L7 Q n U7 v7_1 v7_2 → ∃ uo, P uo ∧ Q uo := by
  intro n
  induction n with
  | zero => intro U7 v7_1 v7_2 i0 K h; unfold w_findHeights_L7 at h; exact h.elim
  | succ n ih =>
    intro U7 v7_1 v7_2 i0 K h
    unfold w_findHeights_L7 at h
    replace K := fun (i : ι × Nat) uo (z : v_findHeights_L7 uo (i.2 + 1) U7 v7_1 v7_2) => K i.1 uo ⟨i.2 + 1, z⟩
    have i00 := i0
    replace i0 : ι × Nat := (i0, 0)
    by_cases c : (qI U7 0 52).toInt ≤ v7_2.toInt
    · replace h := h.1 c
      replace K := fun i uo z => K i uo (Or.inl ⟨c, z⟩)
      obtain ⟨S3, eS3⟩ : ∃ x9 : MS, x9 = wI U7 22 0 (1 : Int32) := ⟨_, rfl⟩
      replace h := h S3 eS3
      replace K := fun i uo z => K i uo ⟨S3, eS3, z⟩
      obtain ⟨S4, eS4⟩ : ∃ x9 : MS, x9 = wI S3 0 57 1 := ⟨_, rfl⟩
      replace h := h S4 eS4
      replace K := fun i uo z => K i uo ⟨S4, eS4, z⟩
      obtain ⟨n9, h⟩ := h
      exact ru_findHeights_L40 n9 i0 K h
    · replace h := h.2 c
      replace K := fun i uo z => K i uo (Or.inr ⟨c, z⟩)
      obtain ⟨g2_, h⟩ := h
      replace K := fun i uo z => K i uo ⟨g2_, z⟩
      obtain ⟨S25, eS25⟩ : ∃ x9 : MS, x9 = wI U7 22 v7_2.toInt.toNat (0 : Int32) := ⟨_, rfl⟩
      replace h := h S25 eS25
      replace K := fun i uo z => K i uo ⟨S25, eS25, z⟩
      obtain ⟨a26, ea26⟩ : ∃ x9 : Int32, x9 = (v7_2 + Int32.ofInt 1) := ⟨_, rfl⟩
      replace h := h a26 ea26
      replace K := fun i uo z => K i uo ⟨a26, ea26, z⟩
      exact ih i00 (fun i uo ⟨n8, z⟩ => K (i, n8) uo z) h
set_option maxRecDepth 100000 in
theorem ru_findHeights {S : MS} {x1 : Int32} {Q : MS → Prop} (h : w_findHeights S x1 Q) : ∃ uo, v_findHeights S x1 uo ∧ Q uo := by
  have i0 : Unit := ()
  have K : ∀ (i : Unit) (uo : MS), v_findHeights S x1 uo → v_findHeights S x1 uo := fun _ _ z => z
  unfold w_findHeights at h
  obtain ⟨S1, eS1⟩ : ∃ x9 : MS, x9 = wI S 0 56 x1 := ⟨_, rfl⟩
  replace h := h S1 eS1
  replace K := fun i uo z => K i uo ⟨S1, eS1, z⟩
  obtain ⟨n9, h⟩ := h
  exact ru_findHeights_L7 n9 i0 K h
set_option maxRecDepth 100000 in
theorem vw_findHeights_J98 {uo : MS} {k64 k64v : MS → Int32 → Int32 → Int32 → Prop} {U98 : MS} {v98_1 : Int32} {v98_2 : Int32} {v98_3 : Int32} (hk64 : ∀ (u : MS) (z0 : Int32) (z1 : Int32) (z2 : Int32), k64v u z0 z1 z2 → k64 u z0 z1 z2) (h : v_findHeights_J98 uo k64v U98 v98_1 v98_2 v98_3) : w_findHeights_J98 (fun u => u = uo) k64 U98 v98_1 v98_2 v98_3 := by
  unfold v_findHeights_J98 at h
  unfold w_findHeights_J98
  obtain ⟨v9, e9, h⟩ := h
  intro x9 d9
  have c9 : v9 = x9 := e9.trans d9.symm
  subst c9
  exact hk64 _ _ _ _ h
set_option maxRecDepth 100000 in
theorem vz_findHeights_J98 {uo : MS} {Q : MS → Prop} {k64 k64v : MS → Int32 → Int32 → Int32 → Prop} {U98 : MS} {v98_1 : Int32} {v98_2 : Int32} {v98_3 : Int32} (hk64 : ∀ (u : MS) (z0 : Int32) (z1 : Int32) (z2 : Int32), k64v u z0 z1 z2 → k64 u z0 z1 z2 → Q uo) (h : v_findHeights_J98 uo k64v U98 v98_1 v98_2 v98_3) (w : w_findHeights_J98 Q k64 U98 v98_1 v98_2 v98_3) : Q uo := by
  unfold v_findHeights_J98 at h
  unfold w_findHeights_J98 at w
  obtain ⟨v9, e9, h⟩ := h
  replace w := w v9 e9
  exact hk64 _ _ _ _ h w
set_option maxRecDepth 100000 in
theorem vw_findHeights_L64 {uo : MS} {k54 k54v : MS → Int32 → Int32 → Prop} : ∀ (n : Nat) {U64 : MS} {v64_1 : Int32} {v64_2 : Int32} {v64_3 : Int32} (hk54 : ∀ (u : MS) (z0 : Int32) (z1 : Int32), k54v u z0 z1 → k54 u z0 z1), v_findHeights_L64 uo k54v n U64 v64_1 v64_2 v64_3 → w_findHeights_L64 (fun u => u = uo) k54 n U64 v64_1 v64_2 v64_3 := by
  intro n
  induction n with
  | zero => intro U64 v64_1 v64_2 v64_3 hk54 h; unfold v_findHeights_L64 at h; exact h.elim
  | succ n ih =>
    intro U64 v64_1 v64_2 v64_3 hk54 h
    unfold v_findHeights_L64 at h
    unfold w_findHeights_L64
    rcases h with ⟨c, h⟩ | ⟨c, h⟩
    · refine ⟨fun _ => ?_, fun c2 => absurd c c2⟩
      obtain ⟨v9, e9, h⟩ := h
      intro x9 d9
      have c9 : v9 = x9 := e9.trans d9.symm
      subst c9
      exact hk54 _ _ _ h
    · refine ⟨fun c2 => absurd c2 c, fun _ => ?_⟩
      obtain ⟨g9, h⟩ := h
      refine ⟨g9, ?_⟩
      rcases h with ⟨c, h⟩ | ⟨c, h⟩
      · refine ⟨fun _ => ?_, fun c2 => absurd c c2⟩
        obtain ⟨p9, q9, z9, h⟩ := h
        refine ⟨_, vw_isRightHeight z9, ?_⟩
        rintro p8 q8 ⟨d8, d9⟩
        subst d8
        subst d9
        rcases h with ⟨c, h⟩ | ⟨c, h⟩
        · refine ⟨fun _ => ?_, fun c2 => absurd c c2⟩
          exact vw_findHeights_J98 (fun _ _ _ _ h => ih hk54 h) h
        · refine ⟨fun c2 => absurd c2 c, fun _ => ?_⟩
          obtain ⟨q9, z9, h⟩ := h
          refine ⟨_, vw_spread z9, ?_⟩
          intro q8 d9
          subst d9
          exact vw_findHeights_J98 (fun _ _ _ _ h => ih hk54 h) h
      · refine ⟨fun c2 => absurd c2 c, fun _ => ?_⟩
        exact vw_findHeights_J98 (fun _ _ _ _ h => ih hk54 h) h
set_option maxRecDepth 100000 in
theorem vz_findHeights_L64 {uo : MS} {Q : MS → Prop} {k54 k54v : MS → Int32 → Int32 → Prop} : ∀ (n m : Nat) {U64 : MS} {v64_1 : Int32} {v64_2 : Int32} {v64_3 : Int32} (hk54 : ∀ (u : MS) (z0 : Int32) (z1 : Int32), k54v u z0 z1 → k54 u z0 z1 → Q uo), v_findHeights_L64 uo k54v n U64 v64_1 v64_2 v64_3 → w_findHeights_L64 Q k54 m U64 v64_1 v64_2 v64_3 → Q uo := by
  intro n
  induction n with
  | zero => intro m U64 v64_1 v64_2 v64_3 hk54 h; unfold v_findHeights_L64 at h; exact h.elim
  | succ n ih =>
    intro m U64 v64_1 v64_2 v64_3 hk54 h w
    cases m with
    | zero => unfold w_findHeights_L64 at w; exact w.elim
    | succ m =>
      unfold v_findHeights_L64 at h
      unfold w_findHeights_L64 at w
      rcases h with ⟨c, h⟩ | ⟨c, h⟩
      · replace w := w.1 c
        obtain ⟨v9, e9, h⟩ := h
        replace w := w v9 e9
        exact hk54 _ _ _ h w
      · replace w := w.2 c
        replace h := h.2
        replace w := w.2
        rcases h with ⟨c, h⟩ | ⟨c, h⟩
        · replace w := w.1 c
          obtain ⟨p9, q9, z9, h⟩ := h
          obtain ⟨Q9, w0, w⟩ := w
          replace w := w p9 q9 (vz_isRightHeight z9 w0)
          rcases h with ⟨c, h⟩ | ⟨c, h⟩
          · replace w := w.1 c
            exact vz_findHeights_J98 (fun _ _ _ _ h w => ih m hk54 h w) h w
          · replace w := w.2 c
            obtain ⟨q9, z9, h⟩ := h
            obtain ⟨Q9, w0, w⟩ := w
            replace w := w q9 (vz_spread z9 w0)
            exact vz_findHeights_J98 (fun _ _ _ _ h w => ih m hk54 h w) h w
        · replace w := w.2 c
          exact vz_findHeights_J98 (fun _ _ _ _ h w => ih m hk54 h w) h w
set_option maxRecDepth 100000 in
theorem vw_findHeights_L54 {uo : MS} {k40 k40v : MS → Int32 → Prop} : ∀ (n : Nat) {U54 : MS} {v54_1 : Int32} {v54_2 : Int32} (hk40 : ∀ (u : MS) (z0 : Int32), k40v u z0 → k40 u z0), v_findHeights_L54 uo k40v n U54 v54_1 v54_2 → w_findHeights_L54 (fun u => u = uo) k40 n U54 v54_1 v54_2 := by
  intro n
  induction n with
  | zero => intro U54 v54_1 v54_2 hk40 h; unfold v_findHeights_L54 at h; exact h.elim
  | succ n ih =>
    intro U54 v54_1 v54_2 hk40 h
    unfold v_findHeights_L54 at h
    unfold w_findHeights_L54
    rcases h with ⟨c, h⟩ | ⟨c, h⟩
    · refine ⟨fun _ => ?_, fun c2 => absurd c c2⟩
      exact hk40 _ _ h
    · refine ⟨fun c2 => absurd c2 c, fun _ => ?_⟩
      obtain ⟨n9, h⟩ := h
      exact ⟨n9, vw_findHeights_L64 n9 (fun _ _ _ h => ih hk40 h) h⟩
set_option maxRecDepth 100000 in
theorem vz_findHeights_L54 {uo : MS} {Q : MS → Prop} {k40 k40v : MS → Int32 → Prop} : ∀ (n m : Nat) {U54 : MS} {v54_1 : Int32} {v54_2 : Int32} (hk40 : ∀ (u : MS) (z0 : Int32), k40v u z0 → k40 u z0 → Q uo), v_findHeights_L54 uo k40v n U54 v54_1 v54_2 → w_findHeights_L54 Q k40 m U54 v54_1 v54_2 → Q uo := by
  intro n
  induction n with
  | zero => intro m U54 v54_1 v54_2 hk40 h; unfold v_findHeights_L54 at h; exact h.elim
  | succ n ih =>
    intro m U54 v54_1 v54_2 hk40 h w
    cases m with
    | zero => unfold w_findHeights_L54 at w; exact w.elim
    | succ m =>
      unfold v_findHeights_L54 at h
      unfold w_findHeights_L54 at w
      rcases h with ⟨c, h⟩ | ⟨c, h⟩
      · replace w := w.1 c
        exact hk40 _ _ h w
      · replace w := w.2 c
        obtain ⟨n9, h⟩ := h
        obtain ⟨n8, w⟩ := w
        exact vz_findHeights_L64 n9 n8 (fun _ _ _ h w => ih m hk40 h w) h w
set_option maxRecDepth 100000 in
theorem vw_findHeights_L40 {uo : MS} : ∀ (n : Nat) {U40 : MS} {v40_1 : Int32}, v_findHeights_L40 uo n U40 v40_1 → w_findHeights_L40 (fun u => u = uo) n U40 v40_1 := by
  intro n
  induction n with
  | zero => intro U40 v40_1 h; unfold v_findHeights_L40 at h; exact h.elim
  | succ n ih =>
    intro U40 v40_1 h
    unfold v_findHeights_L40 at h
    unfold w_findHeights_L40
    rcases h with ⟨c, h⟩ | ⟨c, h⟩
    · refine ⟨fun _ => ?_, fun c2 => absurd c c2⟩
      exact h.symm
    · refine ⟨fun c2 => absurd c2 c, fun _ => ?_⟩
      obtain ⟨v9, e9, h⟩ := h
      intro x9 d9
      have c9 : v9 = x9 := e9.trans d9.symm
      subst c9
      obtain ⟨n9, h⟩ := h
      exact ⟨n9, vw_findHeights_L54 n9 (fun _ _ h => ih h) h⟩
set_option maxRecDepth 100000 in
theorem vz_findHeights_L40 {uo : MS} {Q : MS → Prop} : ∀ (n m : Nat) {U40 : MS} {v40_1 : Int32}, v_findHeights_L40 uo n U40 v40_1 → w_findHeights_L40 Q m U40 v40_1 → Q uo := by
  intro n
  induction n with
  | zero => intro m U40 v40_1 h; unfold v_findHeights_L40 at h; exact h.elim
  | succ n ih =>
    intro m U40 v40_1 h w
    cases m with
    | zero => unfold w_findHeights_L40 at w; exact w.elim
    | succ m =>
      unfold v_findHeights_L40 at h
      unfold w_findHeights_L40 at w
      rcases h with ⟨c, h⟩ | ⟨c, h⟩
      · replace w := w.1 c
        rw [h]
        exact w
      · replace w := w.2 c
        obtain ⟨v9, e9, h⟩ := h
        replace w := w v9 e9
        obtain ⟨n9, h⟩ := h
        obtain ⟨n8, w⟩ := w
        exact vz_findHeights_L54 n9 n8 (fun _ _ h w => ih m h w) h w
set_option maxRecDepth 100000 in
theorem vw_findHeights_L7 {uo : MS} : ∀ (n : Nat) {U7 : MS} {v7_1 : Int32} {v7_2 : Int32}, v_findHeights_L7 uo n U7 v7_1 v7_2 → w_findHeights_L7 (fun u => u = uo) n U7 v7_1 v7_2 := by
  intro n
  induction n with
  | zero => intro U7 v7_1 v7_2 h; unfold v_findHeights_L7 at h; exact h.elim
  | succ n ih =>
    intro U7 v7_1 v7_2 h
    unfold v_findHeights_L7 at h
    unfold w_findHeights_L7
    rcases h with ⟨c, h⟩ | ⟨c, h⟩
    · refine ⟨fun _ => ?_, fun c2 => absurd c c2⟩
      obtain ⟨v9, e9, h⟩ := h
      intro x9 d9
      have c9 : v9 = x9 := e9.trans d9.symm
      subst c9
      obtain ⟨v9, e9, h⟩ := h
      intro x9 d9
      have c9 : v9 = x9 := e9.trans d9.symm
      subst c9
      obtain ⟨n9, h⟩ := h
      exact ⟨n9, vw_findHeights_L40 n9 h⟩
    · refine ⟨fun c2 => absurd c2 c, fun _ => ?_⟩
      obtain ⟨g9, h⟩ := h
      refine ⟨g9, ?_⟩
      obtain ⟨v9, e9, h⟩ := h
      intro x9 d9
      have c9 : v9 = x9 := e9.trans d9.symm
      subst c9
      obtain ⟨v9, e9, h⟩ := h
      intro x9 d9
      have c9 : v9 = x9 := e9.trans d9.symm
      subst c9
      exact ih h
set_option maxRecDepth 100000 in
theorem vz_findHeights_L7 {uo : MS} {Q : MS → Prop} : ∀ (n m : Nat) {U7 : MS} {v7_1 : Int32} {v7_2 : Int32}, v_findHeights_L7 uo n U7 v7_1 v7_2 → w_findHeights_L7 Q m U7 v7_1 v7_2 → Q uo := by
  intro n
  induction n with
  | zero => intro m U7 v7_1 v7_2 h; unfold v_findHeights_L7 at h; exact h.elim
  | succ n ih =>
    intro m U7 v7_1 v7_2 h w
    cases m with
    | zero => unfold w_findHeights_L7 at w; exact w.elim
    | succ m =>
      unfold v_findHeights_L7 at h
      unfold w_findHeights_L7 at w
      rcases h with ⟨c, h⟩ | ⟨c, h⟩
      · replace w := w.1 c
        obtain ⟨v9, e9, h⟩ := h
        replace w := w v9 e9
        obtain ⟨v9, e9, h⟩ := h
        replace w := w v9 e9
        obtain ⟨n9, h⟩ := h
        obtain ⟨n8, w⟩ := w
        exact vz_findHeights_L40 n9 n8 h w
      · replace w := w.2 c
        replace h := h.2
        replace w := w.2
        obtain ⟨v9, e9, h⟩ := h
        replace w := w v9 e9
        obtain ⟨v9, e9, h⟩ := h
        replace w := w v9 e9
        exact ih m h w
set_option maxRecDepth 100000 in
theorem vw_findHeights {S : MS} {x1 : Int32} {uo : MS} (h : v_findHeights S x1 uo) : w_findHeights S x1 (fun u => u = uo) := by
  unfold v_findHeights at h
  unfold w_findHeights
  obtain ⟨v9, e9, h⟩ := h
  intro x9 d9
  have c9 : v9 = x9 := e9.trans d9.symm
  subst c9
  obtain ⟨n9, h⟩ := h
  exact ⟨n9, vw_findHeights_L7 n9 h⟩
set_option maxRecDepth 100000 in
theorem vz_findHeights {S : MS} {x1 : Int32} {uo : MS} {Q : MS → Prop} (h : v_findHeights S x1 uo) (w : w_findHeights S x1 Q) : Q uo := by
  unfold v_findHeights at h
  unfold w_findHeights at w
  obtain ⟨v9, e9, h⟩ := h
  replace w := w v9 e9
  obtain ⟨n9, h⟩ := h
  obtain ⟨n8, w⟩ := w
  exact vz_findHeights_L7 n9 n8 h w
def v_heightAt_L31 (ro : Int32) (uo : MS) : Nat → MS → Int32 → Int32 → Prop
  | 0, _, _, _ => False
  | n31 + 1, U31, v31_1, v31_2 => (((0 : Int) ≤ v31_1.toInt ∧ v31_1.toInt < 9600) ∧ (((((qI U31 22 v31_1.toInt.toNat) >>> (v31_2 &&& 31)) &&& (1 : Int32)).toInt = 0 ∧ (∃ a16 : Int32, a16 = (v31_2 + Int32.ofInt 1) ∧ ((v_heightAt_L31 ro uo n31) U31 v31_1 a16))) ∨ (¬ (((qI U31 22 v31_1.toInt.toNat) >>> (v31_2 &&& 31)) &&& (1 : Int32)).toInt = 0 ∧ (ro = v31_2 ∧ uo = U31))))
def v_heightAt (S : MS) (x1 : Int32) (ro : Int32) (uo : MS) : Prop := (((0 : Int) ≤ x1.toInt ∧ x1.toInt < 9600) ∧ (((qI S 22 x1.toInt.toNat).toInt = 0 ∧ (ro = (-1 : Int32) ∧ uo = S)) ∨ (¬ (qI S 22 x1.toInt.toNat).toInt = 0 ∧ (((0 : Int) ≤ x1.toInt ∧ x1.toInt < 9600) ∧ (((0 : Int) ≤ x1.toInt ∧ x1.toInt < 9600) ∧ ((((qI S 22 x1.toInt.toNat) &&& ((qI S 22 x1.toInt.toNat) - (1 : Int32))).toInt = 0 ∧ (∃ n, v_heightAt_L31 ro uo n S x1 0)) ∨ (¬ ((qI S 22 x1.toInt.toNat) &&& ((qI S 22 x1.toInt.toNat) - (1 : Int32))).toInt = 0 ∧ (ro = (-1 : Int32) ∧ uo = S))))))))
set_option maxRecDepth 100000 in
theorem ru_heightAt_L31 {ι : Type} {P : Int32 → MS → Prop} {Q : Int32 → MS → Prop} : ∀ (n : Nat) {U31 : MS} {v31_1 : Int32} {v31_2 : Int32} (i0 : ι), (∀ (i : ι) (ro : Int32) (uo : MS), (∃ n8, v_heightAt_L31 ro uo n8 U31 v31_1 v31_2) → P ro uo) → w_heightAt_L31 Q n U31 v31_1 v31_2 → ∃ ro uo, P ro uo ∧ Q ro uo := by
  intro n
  induction n with
  | zero => intro U31 v31_1 v31_2 i0 K h; unfold w_heightAt_L31 at h; exact h.elim
  | succ n ih =>
    intro U31 v31_1 v31_2 i0 K h
    unfold w_heightAt_L31 at h
    replace K := fun (i : ι × Nat) ro uo (z : v_heightAt_L31 ro uo (i.2 + 1) U31 v31_1 v31_2) => K i.1 ro uo ⟨i.2 + 1, z⟩
    have i00 := i0
    replace i0 : ι × Nat := (i0, 0)
    obtain ⟨g1_, h⟩ := h
    replace K := fun i ro uo z => K i ro uo ⟨g1_, z⟩
    by_cases c : (((qI U31 22 v31_1.toInt.toNat) >>> (v31_2 &&& 31)) &&& (1 : Int32)).toInt = 0
    · replace h := h.1 c
      replace K := fun i ro uo z => K i ro uo (Or.inl ⟨c, z⟩)
      obtain ⟨a16, ea16⟩ : ∃ x9 : Int32, x9 = (v31_2 + Int32.ofInt 1) := ⟨_, rfl⟩
      replace h := h a16 ea16
      replace K := fun i ro uo z => K i ro uo ⟨a16, ea16, z⟩
      exact ih i00 (fun i ro uo ⟨n8, z⟩ => K (i, n8) ro uo z) h
    · replace h := h.2 c
      replace K := fun i ro uo z => K i ro uo (Or.inr ⟨c, z⟩)
      exact ⟨_, _, K i0 _ _ ⟨rfl, rfl⟩, h⟩
set_option maxRecDepth 100000 in
theorem ru_heightAt {S : MS} {x1 : Int32} {Q : Int32 → MS → Prop} (h : w_heightAt S x1 Q) : ∃ ro uo, v_heightAt S x1 ro uo ∧ Q ro uo := by
  have i0 : Unit := ()
  have K : ∀ (i : Unit) (ro : Int32) (uo : MS), v_heightAt S x1 ro uo → v_heightAt S x1 ro uo := fun _ _ _ z => z
  unfold w_heightAt at h
  obtain ⟨g2_, h⟩ := h
  replace K := fun i ro uo z => K i ro uo ⟨g2_, z⟩
  by_cases c : (qI S 22 x1.toInt.toNat).toInt = 0
  · replace h := h.1 c
    replace K := fun i ro uo z => K i ro uo (Or.inl ⟨c, z⟩)
    exact ⟨_, _, K i0 _ _ ⟨rfl, rfl⟩, h⟩
  · replace h := h.2 c
    replace K := fun i ro uo z => K i ro uo (Or.inr ⟨c, z⟩)
    obtain ⟨g3_, h⟩ := h
    replace K := fun i ro uo z => K i ro uo ⟨g3_, z⟩
    obtain ⟨g4_, h⟩ := h
    replace K := fun i ro uo z => K i ro uo ⟨g4_, z⟩
    by_cases c : ((qI S 22 x1.toInt.toNat) &&& ((qI S 22 x1.toInt.toNat) - (1 : Int32))).toInt = 0
    · replace h := h.1 c
      replace K := fun i ro uo z => K i ro uo (Or.inl ⟨c, z⟩)
      obtain ⟨n9, h⟩ := h
      exact ru_heightAt_L31 n9 i0 K h
    · replace h := h.2 c
      replace K := fun i ro uo z => K i ro uo (Or.inr ⟨c, z⟩)
      exact ⟨_, _, K i0 _ _ ⟨rfl, rfl⟩, h⟩
set_option maxRecDepth 100000 in
theorem vw_heightAt_L31 {ro : Int32} {uo : MS} : ∀ (n : Nat) {U31 : MS} {v31_1 : Int32} {v31_2 : Int32}, v_heightAt_L31 ro uo n U31 v31_1 v31_2 → w_heightAt_L31 (fun r u => r = ro ∧ u = uo) n U31 v31_1 v31_2 := by
  intro n
  induction n with
  | zero => intro U31 v31_1 v31_2 h; unfold v_heightAt_L31 at h; exact h.elim
  | succ n ih =>
    intro U31 v31_1 v31_2 h
    unfold v_heightAt_L31 at h
    unfold w_heightAt_L31
    obtain ⟨g9, h⟩ := h
    refine ⟨g9, ?_⟩
    rcases h with ⟨c, h⟩ | ⟨c, h⟩
    · refine ⟨fun _ => ?_, fun c2 => absurd c c2⟩
      obtain ⟨v9, e9, h⟩ := h
      intro x9 d9
      have c9 : v9 = x9 := e9.trans d9.symm
      subst c9
      exact ih h
    · refine ⟨fun c2 => absurd c2 c, fun _ => ?_⟩
      exact ⟨h.1.symm, h.2.symm⟩
set_option maxRecDepth 100000 in
theorem vz_heightAt_L31 {ro : Int32} {uo : MS} {Q : Int32 → MS → Prop} : ∀ (n m : Nat) {U31 : MS} {v31_1 : Int32} {v31_2 : Int32}, v_heightAt_L31 ro uo n U31 v31_1 v31_2 → w_heightAt_L31 Q m U31 v31_1 v31_2 → Q ro uo := by
  intro n
  induction n with
  | zero => intro m U31 v31_1 v31_2 h; unfold v_heightAt_L31 at h; exact h.elim
  | succ n ih =>
    intro m U31 v31_1 v31_2 h w
    cases m with
    | zero => unfold w_heightAt_L31 at w; exact w.elim
    | succ m =>
      unfold v_heightAt_L31 at h
      unfold w_heightAt_L31 at w
      replace h := h.2
      replace w := w.2
      rcases h with ⟨c, h⟩ | ⟨c, h⟩
      · replace w := w.1 c
        obtain ⟨v9, e9, h⟩ := h
        replace w := w v9 e9
        exact ih m h w
      · replace w := w.2 c
        rw [h.1, h.2]
        exact w
set_option maxRecDepth 100000 in
theorem vw_heightAt {S : MS} {x1 : Int32} {ro : Int32} {uo : MS} (h : v_heightAt S x1 ro uo) : w_heightAt S x1 (fun r u => r = ro ∧ u = uo) := by
  unfold v_heightAt at h
  unfold w_heightAt
  obtain ⟨g9, h⟩ := h
  refine ⟨g9, ?_⟩
  rcases h with ⟨c, h⟩ | ⟨c, h⟩
  · refine ⟨fun _ => ?_, fun c2 => absurd c c2⟩
    exact ⟨h.1.symm, h.2.symm⟩
  · refine ⟨fun c2 => absurd c2 c, fun _ => ?_⟩
    obtain ⟨g9, h⟩ := h
    refine ⟨g9, ?_⟩
    obtain ⟨g9, h⟩ := h
    refine ⟨g9, ?_⟩
    rcases h with ⟨c, h⟩ | ⟨c, h⟩
    · refine ⟨fun _ => ?_, fun c2 => absurd c c2⟩
      obtain ⟨n9, h⟩ := h
      exact ⟨n9, vw_heightAt_L31 n9 h⟩
    · refine ⟨fun c2 => absurd c2 c, fun _ => ?_⟩
      exact ⟨h.1.symm, h.2.symm⟩
set_option maxRecDepth 100000 in
theorem vz_heightAt {S : MS} {x1 : Int32} {ro : Int32} {uo : MS} {Q : Int32 → MS → Prop} (h : v_heightAt S x1 ro uo) (w : w_heightAt S x1 Q) : Q ro uo := by
  unfold v_heightAt at h
  unfold w_heightAt at w
  replace h := h.2
  replace w := w.2
  rcases h with ⟨c, h⟩ | ⟨c, h⟩
  · replace w := w.1 c
    rw [h.1, h.2]
    exact w
  · replace w := w.2 c
    replace h := h.2
    replace w := w.2
    replace h := h.2
    replace w := w.2
    rcases h with ⟨c, h⟩ | ⟨c, h⟩
    · replace w := w.1 c
      obtain ⟨n9, h⟩ := h
      obtain ⟨n8, w⟩ := w
      exact vz_heightAt_L31 n9 n8 h w
    · replace w := w.2 c
      rw [h.1, h.2]
      exact w
def v_leastStack_J43 (ro : Int32) (uo : MS) (k10 : MS → Int32 → Int32 → Prop) (U43 : MS) (v43_1 : Int32) (v43_2 : Int32) : Prop := (∃ a9 : Int32, a9 = (v43_2 + Int32.ofInt 1) ∧ (k10 U43 v43_1 a9))
def v_leastStack_L10 (ro : Int32) (uo : MS) : Nat → MS → Int32 → Int32 → Prop
  | 0, _, _, _ => False
  | n10 + 1, U10, v10_1, v10_2 => (((qI U10 0 52).toInt ≤ v10_2.toInt ∧ (ro = v10_1 ∧ uo = U10)) ∨ (¬ (qI U10 0 52).toInt ≤ v10_2.toInt ∧ (∃ (r6 : Int32) (S7 : MS), v_heightAt U10 v10_2 r6 S7 ∧ ((r6.toInt < 0 ∧ (v_leastStack_J43 ro uo (v_leastStack_L10 ro uo n10) S7 v10_1 v10_2)) ∨ (¬ r6.toInt < 0 ∧ (∃ (r12 : Int32) (S13 : MS), v_heightBehind S7 v10_2 r6 r12 S13 ∧ (∃ a17 : Int32, a17 = (if v10_1 < (if r6 < r12 then r12 else r6) then (if r6 < r12 then r12 else r6) else v10_1) ∧ (v_leastStack_J43 ro uo (v_leastStack_L10 ro uo n10) S13 a17 v10_2))))))))
def v_leastStack (S : MS) (ro : Int32) (uo : MS) : Prop := (∃ (S2 : MS), v_findHeights S (28 : Int32) S2 ∧ (∃ n, v_leastStack_L10 ro uo n S2 0 0))
set_option maxRecDepth 100000 in
theorem ru_leastStack_J43 {ι : Type} {P : Int32 → MS → Prop} {Q : Int32 → MS → Prop} {k10 : MS → Int32 → Int32 → Prop} {k10v : ι → Int32 → MS → MS → Int32 → Int32 → Prop} {U43 : MS} {v43_1 : Int32} {v43_2 : Int32} (i0 : ι) (hk10 : ∀ (u : MS) (z0 : Int32) (z1 : Int32), k10 u z0 z1 → (∀ (i : ι) (ro : Int32) (uo : MS), k10v i ro uo u z0 z1 → P ro uo) → ∃ ro uo, P ro uo ∧ Q ro uo) (K : ∀ (i : ι) (ro : Int32) (uo : MS), v_leastStack_J43 ro uo (k10v i ro uo) U43 v43_1 v43_2 → P ro uo) (h : w_leastStack_J43 Q k10 U43 v43_1 v43_2) : ∃ ro uo, P ro uo ∧ Q ro uo := by
  unfold w_leastStack_J43 at h
  obtain ⟨a9, ea9⟩ : ∃ x9 : Int32, x9 = (v43_2 + Int32.ofInt 1) := ⟨_, rfl⟩
  replace h := h a9 ea9
  replace K := fun i ro uo z => K i ro uo ⟨a9, ea9, z⟩
  exact hk10 _ _ _ h K
set_option maxRecDepth 100000 in
theorem ru_leastStack_L10 {ι : Type} {P : Int32 → MS → Prop} {Q : Int32 → MS → Prop} : ∀ (n : Nat) {U10 : MS} {v10_1 : Int32} {v10_2 : Int32} (i0 : ι), (∀ (i : ι) (ro : Int32) (uo : MS), (∃ n8, v_leastStack_L10 ro uo n8 U10 v10_1 v10_2) → P ro uo) → w_leastStack_L10 Q n U10 v10_1 v10_2 → ∃ ro uo, P ro uo ∧ Q ro uo := by
  intro n
  induction n with
  | zero => intro U10 v10_1 v10_2 i0 K h; unfold w_leastStack_L10 at h; exact h.elim
  | succ n ih =>
    intro U10 v10_1 v10_2 i0 K h
    unfold w_leastStack_L10 at h
    replace K := fun (i : ι × Nat) ro uo (z : v_leastStack_L10 ro uo (i.2 + 1) U10 v10_1 v10_2) => K i.1 ro uo ⟨i.2 + 1, z⟩
    have i00 := i0
    replace i0 : ι × Nat := (i0, 0)
    by_cases c : (qI U10 0 52).toInt ≤ v10_2.toInt
    · replace h := h.1 c
      replace K := fun i ro uo z => K i ro uo (Or.inl ⟨c, z⟩)
      exact ⟨_, _, K i0 _ _ ⟨rfl, rfl⟩, h⟩
    · replace h := h.2 c
      replace K := fun i ro uo z => K i ro uo (Or.inr ⟨c, z⟩)
      obtain ⟨Q9, h0, h⟩ := h
      obtain ⟨r6, S7, z9, g9⟩ := ru_heightAt h0
      replace h := h r6 S7 g9
      replace K := fun i ro uo z => K i ro uo ⟨r6, S7, z9, z⟩
      by_cases c : r6.toInt < 0
      · replace h := h.1 c
        replace K := fun i ro uo z => K i ro uo (Or.inl ⟨c, z⟩)
        exact ru_leastStack_J43 i0 (fun _ _ _ h K => ih i00 (fun i ro uo ⟨n8, z⟩ => K (i, n8) ro uo z) h) K h
      · replace h := h.2 c
        replace K := fun i ro uo z => K i ro uo (Or.inr ⟨c, z⟩)
        obtain ⟨Q9, h0, h⟩ := h
        obtain ⟨r12, S13, z9, g9⟩ := ru_heightBehind h0
        replace h := h r12 S13 g9
        replace K := fun i ro uo z => K i ro uo ⟨r12, S13, z9, z⟩
        obtain ⟨a17, ea17⟩ : ∃ x9 : Int32, x9 = (if v10_1 < (if r6 < r12 then r12 else r6) then (if r6 < r12 then r12 else r6) else v10_1) := ⟨_, rfl⟩
        replace h := h a17 ea17
        replace K := fun i ro uo z => K i ro uo ⟨a17, ea17, z⟩
        exact ru_leastStack_J43 i0 (fun _ _ _ h K => ih i00 (fun i ro uo ⟨n8, z⟩ => K (i, n8) ro uo z) h) K h
set_option maxRecDepth 100000 in
theorem ru_leastStack {S : MS} {Q : Int32 → MS → Prop} (h : w_leastStack S Q) : ∃ ro uo, v_leastStack S ro uo ∧ Q ro uo := by
  have i0 : Unit := ()
  have K : ∀ (i : Unit) (ro : Int32) (uo : MS), v_leastStack S ro uo → v_leastStack S ro uo := fun _ _ _ z => z
  unfold w_leastStack at h
  obtain ⟨Q9, h0, h⟩ := h
  obtain ⟨S2, z9, g9⟩ := ru_findHeights h0
  replace h := h S2 g9
  replace K := fun i ro uo z => K i ro uo ⟨S2, z9, z⟩
  obtain ⟨n9, h⟩ := h
  exact ru_leastStack_L10 n9 i0 K h
set_option maxRecDepth 100000 in
theorem vw_leastStack_J43 {ro : Int32} {uo : MS} {k10 k10v : MS → Int32 → Int32 → Prop} {U43 : MS} {v43_1 : Int32} {v43_2 : Int32} (hk10 : ∀ (u : MS) (z0 : Int32) (z1 : Int32), k10v u z0 z1 → k10 u z0 z1) (h : v_leastStack_J43 ro uo k10v U43 v43_1 v43_2) : w_leastStack_J43 (fun r u => r = ro ∧ u = uo) k10 U43 v43_1 v43_2 := by
  unfold v_leastStack_J43 at h
  unfold w_leastStack_J43
  obtain ⟨v9, e9, h⟩ := h
  intro x9 d9
  have c9 : v9 = x9 := e9.trans d9.symm
  subst c9
  exact hk10 _ _ _ h
set_option maxRecDepth 100000 in
theorem vz_leastStack_J43 {ro : Int32} {uo : MS} {Q : Int32 → MS → Prop} {k10 k10v : MS → Int32 → Int32 → Prop} {U43 : MS} {v43_1 : Int32} {v43_2 : Int32} (hk10 : ∀ (u : MS) (z0 : Int32) (z1 : Int32), k10v u z0 z1 → k10 u z0 z1 → Q ro uo) (h : v_leastStack_J43 ro uo k10v U43 v43_1 v43_2) (w : w_leastStack_J43 Q k10 U43 v43_1 v43_2) : Q ro uo := by
  unfold v_leastStack_J43 at h
  unfold w_leastStack_J43 at w
  obtain ⟨v9, e9, h⟩ := h
  replace w := w v9 e9
  exact hk10 _ _ _ h w
set_option maxRecDepth 100000 in
theorem vw_leastStack_L10 {ro : Int32} {uo : MS} : ∀ (n : Nat) {U10 : MS} {v10_1 : Int32} {v10_2 : Int32}, v_leastStack_L10 ro uo n U10 v10_1 v10_2 → w_leastStack_L10 (fun r u => r = ro ∧ u = uo) n U10 v10_1 v10_2 := by
  intro n
  induction n with
  | zero => intro U10 v10_1 v10_2 h; unfold v_leastStack_L10 at h; exact h.elim
  | succ n ih =>
    intro U10 v10_1 v10_2 h
    unfold v_leastStack_L10 at h
    unfold w_leastStack_L10
    rcases h with ⟨c, h⟩ | ⟨c, h⟩
    · refine ⟨fun _ => ?_, fun c2 => absurd c c2⟩
      exact ⟨h.1.symm, h.2.symm⟩
    · refine ⟨fun c2 => absurd c2 c, fun _ => ?_⟩
      obtain ⟨p9, q9, z9, h⟩ := h
      refine ⟨_, vw_heightAt z9, ?_⟩
      rintro p8 q8 ⟨d8, d9⟩
      subst d8
      subst d9
      rcases h with ⟨c, h⟩ | ⟨c, h⟩
      · refine ⟨fun _ => ?_, fun c2 => absurd c c2⟩
        exact vw_leastStack_J43 (fun _ _ _ h => ih h) h
      · refine ⟨fun c2 => absurd c2 c, fun _ => ?_⟩
        obtain ⟨p9, q9, z9, h⟩ := h
        refine ⟨_, vw_heightBehind z9, ?_⟩
        rintro p8 q8 ⟨d8, d9⟩
        subst d8
        subst d9
        obtain ⟨v9, e9, h⟩ := h
        intro x9 d9
        have c9 : v9 = x9 := e9.trans d9.symm
        subst c9
        exact vw_leastStack_J43 (fun _ _ _ h => ih h) h
set_option maxRecDepth 100000 in
theorem vz_leastStack_L10 {ro : Int32} {uo : MS} {Q : Int32 → MS → Prop} : ∀ (n m : Nat) {U10 : MS} {v10_1 : Int32} {v10_2 : Int32}, v_leastStack_L10 ro uo n U10 v10_1 v10_2 → w_leastStack_L10 Q m U10 v10_1 v10_2 → Q ro uo := by
  intro n
  induction n with
  | zero => intro m U10 v10_1 v10_2 h; unfold v_leastStack_L10 at h; exact h.elim
  | succ n ih =>
    intro m U10 v10_1 v10_2 h w
    cases m with
    | zero => unfold w_leastStack_L10 at w; exact w.elim
    | succ m =>
      unfold v_leastStack_L10 at h
      unfold w_leastStack_L10 at w
      rcases h with ⟨c, h⟩ | ⟨c, h⟩
      · replace w := w.1 c
        rw [h.1, h.2]
        exact w
      · replace w := w.2 c
        obtain ⟨p9, q9, z9, h⟩ := h
        obtain ⟨Q9, w0, w⟩ := w
        replace w := w p9 q9 (vz_heightAt z9 w0)
        rcases h with ⟨c, h⟩ | ⟨c, h⟩
        · replace w := w.1 c
          exact vz_leastStack_J43 (fun _ _ _ h w => ih m h w) h w
        · replace w := w.2 c
          obtain ⟨p9, q9, z9, h⟩ := h
          obtain ⟨Q9, w0, w⟩ := w
          replace w := w p9 q9 (vz_heightBehind z9 w0)
          obtain ⟨v9, e9, h⟩ := h
          replace w := w v9 e9
          exact vz_leastStack_J43 (fun _ _ _ h w => ih m h w) h w
set_option maxRecDepth 100000 in
theorem vw_leastStack {S : MS} {ro : Int32} {uo : MS} (h : v_leastStack S ro uo) : w_leastStack S (fun r u => r = ro ∧ u = uo) := by
  unfold v_leastStack at h
  unfold w_leastStack
  obtain ⟨q9, z9, h⟩ := h
  refine ⟨_, vw_findHeights z9, ?_⟩
  intro q8 d9
  subst d9
  obtain ⟨n9, h⟩ := h
  exact ⟨n9, vw_leastStack_L10 n9 h⟩
set_option maxRecDepth 100000 in
theorem vz_leastStack {S : MS} {ro : Int32} {uo : MS} {Q : Int32 → MS → Prop} (h : v_leastStack S ro uo) (w : w_leastStack S Q) : Q ro uo := by
  unfold v_leastStack at h
  unfold w_leastStack at w
  obtain ⟨q9, z9, h⟩ := h
  obtain ⟨Q9, w0, w⟩ := w
  replace w := w q9 (vz_findHeights z9 w0)
  obtain ⟨n9, h⟩ := h
  obtain ⟨n8, w⟩ := w
  exact vz_leastStack_L10 n9 n8 h w
