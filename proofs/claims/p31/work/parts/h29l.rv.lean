def v_X4_seek_J154 (uo : MS) (k45 : MS → Nat → Int32 → Prop) (U154 : MS) (v154_0 : Nat) (v154_4 : Int32) : Prop := (wfC U154 ∧ qT U154 v154_0 = 44 ∧ (∃ a21 : Int32, a21 = (v154_4 + Int32.ofInt 1) ∧ (k45 U154 v154_0 a21)))
def v_X4_seek_J148 (uo : MS) (k67 : MS → Nat → Int32 → Int32 → Prop) (U148 : MS) (v148_0 : Nat) (v148_4 : Int32) (v148_5 : Int32) : Prop := (wfC U148 ∧ qT U148 v148_0 = 44 ∧ (∃ a37 : Int32, a37 = (v148_5 + Int32.ofInt 1) ∧ (k67 U148 v148_0 v148_4 a37)))
def v_X4_seek_J142 (uo : MS) (k109 : MS → Nat → Int32 → Int32 → Int32 → Int32 → Prop) (U142 : MS) (v142_0 : Nat) (v142_4 : Int32) (v142_5 : Int32) (v142_6 : Int32) (v142_7 : Int32) : Prop := (wfC U142 ∧ qT U142 v142_0 = 44 ∧ (∃ a42 : Int32, a42 = (v142_7 + Int32.ofInt 1) ∧ (k109 U142 v142_0 v142_4 v142_5 v142_6 a42)))
def v_X4_seek_L109 (uo : MS) (k67 : MS → Nat → Int32 → Int32 → Prop) : Nat → MS → Nat → Int32 → Int32 → Int32 → Int32 → Prop
  | 0, _, _, _, _, _, _ => False
  | n109 + 1, U109, v109_0, v109_4, v109_5, v109_6, v109_7 => (wfC U109 ∧ qT U109 v109_0 = 44 ∧ ((((v109_6.toUInt32 >>> (v109_7.toUInt32 &&& Int32.toUInt32 31)).toInt32).toInt ≤ 0 ∧ (v_X4_seek_J148 uo k67 U109 v109_0 v109_4 v109_5)) ∨ (¬ ((v109_6.toUInt32 >>> (v109_7.toUInt32 &&& Int32.toUInt32 31)).toInt32).toInt ≤ 0 ∧ ((31 ≤ v109_7.toInt ∧ (v_X4_seek_J148 uo k67 U109 v109_0 v109_4 v109_5)) ∨ (¬ 31 ≤ v109_7.toInt ∧ ((((v109_6 >>> (v109_7 &&& 31)) &&& (1 : Int32)).toInt = 0 ∧ (v_X4_seek_J142 uo (v_X4_seek_L109 uo k67 n109) U109 v109_0 v109_4 v109_5 v109_6 v109_7)) ∨ (¬ ((v109_6 >>> (v109_7 &&& 31)) &&& (1 : Int32)).toInt = 0 ∧ (qT U109 v109_0 = 44 ∧ (∃ (S45 : MS), vX4_spread U109 v109_0 v109_5 v109_7 S45 ∧ wfC S45 ∧ shy U109 S45 ∧ (v_X4_seek_J142 uo (v_X4_seek_L109 uo k67 n109) S45 v109_0 v109_4 v109_5 v109_6 v109_7))))))))))
def v_X4_seek_L67 (uo : MS) (k45 : MS → Nat → Int32 → Prop) : Nat → MS → Nat → Int32 → Int32 → Prop
  | 0, _, _, _, _ => False
  | n67 + 1, U67, v67_0, v67_4, v67_5 => (wfC U67 ∧ qT U67 v67_0 = 44 ∧ ((qR U67 v67_0 4 = some (qO U67 v67_0 4)) ∧ (((qI U67 (qO U67 v67_0 4) 2).toInt ≤ v67_5.toInt ∧ (v_X4_seek_J154 uo k45 U67 v67_0 v67_4)) ∨ (¬ (qI U67 (qO U67 v67_0 4) 2).toInt ≤ v67_5.toInt ∧ ((qR U67 v67_0 1 = some (qO U67 v67_0 1)) ∧ (((qN U67 (qO U67 v67_0 1) : Int) ≤ v67_5.toInt ∧ (v_X4_seek_J154 uo k45 U67 v67_0 v67_4)) ∨ (¬ (qN U67 (qO U67 v67_0 1) : Int) ≤ v67_5.toInt ∧ ((qR U67 v67_0 1 = some (qO U67 v67_0 1)) ∧ (((0 : Int) ≤ v67_5.toInt ∧ v67_5.toInt < (qN U67 (qO U67 v67_0 1) : Int)) ∧ (∃ a31 : Int32, a31 = (qI U67 (qO U67 v67_0 1) v67_5.toInt.toNat) ∧ ((qR U67 v67_0 1 = some (qO U67 v67_0 1)) ∧ (((0 : Int) ≤ v67_5.toInt ∧ v67_5.toInt < (qN U67 (qO U67 v67_0 1) : Int)) ∧ (∃ S35 : MS, S35 = wI U67 (qO U67 v67_0 1) v67_5.toInt.toNat (0 : Int32) ∧ qT U67 (qO U67 v67_0 1) = 214 ∧ wfC S35 ∧ (∃ n, v_X4_seek_L109 uo (v_X4_seek_L67 uo k45 n67) n S35 v67_0 v67_4 v67_5 a31 0))))))))))))))
def v_X4_seek_L45 (uo : MS) : Nat → MS → Nat → Int32 → Prop
  | 0, _, _, _ => False
  | n45 + 1, U45, v45_0, v45_4 => (wfC U45 ∧ qT U45 v45_0 = 44 ∧ (((qI U45 v45_0 6).toInt = 0 ∧ (uo = U45)) ∨ (¬ (qI U45 v45_0 6).toInt = 0 ∧ ((1000000 ≤ v45_4.toInt ∧ (uo = U45)) ∨ (¬ 1000000 ≤ v45_4.toInt ∧ (∃ S18 : MS, S18 = wI U45 v45_0 6 (0 : Int32) ∧ qT U45 v45_0 = 44 ∧ wfC S18 ∧ (∃ n, v_X4_seek_L67 uo (v_X4_seek_L45 uo n45) n S18 v45_0 v45_4 0)))))))
def vX4_seek (S : MS) (p0 : Nat) (p1 : Nat) (p2 : Nat) (x3 : Int32) (uo : MS) : Prop := (∃ S1 : MS, S1 = wR S p0 3 (some p1) ∧ qT S p0 = 44 ∧ wfC S1 ∧ (∃ S2 : MS, S2 = wR S1 p0 4 (some p2) ∧ qT S1 p0 = 44 ∧ wfC S2 ∧ (∃ S3 : MS, S3 = wI S2 p0 5 x3 ∧ qT S2 p0 = 44 ∧ wfC S3 ∧ (∃ S4 : MS, S4 = wI S3 p0 7 (0 : Int32) ∧ qT S3 p0 = 44 ∧ wfC S4 ∧ ((qR S4 p0 4 = some (qO S4 p0 4)) ∧ (qT S4 p0 = 44 ∧ (∃ (S8 : MS), vX4_makeRoom S4 p0 (qI S4 (qO S4 p0 4) 2) S8 ∧ wfC S8 ∧ shx S4 S8 ∧ (qT S8 p0 = 44 ∧ (∃ (S12 : MS), vX4_comeTo S8 p0 (0 : Int32) (0 : Int32) S12 ∧ wfC S12 ∧ shy S8 S12 ∧ (∃ S14 : MS, S14 = wI S12 p0 6 (1 : Int32) ∧ qT S12 p0 = 44 ∧ wfC S14 ∧ (∃ n, v_X4_seek_L45 uo n S14 p0 0)))))))))))
set_option maxRecDepth 100000 in
theorem ru_X4_seek_J154 {ι : Type} {P Q : MS → Prop} {k45 k45' : MS → Nat → Int32 → Prop} {k45v : ι → MS → MS → Nat → Int32 → Prop} {U154 : MS} {v154_0 : Nat} {v154_4 : Int32} (i0 : ι) (hk45 : ∀ (u : MS) (z0 : Nat) (z1 : Int32), k45 u z0 z1 → (∀ (i : ι) (uo : MS), k45v i uo u z0 z1 → P uo) → k45' u z0 z1) (K : ∀ (i : ι) (uo : MS), v_X4_seek_J154 uo (k45v i uo) U154 v154_0 v154_4 → P uo) (h : w_X4_seek_J154 Q k45 U154 v154_0 v154_4) : w_X4_seek_J154 (fun u => Q u ∧ P u) k45' U154 v154_0 v154_4 := by
  unfold w_X4_seek_J154 at h ⊢
  intro y1_ y2_
  replace h := h y1_ y2_
  replace K := fun i uo z => K i uo ⟨y1_, y2_, z⟩
  intro a21 ea21 
  replace h := h a21 ea21 
  replace K := fun i uo z => K i uo ⟨a21, ea21, z⟩
  exact hk45 _ _ _ h K
set_option maxRecDepth 100000 in
theorem ru_X4_seek_J148 {ι : Type} {P Q : MS → Prop} {k67 k67' : MS → Nat → Int32 → Int32 → Prop} {k67v : ι → MS → MS → Nat → Int32 → Int32 → Prop} {U148 : MS} {v148_0 : Nat} {v148_4 : Int32} {v148_5 : Int32} (i0 : ι) (hk67 : ∀ (u : MS) (z0 : Nat) (z1 : Int32) (z2 : Int32), k67 u z0 z1 z2 → (∀ (i : ι) (uo : MS), k67v i uo u z0 z1 z2 → P uo) → k67' u z0 z1 z2) (K : ∀ (i : ι) (uo : MS), v_X4_seek_J148 uo (k67v i uo) U148 v148_0 v148_4 v148_5 → P uo) (h : w_X4_seek_J148 Q k67 U148 v148_0 v148_4 v148_5) : w_X4_seek_J148 (fun u => Q u ∧ P u) k67' U148 v148_0 v148_4 v148_5 := by
  unfold w_X4_seek_J148 at h ⊢
  intro y3_ y4_
  replace h := h y3_ y4_
  replace K := fun i uo z => K i uo ⟨y3_, y4_, z⟩
  intro a37 ea37 
  replace h := h a37 ea37 
  replace K := fun i uo z => K i uo ⟨a37, ea37, z⟩
  exact hk67 _ _ _ _ h K
set_option maxRecDepth 100000 in
theorem ru_X4_seek_J142 {ι : Type} {P Q : MS → Prop} {k109 k109' : MS → Nat → Int32 → Int32 → Int32 → Int32 → Prop} {k109v : ι → MS → MS → Nat → Int32 → Int32 → Int32 → Int32 → Prop} {U142 : MS} {v142_0 : Nat} {v142_4 : Int32} {v142_5 : Int32} {v142_6 : Int32} {v142_7 : Int32} (i0 : ι) (hk109 : ∀ (u : MS) (z0 : Nat) (z1 : Int32) (z2 : Int32) (z3 : Int32) (z4 : Int32), k109 u z0 z1 z2 z3 z4 → (∀ (i : ι) (uo : MS), k109v i uo u z0 z1 z2 z3 z4 → P uo) → k109' u z0 z1 z2 z3 z4) (K : ∀ (i : ι) (uo : MS), v_X4_seek_J142 uo (k109v i uo) U142 v142_0 v142_4 v142_5 v142_6 v142_7 → P uo) (h : w_X4_seek_J142 Q k109 U142 v142_0 v142_4 v142_5 v142_6 v142_7) : w_X4_seek_J142 (fun u => Q u ∧ P u) k109' U142 v142_0 v142_4 v142_5 v142_6 v142_7 := by
  unfold w_X4_seek_J142 at h ⊢
  intro y5_ y6_
  replace h := h y5_ y6_
  replace K := fun i uo z => K i uo ⟨y5_, y6_, z⟩
  intro a42 ea42 
  replace h := h a42 ea42 
  replace K := fun i uo z => K i uo ⟨a42, ea42, z⟩
  exact hk109 _ _ _ _ _ _ h K
set_option maxRecDepth 100000 in
theorem ru_X4_seek_L109 {ι : Type} {P Q : MS → Prop} {k67 k67' : MS → Nat → Int32 → Int32 → Prop} {k67v : ι → MS → MS → Nat → Int32 → Int32 → Prop} : ∀ (n : Nat) {U109 : MS} {v109_0 : Nat} {v109_4 : Int32} {v109_5 : Int32} {v109_6 : Int32} {v109_7 : Int32} (i0 : ι) (hk67 : ∀ (u : MS) (z0 : Nat) (z1 : Int32) (z2 : Int32), k67 u z0 z1 z2 → (∀ (i : ι) (uo : MS), k67v i uo u z0 z1 z2 → P uo) → k67' u z0 z1 z2), (∀ (i : ι) (uo : MS), (∃ n8, v_X4_seek_L109 uo (k67v i uo) n8 U109 v109_0 v109_4 v109_5 v109_6 v109_7) → P uo) → w_X4_seek_L109 Q k67 n U109 v109_0 v109_4 v109_5 v109_6 v109_7 → w_X4_seek_L109 (fun u => Q u ∧ P u) k67' n U109 v109_0 v109_4 v109_5 v109_6 v109_7 := by
  intro n
  induction n with
  | zero => intro U109 v109_0 v109_4 v109_5 v109_6 v109_7 i0 hk67 K h; unfold w_X4_seek_L109 at h; exact h.elim
  | succ n ih =>
    intro U109 v109_0 v109_4 v109_5 v109_6 v109_7 i0 hk67 K h
    unfold w_X4_seek_L109 at h ⊢
    replace K := fun (i : ι × Nat) uo (z : v_X4_seek_L109 uo (k67v i.1 uo) (i.2 + 1) U109 v109_0 v109_4 v109_5 v109_6 v109_7) => K i.1 uo ⟨i.2 + 1, z⟩
    have i00 := i0
    replace i0 : ι × Nat := (i0, 0)
    intro y7_ y8_
    replace h := h y7_ y8_
    replace K := fun i uo z => K i uo ⟨y7_, y8_, z⟩
    refine ⟨fun c => ?_, fun c => ?_⟩
    · replace h := h.1 c
      replace K := fun i uo z => K i uo (Or.inl ⟨c, z⟩)
      exact ru_X4_seek_J148 i0 (fun _ _ _ _ h K => hk67 _ _ _ _ h (fun i uo z => K (i, 0) uo z)) K h
    · replace h := h.2 c
      replace K := fun i uo z => K i uo (Or.inr ⟨c, z⟩)
      refine ⟨fun c => ?_, fun c => ?_⟩
      · replace h := h.1 c
        replace K := fun i uo z => K i uo (Or.inl ⟨c, z⟩)
        exact ru_X4_seek_J148 i0 (fun _ _ _ _ h K => hk67 _ _ _ _ h (fun i uo z => K (i, 0) uo z)) K h
      · replace h := h.2 c
        replace K := fun i uo z => K i uo (Or.inr ⟨c, z⟩)
        refine ⟨fun c => ?_, fun c => ?_⟩
        · replace h := h.1 c
          replace K := fun i uo z => K i uo (Or.inl ⟨c, z⟩)
          exact ru_X4_seek_J142 i0 (fun _ _ _ _ _ _ h K => ih i00 hk67 (fun i uo ⟨n8, z⟩ => K (i, n8) uo z) h) K h
        · replace h := h.2 c
          replace K := fun i uo z => K i uo (Or.inr ⟨c, z⟩)
          intro y9_
          replace h := h y9_
          replace K := fun i uo z => K i uo ⟨y9_, z⟩
          obtain ⟨Q9, h0, h⟩ := h
          refine ⟨_, ruX4_spread h0, ?_⟩
          intro S45 q10_ y11_ y12_
          replace h := h S45 q10_.1 y11_ y12_
          replace K := fun i uo z => K i uo ⟨S45, q10_.2, y11_, y12_, z⟩
          exact ru_X4_seek_J142 i0 (fun _ _ _ _ _ _ h K => ih i00 hk67 (fun i uo ⟨n8, z⟩ => K (i, n8) uo z) h) K h
set_option maxRecDepth 100000 in
theorem ru_X4_seek_L67 {ι : Type} {P Q : MS → Prop} {k45 k45' : MS → Nat → Int32 → Prop} {k45v : ι → MS → MS → Nat → Int32 → Prop} : ∀ (n : Nat) {U67 : MS} {v67_0 : Nat} {v67_4 : Int32} {v67_5 : Int32} (i0 : ι) (hk45 : ∀ (u : MS) (z0 : Nat) (z1 : Int32), k45 u z0 z1 → (∀ (i : ι) (uo : MS), k45v i uo u z0 z1 → P uo) → k45' u z0 z1), (∀ (i : ι) (uo : MS), (∃ n8, v_X4_seek_L67 uo (k45v i uo) n8 U67 v67_0 v67_4 v67_5) → P uo) → w_X4_seek_L67 Q k45 n U67 v67_0 v67_4 v67_5 → w_X4_seek_L67 (fun u => Q u ∧ P u) k45' n U67 v67_0 v67_4 v67_5 := by
  intro n
  induction n with
  | zero => intro U67 v67_0 v67_4 v67_5 i0 hk45 K h; unfold w_X4_seek_L67 at h; exact h.elim
  | succ n ih =>
    intro U67 v67_0 v67_4 v67_5 i0 hk45 K h
    unfold w_X4_seek_L67 at h ⊢
    replace K := fun (i : ι × Nat) uo (z : v_X4_seek_L67 uo (k45v i.1 uo) (i.2 + 1) U67 v67_0 v67_4 v67_5) => K i.1 uo ⟨i.2 + 1, z⟩
    have i00 := i0
    replace i0 : ι × Nat := (i0, 0)
    intro y13_ y14_
    replace h := h y13_ y14_
    replace K := fun i uo z => K i uo ⟨y13_, y14_, z⟩
    obtain ⟨g15_, h⟩ := h
    refine ⟨g15_, ?_⟩
    replace K := fun i uo z => K i uo ⟨g15_, z⟩
    refine ⟨fun c => ?_, fun c => ?_⟩
    · replace h := h.1 c
      replace K := fun i uo z => K i uo (Or.inl ⟨c, z⟩)
      exact ru_X4_seek_J154 i0 (fun _ _ _ h K => hk45 _ _ _ h (fun i uo z => K (i, 0) uo z)) K h
    · replace h := h.2 c
      replace K := fun i uo z => K i uo (Or.inr ⟨c, z⟩)
      obtain ⟨g16_, h⟩ := h
      refine ⟨g16_, ?_⟩
      replace K := fun i uo z => K i uo ⟨g16_, z⟩
      refine ⟨fun c => ?_, fun c => ?_⟩
      · replace h := h.1 c
        replace K := fun i uo z => K i uo (Or.inl ⟨c, z⟩)
        exact ru_X4_seek_J154 i0 (fun _ _ _ h K => hk45 _ _ _ h (fun i uo z => K (i, 0) uo z)) K h
      · replace h := h.2 c
        replace K := fun i uo z => K i uo (Or.inr ⟨c, z⟩)
        obtain ⟨g17_, h⟩ := h
        refine ⟨g17_, ?_⟩
        replace K := fun i uo z => K i uo ⟨g17_, z⟩
        obtain ⟨g18_, h⟩ := h
        refine ⟨g18_, ?_⟩
        replace K := fun i uo z => K i uo ⟨g18_, z⟩
        intro a31 ea31 
        replace h := h a31 ea31 
        replace K := fun i uo z => K i uo ⟨a31, ea31, z⟩
        obtain ⟨g19_, h⟩ := h
        refine ⟨g19_, ?_⟩
        replace K := fun i uo z => K i uo ⟨g19_, z⟩
        obtain ⟨g20_, h⟩ := h
        refine ⟨g20_, ?_⟩
        replace K := fun i uo z => K i uo ⟨g20_, z⟩
        intro S35 eS35 y21_ y22_
        replace h := h S35 eS35 y21_ y22_
        replace K := fun i uo z => K i uo ⟨S35, eS35, y21_, y22_, z⟩
        obtain ⟨n9, h⟩ := h
        exact ⟨n9, ru_X4_seek_L109 n9 i0 (fun _ _ _ _ h K => ih i00 hk45 (fun i uo ⟨n8, z⟩ => K (i, n8) uo z) h) K h⟩
set_option maxRecDepth 100000 in
theorem ru_X4_seek_L45 {ι : Type} {P Q : MS → Prop} : ∀ (n : Nat) {U45 : MS} {v45_0 : Nat} {v45_4 : Int32} (i0 : ι), (∀ (i : ι) (uo : MS), (∃ n8, v_X4_seek_L45 uo n8 U45 v45_0 v45_4) → P uo) → w_X4_seek_L45 Q n U45 v45_0 v45_4 → w_X4_seek_L45 (fun u => Q u ∧ P u) n U45 v45_0 v45_4 := by
  intro n
  induction n with
  | zero => intro U45 v45_0 v45_4 i0 K h; unfold w_X4_seek_L45 at h; exact h.elim
  | succ n ih =>
    intro U45 v45_0 v45_4 i0 K h
    unfold w_X4_seek_L45 at h ⊢
    replace K := fun (i : ι × Nat) uo (z : v_X4_seek_L45 uo (i.2 + 1) U45 v45_0 v45_4) => K i.1 uo ⟨i.2 + 1, z⟩
    have i00 := i0
    replace i0 : ι × Nat := (i0, 0)
    intro y23_ y24_
    replace h := h y23_ y24_
    replace K := fun i uo z => K i uo ⟨y23_, y24_, z⟩
    refine ⟨fun c => ?_, fun c => ?_⟩
    · replace h := h.1 c
      replace K := fun i uo z => K i uo (Or.inl ⟨c, z⟩)
      exact ⟨h, K i0 _ rfl⟩
    · replace h := h.2 c
      replace K := fun i uo z => K i uo (Or.inr ⟨c, z⟩)
      refine ⟨fun c => ?_, fun c => ?_⟩
      · replace h := h.1 c
        replace K := fun i uo z => K i uo (Or.inl ⟨c, z⟩)
        exact ⟨h, K i0 _ rfl⟩
      · replace h := h.2 c
        replace K := fun i uo z => K i uo (Or.inr ⟨c, z⟩)
        intro S18 eS18 y25_ y26_
        replace h := h S18 eS18 y25_ y26_
        replace K := fun i uo z => K i uo ⟨S18, eS18, y25_, y26_, z⟩
        obtain ⟨n9, h⟩ := h
        exact ⟨n9, ru_X4_seek_L67 n9 i0 (fun _ _ _ h K => ih i00 (fun i uo ⟨n8, z⟩ => K (i, n8) uo z) h) K h⟩
set_option maxRecDepth 100000 in
theorem ruX4_seek {S : MS} {p0 : Nat} {p1 : Nat} {p2 : Nat} {x3 : Int32} {Q : MS → Prop} (h : wX4_seek S p0 p1 p2 x3 Q) : wX4_seek S p0 p1 p2 x3 (fun u => Q u ∧ vX4_seek S p0 p1 p2 x3 u) := by
  have i0 : Unit := ()
  have K : ∀ (i : Unit) (uo : MS), vX4_seek S p0 p1 p2 x3 uo → vX4_seek S p0 p1 p2 x3 uo := fun _ _ z => z
  unfold wX4_seek at h ⊢
  intro S1 eS1 y27_ y28_
  replace h := h S1 eS1 y27_ y28_
  replace K := fun i uo z => K i uo ⟨S1, eS1, y27_, y28_, z⟩
  intro S2 eS2 y29_ y30_
  replace h := h S2 eS2 y29_ y30_
  replace K := fun i uo z => K i uo ⟨S2, eS2, y29_, y30_, z⟩
  intro S3 eS3 y31_ y32_
  replace h := h S3 eS3 y31_ y32_
  replace K := fun i uo z => K i uo ⟨S3, eS3, y31_, y32_, z⟩
  intro S4 eS4 y33_ y34_
  replace h := h S4 eS4 y33_ y34_
  replace K := fun i uo z => K i uo ⟨S4, eS4, y33_, y34_, z⟩
  obtain ⟨g35_, h⟩ := h
  refine ⟨g35_, ?_⟩
  replace K := fun i uo z => K i uo ⟨g35_, z⟩
  intro y36_
  replace h := h y36_
  replace K := fun i uo z => K i uo ⟨y36_, z⟩
  obtain ⟨Q9, h0, h⟩ := h
  refine ⟨_, ruX4_makeRoom h0, ?_⟩
  intro S8 q37_ y38_ y39_
  replace h := h S8 q37_.1 y38_ y39_
  replace K := fun i uo z => K i uo ⟨S8, q37_.2, y38_, y39_, z⟩
  intro y40_
  replace h := h y40_
  replace K := fun i uo z => K i uo ⟨y40_, z⟩
  obtain ⟨Q9, h0, h⟩ := h
  refine ⟨_, ruX4_comeTo h0, ?_⟩
  intro S12 q41_ y42_ y43_
  replace h := h S12 q41_.1 y42_ y43_
  replace K := fun i uo z => K i uo ⟨S12, q41_.2, y42_, y43_, z⟩
  intro S14 eS14 y44_ y45_
  replace h := h S14 eS14 y44_ y45_
  replace K := fun i uo z => K i uo ⟨S14, eS14, y44_, y45_, z⟩
  obtain ⟨n9, h⟩ := h
  exact ⟨n9, ru_X4_seek_L45 n9 i0 K h⟩
set_option maxRecDepth 100000 in
theorem vw_X4_seek_J154 {uo : MS} {k45 k45v : MS → Nat → Int32 → Prop} {U154 : MS} {v154_0 : Nat} {v154_4 : Int32} (hk45 : ∀ (u : MS) (z0 : Nat) (z1 : Int32), k45v u z0 z1 → k45 u z0 z1) (h : v_X4_seek_J154 uo k45v U154 v154_0 v154_4) : w_X4_seek_J154 (fun u => u = uo) k45 U154 v154_0 v154_4 := by
  unfold v_X4_seek_J154 at h
  unfold w_X4_seek_J154
  intro _ _
  replace h := h.2.2
  obtain ⟨v9, e9, h⟩ := h
  intro x9 d9 
  have c9 : v9 = x9 := e9.trans d9.symm
  subst c9
  exact hk45 _ _ _ h
set_option maxRecDepth 100000 in
theorem vp_X4_seek_J154 {uo : MS} {P : MS → Prop} {k45 k45v : MS → Nat → Int32 → Prop} {U154 : MS} {v154_0 : Nat} {v154_4 : Int32} (hk45 : ∀ (u : MS) (z0 : Nat) (z1 : Int32), k45v u z0 z1 → k45 u z0 z1 → P uo) (h : v_X4_seek_J154 uo k45v U154 v154_0 v154_4) (w : w_X4_seek_J154 P k45 U154 v154_0 v154_4) : P uo := by
  unfold v_X4_seek_J154 at h
  unfold w_X4_seek_J154 at w
  obtain ⟨y1_, y2_, h⟩ := h
  replace w := w y1_ y2_
  obtain ⟨v9, e9, h⟩ := h
  replace w := w v9 e9 
  exact hk45 _ _ _ h w
set_option maxRecDepth 100000 in
theorem vw_X4_seek_J148 {uo : MS} {k67 k67v : MS → Nat → Int32 → Int32 → Prop} {U148 : MS} {v148_0 : Nat} {v148_4 : Int32} {v148_5 : Int32} (hk67 : ∀ (u : MS) (z0 : Nat) (z1 : Int32) (z2 : Int32), k67v u z0 z1 z2 → k67 u z0 z1 z2) (h : v_X4_seek_J148 uo k67v U148 v148_0 v148_4 v148_5) : w_X4_seek_J148 (fun u => u = uo) k67 U148 v148_0 v148_4 v148_5 := by
  unfold v_X4_seek_J148 at h
  unfold w_X4_seek_J148
  intro _ _
  replace h := h.2.2
  obtain ⟨v9, e9, h⟩ := h
  intro x9 d9 
  have c9 : v9 = x9 := e9.trans d9.symm
  subst c9
  exact hk67 _ _ _ _ h
set_option maxRecDepth 100000 in
theorem vp_X4_seek_J148 {uo : MS} {P : MS → Prop} {k67 k67v : MS → Nat → Int32 → Int32 → Prop} {U148 : MS} {v148_0 : Nat} {v148_4 : Int32} {v148_5 : Int32} (hk67 : ∀ (u : MS) (z0 : Nat) (z1 : Int32) (z2 : Int32), k67v u z0 z1 z2 → k67 u z0 z1 z2 → P uo) (h : v_X4_seek_J148 uo k67v U148 v148_0 v148_4 v148_5) (w : w_X4_seek_J148 P k67 U148 v148_0 v148_4 v148_5) : P uo := by
  unfold v_X4_seek_J148 at h
  unfold w_X4_seek_J148 at w
  obtain ⟨y3_, y4_, h⟩ := h
  replace w := w y3_ y4_
  obtain ⟨v9, e9, h⟩ := h
  replace w := w v9 e9 
  exact hk67 _ _ _ _ h w
set_option maxRecDepth 100000 in
theorem vw_X4_seek_J142 {uo : MS} {k109 k109v : MS → Nat → Int32 → Int32 → Int32 → Int32 → Prop} {U142 : MS} {v142_0 : Nat} {v142_4 : Int32} {v142_5 : Int32} {v142_6 : Int32} {v142_7 : Int32} (hk109 : ∀ (u : MS) (z0 : Nat) (z1 : Int32) (z2 : Int32) (z3 : Int32) (z4 : Int32), k109v u z0 z1 z2 z3 z4 → k109 u z0 z1 z2 z3 z4) (h : v_X4_seek_J142 uo k109v U142 v142_0 v142_4 v142_5 v142_6 v142_7) : w_X4_seek_J142 (fun u => u = uo) k109 U142 v142_0 v142_4 v142_5 v142_6 v142_7 := by
  unfold v_X4_seek_J142 at h
  unfold w_X4_seek_J142
  intro _ _
  replace h := h.2.2
  obtain ⟨v9, e9, h⟩ := h
  intro x9 d9 
  have c9 : v9 = x9 := e9.trans d9.symm
  subst c9
  exact hk109 _ _ _ _ _ _ h
set_option maxRecDepth 100000 in
theorem vp_X4_seek_J142 {uo : MS} {P : MS → Prop} {k109 k109v : MS → Nat → Int32 → Int32 → Int32 → Int32 → Prop} {U142 : MS} {v142_0 : Nat} {v142_4 : Int32} {v142_5 : Int32} {v142_6 : Int32} {v142_7 : Int32} (hk109 : ∀ (u : MS) (z0 : Nat) (z1 : Int32) (z2 : Int32) (z3 : Int32) (z4 : Int32), k109v u z0 z1 z2 z3 z4 → k109 u z0 z1 z2 z3 z4 → P uo) (h : v_X4_seek_J142 uo k109v U142 v142_0 v142_4 v142_5 v142_6 v142_7) (w : w_X4_seek_J142 P k109 U142 v142_0 v142_4 v142_5 v142_6 v142_7) : P uo := by
  unfold v_X4_seek_J142 at h
  unfold w_X4_seek_J142 at w
  obtain ⟨y5_, y6_, h⟩ := h
  replace w := w y5_ y6_
  obtain ⟨v9, e9, h⟩ := h
  replace w := w v9 e9 
  exact hk109 _ _ _ _ _ _ h w
set_option maxRecDepth 100000 in
theorem vw_X4_seek_L109 {uo : MS} {k67 k67v : MS → Nat → Int32 → Int32 → Prop} : ∀ (n : Nat) {U109 : MS} {v109_0 : Nat} {v109_4 : Int32} {v109_5 : Int32} {v109_6 : Int32} {v109_7 : Int32} (hk67 : ∀ (u : MS) (z0 : Nat) (z1 : Int32) (z2 : Int32), k67v u z0 z1 z2 → k67 u z0 z1 z2), v_X4_seek_L109 uo k67v n U109 v109_0 v109_4 v109_5 v109_6 v109_7 → w_X4_seek_L109 (fun u => u = uo) k67 n U109 v109_0 v109_4 v109_5 v109_6 v109_7 := by
  intro n
  induction n with
  | zero => intro U109 v109_0 v109_4 v109_5 v109_6 v109_7 hk67 h; unfold v_X4_seek_L109 at h; exact h.elim
  | succ n ih =>
    intro U109 v109_0 v109_4 v109_5 v109_6 v109_7 hk67 h
    unfold v_X4_seek_L109 at h
    unfold w_X4_seek_L109
    intro _ _
    replace h := h.2.2
    rcases h with ⟨c, h⟩ | ⟨c, h⟩
    · refine ⟨fun _ => ?_, fun c2 => absurd c c2⟩
      exact vw_X4_seek_J148 hk67 h
    · refine ⟨fun c2 => absurd c2 c, fun _ => ?_⟩
      rcases h with ⟨c, h⟩ | ⟨c, h⟩
      · refine ⟨fun _ => ?_, fun c2 => absurd c c2⟩
        exact vw_X4_seek_J148 hk67 h
      · refine ⟨fun c2 => absurd c2 c, fun _ => ?_⟩
        rcases h with ⟨c, h⟩ | ⟨c, h⟩
        · refine ⟨fun _ => ?_, fun c2 => absurd c c2⟩
          exact vw_X4_seek_J142 (fun _ _ _ _ _ _ h => ih hk67 h) h
        · refine ⟨fun c2 => absurd c2 c, fun _ => ?_⟩
          intro _
          replace h := h.2
          obtain ⟨q9, z9, h⟩ := h
          refine ⟨_, vwX4_spread z9, ?_⟩
          intro q8 d9 _ _
          subst d9
          replace h := h.2.2
          exact vw_X4_seek_J142 (fun _ _ _ _ _ _ h => ih hk67 h) h
set_option maxRecDepth 100000 in
theorem vp_X4_seek_L109 {uo : MS} {P : MS → Prop} {k67 k67v : MS → Nat → Int32 → Int32 → Prop} : ∀ (n m : Nat) {U109 : MS} {v109_0 : Nat} {v109_4 : Int32} {v109_5 : Int32} {v109_6 : Int32} {v109_7 : Int32} (hk67 : ∀ (u : MS) (z0 : Nat) (z1 : Int32) (z2 : Int32), k67v u z0 z1 z2 → k67 u z0 z1 z2 → P uo), v_X4_seek_L109 uo k67v n U109 v109_0 v109_4 v109_5 v109_6 v109_7 → w_X4_seek_L109 P k67 m U109 v109_0 v109_4 v109_5 v109_6 v109_7 → P uo := by
  intro n
  induction n with
  | zero => intro m U109 v109_0 v109_4 v109_5 v109_6 v109_7 hk67 h; unfold v_X4_seek_L109 at h; exact h.elim
  | succ n ih =>
    intro m U109 v109_0 v109_4 v109_5 v109_6 v109_7 hk67 h w
    cases m with
    | zero => unfold w_X4_seek_L109 at w; exact w.elim
    | succ m =>
      unfold v_X4_seek_L109 at h
      unfold w_X4_seek_L109 at w
      obtain ⟨y7_, y8_, h⟩ := h
      replace w := w y7_ y8_
      rcases h with ⟨c, h⟩ | ⟨c, h⟩
      · replace w := w.1 c
        exact vp_X4_seek_J148 hk67 h w
      · replace w := w.2 c
        rcases h with ⟨c, h⟩ | ⟨c, h⟩
        · replace w := w.1 c
          exact vp_X4_seek_J148 hk67 h w
        · replace w := w.2 c
          rcases h with ⟨c, h⟩ | ⟨c, h⟩
          · replace w := w.1 c
            exact vp_X4_seek_J142 (fun _ _ _ _ _ _ h w => ih m hk67 h w) h w
          · replace w := w.2 c
            obtain ⟨y9_, h⟩ := h
            replace w := w y9_
            obtain ⟨q9, z9, y10_, y11_, h⟩ := h
            obtain ⟨Q9, w0, w⟩ := w
            replace w := w q9 (vpX4_spread z9 w0) y10_ y11_
            exact vp_X4_seek_J142 (fun _ _ _ _ _ _ h w => ih m hk67 h w) h w
set_option maxRecDepth 100000 in
theorem vw_X4_seek_L67 {uo : MS} {k45 k45v : MS → Nat → Int32 → Prop} : ∀ (n : Nat) {U67 : MS} {v67_0 : Nat} {v67_4 : Int32} {v67_5 : Int32} (hk45 : ∀ (u : MS) (z0 : Nat) (z1 : Int32), k45v u z0 z1 → k45 u z0 z1), v_X4_seek_L67 uo k45v n U67 v67_0 v67_4 v67_5 → w_X4_seek_L67 (fun u => u = uo) k45 n U67 v67_0 v67_4 v67_5 := by
  intro n
  induction n with
  | zero => intro U67 v67_0 v67_4 v67_5 hk45 h; unfold v_X4_seek_L67 at h; exact h.elim
  | succ n ih =>
    intro U67 v67_0 v67_4 v67_5 hk45 h
    unfold v_X4_seek_L67 at h
    unfold w_X4_seek_L67
    intro _ _
    replace h := h.2.2
    obtain ⟨g9, h⟩ := h
    refine ⟨g9, ?_⟩
    rcases h with ⟨c, h⟩ | ⟨c, h⟩
    · refine ⟨fun _ => ?_, fun c2 => absurd c c2⟩
      exact vw_X4_seek_J154 hk45 h
    · refine ⟨fun c2 => absurd c2 c, fun _ => ?_⟩
      obtain ⟨g9, h⟩ := h
      refine ⟨g9, ?_⟩
      rcases h with ⟨c, h⟩ | ⟨c, h⟩
      · refine ⟨fun _ => ?_, fun c2 => absurd c c2⟩
        exact vw_X4_seek_J154 hk45 h
      · refine ⟨fun c2 => absurd c2 c, fun _ => ?_⟩
        obtain ⟨g9, h⟩ := h
        refine ⟨g9, ?_⟩
        obtain ⟨g9, h⟩ := h
        refine ⟨g9, ?_⟩
        obtain ⟨v9, e9, h⟩ := h
        intro x9 d9 
        have c9 : v9 = x9 := e9.trans d9.symm
        subst c9
        obtain ⟨g9, h⟩ := h
        refine ⟨g9, ?_⟩
        obtain ⟨g9, h⟩ := h
        refine ⟨g9, ?_⟩
        obtain ⟨v9, e9, h⟩ := h
        intro x9 d9 _ _
        have c9 : v9 = x9 := e9.trans d9.symm
        subst c9
        replace h := h.2.2
        obtain ⟨n9, h⟩ := h
        exact ⟨n9, vw_X4_seek_L109 n9 (fun _ _ _ _ h => ih hk45 h) h⟩
set_option maxRecDepth 100000 in
theorem vp_X4_seek_L67 {uo : MS} {P : MS → Prop} {k45 k45v : MS → Nat → Int32 → Prop} : ∀ (n m : Nat) {U67 : MS} {v67_0 : Nat} {v67_4 : Int32} {v67_5 : Int32} (hk45 : ∀ (u : MS) (z0 : Nat) (z1 : Int32), k45v u z0 z1 → k45 u z0 z1 → P uo), v_X4_seek_L67 uo k45v n U67 v67_0 v67_4 v67_5 → w_X4_seek_L67 P k45 m U67 v67_0 v67_4 v67_5 → P uo := by
  intro n
  induction n with
  | zero => intro m U67 v67_0 v67_4 v67_5 hk45 h; unfold v_X4_seek_L67 at h; exact h.elim
  | succ n ih =>
    intro m U67 v67_0 v67_4 v67_5 hk45 h w
    cases m with
    | zero => unfold w_X4_seek_L67 at w; exact w.elim
    | succ m =>
      unfold v_X4_seek_L67 at h
      unfold w_X4_seek_L67 at w
      obtain ⟨y12_, y13_, h⟩ := h
      replace w := w y12_ y13_
      replace h := h.2
      replace w := w.2
      rcases h with ⟨c, h⟩ | ⟨c, h⟩
      · replace w := w.1 c
        exact vp_X4_seek_J154 hk45 h w
      · replace w := w.2 c
        replace h := h.2
        replace w := w.2
        rcases h with ⟨c, h⟩ | ⟨c, h⟩
        · replace w := w.1 c
          exact vp_X4_seek_J154 hk45 h w
        · replace w := w.2 c
          replace h := h.2
          replace w := w.2
          replace h := h.2
          replace w := w.2
          obtain ⟨v9, e9, h⟩ := h
          replace w := w v9 e9 
          replace h := h.2
          replace w := w.2
          replace h := h.2
          replace w := w.2
          obtain ⟨v9, e9, y14_, y15_, h⟩ := h
          replace w := w v9 e9 y14_ y15_
          obtain ⟨n9, h⟩ := h
          obtain ⟨n8, w⟩ := w
          exact vp_X4_seek_L109 n9 n8 (fun _ _ _ _ h w => ih m hk45 h w) h w
set_option maxRecDepth 100000 in
theorem vw_X4_seek_L45 {uo : MS} : ∀ (n : Nat) {U45 : MS} {v45_0 : Nat} {v45_4 : Int32}, v_X4_seek_L45 uo n U45 v45_0 v45_4 → w_X4_seek_L45 (fun u => u = uo) n U45 v45_0 v45_4 := by
  intro n
  induction n with
  | zero => intro U45 v45_0 v45_4 h; unfold v_X4_seek_L45 at h; exact h.elim
  | succ n ih =>
    intro U45 v45_0 v45_4 h
    unfold v_X4_seek_L45 at h
    unfold w_X4_seek_L45
    intro _ _
    replace h := h.2.2
    rcases h with ⟨c, h⟩ | ⟨c, h⟩
    · refine ⟨fun _ => ?_, fun c2 => absurd c c2⟩
      exact h.symm
    · refine ⟨fun c2 => absurd c2 c, fun _ => ?_⟩
      rcases h with ⟨c, h⟩ | ⟨c, h⟩
      · refine ⟨fun _ => ?_, fun c2 => absurd c c2⟩
        exact h.symm
      · refine ⟨fun c2 => absurd c2 c, fun _ => ?_⟩
        obtain ⟨v9, e9, h⟩ := h
        intro x9 d9 _ _
        have c9 : v9 = x9 := e9.trans d9.symm
        subst c9
        replace h := h.2.2
        obtain ⟨n9, h⟩ := h
        exact ⟨n9, vw_X4_seek_L67 n9 (fun _ _ _ h => ih h) h⟩
set_option maxRecDepth 100000 in
theorem vp_X4_seek_L45 {uo : MS} {P : MS → Prop} : ∀ (n m : Nat) {U45 : MS} {v45_0 : Nat} {v45_4 : Int32}, v_X4_seek_L45 uo n U45 v45_0 v45_4 → w_X4_seek_L45 P m U45 v45_0 v45_4 → P uo := by
  intro n
  induction n with
  | zero => intro m U45 v45_0 v45_4 h; unfold v_X4_seek_L45 at h; exact h.elim
  | succ n ih =>
    intro m U45 v45_0 v45_4 h w
    cases m with
    | zero => unfold w_X4_seek_L45 at w; exact w.elim
    | succ m =>
      unfold v_X4_seek_L45 at h
      unfold w_X4_seek_L45 at w
      obtain ⟨y16_, y17_, h⟩ := h
      replace w := w y16_ y17_
      rcases h with ⟨c, h⟩ | ⟨c, h⟩
      · replace w := w.1 c
        rw [h]
        exact w
      · replace w := w.2 c
        rcases h with ⟨c, h⟩ | ⟨c, h⟩
        · replace w := w.1 c
          rw [h]
          exact w
        · replace w := w.2 c
          obtain ⟨v9, e9, y18_, y19_, h⟩ := h
          replace w := w v9 e9 y18_ y19_
          obtain ⟨n9, h⟩ := h
          obtain ⟨n8, w⟩ := w
          exact vp_X4_seek_L67 n9 n8 (fun _ _ _ h w => ih m h w) h w
set_option maxRecDepth 100000 in
theorem vwX4_seek {S : MS} {p0 : Nat} {p1 : Nat} {p2 : Nat} {x3 : Int32} {uo : MS} (h : vX4_seek S p0 p1 p2 x3 uo) : wX4_seek S p0 p1 p2 x3 (fun u => u = uo) := by
  unfold vX4_seek at h
  unfold wX4_seek
  obtain ⟨v9, e9, h⟩ := h
  intro x9 d9 _ _
  have c9 : v9 = x9 := e9.trans d9.symm
  subst c9
  replace h := h.2.2
  obtain ⟨v9, e9, h⟩ := h
  intro x9 d9 _ _
  have c9 : v9 = x9 := e9.trans d9.symm
  subst c9
  replace h := h.2.2
  obtain ⟨v9, e9, h⟩ := h
  intro x9 d9 _ _
  have c9 : v9 = x9 := e9.trans d9.symm
  subst c9
  replace h := h.2.2
  obtain ⟨v9, e9, h⟩ := h
  intro x9 d9 _ _
  have c9 : v9 = x9 := e9.trans d9.symm
  subst c9
  replace h := h.2.2
  obtain ⟨g9, h⟩ := h
  refine ⟨g9, ?_⟩
  intro _
  replace h := h.2
  obtain ⟨q9, z9, h⟩ := h
  refine ⟨_, vwX4_makeRoom z9, ?_⟩
  intro q8 d9 _ _
  subst d9
  replace h := h.2.2
  intro _
  replace h := h.2
  obtain ⟨q9, z9, h⟩ := h
  refine ⟨_, vwX4_comeTo z9, ?_⟩
  intro q8 d9 _ _
  subst d9
  replace h := h.2.2
  obtain ⟨v9, e9, h⟩ := h
  intro x9 d9 _ _
  have c9 : v9 = x9 := e9.trans d9.symm
  subst c9
  replace h := h.2.2
  obtain ⟨n9, h⟩ := h
  exact ⟨n9, vw_X4_seek_L45 n9 h⟩
set_option maxRecDepth 100000 in
theorem vpX4_seek {S : MS} {p0 : Nat} {p1 : Nat} {p2 : Nat} {x3 : Int32} {uo : MS} {P : MS → Prop} (h : vX4_seek S p0 p1 p2 x3 uo) (w : wX4_seek S p0 p1 p2 x3 P) : P uo := by
  unfold vX4_seek at h
  unfold wX4_seek at w
  obtain ⟨v9, e9, y20_, y21_, h⟩ := h
  replace w := w v9 e9 y20_ y21_
  obtain ⟨v9, e9, y22_, y23_, h⟩ := h
  replace w := w v9 e9 y22_ y23_
  obtain ⟨v9, e9, y24_, y25_, h⟩ := h
  replace w := w v9 e9 y24_ y25_
  obtain ⟨v9, e9, y26_, y27_, h⟩ := h
  replace w := w v9 e9 y26_ y27_
  replace h := h.2
  replace w := w.2
  obtain ⟨y28_, h⟩ := h
  replace w := w y28_
  obtain ⟨q9, z9, y29_, y30_, h⟩ := h
  obtain ⟨Q9, w0, w⟩ := w
  replace w := w q9 (vpX4_makeRoom z9 w0) y29_ y30_
  obtain ⟨y31_, h⟩ := h
  replace w := w y31_
  obtain ⟨q9, z9, y32_, y33_, h⟩ := h
  obtain ⟨Q9, w0, w⟩ := w
  replace w := w q9 (vpX4_comeTo z9 w0) y32_ y33_
  obtain ⟨v9, e9, y34_, y35_, h⟩ := h
  replace w := w v9 e9 y34_ y35_
  obtain ⟨n9, h⟩ := h
  obtain ⟨n8, w⟩ := w
  exact vp_X4_seek_L45 n9 n8 h w
def vX5_leave (S : MS) (x1 : Int32) (uo : MS) : Prop := (d_X6_takes S x1 ∧ (∃ a4 : Int32, a4 = (fX6_takes S x1) ∧ (∃ (r6 : Int64) (S7 : MS), vX5_pop_ S a4 r6 S7 ∧ wfC S7 ∧ shy S S7 ∧ (((qI S7 44 11).toInt = 0 ∧ (∃ S18 : MS, S18 = wI S7 44 15 (0 : Int32) ∧ qT S7 44 = 45 ∧ wfC S18 ∧ (∃ S19 : MS, S19 = wJ S18 44 16 r6 ∧ qT S18 44 = 45 ∧ wfC S19 ∧ (uo = S19)))) ∨ (¬ (qI S7 44 11).toInt = 0 ∧ (∃ (S11 : MS), vX5_closeFrame S7 S11 ∧ wfC S11 ∧ shy S7 S11 ∧ (∃ (S14 : MS), vX5_push_ S11 a4 r6 S14 ∧ wfC S14 ∧ shy S11 S14 ∧ (∃ S17 : MS, S17 = wI S14 44 13 ((qI S14 44 13) + (1 : Int32)) ∧ qT S14 44 = 45 ∧ wfC S17 ∧ (uo = S17)))))))))
set_option maxRecDepth 100000 in
theorem ruX5_leave {S : MS} {x1 : Int32} {Q : MS → Prop} (h : wX5_leave S x1 Q) : wX5_leave S x1 (fun u => Q u ∧ vX5_leave S x1 u) := by
  have i0 : Unit := ()
  have K : ∀ (i : Unit) (uo : MS), vX5_leave S x1 uo → vX5_leave S x1 uo := fun _ _ z => z
  unfold wX5_leave at h ⊢
  obtain ⟨g1_, h⟩ := h
  refine ⟨g1_, ?_⟩
  replace K := fun i uo z => K i uo ⟨g1_, z⟩
  intro a4 ea4 
  replace h := h a4 ea4 
  replace K := fun i uo z => K i uo ⟨a4, ea4, z⟩
  obtain ⟨Q9, h0, h⟩ := h
  refine ⟨_, ruX5_pop_ h0, ?_⟩
  intro r6 S7 q2_ y3_ y4_
  replace h := h r6 S7 q2_.1 y3_ y4_
  replace K := fun i uo z => K i uo ⟨r6, S7, q2_.2, y3_, y4_, z⟩
  refine ⟨fun c => ?_, fun c => ?_⟩
  · replace h := h.1 c
    replace K := fun i uo z => K i uo (Or.inl ⟨c, z⟩)
    intro S18 eS18 y5_ y6_
    replace h := h S18 eS18 y5_ y6_
    replace K := fun i uo z => K i uo ⟨S18, eS18, y5_, y6_, z⟩
    intro S19 eS19 y7_ y8_
    replace h := h S19 eS19 y7_ y8_
    replace K := fun i uo z => K i uo ⟨S19, eS19, y7_, y8_, z⟩
    exact ⟨h, K i0 _ rfl⟩
  · replace h := h.2 c
    replace K := fun i uo z => K i uo (Or.inr ⟨c, z⟩)
    obtain ⟨Q9, h0, h⟩ := h
    refine ⟨_, ruX5_closeFrame h0, ?_⟩
    intro S11 q9_ y10_ y11_
    replace h := h S11 q9_.1 y10_ y11_
    replace K := fun i uo z => K i uo ⟨S11, q9_.2, y10_, y11_, z⟩
    obtain ⟨Q9, h0, h⟩ := h
    refine ⟨_, ruX5_push_ h0, ?_⟩
    intro S14 q12_ y13_ y14_
    replace h := h S14 q12_.1 y13_ y14_
    replace K := fun i uo z => K i uo ⟨S14, q12_.2, y13_, y14_, z⟩
    intro S17 eS17 y15_ y16_
    replace h := h S17 eS17 y15_ y16_
    replace K := fun i uo z => K i uo ⟨S17, eS17, y15_, y16_, z⟩
    exact ⟨h, K i0 _ rfl⟩
set_option maxRecDepth 100000 in
theorem vwX5_leave {S : MS} {x1 : Int32} {uo : MS} (h : vX5_leave S x1 uo) : wX5_leave S x1 (fun u => u = uo) := by
  unfold vX5_leave at h
  unfold wX5_leave
  obtain ⟨g9, h⟩ := h
  refine ⟨g9, ?_⟩
  obtain ⟨v9, e9, h⟩ := h
  intro x9 d9 
  have c9 : v9 = x9 := e9.trans d9.symm
  subst c9
  obtain ⟨p9, q9, z9, h⟩ := h
  refine ⟨_, vwX5_pop_ z9, ?_⟩
  rintro p8 q8 ⟨d8, d9⟩ _ _
  subst d8
  subst d9
  replace h := h.2.2
  rcases h with ⟨c, h⟩ | ⟨c, h⟩
  · refine ⟨fun _ => ?_, fun c2 => absurd c c2⟩
    obtain ⟨v9, e9, h⟩ := h
    intro x9 d9 _ _
    have c9 : v9 = x9 := e9.trans d9.symm
    subst c9
    replace h := h.2.2
    obtain ⟨v9, e9, h⟩ := h
    intro x9 d9 _ _
    have c9 : v9 = x9 := e9.trans d9.symm
    subst c9
    replace h := h.2.2
    exact h.symm
  · refine ⟨fun c2 => absurd c2 c, fun _ => ?_⟩
    obtain ⟨q9, z9, h⟩ := h
    refine ⟨_, vwX5_closeFrame z9, ?_⟩
    intro q8 d9 _ _
    subst d9
    replace h := h.2.2
    obtain ⟨q9, z9, h⟩ := h
    refine ⟨_, vwX5_push_ z9, ?_⟩
    intro q8 d9 _ _
    subst d9
    replace h := h.2.2
    obtain ⟨v9, e9, h⟩ := h
    intro x9 d9 _ _
    have c9 : v9 = x9 := e9.trans d9.symm
    subst c9
    replace h := h.2.2
    exact h.symm
set_option maxRecDepth 100000 in
theorem vpX5_leave {S : MS} {x1 : Int32} {uo : MS} {P : MS → Prop} (h : vX5_leave S x1 uo) (w : wX5_leave S x1 P) : P uo := by
  unfold vX5_leave at h
  unfold wX5_leave at w
  replace h := h.2
  replace w := w.2
  obtain ⟨v9, e9, h⟩ := h
  replace w := w v9 e9 
  obtain ⟨p9, q9, z9, y1_, y2_, h⟩ := h
  obtain ⟨Q9, w0, w⟩ := w
  replace w := w p9 q9 (vpX5_pop_ z9 w0) y1_ y2_
  rcases h with ⟨c, h⟩ | ⟨c, h⟩
  · replace w := w.1 c
    obtain ⟨v9, e9, y3_, y4_, h⟩ := h
    replace w := w v9 e9 y3_ y4_
    obtain ⟨v9, e9, y5_, y6_, h⟩ := h
    replace w := w v9 e9 y5_ y6_
    rw [h]
    exact w
  · replace w := w.2 c
    obtain ⟨q9, z9, y7_, y8_, h⟩ := h
    obtain ⟨Q9, w0, w⟩ := w
    replace w := w q9 (vpX5_closeFrame z9 w0) y7_ y8_
    obtain ⟨q9, z9, y9_, y10_, h⟩ := h
    obtain ⟨Q9, w0, w⟩ := w
    replace w := w q9 (vpX5_push_ z9 w0) y9_ y10_
    obtain ⟨v9, e9, y11_, y12_, h⟩ := h
    replace w := w v9 e9 y11_ y12_
    rw [h]
    exact w
def v_X5_raise_J46 (uo : MS) (k5 : MS → Int32 → Int32 → Prop) (U46 : MS) (v46_1 : Int32) (v46_2 : Int32) : Prop := (wfC U46 ∧ (∃ a10 : Int32, a10 = (v46_2 + Int32.ofInt (-1)) ∧ (k5 U46 v46_1 a10)))
def v_X5_raise_L5 (uo : MS) : Nat → MS → Int32 → Int32 → Prop
  | 0, _, _, _ => False
  | n5 + 1, U5, v5_1, v5_2 => (wfC U5 ∧ ((v5_2.toInt < 0 ∧ (∃ S3 : MS, S3 = wI U5 44 15 (1 : Int32) ∧ qT U5 44 = 45 ∧ wfC S3 ∧ (∃ S4 : MS, S4 = wI S3 44 17 v5_1 ∧ qT S3 44 = 45 ∧ wfC S4 ∧ (uo = S4)))) ∨ (¬ v5_2.toInt < 0 ∧ (∃ (r6 : Int32) (S7 : MS), vX5_handlerOf U5 v5_1 r6 S7 ∧ wfC S7 ∧ shy U5 S7 ∧ ((r6.toInt < 0 ∧ ((v5_2.toInt ≤ 0 ∧ (v_X5_raise_J46 uo (v_X5_raise_L5 uo n5) S7 v5_1 v5_2)) ∨ (¬ v5_2.toInt ≤ 0 ∧ (∃ (S13 : MS), vX5_closeFrame S7 S13 ∧ wfC S13 ∧ shy S7 S13 ∧ (v_X5_raise_J46 uo (v_X5_raise_L5 uo n5) S13 v5_1 v5_2))))) ∨ (¬ r6.toInt < 0 ∧ (∃ S15 : MS, S15 = wI S7 44 13 r6 ∧ qT S7 44 = 45 ∧ wfC S15 ∧ (∃ S16 : MS, S16 = wI S15 44 14 (0 : Int32) ∧ qT S15 44 = 45 ∧ wfC S16 ∧ (∃ (S19 : MS), vX5_push S16 (((-1 : Int32) - v5_1).toInt64) S19 ∧ wfC S19 ∧ shy S16 S19 ∧ (uo = S19))))))))))
def vX5_raise (S : MS) (x1 : Int32) (uo : MS) : Prop := (∃ a1 : Int32, a1 = (qI S 44 11) ∧ (∃ n, v_X5_raise_L5 uo n S x1 a1))
set_option maxRecDepth 100000 in
theorem ru_X5_raise_J46 {ι : Type} {P Q : MS → Prop} {k5 k5' : MS → Int32 → Int32 → Prop} {k5v : ι → MS → MS → Int32 → Int32 → Prop} {U46 : MS} {v46_1 : Int32} {v46_2 : Int32} (i0 : ι) (hk5 : ∀ (u : MS) (z0 : Int32) (z1 : Int32), k5 u z0 z1 → (∀ (i : ι) (uo : MS), k5v i uo u z0 z1 → P uo) → k5' u z0 z1) (K : ∀ (i : ι) (uo : MS), v_X5_raise_J46 uo (k5v i uo) U46 v46_1 v46_2 → P uo) (h : w_X5_raise_J46 Q k5 U46 v46_1 v46_2) : w_X5_raise_J46 (fun u => Q u ∧ P u) k5' U46 v46_1 v46_2 := by
  unfold w_X5_raise_J46 at h ⊢
  intro y1_
  replace h := h y1_
  replace K := fun i uo z => K i uo ⟨y1_, z⟩
  intro a10 ea10 
  replace h := h a10 ea10 
  replace K := fun i uo z => K i uo ⟨a10, ea10, z⟩
  exact hk5 _ _ _ h K
set_option maxRecDepth 100000 in
theorem ru_X5_raise_L5 {ι : Type} {P Q : MS → Prop} : ∀ (n : Nat) {U5 : MS} {v5_1 : Int32} {v5_2 : Int32} (i0 : ι), (∀ (i : ι) (uo : MS), (∃ n8, v_X5_raise_L5 uo n8 U5 v5_1 v5_2) → P uo) → w_X5_raise_L5 Q n U5 v5_1 v5_2 → w_X5_raise_L5 (fun u => Q u ∧ P u) n U5 v5_1 v5_2 := by
  intro n
  induction n with
  | zero => intro U5 v5_1 v5_2 i0 K h; unfold w_X5_raise_L5 at h; exact h.elim
  | succ n ih =>
    intro U5 v5_1 v5_2 i0 K h
    unfold w_X5_raise_L5 at h ⊢
    replace K := fun (i : ι × Nat) uo (z : v_X5_raise_L5 uo (i.2 + 1) U5 v5_1 v5_2) => K i.1 uo ⟨i.2 + 1, z⟩
    have i00 := i0
    replace i0 : ι × Nat := (i0, 0)
    intro y2_
    replace h := h y2_
    replace K := fun i uo z => K i uo ⟨y2_, z⟩
    refine ⟨fun c => ?_, fun c => ?_⟩
    · replace h := h.1 c
      replace K := fun i uo z => K i uo (Or.inl ⟨c, z⟩)
      intro S3 eS3 y3_ y4_
      replace h := h S3 eS3 y3_ y4_
      replace K := fun i uo z => K i uo ⟨S3, eS3, y3_, y4_, z⟩
      intro S4 eS4 y5_ y6_
      replace h := h S4 eS4 y5_ y6_
      replace K := fun i uo z => K i uo ⟨S4, eS4, y5_, y6_, z⟩
      exact ⟨h, K i0 _ rfl⟩
    · replace h := h.2 c
      replace K := fun i uo z => K i uo (Or.inr ⟨c, z⟩)
      obtain ⟨Q9, h0, h⟩ := h
      refine ⟨_, ruX5_handlerOf h0, ?_⟩
      intro r6 S7 q7_ y8_ y9_
      replace h := h r6 S7 q7_.1 y8_ y9_
      replace K := fun i uo z => K i uo ⟨r6, S7, q7_.2, y8_, y9_, z⟩
      refine ⟨fun c => ?_, fun c => ?_⟩
      · replace h := h.1 c
        replace K := fun i uo z => K i uo (Or.inl ⟨c, z⟩)
        refine ⟨fun c => ?_, fun c => ?_⟩
        · replace h := h.1 c
          replace K := fun i uo z => K i uo (Or.inl ⟨c, z⟩)
          exact ru_X5_raise_J46 i0 (fun _ _ _ h K => ih i00 (fun i uo ⟨n8, z⟩ => K (i, n8) uo z) h) K h
        · replace h := h.2 c
          replace K := fun i uo z => K i uo (Or.inr ⟨c, z⟩)
          obtain ⟨Q9, h0, h⟩ := h
          refine ⟨_, ruX5_closeFrame h0, ?_⟩
          intro S13 q10_ y11_ y12_
          replace h := h S13 q10_.1 y11_ y12_
          replace K := fun i uo z => K i uo ⟨S13, q10_.2, y11_, y12_, z⟩
          exact ru_X5_raise_J46 i0 (fun _ _ _ h K => ih i00 (fun i uo ⟨n8, z⟩ => K (i, n8) uo z) h) K h
      · replace h := h.2 c
        replace K := fun i uo z => K i uo (Or.inr ⟨c, z⟩)
        intro S15 eS15 y13_ y14_
        replace h := h S15 eS15 y13_ y14_
        replace K := fun i uo z => K i uo ⟨S15, eS15, y13_, y14_, z⟩
        intro S16 eS16 y15_ y16_
        replace h := h S16 eS16 y15_ y16_
        replace K := fun i uo z => K i uo ⟨S16, eS16, y15_, y16_, z⟩
        obtain ⟨Q9, h0, h⟩ := h
        refine ⟨_, ruX5_push h0, ?_⟩
        intro S19 q17_ y18_ y19_
        replace h := h S19 q17_.1 y18_ y19_
        replace K := fun i uo z => K i uo ⟨S19, q17_.2, y18_, y19_, z⟩
        exact ⟨h, K i0 _ rfl⟩
set_option maxRecDepth 100000 in
theorem ruX5_raise {S : MS} {x1 : Int32} {Q : MS → Prop} (h : wX5_raise S x1 Q) : wX5_raise S x1 (fun u => Q u ∧ vX5_raise S x1 u) := by
  have i0 : Unit := ()
  have K : ∀ (i : Unit) (uo : MS), vX5_raise S x1 uo → vX5_raise S x1 uo := fun _ _ z => z
  unfold wX5_raise at h ⊢
  intro a1 ea1 
  replace h := h a1 ea1 
  replace K := fun i uo z => K i uo ⟨a1, ea1, z⟩
  obtain ⟨n9, h⟩ := h
  exact ⟨n9, ru_X5_raise_L5 n9 i0 K h⟩
set_option maxRecDepth 100000 in
theorem vw_X5_raise_J46 {uo : MS} {k5 k5v : MS → Int32 → Int32 → Prop} {U46 : MS} {v46_1 : Int32} {v46_2 : Int32} (hk5 : ∀ (u : MS) (z0 : Int32) (z1 : Int32), k5v u z0 z1 → k5 u z0 z1) (h : v_X5_raise_J46 uo k5v U46 v46_1 v46_2) : w_X5_raise_J46 (fun u => u = uo) k5 U46 v46_1 v46_2 := by
  unfold v_X5_raise_J46 at h
  unfold w_X5_raise_J46
  intro _
  replace h := h.2
  obtain ⟨v9, e9, h⟩ := h
  intro x9 d9 
  have c9 : v9 = x9 := e9.trans d9.symm
  subst c9
  exact hk5 _ _ _ h
set_option maxRecDepth 100000 in
theorem vp_X5_raise_J46 {uo : MS} {P : MS → Prop} {k5 k5v : MS → Int32 → Int32 → Prop} {U46 : MS} {v46_1 : Int32} {v46_2 : Int32} (hk5 : ∀ (u : MS) (z0 : Int32) (z1 : Int32), k5v u z0 z1 → k5 u z0 z1 → P uo) (h : v_X5_raise_J46 uo k5v U46 v46_1 v46_2) (w : w_X5_raise_J46 P k5 U46 v46_1 v46_2) : P uo := by
  unfold v_X5_raise_J46 at h
  unfold w_X5_raise_J46 at w
  obtain ⟨y1_, h⟩ := h
  replace w := w y1_
  obtain ⟨v9, e9, h⟩ := h
  replace w := w v9 e9 
  exact hk5 _ _ _ h w
set_option maxRecDepth 100000 in
theorem vw_X5_raise_L5 {uo : MS} : ∀ (n : Nat) {U5 : MS} {v5_1 : Int32} {v5_2 : Int32}, v_X5_raise_L5 uo n U5 v5_1 v5_2 → w_X5_raise_L5 (fun u => u = uo) n U5 v5_1 v5_2 := by
  intro n
  induction n with
  | zero => intro U5 v5_1 v5_2 h; unfold v_X5_raise_L5 at h; exact h.elim
  | succ n ih =>
    intro U5 v5_1 v5_2 h
    unfold v_X5_raise_L5 at h
    unfold w_X5_raise_L5
    intro _
    replace h := h.2
    rcases h with ⟨c, h⟩ | ⟨c, h⟩
    · refine ⟨fun _ => ?_, fun c2 => absurd c c2⟩
      obtain ⟨v9, e9, h⟩ := h
      intro x9 d9 _ _
      have c9 : v9 = x9 := e9.trans d9.symm
      subst c9
      replace h := h.2.2
      obtain ⟨v9, e9, h⟩ := h
      intro x9 d9 _ _
      have c9 : v9 = x9 := e9.trans d9.symm
      subst c9
      replace h := h.2.2
      exact h.symm
    · refine ⟨fun c2 => absurd c2 c, fun _ => ?_⟩
      obtain ⟨p9, q9, z9, h⟩ := h
      refine ⟨_, vwX5_handlerOf z9, ?_⟩
      rintro p8 q8 ⟨d8, d9⟩ _ _
      subst d8
      subst d9
      replace h := h.2.2
      rcases h with ⟨c, h⟩ | ⟨c, h⟩
      · refine ⟨fun _ => ?_, fun c2 => absurd c c2⟩
        rcases h with ⟨c, h⟩ | ⟨c, h⟩
        · refine ⟨fun _ => ?_, fun c2 => absurd c c2⟩
          exact vw_X5_raise_J46 (fun _ _ _ h => ih h) h
        · refine ⟨fun c2 => absurd c2 c, fun _ => ?_⟩
          obtain ⟨q9, z9, h⟩ := h
          refine ⟨_, vwX5_closeFrame z9, ?_⟩
          intro q8 d9 _ _
          subst d9
          replace h := h.2.2
          exact vw_X5_raise_J46 (fun _ _ _ h => ih h) h
      · refine ⟨fun c2 => absurd c2 c, fun _ => ?_⟩
        obtain ⟨v9, e9, h⟩ := h
        intro x9 d9 _ _
        have c9 : v9 = x9 := e9.trans d9.symm
        subst c9
        replace h := h.2.2
        obtain ⟨v9, e9, h⟩ := h
        intro x9 d9 _ _
        have c9 : v9 = x9 := e9.trans d9.symm
        subst c9
        replace h := h.2.2
        obtain ⟨q9, z9, h⟩ := h
        refine ⟨_, vwX5_push z9, ?_⟩
        intro q8 d9 _ _
        subst d9
        replace h := h.2.2
        exact h.symm
set_option maxRecDepth 100000 in
theorem vp_X5_raise_L5 {uo : MS} {P : MS → Prop} : ∀ (n m : Nat) {U5 : MS} {v5_1 : Int32} {v5_2 : Int32}, v_X5_raise_L5 uo n U5 v5_1 v5_2 → w_X5_raise_L5 P m U5 v5_1 v5_2 → P uo := by
  intro n
  induction n with
  | zero => intro m U5 v5_1 v5_2 h; unfold v_X5_raise_L5 at h; exact h.elim
  | succ n ih =>
    intro m U5 v5_1 v5_2 h w
    cases m with
    | zero => unfold w_X5_raise_L5 at w; exact w.elim
    | succ m =>
      unfold v_X5_raise_L5 at h
      unfold w_X5_raise_L5 at w
      obtain ⟨y2_, h⟩ := h
      replace w := w y2_
      rcases h with ⟨c, h⟩ | ⟨c, h⟩
      · replace w := w.1 c
        obtain ⟨v9, e9, y3_, y4_, h⟩ := h
        replace w := w v9 e9 y3_ y4_
        obtain ⟨v9, e9, y5_, y6_, h⟩ := h
        replace w := w v9 e9 y5_ y6_
        rw [h]
        exact w
      · replace w := w.2 c
        obtain ⟨p9, q9, z9, y7_, y8_, h⟩ := h
        obtain ⟨Q9, w0, w⟩ := w
        replace w := w p9 q9 (vpX5_handlerOf z9 w0) y7_ y8_
        rcases h with ⟨c, h⟩ | ⟨c, h⟩
        · replace w := w.1 c
          rcases h with ⟨c, h⟩ | ⟨c, h⟩
          · replace w := w.1 c
            exact vp_X5_raise_J46 (fun _ _ _ h w => ih m h w) h w
          · replace w := w.2 c
            obtain ⟨q9, z9, y9_, y10_, h⟩ := h
            obtain ⟨Q9, w0, w⟩ := w
            replace w := w q9 (vpX5_closeFrame z9 w0) y9_ y10_
            exact vp_X5_raise_J46 (fun _ _ _ h w => ih m h w) h w
        · replace w := w.2 c
          obtain ⟨v9, e9, y11_, y12_, h⟩ := h
          replace w := w v9 e9 y11_ y12_
          obtain ⟨v9, e9, y13_, y14_, h⟩ := h
          replace w := w v9 e9 y13_ y14_
          obtain ⟨q9, z9, y15_, y16_, h⟩ := h
          obtain ⟨Q9, w0, w⟩ := w
          replace w := w q9 (vpX5_push z9 w0) y15_ y16_
          rw [h]
          exact w
set_option maxRecDepth 100000 in
theorem vwX5_raise {S : MS} {x1 : Int32} {uo : MS} (h : vX5_raise S x1 uo) : wX5_raise S x1 (fun u => u = uo) := by
  unfold vX5_raise at h
  unfold wX5_raise
  obtain ⟨v9, e9, h⟩ := h
  intro x9 d9 
  have c9 : v9 = x9 := e9.trans d9.symm
  subst c9
  obtain ⟨n9, h⟩ := h
  exact ⟨n9, vw_X5_raise_L5 n9 h⟩
set_option maxRecDepth 100000 in
theorem vpX5_raise {S : MS} {x1 : Int32} {uo : MS} {P : MS → Prop} (h : vX5_raise S x1 uo) (w : wX5_raise S x1 P) : P uo := by
  unfold vX5_raise at h
  unfold wX5_raise at w
  obtain ⟨v9, e9, h⟩ := h
  replace w := w v9 e9 
  obtain ⟨n9, h⟩ := h
  obtain ⟨n8, w⟩ := w
  exact vp_X5_raise_L5 n9 n8 h w
def v_X5_makeArray_J32 (uo : MS) (U32 : MS) : Prop := (wfC U32 ∧ (∃ S2 : MS, S2 = wI U32 44 15 (4 : Int32) ∧ qT U32 44 = 45 ∧ wfC S2 ∧ (uo = S2)))
def v_X5_makeArray_J167 (uo : MS) (U167 : MS) (v167_1 : Int32) : Prop := (wfC U167 ∧ (∃ S19 : MS, S19 = wI U167 44 3 ((qI U167 44 3) + v167_1) ∧ qT U167 44 = 45 ∧ wfC S19 ∧ (∃ (S21 : MS), vX5_push S19 ((qI S19 44 5).toInt64) S21 ∧ wfC S21 ∧ shy S19 S21 ∧ (∃ S24 : MS, S24 = wI S21 44 13 ((qI S21 44 13) + (1 : Int32)) ∧ qT S21 44 = 45 ∧ wfC S24 ∧ (uo = S24)))))
def v_X5_makeArray_L135 (uo : MS) : Nat → MS → Int32 → Int32 → Prop
  | 0, _, _, _ => False
  | n135 + 1, U135, v135_1, v135_2 => (wfC U135 ∧ ((((qI U135 44 3) + v135_1).toInt ≤ v135_2.toInt ∧ (v_X5_makeArray_J167 uo U135 v135_1)) ∨ (¬ ((qI U135 44 3) + v135_1).toInt ≤ v135_2.toInt ∧ (((qN U135 (qO U135 44 2) : Int) ≤ v135_2.toInt ∧ (v_X5_makeArray_J167 uo U135 v135_1)) ∨ (¬ (qN U135 (qO U135 44 2) : Int) ≤ v135_2.toInt ∧ (((0 : Int) ≤ v135_2.toInt ∧ v135_2.toInt < (qN U135 (qO U135 44 2) : Int)) ∧ (∃ S31 : MS, S31 = wI U135 (qO U135 44 2) v135_2.toInt.toNat (0 : Int32) ∧ qT U135 (qO U135 44 2) = 215 ∧ wfC S31 ∧ (∃ a32 : Int32, a32 = (v135_2 + Int32.ofInt 1) ∧ ((v_X5_makeArray_L135 uo n135) S31 v135_1 a32)))))))))
def v_X5_makeArray_J117 (uo : MS) (U117 : MS) (v117_1 : Int32) : Prop := (wfC U117 ∧ (((0 : Int) ≤ (qI U117 44 5).toInt ∧ (qI U117 44 5).toInt < (qN U117 (qO U117 44 4) : Int)) ∧ (∃ S15 : MS, S15 = wI U117 (qO U117 44 4) (((qI U117 44 5).toInt).toNat) (qI U117 44 3) ∧ qT U117 (qO U117 44 4) = 216 ∧ wfC S15 ∧ (∃ a16 : Int32, a16 = (qI S15 44 3) ∧ (∃ n, v_X5_makeArray_L135 uo n S15 v117_1 a16)))))
def v_X5_makeArray_J78 (uo : MS) (U78 : MS) (v78_1 : Int32) : Prop := (wfC U78 ∧ ((((qI U78 44 3) + v78_1).toInt ≤ (qN U78 (qO U78 44 2) : Int) ∧ (v_X5_makeArray_J117 uo U78 v78_1)) ∨ (¬ ((qI U78 44 3) + v78_1).toInt ≤ (qN U78 (qO U78 44 2) : Int) ∧ (qT U78 (qO U78 44 2) = 215 ∧ (∃ (b43 : Nat) (S40 : MS), vJ7_copyOf_59c91 U78 215 (qO U78 44 2) (if ((2 : Int32) * ((qI U78 44 3) + v78_1)) < (20000 : Int32) then ((2 : Int32) * ((qI U78 44 3) + v78_1)) else (20000 : Int32)) b43 S40 ∧ wfC S40 ∧ shx U78 S40 ∧ qT S40 b43 = 215 ∧ (∃ S44 : MS, S44 = wR S40 44 2 (some b43) ∧ qT S40 44 = 45 ∧ wfC S44 ∧ (v_X5_makeArray_J117 uo S44 v78_1)))))))
def vX5_makeArray (S : MS) (x1 : Int32) (uo : MS) : Prop := ((0 ≤ x1.toInt ∧ ((400 ≤ (qI S 44 5).toInt ∧ (v_X5_makeArray_J32 uo S)) ∨ (¬ 400 ≤ (qI S 44 5).toInt ∧ ((x1.toInt ≤ ((20000 : Int32) - (qI S 44 3)).toInt ∧ (∃ S7 : MS, S7 = wI S 44 5 ((qI S 44 5) + (1 : Int32)) ∧ qT S 44 = 45 ∧ wfC S7 ∧ (((qI S7 44 5).toInt < (qN S7 (qO S7 44 4) : Int) ∧ (v_X5_makeArray_J78 uo S7 x1)) ∨ (¬ (qI S7 44 5).toInt < (qN S7 (qO S7 44 4) : Int) ∧ (qT S7 (qO S7 44 4) = 216 ∧ (∃ (b55 : Nat) (S52 : MS), vJ7_copyOf_59c91 S7 216 (qO S7 44 4) ((2 : Int32) * (Int32.ofNat (qN S7 (qO S7 44 4)))) b55 S52 ∧ wfC S52 ∧ shx S7 S52 ∧ qT S52 b55 = 216 ∧ (∃ S56 : MS, S56 = wR S52 44 4 (some b55) ∧ qT S52 44 = 45 ∧ wfC S56 ∧ (v_X5_makeArray_J78 uo S56 x1)))))))) ∨ (¬ x1.toInt ≤ ((20000 : Int32) - (qI S 44 3)).toInt ∧ (v_X5_makeArray_J32 uo S)))))) ∨ (¬ 0 ≤ x1.toInt ∧ (∃ (S58 : MS), vX5_raise S (3 : Int32) S58 ∧ wfC S58 ∧ shy S S58 ∧ (uo = S58))))
set_option maxRecDepth 100000 in
theorem ru_X5_makeArray_J32 {ι : Type} {P Q : MS → Prop} {U32 : MS} (i0 : ι) (K : ∀ (i : ι) (uo : MS), v_X5_makeArray_J32 uo U32 → P uo) (h : w_X5_makeArray_J32 Q U32) : w_X5_makeArray_J32 (fun u => Q u ∧ P u) U32 := by
  unfold w_X5_makeArray_J32 at h ⊢
  intro y1_
  replace h := h y1_
  replace K := fun i uo z => K i uo ⟨y1_, z⟩
  intro S2 eS2 y2_ y3_
  replace h := h S2 eS2 y2_ y3_
  replace K := fun i uo z => K i uo ⟨S2, eS2, y2_, y3_, z⟩
  exact ⟨h, K i0 _ rfl⟩
set_option maxRecDepth 100000 in
theorem ru_X5_makeArray_J167 {ι : Type} {P Q : MS → Prop} {U167 : MS} {v167_1 : Int32} (i0 : ι) (K : ∀ (i : ι) (uo : MS), v_X5_makeArray_J167 uo U167 v167_1 → P uo) (h : w_X5_makeArray_J167 Q U167 v167_1) : w_X5_makeArray_J167 (fun u => Q u ∧ P u) U167 v167_1 := by
  unfold w_X5_makeArray_J167 at h ⊢
  intro y4_
  replace h := h y4_
  replace K := fun i uo z => K i uo ⟨y4_, z⟩
  intro S19 eS19 y5_ y6_
  replace h := h S19 eS19 y5_ y6_
  replace K := fun i uo z => K i uo ⟨S19, eS19, y5_, y6_, z⟩
  obtain ⟨Q9, h0, h⟩ := h
  refine ⟨_, ruX5_push h0, ?_⟩
  intro S21 q7_ y8_ y9_
  replace h := h S21 q7_.1 y8_ y9_
  replace K := fun i uo z => K i uo ⟨S21, q7_.2, y8_, y9_, z⟩
  intro S24 eS24 y10_ y11_
  replace h := h S24 eS24 y10_ y11_
  replace K := fun i uo z => K i uo ⟨S24, eS24, y10_, y11_, z⟩
  exact ⟨h, K i0 _ rfl⟩
set_option maxRecDepth 100000 in
theorem ru_X5_makeArray_L135 {ι : Type} {P Q : MS → Prop} : ∀ (n : Nat) {U135 : MS} {v135_1 : Int32} {v135_2 : Int32} (i0 : ι), (∀ (i : ι) (uo : MS), (∃ n8, v_X5_makeArray_L135 uo n8 U135 v135_1 v135_2) → P uo) → w_X5_makeArray_L135 Q n U135 v135_1 v135_2 → w_X5_makeArray_L135 (fun u => Q u ∧ P u) n U135 v135_1 v135_2 := by
  intro n
  induction n with
  | zero => intro U135 v135_1 v135_2 i0 K h; unfold w_X5_makeArray_L135 at h; exact h.elim
  | succ n ih =>
    intro U135 v135_1 v135_2 i0 K h
    unfold w_X5_makeArray_L135 at h ⊢
    replace K := fun (i : ι × Nat) uo (z : v_X5_makeArray_L135 uo (i.2 + 1) U135 v135_1 v135_2) => K i.1 uo ⟨i.2 + 1, z⟩
    have i00 := i0
    replace i0 : ι × Nat := (i0, 0)
    intro y12_
    replace h := h y12_
    replace K := fun i uo z => K i uo ⟨y12_, z⟩
    refine ⟨fun c => ?_, fun c => ?_⟩
    · replace h := h.1 c
      replace K := fun i uo z => K i uo (Or.inl ⟨c, z⟩)
      exact ru_X5_makeArray_J167 i0 K h
    · replace h := h.2 c
      replace K := fun i uo z => K i uo (Or.inr ⟨c, z⟩)
      refine ⟨fun c => ?_, fun c => ?_⟩
      · replace h := h.1 c
        replace K := fun i uo z => K i uo (Or.inl ⟨c, z⟩)
        exact ru_X5_makeArray_J167 i0 K h
      · replace h := h.2 c
        replace K := fun i uo z => K i uo (Or.inr ⟨c, z⟩)
        obtain ⟨g13_, h⟩ := h
        refine ⟨g13_, ?_⟩
        replace K := fun i uo z => K i uo ⟨g13_, z⟩
        intro S31 eS31 y14_ y15_
        replace h := h S31 eS31 y14_ y15_
        replace K := fun i uo z => K i uo ⟨S31, eS31, y14_, y15_, z⟩
        intro a32 ea32 
        replace h := h a32 ea32 
        replace K := fun i uo z => K i uo ⟨a32, ea32, z⟩
        exact ih i00 (fun i uo ⟨n8, z⟩ => K (i, n8) uo z) h
set_option maxRecDepth 100000 in
theorem ru_X5_makeArray_J117 {ι : Type} {P Q : MS → Prop} {U117 : MS} {v117_1 : Int32} (i0 : ι) (K : ∀ (i : ι) (uo : MS), v_X5_makeArray_J117 uo U117 v117_1 → P uo) (h : w_X5_makeArray_J117 Q U117 v117_1) : w_X5_makeArray_J117 (fun u => Q u ∧ P u) U117 v117_1 := by
  unfold w_X5_makeArray_J117 at h ⊢
  intro y16_
  replace h := h y16_
  replace K := fun i uo z => K i uo ⟨y16_, z⟩
  obtain ⟨g17_, h⟩ := h
  refine ⟨g17_, ?_⟩
  replace K := fun i uo z => K i uo ⟨g17_, z⟩
  intro S15 eS15 y18_ y19_
  replace h := h S15 eS15 y18_ y19_
  replace K := fun i uo z => K i uo ⟨S15, eS15, y18_, y19_, z⟩
  intro a16 ea16 
  replace h := h a16 ea16 
  replace K := fun i uo z => K i uo ⟨a16, ea16, z⟩
  obtain ⟨n9, h⟩ := h
  exact ⟨n9, ru_X5_makeArray_L135 n9 i0 K h⟩
set_option maxRecDepth 100000 in
theorem ru_X5_makeArray_J78 {ι : Type} {P Q : MS → Prop} {U78 : MS} {v78_1 : Int32} (i0 : ι) (K : ∀ (i : ι) (uo : MS), v_X5_makeArray_J78 uo U78 v78_1 → P uo) (h : w_X5_makeArray_J78 Q U78 v78_1) : w_X5_makeArray_J78 (fun u => Q u ∧ P u) U78 v78_1 := by
  unfold w_X5_makeArray_J78 at h ⊢
  intro y20_
  replace h := h y20_
  replace K := fun i uo z => K i uo ⟨y20_, z⟩
  refine ⟨fun c => ?_, fun c => ?_⟩
  · replace h := h.1 c
    replace K := fun i uo z => K i uo (Or.inl ⟨c, z⟩)
    exact ru_X5_makeArray_J117 i0 K h
  · replace h := h.2 c
    replace K := fun i uo z => K i uo (Or.inr ⟨c, z⟩)
    intro y21_
    replace h := h y21_
    replace K := fun i uo z => K i uo ⟨y21_, z⟩
    obtain ⟨Q9, h0, h⟩ := h
    refine ⟨_, ruJ7_copyOf_59c91 h0, ?_⟩
    intro b43 S40 q22_ y23_ y24_ y25_
    replace h := h b43 S40 q22_.1 y23_ y24_ y25_
    replace K := fun i uo z => K i uo ⟨b43, S40, q22_.2, y23_, y24_, y25_, z⟩
    intro S44 eS44 y26_ y27_
    replace h := h S44 eS44 y26_ y27_
    replace K := fun i uo z => K i uo ⟨S44, eS44, y26_, y27_, z⟩
    exact ru_X5_makeArray_J117 i0 K h
set_option maxRecDepth 100000 in
theorem ruX5_makeArray {S : MS} {x1 : Int32} {Q : MS → Prop} (h : wX5_makeArray S x1 Q) : wX5_makeArray S x1 (fun u => Q u ∧ vX5_makeArray S x1 u) := by
  have i0 : Unit := ()
  have K : ∀ (i : Unit) (uo : MS), vX5_makeArray S x1 uo → vX5_makeArray S x1 uo := fun _ _ z => z
  unfold wX5_makeArray at h ⊢
  refine ⟨fun c => ?_, fun c => ?_⟩
  · replace h := h.1 c
    replace K := fun i uo z => K i uo (Or.inl ⟨c, z⟩)
    refine ⟨fun c => ?_, fun c => ?_⟩
    · replace h := h.1 c
      replace K := fun i uo z => K i uo (Or.inl ⟨c, z⟩)
      exact ru_X5_makeArray_J32 i0 K h
    · replace h := h.2 c
      replace K := fun i uo z => K i uo (Or.inr ⟨c, z⟩)
      refine ⟨fun c => ?_, fun c => ?_⟩
      · replace h := h.1 c
        replace K := fun i uo z => K i uo (Or.inl ⟨c, z⟩)
        intro S7 eS7 y28_ y29_
        replace h := h S7 eS7 y28_ y29_
        replace K := fun i uo z => K i uo ⟨S7, eS7, y28_, y29_, z⟩
        refine ⟨fun c => ?_, fun c => ?_⟩
        · replace h := h.1 c
          replace K := fun i uo z => K i uo (Or.inl ⟨c, z⟩)
          exact ru_X5_makeArray_J78 i0 K h
        · replace h := h.2 c
          replace K := fun i uo z => K i uo (Or.inr ⟨c, z⟩)
          intro y30_
          replace h := h y30_
          replace K := fun i uo z => K i uo ⟨y30_, z⟩
          obtain ⟨Q9, h0, h⟩ := h
          refine ⟨_, ruJ7_copyOf_59c91 h0, ?_⟩
          intro b55 S52 q31_ y32_ y33_ y34_
          replace h := h b55 S52 q31_.1 y32_ y33_ y34_
          replace K := fun i uo z => K i uo ⟨b55, S52, q31_.2, y32_, y33_, y34_, z⟩
          intro S56 eS56 y35_ y36_
          replace h := h S56 eS56 y35_ y36_
          replace K := fun i uo z => K i uo ⟨S56, eS56, y35_, y36_, z⟩
          exact ru_X5_makeArray_J78 i0 K h
      · replace h := h.2 c
        replace K := fun i uo z => K i uo (Or.inr ⟨c, z⟩)
        exact ru_X5_makeArray_J32 i0 K h
  · replace h := h.2 c
    replace K := fun i uo z => K i uo (Or.inr ⟨c, z⟩)
    obtain ⟨Q9, h0, h⟩ := h
    refine ⟨_, ruX5_raise h0, ?_⟩
    intro S58 q37_ y38_ y39_
    replace h := h S58 q37_.1 y38_ y39_
    replace K := fun i uo z => K i uo ⟨S58, q37_.2, y38_, y39_, z⟩
    exact ⟨h, K i0 _ rfl⟩
set_option maxRecDepth 100000 in
theorem vw_X5_makeArray_J32 {uo : MS} {U32 : MS} (h : v_X5_makeArray_J32 uo U32) : w_X5_makeArray_J32 (fun u => u = uo) U32 := by
  unfold v_X5_makeArray_J32 at h
  unfold w_X5_makeArray_J32
  intro _
  replace h := h.2
  obtain ⟨v9, e9, h⟩ := h
  intro x9 d9 _ _
  have c9 : v9 = x9 := e9.trans d9.symm
  subst c9
  replace h := h.2.2
  exact h.symm
set_option maxRecDepth 100000 in
theorem vp_X5_makeArray_J32 {uo : MS} {P : MS → Prop} {U32 : MS} (h : v_X5_makeArray_J32 uo U32) (w : w_X5_makeArray_J32 P U32) : P uo := by
  unfold v_X5_makeArray_J32 at h
  unfold w_X5_makeArray_J32 at w
  obtain ⟨y1_, h⟩ := h
  replace w := w y1_
  obtain ⟨v9, e9, y2_, y3_, h⟩ := h
  replace w := w v9 e9 y2_ y3_
  rw [h]
  exact w
set_option maxRecDepth 100000 in
theorem vw_X5_makeArray_J167 {uo : MS} {U167 : MS} {v167_1 : Int32} (h : v_X5_makeArray_J167 uo U167 v167_1) : w_X5_makeArray_J167 (fun u => u = uo) U167 v167_1 := by
  unfold v_X5_makeArray_J167 at h
  unfold w_X5_makeArray_J167
  intro _
  replace h := h.2
  obtain ⟨v9, e9, h⟩ := h
  intro x9 d9 _ _
  have c9 : v9 = x9 := e9.trans d9.symm
  subst c9
  replace h := h.2.2
  obtain ⟨q9, z9, h⟩ := h
  refine ⟨_, vwX5_push z9, ?_⟩
  intro q8 d9 _ _
  subst d9
  replace h := h.2.2
  obtain ⟨v9, e9, h⟩ := h
  intro x9 d9 _ _
  have c9 : v9 = x9 := e9.trans d9.symm
  subst c9
  replace h := h.2.2
  exact h.symm
set_option maxRecDepth 100000 in
theorem vp_X5_makeArray_J167 {uo : MS} {P : MS → Prop} {U167 : MS} {v167_1 : Int32} (h : v_X5_makeArray_J167 uo U167 v167_1) (w : w_X5_makeArray_J167 P U167 v167_1) : P uo := by
  unfold v_X5_makeArray_J167 at h
  unfold w_X5_makeArray_J167 at w
  obtain ⟨y4_, h⟩ := h
  replace w := w y4_
  obtain ⟨v9, e9, y5_, y6_, h⟩ := h
  replace w := w v9 e9 y5_ y6_
  obtain ⟨q9, z9, y7_, y8_, h⟩ := h
  obtain ⟨Q9, w0, w⟩ := w
  replace w := w q9 (vpX5_push z9 w0) y7_ y8_
  obtain ⟨v9, e9, y9_, y10_, h⟩ := h
  replace w := w v9 e9 y9_ y10_
  rw [h]
  exact w
set_option maxRecDepth 100000 in
theorem vw_X5_makeArray_L135 {uo : MS} : ∀ (n : Nat) {U135 : MS} {v135_1 : Int32} {v135_2 : Int32}, v_X5_makeArray_L135 uo n U135 v135_1 v135_2 → w_X5_makeArray_L135 (fun u => u = uo) n U135 v135_1 v135_2 := by
  intro n
  induction n with
  | zero => intro U135 v135_1 v135_2 h; unfold v_X5_makeArray_L135 at h; exact h.elim
  | succ n ih =>
    intro U135 v135_1 v135_2 h
    unfold v_X5_makeArray_L135 at h
    unfold w_X5_makeArray_L135
    intro _
    replace h := h.2
    rcases h with ⟨c, h⟩ | ⟨c, h⟩
    · refine ⟨fun _ => ?_, fun c2 => absurd c c2⟩
      exact vw_X5_makeArray_J167 h
    · refine ⟨fun c2 => absurd c2 c, fun _ => ?_⟩
      rcases h with ⟨c, h⟩ | ⟨c, h⟩
      · refine ⟨fun _ => ?_, fun c2 => absurd c c2⟩
        exact vw_X5_makeArray_J167 h
      · refine ⟨fun c2 => absurd c2 c, fun _ => ?_⟩
        obtain ⟨g9, h⟩ := h
        refine ⟨g9, ?_⟩
        obtain ⟨v9, e9, h⟩ := h
        intro x9 d9 _ _
        have c9 : v9 = x9 := e9.trans d9.symm
        subst c9
        replace h := h.2.2
        obtain ⟨v9, e9, h⟩ := h
        intro x9 d9 
        have c9 : v9 = x9 := e9.trans d9.symm
        subst c9
        exact ih h
set_option maxRecDepth 100000 in
theorem vp_X5_makeArray_L135 {uo : MS} {P : MS → Prop} : ∀ (n m : Nat) {U135 : MS} {v135_1 : Int32} {v135_2 : Int32}, v_X5_makeArray_L135 uo n U135 v135_1 v135_2 → w_X5_makeArray_L135 P m U135 v135_1 v135_2 → P uo := by
  intro n
  induction n with
  | zero => intro m U135 v135_1 v135_2 h; unfold v_X5_makeArray_L135 at h; exact h.elim
  | succ n ih =>
    intro m U135 v135_1 v135_2 h w
    cases m with
    | zero => unfold w_X5_makeArray_L135 at w; exact w.elim
    | succ m =>
      unfold v_X5_makeArray_L135 at h
      unfold w_X5_makeArray_L135 at w
      obtain ⟨y11_, h⟩ := h
      replace w := w y11_
      rcases h with ⟨c, h⟩ | ⟨c, h⟩
      · replace w := w.1 c
        exact vp_X5_makeArray_J167 h w
      · replace w := w.2 c
        rcases h with ⟨c, h⟩ | ⟨c, h⟩
        · replace w := w.1 c
          exact vp_X5_makeArray_J167 h w
        · replace w := w.2 c
          replace h := h.2
          replace w := w.2
          obtain ⟨v9, e9, y12_, y13_, h⟩ := h
          replace w := w v9 e9 y12_ y13_
          obtain ⟨v9, e9, h⟩ := h
          replace w := w v9 e9 
          exact ih m h w
set_option maxRecDepth 100000 in
theorem vw_X5_makeArray_J117 {uo : MS} {U117 : MS} {v117_1 : Int32} (h : v_X5_makeArray_J117 uo U117 v117_1) : w_X5_makeArray_J117 (fun u => u = uo) U117 v117_1 := by
  unfold v_X5_makeArray_J117 at h
  unfold w_X5_makeArray_J117
  intro _
  replace h := h.2
  obtain ⟨g9, h⟩ := h
  refine ⟨g9, ?_⟩
  obtain ⟨v9, e9, h⟩ := h
  intro x9 d9 _ _
  have c9 : v9 = x9 := e9.trans d9.symm
  subst c9
  replace h := h.2.2
  obtain ⟨v9, e9, h⟩ := h
  intro x9 d9 
  have c9 : v9 = x9 := e9.trans d9.symm
  subst c9
  obtain ⟨n9, h⟩ := h
  exact ⟨n9, vw_X5_makeArray_L135 n9 h⟩
set_option maxRecDepth 100000 in
theorem vp_X5_makeArray_J117 {uo : MS} {P : MS → Prop} {U117 : MS} {v117_1 : Int32} (h : v_X5_makeArray_J117 uo U117 v117_1) (w : w_X5_makeArray_J117 P U117 v117_1) : P uo := by
  unfold v_X5_makeArray_J117 at h
  unfold w_X5_makeArray_J117 at w
  obtain ⟨y14_, h⟩ := h
  replace w := w y14_
  replace h := h.2
  replace w := w.2
  obtain ⟨v9, e9, y15_, y16_, h⟩ := h
  replace w := w v9 e9 y15_ y16_
  obtain ⟨v9, e9, h⟩ := h
  replace w := w v9 e9 
  obtain ⟨n9, h⟩ := h
  obtain ⟨n8, w⟩ := w
  exact vp_X5_makeArray_L135 n9 n8 h w
set_option maxRecDepth 100000 in
theorem vw_X5_makeArray_J78 {uo : MS} {U78 : MS} {v78_1 : Int32} (h : v_X5_makeArray_J78 uo U78 v78_1) : w_X5_makeArray_J78 (fun u => u = uo) U78 v78_1 := by
  unfold v_X5_makeArray_J78 at h
  unfold w_X5_makeArray_J78
  intro _
  replace h := h.2
  rcases h with ⟨c, h⟩ | ⟨c, h⟩
  · refine ⟨fun _ => ?_, fun c2 => absurd c c2⟩
    exact vw_X5_makeArray_J117 h
  · refine ⟨fun c2 => absurd c2 c, fun _ => ?_⟩
    intro _
    replace h := h.2
    obtain ⟨p9, q9, z9, h⟩ := h
    refine ⟨_, vwJ7_copyOf_59c91 z9, ?_⟩
    rintro p8 q8 ⟨d8, d9⟩ _ _ _
    subst d8
    subst d9
    replace h := h.2.2.2
    obtain ⟨v9, e9, h⟩ := h
    intro x9 d9 _ _
    have c9 : v9 = x9 := e9.trans d9.symm
    subst c9
    replace h := h.2.2
    exact vw_X5_makeArray_J117 h
set_option maxRecDepth 100000 in
theorem vp_X5_makeArray_J78 {uo : MS} {P : MS → Prop} {U78 : MS} {v78_1 : Int32} (h : v_X5_makeArray_J78 uo U78 v78_1) (w : w_X5_makeArray_J78 P U78 v78_1) : P uo := by
  unfold v_X5_makeArray_J78 at h
  unfold w_X5_makeArray_J78 at w
  obtain ⟨y17_, h⟩ := h
  replace w := w y17_
  rcases h with ⟨c, h⟩ | ⟨c, h⟩
  · replace w := w.1 c
    exact vp_X5_makeArray_J117 h w
  · replace w := w.2 c
    obtain ⟨y18_, h⟩ := h
    replace w := w y18_
    obtain ⟨p9, q9, z9, y19_, y20_, y21_, h⟩ := h
    obtain ⟨Q9, w0, w⟩ := w
    replace w := w p9 q9 (vpJ7_copyOf_59c91 z9 w0) y19_ y20_ y21_
    obtain ⟨v9, e9, y22_, y23_, h⟩ := h
    replace w := w v9 e9 y22_ y23_
    exact vp_X5_makeArray_J117 h w
set_option maxRecDepth 100000 in
theorem vwX5_makeArray {S : MS} {x1 : Int32} {uo : MS} (h : vX5_makeArray S x1 uo) : wX5_makeArray S x1 (fun u => u = uo) := by
  unfold vX5_makeArray at h
  unfold wX5_makeArray
  rcases h with ⟨c, h⟩ | ⟨c, h⟩
  · refine ⟨fun _ => ?_, fun c2 => absurd c c2⟩
    rcases h with ⟨c, h⟩ | ⟨c, h⟩
    · refine ⟨fun _ => ?_, fun c2 => absurd c c2⟩
      exact vw_X5_makeArray_J32 h
    · refine ⟨fun c2 => absurd c2 c, fun _ => ?_⟩
      rcases h with ⟨c, h⟩ | ⟨c, h⟩
      · refine ⟨fun _ => ?_, fun c2 => absurd c c2⟩
        obtain ⟨v9, e9, h⟩ := h
        intro x9 d9 _ _
        have c9 : v9 = x9 := e9.trans d9.symm
        subst c9
        replace h := h.2.2
        rcases h with ⟨c, h⟩ | ⟨c, h⟩
        · refine ⟨fun _ => ?_, fun c2 => absurd c c2⟩
          exact vw_X5_makeArray_J78 h
        · refine ⟨fun c2 => absurd c2 c, fun _ => ?_⟩
          intro _
          replace h := h.2
          obtain ⟨p9, q9, z9, h⟩ := h
          refine ⟨_, vwJ7_copyOf_59c91 z9, ?_⟩
          rintro p8 q8 ⟨d8, d9⟩ _ _ _
          subst d8
          subst d9
          replace h := h.2.2.2
          obtain ⟨v9, e9, h⟩ := h
          intro x9 d9 _ _
          have c9 : v9 = x9 := e9.trans d9.symm
          subst c9
          replace h := h.2.2
          exact vw_X5_makeArray_J78 h
      · refine ⟨fun c2 => absurd c2 c, fun _ => ?_⟩
        exact vw_X5_makeArray_J32 h
  · refine ⟨fun c2 => absurd c2 c, fun _ => ?_⟩
    obtain ⟨q9, z9, h⟩ := h
    refine ⟨_, vwX5_raise z9, ?_⟩
    intro q8 d9 _ _
    subst d9
    replace h := h.2.2
    exact h.symm
set_option maxRecDepth 100000 in
theorem vpX5_makeArray {S : MS} {x1 : Int32} {uo : MS} {P : MS → Prop} (h : vX5_makeArray S x1 uo) (w : wX5_makeArray S x1 P) : P uo := by
  unfold vX5_makeArray at h
  unfold wX5_makeArray at w
  rcases h with ⟨c, h⟩ | ⟨c, h⟩
  · replace w := w.1 c
    rcases h with ⟨c, h⟩ | ⟨c, h⟩
    · replace w := w.1 c
      exact vp_X5_makeArray_J32 h w
    · replace w := w.2 c
      rcases h with ⟨c, h⟩ | ⟨c, h⟩
      · replace w := w.1 c
        obtain ⟨v9, e9, y24_, y25_, h⟩ := h
        replace w := w v9 e9 y24_ y25_
        rcases h with ⟨c, h⟩ | ⟨c, h⟩
        · replace w := w.1 c
          exact vp_X5_makeArray_J78 h w
        · replace w := w.2 c
          obtain ⟨y26_, h⟩ := h
          replace w := w y26_
          obtain ⟨p9, q9, z9, y27_, y28_, y29_, h⟩ := h
          obtain ⟨Q9, w0, w⟩ := w
          replace w := w p9 q9 (vpJ7_copyOf_59c91 z9 w0) y27_ y28_ y29_
          obtain ⟨v9, e9, y30_, y31_, h⟩ := h
          replace w := w v9 e9 y30_ y31_
          exact vp_X5_makeArray_J78 h w
      · replace w := w.2 c
        exact vp_X5_makeArray_J32 h w
  · replace w := w.2 c
    obtain ⟨q9, z9, y32_, y33_, h⟩ := h
    obtain ⟨Q9, w0, w⟩ := w
    replace w := w q9 (vpX5_raise z9 w0) y32_ y33_
    rw [h]
    exact w
def vX5_tellLength (S : MS) (y1 : Int64) (uo : MS) : Prop := (((lg_cmp y1 0).toInt = 0 ∧ (∃ (S12 : MS), vX5_raise S (1 : Int32) S12 ∧ wfC S12 ∧ shy S S12 ∧ (uo = S12))) ∨ (¬ (lg_cmp y1 0).toInt = 0 ∧ (d_X5_lengthOf S (y1.toInt32) ∧ (∃ (S7 : MS), vX5_push S ((fX5_lengthOf S (y1.toInt32)).toInt64) S7 ∧ wfC S7 ∧ shy S S7 ∧ (∃ S10 : MS, S10 = wI S7 44 13 ((qI S7 44 13) + (1 : Int32)) ∧ qT S7 44 = 45 ∧ wfC S10 ∧ (uo = S10))))))
set_option maxRecDepth 100000 in
theorem ruX5_tellLength {S : MS} {y1 : Int64} {Q : MS → Prop} (h : wX5_tellLength S y1 Q) : wX5_tellLength S y1 (fun u => Q u ∧ vX5_tellLength S y1 u) := by
  have i0 : Unit := ()
  have K : ∀ (i : Unit) (uo : MS), vX5_tellLength S y1 uo → vX5_tellLength S y1 uo := fun _ _ z => z
  unfold wX5_tellLength at h ⊢
  refine ⟨fun c => ?_, fun c => ?_⟩
  · replace h := h.1 c
    replace K := fun i uo z => K i uo (Or.inl ⟨c, z⟩)
    obtain ⟨Q9, h0, h⟩ := h
    refine ⟨_, ruX5_raise h0, ?_⟩
    intro S12 q1_ y2_ y3_
    replace h := h S12 q1_.1 y2_ y3_
    replace K := fun i uo z => K i uo ⟨S12, q1_.2, y2_, y3_, z⟩
    exact ⟨h, K i0 _ rfl⟩
  · replace h := h.2 c
    replace K := fun i uo z => K i uo (Or.inr ⟨c, z⟩)
    obtain ⟨g4_, h⟩ := h
    refine ⟨g4_, ?_⟩
    replace K := fun i uo z => K i uo ⟨g4_, z⟩
    obtain ⟨Q9, h0, h⟩ := h
    refine ⟨_, ruX5_push h0, ?_⟩
    intro S7 q5_ y6_ y7_
    replace h := h S7 q5_.1 y6_ y7_
    replace K := fun i uo z => K i uo ⟨S7, q5_.2, y6_, y7_, z⟩
    intro S10 eS10 y8_ y9_
    replace h := h S10 eS10 y8_ y9_
    replace K := fun i uo z => K i uo ⟨S10, eS10, y8_, y9_, z⟩
    exact ⟨h, K i0 _ rfl⟩
set_option maxRecDepth 100000 in
theorem vwX5_tellLength {S : MS} {y1 : Int64} {uo : MS} (h : vX5_tellLength S y1 uo) : wX5_tellLength S y1 (fun u => u = uo) := by
  unfold vX5_tellLength at h
  unfold wX5_tellLength
  rcases h with ⟨c, h⟩ | ⟨c, h⟩
  · refine ⟨fun _ => ?_, fun c2 => absurd c c2⟩
    obtain ⟨q9, z9, h⟩ := h
    refine ⟨_, vwX5_raise z9, ?_⟩
    intro q8 d9 _ _
    subst d9
    replace h := h.2.2
    exact h.symm
  · refine ⟨fun c2 => absurd c2 c, fun _ => ?_⟩
    obtain ⟨g9, h⟩ := h
    refine ⟨g9, ?_⟩
    obtain ⟨q9, z9, h⟩ := h
    refine ⟨_, vwX5_push z9, ?_⟩
    intro q8 d9 _ _
    subst d9
    replace h := h.2.2
    obtain ⟨v9, e9, h⟩ := h
    intro x9 d9 _ _
    have c9 : v9 = x9 := e9.trans d9.symm
    subst c9
    replace h := h.2.2
    exact h.symm
set_option maxRecDepth 100000 in
theorem vpX5_tellLength {S : MS} {y1 : Int64} {uo : MS} {P : MS → Prop} (h : vX5_tellLength S y1 uo) (w : wX5_tellLength S y1 P) : P uo := by
  unfold vX5_tellLength at h
  unfold wX5_tellLength at w
  rcases h with ⟨c, h⟩ | ⟨c, h⟩
  · replace w := w.1 c
    obtain ⟨q9, z9, y1_, y2_, h⟩ := h
    obtain ⟨Q9, w0, w⟩ := w
    replace w := w q9 (vpX5_raise z9 w0) y1_ y2_
    rw [h]
    exact w
  · replace w := w.2 c
    replace h := h.2
    replace w := w.2
    obtain ⟨q9, z9, y3_, y4_, h⟩ := h
    obtain ⟨Q9, w0, w⟩ := w
    replace w := w q9 (vpX5_push z9 w0) y3_ y4_
    obtain ⟨v9, e9, y5_, y6_, h⟩ := h
    replace w := w v9 e9 y5_ y6_
    rw [h]
    exact w
def v_X5_useElement_J54 (uo : MS) (U54 : MS) : Prop := (wfC U54 ∧ (∃ (S13 : MS), vX5_raise U54 (2 : Int32) S13 ∧ wfC S13 ∧ shy U54 S13 ∧ (uo = S13)))
def v_X5_useElement_J113 (uo : MS) (U113 : MS) : Prop := (wfC U113 ∧ (∃ S26 : MS, S26 = wI U113 44 13 ((qI U113 44 13) + (1 : Int32)) ∧ qT U113 44 = 45 ∧ wfC S26 ∧ (uo = S26)))
def v_X5_useElement_J15 (uo : MS) (U15 : MS) (t15_0 : Int32) (v15_1 : Int32) : Prop := (wfC U15 ∧ (∃ (r2 : Int64) (S3 : MS), vX5_pop U15 r2 S3 ∧ wfC S3 ∧ shy U15 S3 ∧ (∃ a5 : Int32, a5 = (r2.toInt32) ∧ (∃ (r7 : Int64) (S8 : MS), vX5_pop S3 r7 S8 ∧ wfC S8 ∧ shy S3 S8 ∧ (∃ a10 : Int32, a10 = (r7.toInt32) ∧ ((a10.toInt = 0 ∧ (∃ (S43 : MS), vX5_raise S8 (1 : Int32) S43 ∧ wfC S43 ∧ shy S8 S43 ∧ (uo = S43))) ∨ (¬ a10.toInt = 0 ∧ ((a5.toInt < 0 ∧ (v_X5_useElement_J54 uo S8)) ∨ (¬ a5.toInt < 0 ∧ (d_X5_lengthOf S8 a10 ∧ ((a5.toInt < (fX5_lengthOf S8 a10).toInt ∧ (d_X5_arrayStart S8 a10 ∧ (∃ a24 : Int32, a24 = ((fX5_arrayStart S8 a10) + a5) ∧ ((v15_1.toInt = 46 ∧ (∃ (r36 : Int32) (S37 : MS), vX5_heapAt S8 a24 r36 S37 ∧ wfC S37 ∧ shy S8 S37 ∧ (∃ (S40 : MS), vX5_push S37 (r36.toInt64) S40 ∧ wfC S40 ∧ shy S37 S40 ∧ (v_X5_useElement_J113 uo S40)))) ∨ (¬ v15_1.toInt = 46 ∧ ((a24.toInt < 0 ∧ (v_X5_useElement_J113 uo S8)) ∨ (¬ a24.toInt < 0 ∧ (((qN S8 (qO S8 44 2) : Int) ≤ a24.toInt ∧ (v_X5_useElement_J113 uo S8)) ∨ (¬ (qN S8 (qO S8 44 2) : Int) ≤ a24.toInt ∧ (((0 : Int) ≤ a24.toInt ∧ a24.toInt < (qN S8 (qO S8 44 2) : Int)) ∧ (∃ S34 : MS, S34 = wI S8 (qO S8 44 2) a24.toInt.toNat t15_0 ∧ qT S8 (qO S8 44 2) = 215 ∧ wfC S34 ∧ (v_X5_useElement_J113 uo S34)))))))))))) ∨ (¬ a5.toInt < (fX5_lengthOf S8 a10).toInt ∧ (v_X5_useElement_J54 uo S8)))))))))))))
def vX5_useElement (S : MS) (x1 : Int32) (uo : MS) : Prop := ((x1.toInt = 79 ∧ (∃ (r47 : Int64) (S48 : MS), vX5_pop S r47 S48 ∧ wfC S48 ∧ shy S S48 ∧ (v_X5_useElement_J15 uo S48 (r47.toInt32) x1))) ∨ (¬ x1.toInt = 79 ∧ (v_X5_useElement_J15 uo S 0 x1)))
set_option maxRecDepth 100000 in
theorem ru_X5_useElement_J54 {ι : Type} {P Q : MS → Prop} {U54 : MS} (i0 : ι) (K : ∀ (i : ι) (uo : MS), v_X5_useElement_J54 uo U54 → P uo) (h : w_X5_useElement_J54 Q U54) : w_X5_useElement_J54 (fun u => Q u ∧ P u) U54 := by
  unfold w_X5_useElement_J54 at h ⊢
  intro y1_
  replace h := h y1_
  replace K := fun i uo z => K i uo ⟨y1_, z⟩
  obtain ⟨Q9, h0, h⟩ := h
  refine ⟨_, ruX5_raise h0, ?_⟩
  intro S13 q2_ y3_ y4_
  replace h := h S13 q2_.1 y3_ y4_
  replace K := fun i uo z => K i uo ⟨S13, q2_.2, y3_, y4_, z⟩
  exact ⟨h, K i0 _ rfl⟩
set_option maxRecDepth 100000 in
theorem ru_X5_useElement_J113 {ι : Type} {P Q : MS → Prop} {U113 : MS} (i0 : ι) (K : ∀ (i : ι) (uo : MS), v_X5_useElement_J113 uo U113 → P uo) (h : w_X5_useElement_J113 Q U113) : w_X5_useElement_J113 (fun u => Q u ∧ P u) U113 := by
  unfold w_X5_useElement_J113 at h ⊢
  intro y5_
  replace h := h y5_
  replace K := fun i uo z => K i uo ⟨y5_, z⟩
  intro S26 eS26 y6_ y7_
  replace h := h S26 eS26 y6_ y7_
  replace K := fun i uo z => K i uo ⟨S26, eS26, y6_, y7_, z⟩
  exact ⟨h, K i0 _ rfl⟩
set_option maxRecDepth 100000 in
theorem ru_X5_useElement_J15 {ι : Type} {P Q : MS → Prop} {U15 : MS} {t15_0 : Int32} {v15_1 : Int32} (i0 : ι) (K : ∀ (i : ι) (uo : MS), v_X5_useElement_J15 uo U15 t15_0 v15_1 → P uo) (h : w_X5_useElement_J15 Q U15 t15_0 v15_1) : w_X5_useElement_J15 (fun u => Q u ∧ P u) U15 t15_0 v15_1 := by
  unfold w_X5_useElement_J15 at h ⊢
  intro y8_
  replace h := h y8_
  replace K := fun i uo z => K i uo ⟨y8_, z⟩
  obtain ⟨Q9, h0, h⟩ := h
  refine ⟨_, ruX5_pop h0, ?_⟩
  intro r2 S3 q9_ y10_ y11_
  replace h := h r2 S3 q9_.1 y10_ y11_
  replace K := fun i uo z => K i uo ⟨r2, S3, q9_.2, y10_, y11_, z⟩
  intro a5 ea5 
  replace h := h a5 ea5 
  replace K := fun i uo z => K i uo ⟨a5, ea5, z⟩
  obtain ⟨Q9, h0, h⟩ := h
  refine ⟨_, ruX5_pop h0, ?_⟩
  intro r7 S8 q12_ y13_ y14_
  replace h := h r7 S8 q12_.1 y13_ y14_
  replace K := fun i uo z => K i uo ⟨r7, S8, q12_.2, y13_, y14_, z⟩
  intro a10 ea10 
  replace h := h a10 ea10 
  replace K := fun i uo z => K i uo ⟨a10, ea10, z⟩
  refine ⟨fun c => ?_, fun c => ?_⟩
  · replace h := h.1 c
    replace K := fun i uo z => K i uo (Or.inl ⟨c, z⟩)
    obtain ⟨Q9, h0, h⟩ := h
    refine ⟨_, ruX5_raise h0, ?_⟩
    intro S43 q15_ y16_ y17_
    replace h := h S43 q15_.1 y16_ y17_
    replace K := fun i uo z => K i uo ⟨S43, q15_.2, y16_, y17_, z⟩
    exact ⟨h, K i0 _ rfl⟩
  · replace h := h.2 c
    replace K := fun i uo z => K i uo (Or.inr ⟨c, z⟩)
    refine ⟨fun c => ?_, fun c => ?_⟩
    · replace h := h.1 c
      replace K := fun i uo z => K i uo (Or.inl ⟨c, z⟩)
      exact ru_X5_useElement_J54 i0 K h
    · replace h := h.2 c
      replace K := fun i uo z => K i uo (Or.inr ⟨c, z⟩)
      obtain ⟨g18_, h⟩ := h
      refine ⟨g18_, ?_⟩
      replace K := fun i uo z => K i uo ⟨g18_, z⟩
      refine ⟨fun c => ?_, fun c => ?_⟩
      · replace h := h.1 c
        replace K := fun i uo z => K i uo (Or.inl ⟨c, z⟩)
        obtain ⟨g19_, h⟩ := h
        refine ⟨g19_, ?_⟩
        replace K := fun i uo z => K i uo ⟨g19_, z⟩
        intro a24 ea24 
        replace h := h a24 ea24 
        replace K := fun i uo z => K i uo ⟨a24, ea24, z⟩
        refine ⟨fun c => ?_, fun c => ?_⟩
        · replace h := h.1 c
          replace K := fun i uo z => K i uo (Or.inl ⟨c, z⟩)
          obtain ⟨Q9, h0, h⟩ := h
          refine ⟨_, ruX5_heapAt h0, ?_⟩
          intro r36 S37 q20_ y21_ y22_
          replace h := h r36 S37 q20_.1 y21_ y22_
          replace K := fun i uo z => K i uo ⟨r36, S37, q20_.2, y21_, y22_, z⟩
          obtain ⟨Q9, h0, h⟩ := h
          refine ⟨_, ruX5_push h0, ?_⟩
          intro S40 q23_ y24_ y25_
          replace h := h S40 q23_.1 y24_ y25_
          replace K := fun i uo z => K i uo ⟨S40, q23_.2, y24_, y25_, z⟩
          exact ru_X5_useElement_J113 i0 K h
        · replace h := h.2 c
          replace K := fun i uo z => K i uo (Or.inr ⟨c, z⟩)
          refine ⟨fun c => ?_, fun c => ?_⟩
          · replace h := h.1 c
            replace K := fun i uo z => K i uo (Or.inl ⟨c, z⟩)
            exact ru_X5_useElement_J113 i0 K h
          · replace h := h.2 c
            replace K := fun i uo z => K i uo (Or.inr ⟨c, z⟩)
            refine ⟨fun c => ?_, fun c => ?_⟩
            · replace h := h.1 c
              replace K := fun i uo z => K i uo (Or.inl ⟨c, z⟩)
              exact ru_X5_useElement_J113 i0 K h
            · replace h := h.2 c
              replace K := fun i uo z => K i uo (Or.inr ⟨c, z⟩)
              obtain ⟨g26_, h⟩ := h
              refine ⟨g26_, ?_⟩
              replace K := fun i uo z => K i uo ⟨g26_, z⟩
              intro S34 eS34 y27_ y28_
              replace h := h S34 eS34 y27_ y28_
              replace K := fun i uo z => K i uo ⟨S34, eS34, y27_, y28_, z⟩
              exact ru_X5_useElement_J113 i0 K h
      · replace h := h.2 c
        replace K := fun i uo z => K i uo (Or.inr ⟨c, z⟩)
        exact ru_X5_useElement_J54 i0 K h
set_option maxRecDepth 100000 in
theorem ruX5_useElement {S : MS} {x1 : Int32} {Q : MS → Prop} (h : wX5_useElement S x1 Q) : wX5_useElement S x1 (fun u => Q u ∧ vX5_useElement S x1 u) := by
  have i0 : Unit := ()
  have K : ∀ (i : Unit) (uo : MS), vX5_useElement S x1 uo → vX5_useElement S x1 uo := fun _ _ z => z
  unfold wX5_useElement at h ⊢
  refine ⟨fun c => ?_, fun c => ?_⟩
  · replace h := h.1 c
    replace K := fun i uo z => K i uo (Or.inl ⟨c, z⟩)
    obtain ⟨Q9, h0, h⟩ := h
    refine ⟨_, ruX5_pop h0, ?_⟩
    intro r47 S48 q29_ y30_ y31_
    replace h := h r47 S48 q29_.1 y30_ y31_
    replace K := fun i uo z => K i uo ⟨r47, S48, q29_.2, y30_, y31_, z⟩
    exact ru_X5_useElement_J15 i0 K h
  · replace h := h.2 c
    replace K := fun i uo z => K i uo (Or.inr ⟨c, z⟩)
    exact ru_X5_useElement_J15 i0 K h
set_option maxRecDepth 100000 in
theorem vw_X5_useElement_J54 {uo : MS} {U54 : MS} (h : v_X5_useElement_J54 uo U54) : w_X5_useElement_J54 (fun u => u = uo) U54 := by
  unfold v_X5_useElement_J54 at h
  unfold w_X5_useElement_J54
  intro _
  replace h := h.2
  obtain ⟨q9, z9, h⟩ := h
  refine ⟨_, vwX5_raise z9, ?_⟩
  intro q8 d9 _ _
  subst d9
  replace h := h.2.2
  exact h.symm
set_option maxRecDepth 100000 in
theorem vp_X5_useElement_J54 {uo : MS} {P : MS → Prop} {U54 : MS} (h : v_X5_useElement_J54 uo U54) (w : w_X5_useElement_J54 P U54) : P uo := by
  unfold v_X5_useElement_J54 at h
  unfold w_X5_useElement_J54 at w
  obtain ⟨y1_, h⟩ := h
  replace w := w y1_
  obtain ⟨q9, z9, y2_, y3_, h⟩ := h
  obtain ⟨Q9, w0, w⟩ := w
  replace w := w q9 (vpX5_raise z9 w0) y2_ y3_
  rw [h]
  exact w
set_option maxRecDepth 100000 in
theorem vw_X5_useElement_J113 {uo : MS} {U113 : MS} (h : v_X5_useElement_J113 uo U113) : w_X5_useElement_J113 (fun u => u = uo) U113 := by
  unfold v_X5_useElement_J113 at h
  unfold w_X5_useElement_J113
  intro _
  replace h := h.2
  obtain ⟨v9, e9, h⟩ := h
  intro x9 d9 _ _
  have c9 : v9 = x9 := e9.trans d9.symm
  subst c9
  replace h := h.2.2
  exact h.symm
set_option maxRecDepth 100000 in
theorem vp_X5_useElement_J113 {uo : MS} {P : MS → Prop} {U113 : MS} (h : v_X5_useElement_J113 uo U113) (w : w_X5_useElement_J113 P U113) : P uo := by
  unfold v_X5_useElement_J113 at h
  unfold w_X5_useElement_J113 at w
  obtain ⟨y4_, h⟩ := h
  replace w := w y4_
  obtain ⟨v9, e9, y5_, y6_, h⟩ := h
  replace w := w v9 e9 y5_ y6_
  rw [h]
  exact w
set_option maxRecDepth 100000 in
theorem vw_X5_useElement_J15 {uo : MS} {U15 : MS} {t15_0 : Int32} {v15_1 : Int32} (h : v_X5_useElement_J15 uo U15 t15_0 v15_1) : w_X5_useElement_J15 (fun u => u = uo) U15 t15_0 v15_1 := by
  unfold v_X5_useElement_J15 at h
  unfold w_X5_useElement_J15
  intro _
  replace h := h.2
  obtain ⟨p9, q9, z9, h⟩ := h
  refine ⟨_, vwX5_pop z9, ?_⟩
  rintro p8 q8 ⟨d8, d9⟩ _ _
  subst d8
  subst d9
  replace h := h.2.2
  obtain ⟨v9, e9, h⟩ := h
  intro x9 d9 
  have c9 : v9 = x9 := e9.trans d9.symm
  subst c9
  obtain ⟨p9, q9, z9, h⟩ := h
  refine ⟨_, vwX5_pop z9, ?_⟩
  rintro p8 q8 ⟨d8, d9⟩ _ _
  subst d8
  subst d9
  replace h := h.2.2
  obtain ⟨v9, e9, h⟩ := h
  intro x9 d9 
  have c9 : v9 = x9 := e9.trans d9.symm
  subst c9
  rcases h with ⟨c, h⟩ | ⟨c, h⟩
  · refine ⟨fun _ => ?_, fun c2 => absurd c c2⟩
    obtain ⟨q9, z9, h⟩ := h
    refine ⟨_, vwX5_raise z9, ?_⟩
    intro q8 d9 _ _
    subst d9
    replace h := h.2.2
    exact h.symm
  · refine ⟨fun c2 => absurd c2 c, fun _ => ?_⟩
    rcases h with ⟨c, h⟩ | ⟨c, h⟩
    · refine ⟨fun _ => ?_, fun c2 => absurd c c2⟩
      exact vw_X5_useElement_J54 h
    · refine ⟨fun c2 => absurd c2 c, fun _ => ?_⟩
      obtain ⟨g9, h⟩ := h
      refine ⟨g9, ?_⟩
      rcases h with ⟨c, h⟩ | ⟨c, h⟩
      · refine ⟨fun _ => ?_, fun c2 => absurd c c2⟩
        obtain ⟨g9, h⟩ := h
        refine ⟨g9, ?_⟩
        obtain ⟨v9, e9, h⟩ := h
        intro x9 d9 
        have c9 : v9 = x9 := e9.trans d9.symm
        subst c9
        rcases h with ⟨c, h⟩ | ⟨c, h⟩
        · refine ⟨fun _ => ?_, fun c2 => absurd c c2⟩
          obtain ⟨p9, q9, z9, h⟩ := h
          refine ⟨_, vwX5_heapAt z9, ?_⟩
          rintro p8 q8 ⟨d8, d9⟩ _ _
          subst d8
          subst d9
          replace h := h.2.2
          obtain ⟨q9, z9, h⟩ := h
          refine ⟨_, vwX5_push z9, ?_⟩
          intro q8 d9 _ _
          subst d9
          replace h := h.2.2
          exact vw_X5_useElement_J113 h
        · refine ⟨fun c2 => absurd c2 c, fun _ => ?_⟩
          rcases h with ⟨c, h⟩ | ⟨c, h⟩
          · refine ⟨fun _ => ?_, fun c2 => absurd c c2⟩
            exact vw_X5_useElement_J113 h
          · refine ⟨fun c2 => absurd c2 c, fun _ => ?_⟩
            rcases h with ⟨c, h⟩ | ⟨c, h⟩
            · refine ⟨fun _ => ?_, fun c2 => absurd c c2⟩
              exact vw_X5_useElement_J113 h
            · refine ⟨fun c2 => absurd c2 c, fun _ => ?_⟩
              obtain ⟨g9, h⟩ := h
              refine ⟨g9, ?_⟩
              obtain ⟨v9, e9, h⟩ := h
              intro x9 d9 _ _
              have c9 : v9 = x9 := e9.trans d9.symm
              subst c9
              replace h := h.2.2
              exact vw_X5_useElement_J113 h
      · refine ⟨fun c2 => absurd c2 c, fun _ => ?_⟩
        exact vw_X5_useElement_J54 h
set_option maxRecDepth 100000 in
theorem vp_X5_useElement_J15 {uo : MS} {P : MS → Prop} {U15 : MS} {t15_0 : Int32} {v15_1 : Int32} (h : v_X5_useElement_J15 uo U15 t15_0 v15_1) (w : w_X5_useElement_J15 P U15 t15_0 v15_1) : P uo := by
  unfold v_X5_useElement_J15 at h
  unfold w_X5_useElement_J15 at w
  obtain ⟨y7_, h⟩ := h
  replace w := w y7_
  obtain ⟨p9, q9, z9, y8_, y9_, h⟩ := h
  obtain ⟨Q9, w0, w⟩ := w
  replace w := w p9 q9 (vpX5_pop z9 w0) y8_ y9_
  obtain ⟨v9, e9, h⟩ := h
  replace w := w v9 e9 
  obtain ⟨p9, q9, z9, y10_, y11_, h⟩ := h
  obtain ⟨Q9, w0, w⟩ := w
  replace w := w p9 q9 (vpX5_pop z9 w0) y10_ y11_
  obtain ⟨v9, e9, h⟩ := h
  replace w := w v9 e9 
  rcases h with ⟨c, h⟩ | ⟨c, h⟩
  · replace w := w.1 c
    obtain ⟨q9, z9, y12_, y13_, h⟩ := h
    obtain ⟨Q9, w0, w⟩ := w
    replace w := w q9 (vpX5_raise z9 w0) y12_ y13_
    rw [h]
    exact w
  · replace w := w.2 c
    rcases h with ⟨c, h⟩ | ⟨c, h⟩
    · replace w := w.1 c
      exact vp_X5_useElement_J54 h w
    · replace w := w.2 c
      replace h := h.2
      replace w := w.2
      rcases h with ⟨c, h⟩ | ⟨c, h⟩
      · replace w := w.1 c
        replace h := h.2
        replace w := w.2
        obtain ⟨v9, e9, h⟩ := h
        replace w := w v9 e9 
        rcases h with ⟨c, h⟩ | ⟨c, h⟩
        · replace w := w.1 c
          obtain ⟨p9, q9, z9, y14_, y15_, h⟩ := h
          obtain ⟨Q9, w0, w⟩ := w
          replace w := w p9 q9 (vpX5_heapAt z9 w0) y14_ y15_
          obtain ⟨q9, z9, y16_, y17_, h⟩ := h
          obtain ⟨Q9, w0, w⟩ := w
          replace w := w q9 (vpX5_push z9 w0) y16_ y17_
          exact vp_X5_useElement_J113 h w
        · replace w := w.2 c
          rcases h with ⟨c, h⟩ | ⟨c, h⟩
          · replace w := w.1 c
            exact vp_X5_useElement_J113 h w
          · replace w := w.2 c
            rcases h with ⟨c, h⟩ | ⟨c, h⟩
            · replace w := w.1 c
              exact vp_X5_useElement_J113 h w
            · replace w := w.2 c
              replace h := h.2
              replace w := w.2
              obtain ⟨v9, e9, y18_, y19_, h⟩ := h
              replace w := w v9 e9 y18_ y19_
              exact vp_X5_useElement_J113 h w
      · replace w := w.2 c
        exact vp_X5_useElement_J54 h w
set_option maxRecDepth 100000 in
theorem vwX5_useElement {S : MS} {x1 : Int32} {uo : MS} (h : vX5_useElement S x1 uo) : wX5_useElement S x1 (fun u => u = uo) := by
  unfold vX5_useElement at h
  unfold wX5_useElement
  rcases h with ⟨c, h⟩ | ⟨c, h⟩
  · refine ⟨fun _ => ?_, fun c2 => absurd c c2⟩
    obtain ⟨p9, q9, z9, h⟩ := h
    refine ⟨_, vwX5_pop z9, ?_⟩
    rintro p8 q8 ⟨d8, d9⟩ _ _
    subst d8
    subst d9
    replace h := h.2.2
    exact vw_X5_useElement_J15 h
  · refine ⟨fun c2 => absurd c2 c, fun _ => ?_⟩
    exact vw_X5_useElement_J15 h
set_option maxRecDepth 100000 in
theorem vpX5_useElement {S : MS} {x1 : Int32} {uo : MS} {P : MS → Prop} (h : vX5_useElement S x1 uo) (w : wX5_useElement S x1 P) : P uo := by
  unfold vX5_useElement at h
  unfold wX5_useElement at w
  rcases h with ⟨c, h⟩ | ⟨c, h⟩
  · replace w := w.1 c
    obtain ⟨p9, q9, z9, y20_, y21_, h⟩ := h
    obtain ⟨Q9, w0, w⟩ := w
    replace w := w p9 q9 (vpX5_pop z9 w0) y20_ y21_
    exact vp_X5_useElement_J15 h w
  · replace w := w.2 c
    exact vp_X5_useElement_J15 h w
def v_X7_poolFits_J40 (ro : Int32) (uo : MS) (U40 : MS) : Prop := (wfC U40 ∧ (∃ (r12 : Int32) (S13 : MS), vX7_breaks U40 (5 : Int32) (qI U40 9 15) r12 S13 ∧ wfC S13 ∧ shy U40 S13 ∧ (ro = r12 ∧ uo = S13)))
def v_X7_poolFits_J124 (ro : Int32) (uo : MS) (k70 : MS → Int32 → Prop) (U124 : MS) (t124_0 : Int32) (t124_1 : Int32) : Prop := (wfC U124 ∧ (t124_0 = 0 ∨ t124_0 = 1) ∧ (∃ a36 : Int32, a36 = (t124_1 + t124_0) ∧ (d_X7_u1 U124 (qI U124 9 15) ∧ (∃ a40 : Int32, a40 = (fX7_u1 U124 (qI U124 9 15)) ∧ (d_X7_entryLength U124 a40 ∧ (∃ a44 : Int32, a44 = (fX7_entryLength U124 a40) ∧ (∃ S46 : MS, S46 = wI U124 9 15 ((qI U124 9 15) + a44) ∧ qT U124 9 = 46 ∧ wfC S46 ∧ (∃ a47 : Int32, a47 = (a36 + Int32.ofInt 1) ∧ (k70 S46 a47)))))))))
def v_X7_poolFits_L70 (ro : Int32) (uo : MS) : Nat → MS → Int32 → Prop
  | 0, _, _ => False
  | n70 + 1, U70, v70_1 => (wfC U70 ∧ (((qI U70 9 5).toInt ≤ v70_1.toInt ∧ (ro = (1 : Int32) ∧ uo = U70)) ∨ (¬ (qI U70 9 5).toInt ≤ v70_1.toInt ∧ ((500 ≤ v70_1.toInt ∧ (ro = (1 : Int32) ∧ uo = U70)) ∨ (¬ 500 ≤ v70_1.toInt ∧ (∃ (r25 : Int32) (S26 : MS), vX7_entryFits U70 r25 S26 ∧ wfC S26 ∧ shy U70 S26 ∧ ((r25.toInt = 0 ∧ (ro = (0 : Int32) ∧ uo = S26)) ∨ (¬ r25.toInt = 0 ∧ (((0 : Int) ≤ v70_1.toInt ∧ v70_1.toInt < 500) ∧ (∃ S30 : MS, S30 = wI S26 11 v70_1.toInt.toNat (qI S26 9 15) ∧ qT S26 11 = 218 ∧ wfC S30 ∧ (d_X7_u1 S30 (qI S30 9 15) ∧ (∃ a34 : Int32, a34 = (fX7_u1 S30 (qI S30 9 15)) ∧ ((a34.toInt = 5 ∧ (v_X7_poolFits_J124 ro uo (v_X7_poolFits_L70 ro uo n70) S30 1 v70_1)) ∨ (¬ a34.toInt = 5 ∧ (v_X7_poolFits_J124 ro uo (v_X7_poolFits_L70 ro uo n70) S30 0 v70_1)))))))))))))))
def vX7_poolFits (S : MS) (ro : Int32) (uo : MS) : Prop := (∃ (r2 : Int32) (S3 : MS), vX7_isThere S (2 : Int32) r2 S3 ∧ wfC S3 ∧ shy S S3 ∧ ((r2.toInt = 0 ∧ (ro = (0 : Int32) ∧ uo = S3)) ∨ (¬ r2.toInt = 0 ∧ (d_X7_u2 S3 (qI S3 9 15) ∧ (∃ a9 : Int32, a9 = (fX7_u2 S3 (qI S3 9 15)) ∧ (∃ S10 : MS, S10 = wI S3 9 5 a9 ∧ qT S3 9 = 46 ∧ wfC S10 ∧ (((qI S10 9 5).toInt < 1 ∧ (v_X7_poolFits_J40 ro uo S10)) ∨ (¬ (qI S10 9 5).toInt < 1 ∧ (((qI S10 9 5).toInt ≤ 500 ∧ (∃ S18 : MS, S18 = wI S10 9 15 ((qI S10 9 15) + (2 : Int32)) ∧ qT S10 9 = 46 ∧ wfC S18 ∧ (qT S18 11 = 218 ∧ (∃ (S20 : MS), vJ7_fill_53178 S18 11 (0 : Int32) S20 ∧ wfC S20 ∧ shy S18 S20 ∧ (∃ n, v_X7_poolFits_L70 ro uo n S20 1))))) ∨ (¬ (qI S10 9 5).toInt ≤ 500 ∧ (v_X7_poolFits_J40 ro uo S10)))))))))))
set_option maxRecDepth 100000 in
theorem ru_X7_poolFits_J40 {ι : Type} {P Q : Int32 → MS → Prop} {U40 : MS} (i0 : ι) (K : ∀ (i : ι) (ro : Int32) (uo : MS), v_X7_poolFits_J40 ro uo U40 → P ro uo) (h : w_X7_poolFits_J40 Q U40) : w_X7_poolFits_J40 (fun r u => Q r u ∧ P r u) U40 := by
  unfold w_X7_poolFits_J40 at h ⊢
  intro y1_
  replace h := h y1_
  replace K := fun i ro uo z => K i ro uo ⟨y1_, z⟩
  obtain ⟨Q9, h0, h⟩ := h
  refine ⟨_, ruX7_breaks h0, ?_⟩
  intro r12 S13 q2_ y3_ y4_
  replace h := h r12 S13 q2_.1 y3_ y4_
  replace K := fun i ro uo z => K i ro uo ⟨r12, S13, q2_.2, y3_, y4_, z⟩
  exact ⟨h, K i0 _ _ ⟨rfl, rfl⟩⟩
set_option maxRecDepth 100000 in
theorem ru_X7_poolFits_J124 {ι : Type} {P Q : Int32 → MS → Prop} {k70 k70' : MS → Int32 → Prop} {k70v : ι → Int32 → MS → MS → Int32 → Prop} {U124 : MS} {t124_0 : Int32} {t124_1 : Int32} (i0 : ι) (hk70 : ∀ (u : MS) (z0 : Int32), k70 u z0 → (∀ (i : ι) (ro : Int32) (uo : MS), k70v i ro uo u z0 → P ro uo) → k70' u z0) (K : ∀ (i : ι) (ro : Int32) (uo : MS), v_X7_poolFits_J124 ro uo (k70v i ro uo) U124 t124_0 t124_1 → P ro uo) (h : w_X7_poolFits_J124 Q k70 U124 t124_0 t124_1) : w_X7_poolFits_J124 (fun r u => Q r u ∧ P r u) k70' U124 t124_0 t124_1 := by
  unfold w_X7_poolFits_J124 at h ⊢
  intro y5_ y6_
  replace h := h y5_ y6_
  replace K := fun i ro uo z => K i ro uo ⟨y5_, y6_, z⟩
  intro a36 ea36 
  replace h := h a36 ea36 
  replace K := fun i ro uo z => K i ro uo ⟨a36, ea36, z⟩
  obtain ⟨g7_, h⟩ := h
  refine ⟨g7_, ?_⟩
  replace K := fun i ro uo z => K i ro uo ⟨g7_, z⟩
  intro a40 ea40 
  replace h := h a40 ea40 
  replace K := fun i ro uo z => K i ro uo ⟨a40, ea40, z⟩
  obtain ⟨g8_, h⟩ := h
  refine ⟨g8_, ?_⟩
  replace K := fun i ro uo z => K i ro uo ⟨g8_, z⟩
  intro a44 ea44 
  replace h := h a44 ea44 
  replace K := fun i ro uo z => K i ro uo ⟨a44, ea44, z⟩
  intro S46 eS46 y9_ y10_
  replace h := h S46 eS46 y9_ y10_
  replace K := fun i ro uo z => K i ro uo ⟨S46, eS46, y9_, y10_, z⟩
  intro a47 ea47 
  replace h := h a47 ea47 
  replace K := fun i ro uo z => K i ro uo ⟨a47, ea47, z⟩
  exact hk70 _ _ h K
set_option maxRecDepth 100000 in
theorem ru_X7_poolFits_L70 {ι : Type} {P Q : Int32 → MS → Prop} : ∀ (n : Nat) {U70 : MS} {v70_1 : Int32} (i0 : ι), (∀ (i : ι) (ro : Int32) (uo : MS), (∃ n8, v_X7_poolFits_L70 ro uo n8 U70 v70_1) → P ro uo) → w_X7_poolFits_L70 Q n U70 v70_1 → w_X7_poolFits_L70 (fun r u => Q r u ∧ P r u) n U70 v70_1 := by
  intro n
  induction n with
  | zero => intro U70 v70_1 i0 K h; unfold w_X7_poolFits_L70 at h; exact h.elim
  | succ n ih =>
    intro U70 v70_1 i0 K h
    unfold w_X7_poolFits_L70 at h ⊢
    replace K := fun (i : ι × Nat) ro uo (z : v_X7_poolFits_L70 ro uo (i.2 + 1) U70 v70_1) => K i.1 ro uo ⟨i.2 + 1, z⟩
    have i00 := i0
    replace i0 : ι × Nat := (i0, 0)
    intro y11_
    replace h := h y11_
    replace K := fun i ro uo z => K i ro uo ⟨y11_, z⟩
    refine ⟨fun c => ?_, fun c => ?_⟩
    · replace h := h.1 c
      replace K := fun i ro uo z => K i ro uo (Or.inl ⟨c, z⟩)
      exact ⟨h, K i0 _ _ ⟨rfl, rfl⟩⟩
    · replace h := h.2 c
      replace K := fun i ro uo z => K i ro uo (Or.inr ⟨c, z⟩)
      refine ⟨fun c => ?_, fun c => ?_⟩
      · replace h := h.1 c
        replace K := fun i ro uo z => K i ro uo (Or.inl ⟨c, z⟩)
        exact ⟨h, K i0 _ _ ⟨rfl, rfl⟩⟩
      · replace h := h.2 c
        replace K := fun i ro uo z => K i ro uo (Or.inr ⟨c, z⟩)
        obtain ⟨Q9, h0, h⟩ := h
        refine ⟨_, ruX7_entryFits h0, ?_⟩
        intro r25 S26 q12_ y13_ y14_
        replace h := h r25 S26 q12_.1 y13_ y14_
        replace K := fun i ro uo z => K i ro uo ⟨r25, S26, q12_.2, y13_, y14_, z⟩
        refine ⟨fun c => ?_, fun c => ?_⟩
        · replace h := h.1 c
          replace K := fun i ro uo z => K i ro uo (Or.inl ⟨c, z⟩)
          exact ⟨h, K i0 _ _ ⟨rfl, rfl⟩⟩
        · replace h := h.2 c
          replace K := fun i ro uo z => K i ro uo (Or.inr ⟨c, z⟩)
          obtain ⟨g15_, h⟩ := h
          refine ⟨g15_, ?_⟩
          replace K := fun i ro uo z => K i ro uo ⟨g15_, z⟩
          intro S30 eS30 y16_ y17_
          replace h := h S30 eS30 y16_ y17_
          replace K := fun i ro uo z => K i ro uo ⟨S30, eS30, y16_, y17_, z⟩
          obtain ⟨g18_, h⟩ := h
          refine ⟨g18_, ?_⟩
          replace K := fun i ro uo z => K i ro uo ⟨g18_, z⟩
          intro a34 ea34 
          replace h := h a34 ea34 
          replace K := fun i ro uo z => K i ro uo ⟨a34, ea34, z⟩
          refine ⟨fun c => ?_, fun c => ?_⟩
          · replace h := h.1 c
            replace K := fun i ro uo z => K i ro uo (Or.inl ⟨c, z⟩)
            exact ru_X7_poolFits_J124 i0 (fun _ _ h K => ih i00 (fun i ro uo ⟨n8, z⟩ => K (i, n8) ro uo z) h) K h
          · replace h := h.2 c
            replace K := fun i ro uo z => K i ro uo (Or.inr ⟨c, z⟩)
            exact ru_X7_poolFits_J124 i0 (fun _ _ h K => ih i00 (fun i ro uo ⟨n8, z⟩ => K (i, n8) ro uo z) h) K h
set_option maxRecDepth 100000 in
theorem ruX7_poolFits {S : MS} {Q : Int32 → MS → Prop} (h : wX7_poolFits S Q) : wX7_poolFits S (fun r u => Q r u ∧ vX7_poolFits S r u) := by
  have i0 : Unit := ()
  have K : ∀ (i : Unit) (ro : Int32) (uo : MS), vX7_poolFits S ro uo → vX7_poolFits S ro uo := fun _ _ _ z => z
  unfold wX7_poolFits at h ⊢
  obtain ⟨Q9, h0, h⟩ := h
  refine ⟨_, ruX7_isThere h0, ?_⟩
  intro r2 S3 q19_ y20_ y21_
  replace h := h r2 S3 q19_.1 y20_ y21_
  replace K := fun i ro uo z => K i ro uo ⟨r2, S3, q19_.2, y20_, y21_, z⟩
  refine ⟨fun c => ?_, fun c => ?_⟩
  · replace h := h.1 c
    replace K := fun i ro uo z => K i ro uo (Or.inl ⟨c, z⟩)
    exact ⟨h, K i0 _ _ ⟨rfl, rfl⟩⟩
  · replace h := h.2 c
    replace K := fun i ro uo z => K i ro uo (Or.inr ⟨c, z⟩)
    obtain ⟨g22_, h⟩ := h
    refine ⟨g22_, ?_⟩
    replace K := fun i ro uo z => K i ro uo ⟨g22_, z⟩
    intro a9 ea9 
    replace h := h a9 ea9 
    replace K := fun i ro uo z => K i ro uo ⟨a9, ea9, z⟩
    intro S10 eS10 y23_ y24_
    replace h := h S10 eS10 y23_ y24_
    replace K := fun i ro uo z => K i ro uo ⟨S10, eS10, y23_, y24_, z⟩
    refine ⟨fun c => ?_, fun c => ?_⟩
    · replace h := h.1 c
      replace K := fun i ro uo z => K i ro uo (Or.inl ⟨c, z⟩)
      exact ru_X7_poolFits_J40 i0 K h
    · replace h := h.2 c
      replace K := fun i ro uo z => K i ro uo (Or.inr ⟨c, z⟩)
      refine ⟨fun c => ?_, fun c => ?_⟩
      · replace h := h.1 c
        replace K := fun i ro uo z => K i ro uo (Or.inl ⟨c, z⟩)
        intro S18 eS18 y25_ y26_
        replace h := h S18 eS18 y25_ y26_
        replace K := fun i ro uo z => K i ro uo ⟨S18, eS18, y25_, y26_, z⟩
        intro y27_
        replace h := h y27_
        replace K := fun i ro uo z => K i ro uo ⟨y27_, z⟩
        obtain ⟨Q9, h0, h⟩ := h
        refine ⟨_, ruJ7_fill_53178 h0, ?_⟩
        intro S20 q28_ y29_ y30_
        replace h := h S20 q28_.1 y29_ y30_
        replace K := fun i ro uo z => K i ro uo ⟨S20, q28_.2, y29_, y30_, z⟩
        obtain ⟨n9, h⟩ := h
        exact ⟨n9, ru_X7_poolFits_L70 n9 i0 K h⟩
      · replace h := h.2 c
        replace K := fun i ro uo z => K i ro uo (Or.inr ⟨c, z⟩)
        exact ru_X7_poolFits_J40 i0 K h
set_option maxRecDepth 100000 in
theorem vw_X7_poolFits_J40 {ro : Int32} {uo : MS} {U40 : MS} (h : v_X7_poolFits_J40 ro uo U40) : w_X7_poolFits_J40 (fun r u => r = ro ∧ u = uo) U40 := by
  unfold v_X7_poolFits_J40 at h
  unfold w_X7_poolFits_J40
  intro _
  replace h := h.2
  obtain ⟨p9, q9, z9, h⟩ := h
  refine ⟨_, vwX7_breaks z9, ?_⟩
  rintro p8 q8 ⟨d8, d9⟩ _ _
  subst d8
  subst d9
  replace h := h.2.2
  exact ⟨h.1.symm, h.2.symm⟩
set_option maxRecDepth 100000 in
theorem vp_X7_poolFits_J40 {ro : Int32} {uo : MS} {P : Int32 → MS → Prop} {U40 : MS} (h : v_X7_poolFits_J40 ro uo U40) (w : w_X7_poolFits_J40 P U40) : P ro uo := by
  unfold v_X7_poolFits_J40 at h
  unfold w_X7_poolFits_J40 at w
  obtain ⟨y1_, h⟩ := h
  replace w := w y1_
  obtain ⟨p9, q9, z9, y2_, y3_, h⟩ := h
  obtain ⟨Q9, w0, w⟩ := w
  replace w := w p9 q9 (vpX7_breaks z9 w0) y2_ y3_
  rw [h.1, h.2]
  exact w
set_option maxRecDepth 100000 in
theorem vw_X7_poolFits_J124 {ro : Int32} {uo : MS} {k70 k70v : MS → Int32 → Prop} {U124 : MS} {t124_0 : Int32} {t124_1 : Int32} (hk70 : ∀ (u : MS) (z0 : Int32), k70v u z0 → k70 u z0) (h : v_X7_poolFits_J124 ro uo k70v U124 t124_0 t124_1) : w_X7_poolFits_J124 (fun r u => r = ro ∧ u = uo) k70 U124 t124_0 t124_1 := by
  unfold v_X7_poolFits_J124 at h
  unfold w_X7_poolFits_J124
  intro _ _
  replace h := h.2.2
  obtain ⟨v9, e9, h⟩ := h
  intro x9 d9 
  have c9 : v9 = x9 := e9.trans d9.symm
  subst c9
  obtain ⟨g9, h⟩ := h
  refine ⟨g9, ?_⟩
  obtain ⟨v9, e9, h⟩ := h
  intro x9 d9 
  have c9 : v9 = x9 := e9.trans d9.symm
  subst c9
  obtain ⟨g9, h⟩ := h
  refine ⟨g9, ?_⟩
  obtain ⟨v9, e9, h⟩ := h
  intro x9 d9 
  have c9 : v9 = x9 := e9.trans d9.symm
  subst c9
  obtain ⟨v9, e9, h⟩ := h
  intro x9 d9 _ _
  have c9 : v9 = x9 := e9.trans d9.symm
  subst c9
  replace h := h.2.2
  obtain ⟨v9, e9, h⟩ := h
  intro x9 d9 
  have c9 : v9 = x9 := e9.trans d9.symm
  subst c9
  exact hk70 _ _ h
set_option maxRecDepth 100000 in
theorem vp_X7_poolFits_J124 {ro : Int32} {uo : MS} {P : Int32 → MS → Prop} {k70 k70v : MS → Int32 → Prop} {U124 : MS} {t124_0 : Int32} {t124_1 : Int32} (hk70 : ∀ (u : MS) (z0 : Int32), k70v u z0 → k70 u z0 → P ro uo) (h : v_X7_poolFits_J124 ro uo k70v U124 t124_0 t124_1) (w : w_X7_poolFits_J124 P k70 U124 t124_0 t124_1) : P ro uo := by
  unfold v_X7_poolFits_J124 at h
  unfold w_X7_poolFits_J124 at w
  obtain ⟨y4_, y5_, h⟩ := h
  replace w := w y4_ y5_
  obtain ⟨v9, e9, h⟩ := h
  replace w := w v9 e9 
  replace h := h.2
  replace w := w.2
  obtain ⟨v9, e9, h⟩ := h
  replace w := w v9 e9 
  replace h := h.2
  replace w := w.2
  obtain ⟨v9, e9, h⟩ := h
  replace w := w v9 e9 
  obtain ⟨v9, e9, y6_, y7_, h⟩ := h
  replace w := w v9 e9 y6_ y7_
  obtain ⟨v9, e9, h⟩ := h
  replace w := w v9 e9 
  exact hk70 _ _ h w
set_option maxRecDepth 100000 in
theorem vw_X7_poolFits_L70 {ro : Int32} {uo : MS} : ∀ (n : Nat) {U70 : MS} {v70_1 : Int32}, v_X7_poolFits_L70 ro uo n U70 v70_1 → w_X7_poolFits_L70 (fun r u => r = ro ∧ u = uo) n U70 v70_1 := by
  intro n
  induction n with
  | zero => intro U70 v70_1 h; unfold v_X7_poolFits_L70 at h; exact h.elim
  | succ n ih =>
    intro U70 v70_1 h
    unfold v_X7_poolFits_L70 at h
    unfold w_X7_poolFits_L70
    intro _
    replace h := h.2
    rcases h with ⟨c, h⟩ | ⟨c, h⟩
    · refine ⟨fun _ => ?_, fun c2 => absurd c c2⟩
      exact ⟨h.1.symm, h.2.symm⟩
    · refine ⟨fun c2 => absurd c2 c, fun _ => ?_⟩
      rcases h with ⟨c, h⟩ | ⟨c, h⟩
      · refine ⟨fun _ => ?_, fun c2 => absurd c c2⟩
        exact ⟨h.1.symm, h.2.symm⟩
      · refine ⟨fun c2 => absurd c2 c, fun _ => ?_⟩
        obtain ⟨p9, q9, z9, h⟩ := h
        refine ⟨_, vwX7_entryFits z9, ?_⟩
        rintro p8 q8 ⟨d8, d9⟩ _ _
        subst d8
        subst d9
        replace h := h.2.2
        rcases h with ⟨c, h⟩ | ⟨c, h⟩
        · refine ⟨fun _ => ?_, fun c2 => absurd c c2⟩
          exact ⟨h.1.symm, h.2.symm⟩
        · refine ⟨fun c2 => absurd c2 c, fun _ => ?_⟩
          obtain ⟨g9, h⟩ := h
          refine ⟨g9, ?_⟩
          obtain ⟨v9, e9, h⟩ := h
          intro x9 d9 _ _
          have c9 : v9 = x9 := e9.trans d9.symm
          subst c9
          replace h := h.2.2
          obtain ⟨g9, h⟩ := h
          refine ⟨g9, ?_⟩
          obtain ⟨v9, e9, h⟩ := h
          intro x9 d9 
          have c9 : v9 = x9 := e9.trans d9.symm
          subst c9
          rcases h with ⟨c, h⟩ | ⟨c, h⟩
          · refine ⟨fun _ => ?_, fun c2 => absurd c c2⟩
            exact vw_X7_poolFits_J124 (fun _ _ h => ih h) h
          · refine ⟨fun c2 => absurd c2 c, fun _ => ?_⟩
            exact vw_X7_poolFits_J124 (fun _ _ h => ih h) h
set_option maxRecDepth 100000 in
theorem vp_X7_poolFits_L70 {ro : Int32} {uo : MS} {P : Int32 → MS → Prop} : ∀ (n m : Nat) {U70 : MS} {v70_1 : Int32}, v_X7_poolFits_L70 ro uo n U70 v70_1 → w_X7_poolFits_L70 P m U70 v70_1 → P ro uo := by
  intro n
  induction n with
  | zero => intro m U70 v70_1 h; unfold v_X7_poolFits_L70 at h; exact h.elim
  | succ n ih =>
    intro m U70 v70_1 h w
    cases m with
    | zero => unfold w_X7_poolFits_L70 at w; exact w.elim
    | succ m =>
      unfold v_X7_poolFits_L70 at h
      unfold w_X7_poolFits_L70 at w
      obtain ⟨y8_, h⟩ := h
      replace w := w y8_
      rcases h with ⟨c, h⟩ | ⟨c, h⟩
      · replace w := w.1 c
        rw [h.1, h.2]
        exact w
      · replace w := w.2 c
        rcases h with ⟨c, h⟩ | ⟨c, h⟩
        · replace w := w.1 c
          rw [h.1, h.2]
          exact w
        · replace w := w.2 c
          obtain ⟨p9, q9, z9, y9_, y10_, h⟩ := h
          obtain ⟨Q9, w0, w⟩ := w
          replace w := w p9 q9 (vpX7_entryFits z9 w0) y9_ y10_
          rcases h with ⟨c, h⟩ | ⟨c, h⟩
          · replace w := w.1 c
            rw [h.1, h.2]
            exact w
          · replace w := w.2 c
            replace h := h.2
            replace w := w.2
            obtain ⟨v9, e9, y11_, y12_, h⟩ := h
            replace w := w v9 e9 y11_ y12_
            replace h := h.2
            replace w := w.2
            obtain ⟨v9, e9, h⟩ := h
            replace w := w v9 e9 
            rcases h with ⟨c, h⟩ | ⟨c, h⟩
            · replace w := w.1 c
              exact vp_X7_poolFits_J124 (fun _ _ h w => ih m h w) h w
            · replace w := w.2 c
              exact vp_X7_poolFits_J124 (fun _ _ h w => ih m h w) h w
set_option maxRecDepth 100000 in
theorem vwX7_poolFits {S : MS} {ro : Int32} {uo : MS} (h : vX7_poolFits S ro uo) : wX7_poolFits S (fun r u => r = ro ∧ u = uo) := by
  unfold vX7_poolFits at h
  unfold wX7_poolFits
  obtain ⟨p9, q9, z9, h⟩ := h
  refine ⟨_, vwX7_isThere z9, ?_⟩
  rintro p8 q8 ⟨d8, d9⟩ _ _
  subst d8
  subst d9
  replace h := h.2.2
  rcases h with ⟨c, h⟩ | ⟨c, h⟩
  · refine ⟨fun _ => ?_, fun c2 => absurd c c2⟩
    exact ⟨h.1.symm, h.2.symm⟩
  · refine ⟨fun c2 => absurd c2 c, fun _ => ?_⟩
    obtain ⟨g9, h⟩ := h
    refine ⟨g9, ?_⟩
    obtain ⟨v9, e9, h⟩ := h
    intro x9 d9 
    have c9 : v9 = x9 := e9.trans d9.symm
    subst c9
    obtain ⟨v9, e9, h⟩ := h
    intro x9 d9 _ _
    have c9 : v9 = x9 := e9.trans d9.symm
    subst c9
    replace h := h.2.2
    rcases h with ⟨c, h⟩ | ⟨c, h⟩
    · refine ⟨fun _ => ?_, fun c2 => absurd c c2⟩
      exact vw_X7_poolFits_J40 h
    · refine ⟨fun c2 => absurd c2 c, fun _ => ?_⟩
      rcases h with ⟨c, h⟩ | ⟨c, h⟩
      · refine ⟨fun _ => ?_, fun c2 => absurd c c2⟩
        obtain ⟨v9, e9, h⟩ := h
        intro x9 d9 _ _
        have c9 : v9 = x9 := e9.trans d9.symm
        subst c9
        replace h := h.2.2
        intro _
        replace h := h.2
        obtain ⟨q9, z9, h⟩ := h
        refine ⟨_, vwJ7_fill_53178 z9, ?_⟩
        intro q8 d9 _ _
        subst d9
        replace h := h.2.2
        obtain ⟨n9, h⟩ := h
        exact ⟨n9, vw_X7_poolFits_L70 n9 h⟩
      · refine ⟨fun c2 => absurd c2 c, fun _ => ?_⟩
        exact vw_X7_poolFits_J40 h
set_option maxRecDepth 100000 in
theorem vpX7_poolFits {S : MS} {ro : Int32} {uo : MS} {P : Int32 → MS → Prop} (h : vX7_poolFits S ro uo) (w : wX7_poolFits S P) : P ro uo := by
  unfold vX7_poolFits at h
  unfold wX7_poolFits at w
  obtain ⟨p9, q9, z9, y13_, y14_, h⟩ := h
  obtain ⟨Q9, w0, w⟩ := w
  replace w := w p9 q9 (vpX7_isThere z9 w0) y13_ y14_
  rcases h with ⟨c, h⟩ | ⟨c, h⟩
  · replace w := w.1 c
    rw [h.1, h.2]
    exact w
  · replace w := w.2 c
    replace h := h.2
    replace w := w.2
    obtain ⟨v9, e9, h⟩ := h
    replace w := w v9 e9 
    obtain ⟨v9, e9, y15_, y16_, h⟩ := h
    replace w := w v9 e9 y15_ y16_
    rcases h with ⟨c, h⟩ | ⟨c, h⟩
    · replace w := w.1 c
      exact vp_X7_poolFits_J40 h w
    · replace w := w.2 c
      rcases h with ⟨c, h⟩ | ⟨c, h⟩
      · replace w := w.1 c
        obtain ⟨v9, e9, y17_, y18_, h⟩ := h
        replace w := w v9 e9 y17_ y18_
        obtain ⟨y19_, h⟩ := h
        replace w := w y19_
        obtain ⟨q9, z9, y20_, y21_, h⟩ := h
        obtain ⟨Q9, w0, w⟩ := w
        replace w := w q9 (vpJ7_fill_53178 z9 w0) y20_ y21_
        obtain ⟨n9, h⟩ := h
        obtain ⟨n8, w⟩ := w
        exact vp_X7_poolFits_L70 n9 n8 h w
      · replace w := w.2 c
        exact vp_X7_poolFits_J40 h w
def vX7_fieldsFit (S : MS) (ro : Int32) (uo : MS) : Prop := (∃ S1 : MS, S1 = wI S 9 8 (0 : Int32) ∧ qT S 9 = 46 ∧ wfC S1 ∧ (∃ S2 : MS, S2 = wI S1 9 7 (0 : Int32) ∧ qT S1 9 = 46 ∧ wfC S2 ∧ (∃ (r4 : Int32) (S5 : MS), vX7_membersFit S2 (0 : Int32) r4 S5 ∧ wfC S5 ∧ shy S2 S5 ∧ (∃ S7 : MS, S7 = wI S5 9 7 r4 ∧ qT S5 9 = 46 ∧ wfC S7 ∧ (((qI S7 9 7).toInt < 0 ∧ (ro = (0 : Int32) ∧ uo = S7)) ∨ (¬ (qI S7 9 7).toInt < 0 ∧ (ro = (1 : Int32) ∧ uo = S7)))))))
set_option maxRecDepth 100000 in
theorem ruX7_fieldsFit {S : MS} {Q : Int32 → MS → Prop} (h : wX7_fieldsFit S Q) : wX7_fieldsFit S (fun r u => Q r u ∧ vX7_fieldsFit S r u) := by
  have i0 : Unit := ()
  have K : ∀ (i : Unit) (ro : Int32) (uo : MS), vX7_fieldsFit S ro uo → vX7_fieldsFit S ro uo := fun _ _ _ z => z
  unfold wX7_fieldsFit at h ⊢
  intro S1 eS1 y1_ y2_
  replace h := h S1 eS1 y1_ y2_
  replace K := fun i ro uo z => K i ro uo ⟨S1, eS1, y1_, y2_, z⟩
  intro S2 eS2 y3_ y4_
  replace h := h S2 eS2 y3_ y4_
  replace K := fun i ro uo z => K i ro uo ⟨S2, eS2, y3_, y4_, z⟩
  obtain ⟨Q9, h0, h⟩ := h
  refine ⟨_, ruX7_membersFit h0, ?_⟩
  intro r4 S5 q5_ y6_ y7_
  replace h := h r4 S5 q5_.1 y6_ y7_
  replace K := fun i ro uo z => K i ro uo ⟨r4, S5, q5_.2, y6_, y7_, z⟩
  intro S7 eS7 y8_ y9_
  replace h := h S7 eS7 y8_ y9_
  replace K := fun i ro uo z => K i ro uo ⟨S7, eS7, y8_, y9_, z⟩
  refine ⟨fun c => ?_, fun c => ?_⟩
  · replace h := h.1 c
    replace K := fun i ro uo z => K i ro uo (Or.inl ⟨c, z⟩)
    exact ⟨h, K i0 _ _ ⟨rfl, rfl⟩⟩
  · replace h := h.2 c
    replace K := fun i ro uo z => K i ro uo (Or.inr ⟨c, z⟩)
    exact ⟨h, K i0 _ _ ⟨rfl, rfl⟩⟩
set_option maxRecDepth 100000 in
theorem vwX7_fieldsFit {S : MS} {ro : Int32} {uo : MS} (h : vX7_fieldsFit S ro uo) : wX7_fieldsFit S (fun r u => r = ro ∧ u = uo) := by
  unfold vX7_fieldsFit at h
  unfold wX7_fieldsFit
  obtain ⟨v9, e9, h⟩ := h
  intro x9 d9 _ _
  have c9 : v9 = x9 := e9.trans d9.symm
  subst c9
  replace h := h.2.2
  obtain ⟨v9, e9, h⟩ := h
  intro x9 d9 _ _
  have c9 : v9 = x9 := e9.trans d9.symm
  subst c9
  replace h := h.2.2
  obtain ⟨p9, q9, z9, h⟩ := h
  refine ⟨_, vwX7_membersFit z9, ?_⟩
  rintro p8 q8 ⟨d8, d9⟩ _ _
  subst d8
  subst d9
  replace h := h.2.2
  obtain ⟨v9, e9, h⟩ := h
  intro x9 d9 _ _
  have c9 : v9 = x9 := e9.trans d9.symm
  subst c9
  replace h := h.2.2
  rcases h with ⟨c, h⟩ | ⟨c, h⟩
  · refine ⟨fun _ => ?_, fun c2 => absurd c c2⟩
    exact ⟨h.1.symm, h.2.symm⟩
  · refine ⟨fun c2 => absurd c2 c, fun _ => ?_⟩
    exact ⟨h.1.symm, h.2.symm⟩
set_option maxRecDepth 100000 in
theorem vpX7_fieldsFit {S : MS} {ro : Int32} {uo : MS} {P : Int32 → MS → Prop} (h : vX7_fieldsFit S ro uo) (w : wX7_fieldsFit S P) : P ro uo := by
  unfold vX7_fieldsFit at h
  unfold wX7_fieldsFit at w
  obtain ⟨v9, e9, y1_, y2_, h⟩ := h
  replace w := w v9 e9 y1_ y2_
  obtain ⟨v9, e9, y3_, y4_, h⟩ := h
  replace w := w v9 e9 y3_ y4_
  obtain ⟨p9, q9, z9, y5_, y6_, h⟩ := h
  obtain ⟨Q9, w0, w⟩ := w
  replace w := w p9 q9 (vpX7_membersFit z9 w0) y5_ y6_
  obtain ⟨v9, e9, y7_, y8_, h⟩ := h
  replace w := w v9 e9 y7_ y8_
  rcases h with ⟨c, h⟩ | ⟨c, h⟩
  · replace w := w.1 c
    rw [h.1, h.2]
    exact w
  · replace w := w.2 c
    rw [h.1, h.2]
    exact w
def vX7_methodsFit (S : MS) (ro : Int32) (uo : MS) : Prop := (∃ (r2 : Int32) (S3 : MS), vX7_membersFit S (qI S 9 7) r2 S3 ∧ wfC S3 ∧ shy S S3 ∧ (∃ S5 : MS, S5 = wI S3 9 8 r2 ∧ qT S3 9 = 46 ∧ wfC S5 ∧ (((qI S5 9 8).toInt < 0 ∧ (ro = (0 : Int32) ∧ uo = S5)) ∨ (¬ (qI S5 9 8).toInt < 0 ∧ (ro = (1 : Int32) ∧ uo = S5)))))
set_option maxRecDepth 100000 in
theorem ruX7_methodsFit {S : MS} {Q : Int32 → MS → Prop} (h : wX7_methodsFit S Q) : wX7_methodsFit S (fun r u => Q r u ∧ vX7_methodsFit S r u) := by
  have i0 : Unit := ()
  have K : ∀ (i : Unit) (ro : Int32) (uo : MS), vX7_methodsFit S ro uo → vX7_methodsFit S ro uo := fun _ _ _ z => z
  unfold wX7_methodsFit at h ⊢
  obtain ⟨Q9, h0, h⟩ := h
  refine ⟨_, ruX7_membersFit h0, ?_⟩
  intro r2 S3 q1_ y2_ y3_
  replace h := h r2 S3 q1_.1 y2_ y3_
  replace K := fun i ro uo z => K i ro uo ⟨r2, S3, q1_.2, y2_, y3_, z⟩
  intro S5 eS5 y4_ y5_
  replace h := h S5 eS5 y4_ y5_
  replace K := fun i ro uo z => K i ro uo ⟨S5, eS5, y4_, y5_, z⟩
  refine ⟨fun c => ?_, fun c => ?_⟩
  · replace h := h.1 c
    replace K := fun i ro uo z => K i ro uo (Or.inl ⟨c, z⟩)
    exact ⟨h, K i0 _ _ ⟨rfl, rfl⟩⟩
  · replace h := h.2 c
    replace K := fun i ro uo z => K i ro uo (Or.inr ⟨c, z⟩)
    exact ⟨h, K i0 _ _ ⟨rfl, rfl⟩⟩
set_option maxRecDepth 100000 in
theorem vwX7_methodsFit {S : MS} {ro : Int32} {uo : MS} (h : vX7_methodsFit S ro uo) : wX7_methodsFit S (fun r u => r = ro ∧ u = uo) := by
  unfold vX7_methodsFit at h
  unfold wX7_methodsFit
  obtain ⟨p9, q9, z9, h⟩ := h
  refine ⟨_, vwX7_membersFit z9, ?_⟩
  rintro p8 q8 ⟨d8, d9⟩ _ _
  subst d8
  subst d9
  replace h := h.2.2
  obtain ⟨v9, e9, h⟩ := h
  intro x9 d9 _ _
  have c9 : v9 = x9 := e9.trans d9.symm
  subst c9
  replace h := h.2.2
  rcases h with ⟨c, h⟩ | ⟨c, h⟩
  · refine ⟨fun _ => ?_, fun c2 => absurd c c2⟩
    exact ⟨h.1.symm, h.2.symm⟩
  · refine ⟨fun c2 => absurd c2 c, fun _ => ?_⟩
    exact ⟨h.1.symm, h.2.symm⟩
set_option maxRecDepth 100000 in
theorem vpX7_methodsFit {S : MS} {ro : Int32} {uo : MS} {P : Int32 → MS → Prop} (h : vX7_methodsFit S ro uo) (w : wX7_methodsFit S P) : P ro uo := by
  unfold vX7_methodsFit at h
  unfold wX7_methodsFit at w
  obtain ⟨p9, q9, z9, y1_, y2_, h⟩ := h
  obtain ⟨Q9, w0, w⟩ := w
  replace w := w p9 q9 (vpX7_membersFit z9 w0) y1_ y2_
  obtain ⟨v9, e9, y3_, y4_, h⟩ := h
  replace w := w v9 e9 y3_ y4_
  rcases h with ⟨c, h⟩ | ⟨c, h⟩
  · replace w := w.1 c
    rw [h.1, h.2]
    exact w
  · replace w := w.2 c
    rw [h.1, h.2]
    exact w
def v_X7_typesHold_J147 (ro : Int32) (uo : MS) (k80 : MS → Int32 → Prop) (U147 : MS) (t147_0 : Int32) (v147_1 : Int32) : Prop := (wfC U147 ∧ (t147_0 = 0 ∨ t147_0 = 1) ∧ ((t147_0.toInt = 0 ∧ (d_X7_memberPlace U147 v147_1 ∧ (∃ a9 : Int32, a9 = (fX7_memberPlace U147 v147_1) ∧ (∃ (r12 : Int32) (S13 : MS), vX7_breaks U147 (10 : Int32) (a9 + (4 : Int32)) r12 S13 ∧ wfC S13 ∧ shy U147 S13 ∧ (ro = r12 ∧ uo = S13))))) ∨ (¬ t147_0.toInt = 0 ∧ (∃ a5 : Int32, a5 = (v147_1 + Int32.ofInt 1) ∧ (k80 U147 a5)))))
def v_X7_typesHold_J146 (ro : Int32) (uo : MS) (k80 : MS → Int32 → Prop) (U146 : MS) (v146_1 : Int32) : Prop := (wfC U146 ∧ (v_X7_typesHold_J147 ro uo k80 U146 0 v146_1))
def v_X7_typesHold_J60 (ro : Int32) (uo : MS) (U60 : MS) (v60_1 : Int32) : Prop := (wfC U60 ∧ (d_X7_entryAt U60 v60_1 ∧ (∃ a42 : Int32, a42 = (fX7_entryAt U60 v60_1) ∧ (∃ (r44 : Int32) (S45 : MS), vX7_breaks U60 (10 : Int32) a42 r44 S45 ∧ wfC S45 ∧ shy U60 S45 ∧ (ro = r44 ∧ uo = S45)))))
def v_X7_typesHold_J72 (ro : Int32) (uo : MS) (k2 : MS → Int32 → Prop) (U72 : MS) (v72_1 : Int32) : Prop := (wfC U72 ∧ (∃ a47 : Int32, a47 = (v72_1 + Int32.ofInt 1) ∧ (k2 U72 a47)))
def v_X7_typesHold_J38 (ro : Int32) (uo : MS) (k2 : MS → Int32 → Prop) (U38 : MS) (v38_1 : Int32) (v38_2 : Int32) : Prop := (wfC U38 ∧ ((v38_2.toInt = 10 ∧ (d_X7_secondOf U38 v38_1 ∧ (∃ a52 : Int32, a52 = (fX7_secondOf U38 v38_1) ∧ (d_X7_secondOf U38 a52 ∧ (∃ a56 : Int32, a56 = (fX7_secondOf U38 a52) ∧ (∃ (r58 : Int32) (S59 : MS), vX7_isMethodType U38 a56 r58 S59 ∧ wfC S59 ∧ shy U38 S59 ∧ ((r58.toInt = 0 ∧ (v_X7_typesHold_J60 ro uo S59 v38_1)) ∨ (¬ r58.toInt = 0 ∧ (v_X7_typesHold_J72 ro uo k2 S59 v38_1))))))))) ∨ (¬ v38_2.toInt = 10 ∧ (v_X7_typesHold_J72 ro uo k2 U38 v38_1))))
def v_X7_typesHold_L80 (ro : Int32) (uo : MS) : Nat → MS → Int32 → Prop
  | 0, _, _ => False
  | n80 + 1, U80, v80_1 => (wfC U80 ∧ ((((qI U80 9 7) + (qI U80 9 8)).toInt ≤ v80_1.toInt ∧ (ro = (1 : Int32) ∧ uo = U80)) ∨ (¬ ((qI U80 9 7) + (qI U80 9 8)).toInt ≤ v80_1.toInt ∧ (((qI U80 9 7).toInt ≤ v80_1.toInt ∧ (d_X7_typeOf U80 v80_1 ∧ (∃ a19 : Int32, a19 = (fX7_typeOf U80 v80_1) ∧ (∃ (r21 : Int32) (S22 : MS), vX7_isMethodType U80 a19 r21 S22 ∧ wfC S22 ∧ shy U80 S22 ∧ ((r21.toInt = 0 ∧ (v_X7_typesHold_J146 ro uo (v_X7_typesHold_L80 ro uo n80) S22 v80_1)) ∨ (¬ r21.toInt = 0 ∧ ((8 < (qI S22 9 13).toInt ∧ (v_X7_typesHold_J146 ro uo (v_X7_typesHold_L80 ro uo n80) S22 v80_1)) ∨ (¬ 8 < (qI S22 9 13).toInt ∧ (v_X7_typesHold_J147 ro uo (v_X7_typesHold_L80 ro uo n80) S22 1 v80_1))))))))) ∨ (¬ (qI U80 9 7).toInt ≤ v80_1.toInt ∧ (d_X7_typeOf U80 v80_1 ∧ (∃ a29 : Int32, a29 = (fX7_typeOf U80 v80_1) ∧ (d_X7_kindOfType U80 a29 ∧ (∃ a33 : Int32, a33 = (fX7_kindOfType U80 a29) ∧ ((a33.toInt = 0 ∧ (v_X7_typesHold_J147 ro uo (v_X7_typesHold_L80 ro uo n80) U80 0 v80_1)) ∨ (¬ a33.toInt = 0 ∧ (v_X7_typesHold_J147 ro uo (v_X7_typesHold_L80 ro uo n80) U80 1 v80_1))))))))))))
def v_X7_typesHold_L2 (ro : Int32) (uo : MS) : Nat → MS → Int32 → Prop
  | 0, _, _ => False
  | n2 + 1, U2, v2_1 => (wfC U2 ∧ (((qI U2 9 5).toInt ≤ v2_1.toInt ∧ (∃ n, v_X7_typesHold_L80 ro uo n U2 0)) ∨ (¬ (qI U2 9 5).toInt ≤ v2_1.toInt ∧ (d_X7_tagOf U2 v2_1 ∧ (∃ a38 : Int32, a38 = (fX7_tagOf U2 v2_1) ∧ ((a38.toInt = 9 ∧ (d_X7_secondOf U2 v2_1 ∧ (∃ a66 : Int32, a66 = (fX7_secondOf U2 v2_1) ∧ (d_X7_secondOf U2 a66 ∧ (∃ a70 : Int32, a70 = (fX7_secondOf U2 a66) ∧ (d_X7_kindOfType U2 a70 ∧ (∃ a74 : Int32, a74 = (fX7_kindOfType U2 a70) ∧ ((a74.toInt = 0 ∧ (v_X7_typesHold_J60 ro uo U2 v2_1)) ∨ (¬ a74.toInt = 0 ∧ (v_X7_typesHold_J38 ro uo (v_X7_typesHold_L2 ro uo n2) U2 v2_1 a38)))))))))) ∨ (¬ a38.toInt = 9 ∧ (v_X7_typesHold_J38 ro uo (v_X7_typesHold_L2 ro uo n2) U2 v2_1 a38))))))))
def vX7_typesHold (S : MS) (ro : Int32) (uo : MS) : Prop := (∃ n, v_X7_typesHold_L2 ro uo n S 1)
set_option maxRecDepth 100000 in
theorem ru_X7_typesHold_J147 {ι : Type} {P Q : Int32 → MS → Prop} {k80 k80' : MS → Int32 → Prop} {k80v : ι → Int32 → MS → MS → Int32 → Prop} {U147 : MS} {t147_0 : Int32} {v147_1 : Int32} (i0 : ι) (hk80 : ∀ (u : MS) (z0 : Int32), k80 u z0 → (∀ (i : ι) (ro : Int32) (uo : MS), k80v i ro uo u z0 → P ro uo) → k80' u z0) (K : ∀ (i : ι) (ro : Int32) (uo : MS), v_X7_typesHold_J147 ro uo (k80v i ro uo) U147 t147_0 v147_1 → P ro uo) (h : w_X7_typesHold_J147 Q k80 U147 t147_0 v147_1) : w_X7_typesHold_J147 (fun r u => Q r u ∧ P r u) k80' U147 t147_0 v147_1 := by
  unfold w_X7_typesHold_J147 at h ⊢
  intro y1_ y2_
  replace h := h y1_ y2_
  replace K := fun i ro uo z => K i ro uo ⟨y1_, y2_, z⟩
  refine ⟨fun c => ?_, fun c => ?_⟩
  · replace h := h.1 c
    replace K := fun i ro uo z => K i ro uo (Or.inl ⟨c, z⟩)
    obtain ⟨g3_, h⟩ := h
    refine ⟨g3_, ?_⟩
    replace K := fun i ro uo z => K i ro uo ⟨g3_, z⟩
    intro a9 ea9 
    replace h := h a9 ea9 
    replace K := fun i ro uo z => K i ro uo ⟨a9, ea9, z⟩
    obtain ⟨Q9, h0, h⟩ := h
    refine ⟨_, ruX7_breaks h0, ?_⟩
    intro r12 S13 q4_ y5_ y6_
    replace h := h r12 S13 q4_.1 y5_ y6_
    replace K := fun i ro uo z => K i ro uo ⟨r12, S13, q4_.2, y5_, y6_, z⟩
    exact ⟨h, K i0 _ _ ⟨rfl, rfl⟩⟩
  · replace h := h.2 c
    replace K := fun i ro uo z => K i ro uo (Or.inr ⟨c, z⟩)
    intro a5 ea5 
    replace h := h a5 ea5 
    replace K := fun i ro uo z => K i ro uo ⟨a5, ea5, z⟩
    exact hk80 _ _ h K
set_option maxRecDepth 100000 in
theorem ru_X7_typesHold_J146 {ι : Type} {P Q : Int32 → MS → Prop} {k80 k80' : MS → Int32 → Prop} {k80v : ι → Int32 → MS → MS → Int32 → Prop} {U146 : MS} {v146_1 : Int32} (i0 : ι) (hk80 : ∀ (u : MS) (z0 : Int32), k80 u z0 → (∀ (i : ι) (ro : Int32) (uo : MS), k80v i ro uo u z0 → P ro uo) → k80' u z0) (K : ∀ (i : ι) (ro : Int32) (uo : MS), v_X7_typesHold_J146 ro uo (k80v i ro uo) U146 v146_1 → P ro uo) (h : w_X7_typesHold_J146 Q k80 U146 v146_1) : w_X7_typesHold_J146 (fun r u => Q r u ∧ P r u) k80' U146 v146_1 := by
  unfold w_X7_typesHold_J146 at h ⊢
  intro y7_
  replace h := h y7_
  replace K := fun i ro uo z => K i ro uo ⟨y7_, z⟩
  exact ru_X7_typesHold_J147 i0 hk80 K h
set_option maxRecDepth 100000 in
theorem ru_X7_typesHold_J60 {ι : Type} {P Q : Int32 → MS → Prop} {U60 : MS} {v60_1 : Int32} (i0 : ι) (K : ∀ (i : ι) (ro : Int32) (uo : MS), v_X7_typesHold_J60 ro uo U60 v60_1 → P ro uo) (h : w_X7_typesHold_J60 Q U60 v60_1) : w_X7_typesHold_J60 (fun r u => Q r u ∧ P r u) U60 v60_1 := by
  unfold w_X7_typesHold_J60 at h ⊢
  intro y8_
  replace h := h y8_
  replace K := fun i ro uo z => K i ro uo ⟨y8_, z⟩
  obtain ⟨g9_, h⟩ := h
  refine ⟨g9_, ?_⟩
  replace K := fun i ro uo z => K i ro uo ⟨g9_, z⟩
  intro a42 ea42 
  replace h := h a42 ea42 
  replace K := fun i ro uo z => K i ro uo ⟨a42, ea42, z⟩
  obtain ⟨Q9, h0, h⟩ := h
  refine ⟨_, ruX7_breaks h0, ?_⟩
  intro r44 S45 q10_ y11_ y12_
  replace h := h r44 S45 q10_.1 y11_ y12_
  replace K := fun i ro uo z => K i ro uo ⟨r44, S45, q10_.2, y11_, y12_, z⟩
  exact ⟨h, K i0 _ _ ⟨rfl, rfl⟩⟩
set_option maxRecDepth 100000 in
theorem ru_X7_typesHold_J72 {ι : Type} {P Q : Int32 → MS → Prop} {k2 k2' : MS → Int32 → Prop} {k2v : ι → Int32 → MS → MS → Int32 → Prop} {U72 : MS} {v72_1 : Int32} (i0 : ι) (hk2 : ∀ (u : MS) (z0 : Int32), k2 u z0 → (∀ (i : ι) (ro : Int32) (uo : MS), k2v i ro uo u z0 → P ro uo) → k2' u z0) (K : ∀ (i : ι) (ro : Int32) (uo : MS), v_X7_typesHold_J72 ro uo (k2v i ro uo) U72 v72_1 → P ro uo) (h : w_X7_typesHold_J72 Q k2 U72 v72_1) : w_X7_typesHold_J72 (fun r u => Q r u ∧ P r u) k2' U72 v72_1 := by
  unfold w_X7_typesHold_J72 at h ⊢
  intro y13_
  replace h := h y13_
  replace K := fun i ro uo z => K i ro uo ⟨y13_, z⟩
  intro a47 ea47 
  replace h := h a47 ea47 
  replace K := fun i ro uo z => K i ro uo ⟨a47, ea47, z⟩
  exact hk2 _ _ h K
set_option maxRecDepth 100000 in
theorem ru_X7_typesHold_J38 {ι : Type} {P Q : Int32 → MS → Prop} {k2 k2' : MS → Int32 → Prop} {k2v : ι → Int32 → MS → MS → Int32 → Prop} {U38 : MS} {v38_1 : Int32} {v38_2 : Int32} (i0 : ι) (hk2 : ∀ (u : MS) (z0 : Int32), k2 u z0 → (∀ (i : ι) (ro : Int32) (uo : MS), k2v i ro uo u z0 → P ro uo) → k2' u z0) (K : ∀ (i : ι) (ro : Int32) (uo : MS), v_X7_typesHold_J38 ro uo (k2v i ro uo) U38 v38_1 v38_2 → P ro uo) (h : w_X7_typesHold_J38 Q k2 U38 v38_1 v38_2) : w_X7_typesHold_J38 (fun r u => Q r u ∧ P r u) k2' U38 v38_1 v38_2 := by
  unfold w_X7_typesHold_J38 at h ⊢
  intro y14_
  replace h := h y14_
  replace K := fun i ro uo z => K i ro uo ⟨y14_, z⟩
  refine ⟨fun c => ?_, fun c => ?_⟩
  · replace h := h.1 c
    replace K := fun i ro uo z => K i ro uo (Or.inl ⟨c, z⟩)
    obtain ⟨g15_, h⟩ := h
    refine ⟨g15_, ?_⟩
    replace K := fun i ro uo z => K i ro uo ⟨g15_, z⟩
    intro a52 ea52 
    replace h := h a52 ea52 
    replace K := fun i ro uo z => K i ro uo ⟨a52, ea52, z⟩
    obtain ⟨g16_, h⟩ := h
    refine ⟨g16_, ?_⟩
    replace K := fun i ro uo z => K i ro uo ⟨g16_, z⟩
    intro a56 ea56 
    replace h := h a56 ea56 
    replace K := fun i ro uo z => K i ro uo ⟨a56, ea56, z⟩
    obtain ⟨Q9, h0, h⟩ := h
    refine ⟨_, ruX7_isMethodType h0, ?_⟩
    intro r58 S59 q17_ y18_ y19_
    replace h := h r58 S59 q17_.1 y18_ y19_
    replace K := fun i ro uo z => K i ro uo ⟨r58, S59, q17_.2, y18_, y19_, z⟩
    refine ⟨fun c => ?_, fun c => ?_⟩
    · replace h := h.1 c
      replace K := fun i ro uo z => K i ro uo (Or.inl ⟨c, z⟩)
      exact ru_X7_typesHold_J60 i0 K h
    · replace h := h.2 c
      replace K := fun i ro uo z => K i ro uo (Or.inr ⟨c, z⟩)
      exact ru_X7_typesHold_J72 i0 hk2 K h
  · replace h := h.2 c
    replace K := fun i ro uo z => K i ro uo (Or.inr ⟨c, z⟩)
    exact ru_X7_typesHold_J72 i0 hk2 K h
set_option maxRecDepth 100000 in
theorem ru_X7_typesHold_L80 {ι : Type} {P Q : Int32 → MS → Prop} : ∀ (n : Nat) {U80 : MS} {v80_1 : Int32} (i0 : ι), (∀ (i : ι) (ro : Int32) (uo : MS), (∃ n8, v_X7_typesHold_L80 ro uo n8 U80 v80_1) → P ro uo) → w_X7_typesHold_L80 Q n U80 v80_1 → w_X7_typesHold_L80 (fun r u => Q r u ∧ P r u) n U80 v80_1 := by
  intro n
  induction n with
  | zero => intro U80 v80_1 i0 K h; unfold w_X7_typesHold_L80 at h; exact h.elim
  | succ n ih =>
    intro U80 v80_1 i0 K h
    unfold w_X7_typesHold_L80 at h ⊢
    replace K := fun (i : ι × Nat) ro uo (z : v_X7_typesHold_L80 ro uo (i.2 + 1) U80 v80_1) => K i.1 ro uo ⟨i.2 + 1, z⟩
    have i00 := i0
    replace i0 : ι × Nat := (i0, 0)
    intro y20_
    replace h := h y20_
    replace K := fun i ro uo z => K i ro uo ⟨y20_, z⟩
    refine ⟨fun c => ?_, fun c => ?_⟩
    · replace h := h.1 c
      replace K := fun i ro uo z => K i ro uo (Or.inl ⟨c, z⟩)
      exact ⟨h, K i0 _ _ ⟨rfl, rfl⟩⟩
    · replace h := h.2 c
      replace K := fun i ro uo z => K i ro uo (Or.inr ⟨c, z⟩)
      refine ⟨fun c => ?_, fun c => ?_⟩
      · replace h := h.1 c
        replace K := fun i ro uo z => K i ro uo (Or.inl ⟨c, z⟩)
        obtain ⟨g21_, h⟩ := h
        refine ⟨g21_, ?_⟩
        replace K := fun i ro uo z => K i ro uo ⟨g21_, z⟩
        intro a19 ea19 
        replace h := h a19 ea19 
        replace K := fun i ro uo z => K i ro uo ⟨a19, ea19, z⟩
        obtain ⟨Q9, h0, h⟩ := h
        refine ⟨_, ruX7_isMethodType h0, ?_⟩
        intro r21 S22 q22_ y23_ y24_
        replace h := h r21 S22 q22_.1 y23_ y24_
        replace K := fun i ro uo z => K i ro uo ⟨r21, S22, q22_.2, y23_, y24_, z⟩
        refine ⟨fun c => ?_, fun c => ?_⟩
        · replace h := h.1 c
          replace K := fun i ro uo z => K i ro uo (Or.inl ⟨c, z⟩)
          exact ru_X7_typesHold_J146 i0 (fun _ _ h K => ih i00 (fun i ro uo ⟨n8, z⟩ => K (i, n8) ro uo z) h) K h
        · replace h := h.2 c
          replace K := fun i ro uo z => K i ro uo (Or.inr ⟨c, z⟩)
          refine ⟨fun c => ?_, fun c => ?_⟩
          · replace h := h.1 c
            replace K := fun i ro uo z => K i ro uo (Or.inl ⟨c, z⟩)
            exact ru_X7_typesHold_J146 i0 (fun _ _ h K => ih i00 (fun i ro uo ⟨n8, z⟩ => K (i, n8) ro uo z) h) K h
          · replace h := h.2 c
            replace K := fun i ro uo z => K i ro uo (Or.inr ⟨c, z⟩)
            exact ru_X7_typesHold_J147 i0 (fun _ _ h K => ih i00 (fun i ro uo ⟨n8, z⟩ => K (i, n8) ro uo z) h) K h
      · replace h := h.2 c
        replace K := fun i ro uo z => K i ro uo (Or.inr ⟨c, z⟩)
        obtain ⟨g25_, h⟩ := h
        refine ⟨g25_, ?_⟩
        replace K := fun i ro uo z => K i ro uo ⟨g25_, z⟩
        intro a29 ea29 
        replace h := h a29 ea29 
        replace K := fun i ro uo z => K i ro uo ⟨a29, ea29, z⟩
        obtain ⟨g26_, h⟩ := h
        refine ⟨g26_, ?_⟩
        replace K := fun i ro uo z => K i ro uo ⟨g26_, z⟩
        intro a33 ea33 
        replace h := h a33 ea33 
        replace K := fun i ro uo z => K i ro uo ⟨a33, ea33, z⟩
        refine ⟨fun c => ?_, fun c => ?_⟩
        · replace h := h.1 c
          replace K := fun i ro uo z => K i ro uo (Or.inl ⟨c, z⟩)
          exact ru_X7_typesHold_J147 i0 (fun _ _ h K => ih i00 (fun i ro uo ⟨n8, z⟩ => K (i, n8) ro uo z) h) K h
        · replace h := h.2 c
          replace K := fun i ro uo z => K i ro uo (Or.inr ⟨c, z⟩)
          exact ru_X7_typesHold_J147 i0 (fun _ _ h K => ih i00 (fun i ro uo ⟨n8, z⟩ => K (i, n8) ro uo z) h) K h
set_option maxRecDepth 100000 in
theorem ru_X7_typesHold_L2 {ι : Type} {P Q : Int32 → MS → Prop} : ∀ (n : Nat) {U2 : MS} {v2_1 : Int32} (i0 : ι), (∀ (i : ι) (ro : Int32) (uo : MS), (∃ n8, v_X7_typesHold_L2 ro uo n8 U2 v2_1) → P ro uo) → w_X7_typesHold_L2 Q n U2 v2_1 → w_X7_typesHold_L2 (fun r u => Q r u ∧ P r u) n U2 v2_1 := by
  intro n
  induction n with
  | zero => intro U2 v2_1 i0 K h; unfold w_X7_typesHold_L2 at h; exact h.elim
  | succ n ih =>
    intro U2 v2_1 i0 K h
    unfold w_X7_typesHold_L2 at h ⊢
    replace K := fun (i : ι × Nat) ro uo (z : v_X7_typesHold_L2 ro uo (i.2 + 1) U2 v2_1) => K i.1 ro uo ⟨i.2 + 1, z⟩
    have i00 := i0
    replace i0 : ι × Nat := (i0, 0)
    intro y27_
    replace h := h y27_
    replace K := fun i ro uo z => K i ro uo ⟨y27_, z⟩
    refine ⟨fun c => ?_, fun c => ?_⟩
    · replace h := h.1 c
      replace K := fun i ro uo z => K i ro uo (Or.inl ⟨c, z⟩)
      obtain ⟨n9, h⟩ := h
      exact ⟨n9, ru_X7_typesHold_L80 n9 i0 K h⟩
    · replace h := h.2 c
      replace K := fun i ro uo z => K i ro uo (Or.inr ⟨c, z⟩)
      obtain ⟨g28_, h⟩ := h
      refine ⟨g28_, ?_⟩
      replace K := fun i ro uo z => K i ro uo ⟨g28_, z⟩
      intro a38 ea38 
      replace h := h a38 ea38 
      replace K := fun i ro uo z => K i ro uo ⟨a38, ea38, z⟩
      refine ⟨fun c => ?_, fun c => ?_⟩
      · replace h := h.1 c
        replace K := fun i ro uo z => K i ro uo (Or.inl ⟨c, z⟩)
        obtain ⟨g29_, h⟩ := h
        refine ⟨g29_, ?_⟩
        replace K := fun i ro uo z => K i ro uo ⟨g29_, z⟩
        intro a66 ea66 
        replace h := h a66 ea66 
        replace K := fun i ro uo z => K i ro uo ⟨a66, ea66, z⟩
        obtain ⟨g30_, h⟩ := h
        refine ⟨g30_, ?_⟩
        replace K := fun i ro uo z => K i ro uo ⟨g30_, z⟩
        intro a70 ea70 
        replace h := h a70 ea70 
        replace K := fun i ro uo z => K i ro uo ⟨a70, ea70, z⟩
        obtain ⟨g31_, h⟩ := h
        refine ⟨g31_, ?_⟩
        replace K := fun i ro uo z => K i ro uo ⟨g31_, z⟩
        intro a74 ea74 
        replace h := h a74 ea74 
        replace K := fun i ro uo z => K i ro uo ⟨a74, ea74, z⟩
        refine ⟨fun c => ?_, fun c => ?_⟩
        · replace h := h.1 c
          replace K := fun i ro uo z => K i ro uo (Or.inl ⟨c, z⟩)
          exact ru_X7_typesHold_J60 i0 K h
        · replace h := h.2 c
          replace K := fun i ro uo z => K i ro uo (Or.inr ⟨c, z⟩)
          exact ru_X7_typesHold_J38 i0 (fun _ _ h K => ih i00 (fun i ro uo ⟨n8, z⟩ => K (i, n8) ro uo z) h) K h
      · replace h := h.2 c
        replace K := fun i ro uo z => K i ro uo (Or.inr ⟨c, z⟩)
        exact ru_X7_typesHold_J38 i0 (fun _ _ h K => ih i00 (fun i ro uo ⟨n8, z⟩ => K (i, n8) ro uo z) h) K h
set_option maxRecDepth 100000 in
theorem ruX7_typesHold {S : MS} {Q : Int32 → MS → Prop} (h : wX7_typesHold S Q) : wX7_typesHold S (fun r u => Q r u ∧ vX7_typesHold S r u) := by
  have i0 : Unit := ()
  have K : ∀ (i : Unit) (ro : Int32) (uo : MS), vX7_typesHold S ro uo → vX7_typesHold S ro uo := fun _ _ _ z => z
  unfold wX7_typesHold at h ⊢
  obtain ⟨n9, h⟩ := h
  exact ⟨n9, ru_X7_typesHold_L2 n9 i0 K h⟩
set_option maxRecDepth 100000 in
theorem vw_X7_typesHold_J147 {ro : Int32} {uo : MS} {k80 k80v : MS → Int32 → Prop} {U147 : MS} {t147_0 : Int32} {v147_1 : Int32} (hk80 : ∀ (u : MS) (z0 : Int32), k80v u z0 → k80 u z0) (h : v_X7_typesHold_J147 ro uo k80v U147 t147_0 v147_1) : w_X7_typesHold_J147 (fun r u => r = ro ∧ u = uo) k80 U147 t147_0 v147_1 := by
  unfold v_X7_typesHold_J147 at h
  unfold w_X7_typesHold_J147
  intro _ _
  replace h := h.2.2
  rcases h with ⟨c, h⟩ | ⟨c, h⟩
  · refine ⟨fun _ => ?_, fun c2 => absurd c c2⟩
    obtain ⟨g9, h⟩ := h
    refine ⟨g9, ?_⟩
    obtain ⟨v9, e9, h⟩ := h
    intro x9 d9 
    have c9 : v9 = x9 := e9.trans d9.symm
    subst c9
    obtain ⟨p9, q9, z9, h⟩ := h
    refine ⟨_, vwX7_breaks z9, ?_⟩
    rintro p8 q8 ⟨d8, d9⟩ _ _
    subst d8
    subst d9
    replace h := h.2.2
    exact ⟨h.1.symm, h.2.symm⟩
  · refine ⟨fun c2 => absurd c2 c, fun _ => ?_⟩
    obtain ⟨v9, e9, h⟩ := h
    intro x9 d9 
    have c9 : v9 = x9 := e9.trans d9.symm
    subst c9
    exact hk80 _ _ h
set_option maxRecDepth 100000 in
theorem vp_X7_typesHold_J147 {ro : Int32} {uo : MS} {P : Int32 → MS → Prop} {k80 k80v : MS → Int32 → Prop} {U147 : MS} {t147_0 : Int32} {v147_1 : Int32} (hk80 : ∀ (u : MS) (z0 : Int32), k80v u z0 → k80 u z0 → P ro uo) (h : v_X7_typesHold_J147 ro uo k80v U147 t147_0 v147_1) (w : w_X7_typesHold_J147 P k80 U147 t147_0 v147_1) : P ro uo := by
  unfold v_X7_typesHold_J147 at h
  unfold w_X7_typesHold_J147 at w
  obtain ⟨y1_, y2_, h⟩ := h
  replace w := w y1_ y2_
  rcases h with ⟨c, h⟩ | ⟨c, h⟩
  · replace w := w.1 c
    replace h := h.2
    replace w := w.2
    obtain ⟨v9, e9, h⟩ := h
    replace w := w v9 e9 
    obtain ⟨p9, q9, z9, y3_, y4_, h⟩ := h
    obtain ⟨Q9, w0, w⟩ := w
    replace w := w p9 q9 (vpX7_breaks z9 w0) y3_ y4_
    rw [h.1, h.2]
    exact w
  · replace w := w.2 c
    obtain ⟨v9, e9, h⟩ := h
    replace w := w v9 e9 
    exact hk80 _ _ h w
set_option maxRecDepth 100000 in
theorem vw_X7_typesHold_J146 {ro : Int32} {uo : MS} {k80 k80v : MS → Int32 → Prop} {U146 : MS} {v146_1 : Int32} (hk80 : ∀ (u : MS) (z0 : Int32), k80v u z0 → k80 u z0) (h : v_X7_typesHold_J146 ro uo k80v U146 v146_1) : w_X7_typesHold_J146 (fun r u => r = ro ∧ u = uo) k80 U146 v146_1 := by
  unfold v_X7_typesHold_J146 at h
  unfold w_X7_typesHold_J146
  intro _
  replace h := h.2
  exact vw_X7_typesHold_J147 hk80 h
set_option maxRecDepth 100000 in
theorem vp_X7_typesHold_J146 {ro : Int32} {uo : MS} {P : Int32 → MS → Prop} {k80 k80v : MS → Int32 → Prop} {U146 : MS} {v146_1 : Int32} (hk80 : ∀ (u : MS) (z0 : Int32), k80v u z0 → k80 u z0 → P ro uo) (h : v_X7_typesHold_J146 ro uo k80v U146 v146_1) (w : w_X7_typesHold_J146 P k80 U146 v146_1) : P ro uo := by
  unfold v_X7_typesHold_J146 at h
  unfold w_X7_typesHold_J146 at w
  obtain ⟨y5_, h⟩ := h
  replace w := w y5_
  exact vp_X7_typesHold_J147 hk80 h w
set_option maxRecDepth 100000 in
theorem vw_X7_typesHold_J60 {ro : Int32} {uo : MS} {U60 : MS} {v60_1 : Int32} (h : v_X7_typesHold_J60 ro uo U60 v60_1) : w_X7_typesHold_J60 (fun r u => r = ro ∧ u = uo) U60 v60_1 := by
  unfold v_X7_typesHold_J60 at h
  unfold w_X7_typesHold_J60
  intro _
  replace h := h.2
  obtain ⟨g9, h⟩ := h
  refine ⟨g9, ?_⟩
  obtain ⟨v9, e9, h⟩ := h
  intro x9 d9 
  have c9 : v9 = x9 := e9.trans d9.symm
  subst c9
  obtain ⟨p9, q9, z9, h⟩ := h
  refine ⟨_, vwX7_breaks z9, ?_⟩
  rintro p8 q8 ⟨d8, d9⟩ _ _
  subst d8
  subst d9
  replace h := h.2.2
  exact ⟨h.1.symm, h.2.symm⟩
set_option maxRecDepth 100000 in
theorem vp_X7_typesHold_J60 {ro : Int32} {uo : MS} {P : Int32 → MS → Prop} {U60 : MS} {v60_1 : Int32} (h : v_X7_typesHold_J60 ro uo U60 v60_1) (w : w_X7_typesHold_J60 P U60 v60_1) : P ro uo := by
  unfold v_X7_typesHold_J60 at h
  unfold w_X7_typesHold_J60 at w
  obtain ⟨y6_, h⟩ := h
  replace w := w y6_
  replace h := h.2
  replace w := w.2
  obtain ⟨v9, e9, h⟩ := h
  replace w := w v9 e9 
  obtain ⟨p9, q9, z9, y7_, y8_, h⟩ := h
  obtain ⟨Q9, w0, w⟩ := w
  replace w := w p9 q9 (vpX7_breaks z9 w0) y7_ y8_
  rw [h.1, h.2]
  exact w
set_option maxRecDepth 100000 in
theorem vw_X7_typesHold_J72 {ro : Int32} {uo : MS} {k2 k2v : MS → Int32 → Prop} {U72 : MS} {v72_1 : Int32} (hk2 : ∀ (u : MS) (z0 : Int32), k2v u z0 → k2 u z0) (h : v_X7_typesHold_J72 ro uo k2v U72 v72_1) : w_X7_typesHold_J72 (fun r u => r = ro ∧ u = uo) k2 U72 v72_1 := by
  unfold v_X7_typesHold_J72 at h
  unfold w_X7_typesHold_J72
  intro _
  replace h := h.2
  obtain ⟨v9, e9, h⟩ := h
  intro x9 d9 
  have c9 : v9 = x9 := e9.trans d9.symm
  subst c9
  exact hk2 _ _ h
set_option maxRecDepth 100000 in
theorem vp_X7_typesHold_J72 {ro : Int32} {uo : MS} {P : Int32 → MS → Prop} {k2 k2v : MS → Int32 → Prop} {U72 : MS} {v72_1 : Int32} (hk2 : ∀ (u : MS) (z0 : Int32), k2v u z0 → k2 u z0 → P ro uo) (h : v_X7_typesHold_J72 ro uo k2v U72 v72_1) (w : w_X7_typesHold_J72 P k2 U72 v72_1) : P ro uo := by
  unfold v_X7_typesHold_J72 at h
  unfold w_X7_typesHold_J72 at w
  obtain ⟨y9_, h⟩ := h
  replace w := w y9_
  obtain ⟨v9, e9, h⟩ := h
  replace w := w v9 e9 
  exact hk2 _ _ h w
set_option maxRecDepth 100000 in
theorem vw_X7_typesHold_J38 {ro : Int32} {uo : MS} {k2 k2v : MS → Int32 → Prop} {U38 : MS} {v38_1 : Int32} {v38_2 : Int32} (hk2 : ∀ (u : MS) (z0 : Int32), k2v u z0 → k2 u z0) (h : v_X7_typesHold_J38 ro uo k2v U38 v38_1 v38_2) : w_X7_typesHold_J38 (fun r u => r = ro ∧ u = uo) k2 U38 v38_1 v38_2 := by
  unfold v_X7_typesHold_J38 at h
  unfold w_X7_typesHold_J38
  intro _
  replace h := h.2
  rcases h with ⟨c, h⟩ | ⟨c, h⟩
  · refine ⟨fun _ => ?_, fun c2 => absurd c c2⟩
    obtain ⟨g9, h⟩ := h
    refine ⟨g9, ?_⟩
    obtain ⟨v9, e9, h⟩ := h
    intro x9 d9 
    have c9 : v9 = x9 := e9.trans d9.symm
    subst c9
    obtain ⟨g9, h⟩ := h
    refine ⟨g9, ?_⟩
    obtain ⟨v9, e9, h⟩ := h
    intro x9 d9 
    have c9 : v9 = x9 := e9.trans d9.symm
    subst c9
    obtain ⟨p9, q9, z9, h⟩ := h
    refine ⟨_, vwX7_isMethodType z9, ?_⟩
    rintro p8 q8 ⟨d8, d9⟩ _ _
    subst d8
    subst d9
    replace h := h.2.2
    rcases h with ⟨c, h⟩ | ⟨c, h⟩
    · refine ⟨fun _ => ?_, fun c2 => absurd c c2⟩
      exact vw_X7_typesHold_J60 h
    · refine ⟨fun c2 => absurd c2 c, fun _ => ?_⟩
      exact vw_X7_typesHold_J72 hk2 h
  · refine ⟨fun c2 => absurd c2 c, fun _ => ?_⟩
    exact vw_X7_typesHold_J72 hk2 h
set_option maxRecDepth 100000 in
theorem vp_X7_typesHold_J38 {ro : Int32} {uo : MS} {P : Int32 → MS → Prop} {k2 k2v : MS → Int32 → Prop} {U38 : MS} {v38_1 : Int32} {v38_2 : Int32} (hk2 : ∀ (u : MS) (z0 : Int32), k2v u z0 → k2 u z0 → P ro uo) (h : v_X7_typesHold_J38 ro uo k2v U38 v38_1 v38_2) (w : w_X7_typesHold_J38 P k2 U38 v38_1 v38_2) : P ro uo := by
  unfold v_X7_typesHold_J38 at h
  unfold w_X7_typesHold_J38 at w
  obtain ⟨y10_, h⟩ := h
  replace w := w y10_
  rcases h with ⟨c, h⟩ | ⟨c, h⟩
  · replace w := w.1 c
    replace h := h.2
    replace w := w.2
    obtain ⟨v9, e9, h⟩ := h
    replace w := w v9 e9 
    replace h := h.2
    replace w := w.2
    obtain ⟨v9, e9, h⟩ := h
    replace w := w v9 e9 
    obtain ⟨p9, q9, z9, y11_, y12_, h⟩ := h
    obtain ⟨Q9, w0, w⟩ := w
    replace w := w p9 q9 (vpX7_isMethodType z9 w0) y11_ y12_
    rcases h with ⟨c, h⟩ | ⟨c, h⟩
    · replace w := w.1 c
      exact vp_X7_typesHold_J60 h w
    · replace w := w.2 c
      exact vp_X7_typesHold_J72 hk2 h w
  · replace w := w.2 c
    exact vp_X7_typesHold_J72 hk2 h w
set_option maxRecDepth 100000 in
theorem vw_X7_typesHold_L80 {ro : Int32} {uo : MS} : ∀ (n : Nat) {U80 : MS} {v80_1 : Int32}, v_X7_typesHold_L80 ro uo n U80 v80_1 → w_X7_typesHold_L80 (fun r u => r = ro ∧ u = uo) n U80 v80_1 := by
  intro n
  induction n with
  | zero => intro U80 v80_1 h; unfold v_X7_typesHold_L80 at h; exact h.elim
  | succ n ih =>
    intro U80 v80_1 h
    unfold v_X7_typesHold_L80 at h
    unfold w_X7_typesHold_L80
    intro _
    replace h := h.2
    rcases h with ⟨c, h⟩ | ⟨c, h⟩
    · refine ⟨fun _ => ?_, fun c2 => absurd c c2⟩
      exact ⟨h.1.symm, h.2.symm⟩
    · refine ⟨fun c2 => absurd c2 c, fun _ => ?_⟩
      rcases h with ⟨c, h⟩ | ⟨c, h⟩
      · refine ⟨fun _ => ?_, fun c2 => absurd c c2⟩
        obtain ⟨g9, h⟩ := h
        refine ⟨g9, ?_⟩
        obtain ⟨v9, e9, h⟩ := h
        intro x9 d9 
        have c9 : v9 = x9 := e9.trans d9.symm
        subst c9
        obtain ⟨p9, q9, z9, h⟩ := h
        refine ⟨_, vwX7_isMethodType z9, ?_⟩
        rintro p8 q8 ⟨d8, d9⟩ _ _
        subst d8
        subst d9
        replace h := h.2.2
        rcases h with ⟨c, h⟩ | ⟨c, h⟩
        · refine ⟨fun _ => ?_, fun c2 => absurd c c2⟩
          exact vw_X7_typesHold_J146 (fun _ _ h => ih h) h
        · refine ⟨fun c2 => absurd c2 c, fun _ => ?_⟩
          rcases h with ⟨c, h⟩ | ⟨c, h⟩
          · refine ⟨fun _ => ?_, fun c2 => absurd c c2⟩
            exact vw_X7_typesHold_J146 (fun _ _ h => ih h) h
          · refine ⟨fun c2 => absurd c2 c, fun _ => ?_⟩
            exact vw_X7_typesHold_J147 (fun _ _ h => ih h) h
      · refine ⟨fun c2 => absurd c2 c, fun _ => ?_⟩
        obtain ⟨g9, h⟩ := h
        refine ⟨g9, ?_⟩
        obtain ⟨v9, e9, h⟩ := h
        intro x9 d9 
        have c9 : v9 = x9 := e9.trans d9.symm
        subst c9
        obtain ⟨g9, h⟩ := h
        refine ⟨g9, ?_⟩
        obtain ⟨v9, e9, h⟩ := h
        intro x9 d9 
        have c9 : v9 = x9 := e9.trans d9.symm
        subst c9
        rcases h with ⟨c, h⟩ | ⟨c, h⟩
        · refine ⟨fun _ => ?_, fun c2 => absurd c c2⟩
          exact vw_X7_typesHold_J147 (fun _ _ h => ih h) h
        · refine ⟨fun c2 => absurd c2 c, fun _ => ?_⟩
          exact vw_X7_typesHold_J147 (fun _ _ h => ih h) h
set_option maxRecDepth 100000 in
theorem vp_X7_typesHold_L80 {ro : Int32} {uo : MS} {P : Int32 → MS → Prop} : ∀ (n m : Nat) {U80 : MS} {v80_1 : Int32}, v_X7_typesHold_L80 ro uo n U80 v80_1 → w_X7_typesHold_L80 P m U80 v80_1 → P ro uo := by
  intro n
  induction n with
  | zero => intro m U80 v80_1 h; unfold v_X7_typesHold_L80 at h; exact h.elim
  | succ n ih =>
    intro m U80 v80_1 h w
    cases m with
    | zero => unfold w_X7_typesHold_L80 at w; exact w.elim
    | succ m =>
      unfold v_X7_typesHold_L80 at h
      unfold w_X7_typesHold_L80 at w
      obtain ⟨y13_, h⟩ := h
      replace w := w y13_
      rcases h with ⟨c, h⟩ | ⟨c, h⟩
      · replace w := w.1 c
        rw [h.1, h.2]
        exact w
      · replace w := w.2 c
        rcases h with ⟨c, h⟩ | ⟨c, h⟩
        · replace w := w.1 c
          replace h := h.2
          replace w := w.2
          obtain ⟨v9, e9, h⟩ := h
          replace w := w v9 e9 
          obtain ⟨p9, q9, z9, y14_, y15_, h⟩ := h
          obtain ⟨Q9, w0, w⟩ := w
          replace w := w p9 q9 (vpX7_isMethodType z9 w0) y14_ y15_
          rcases h with ⟨c, h⟩ | ⟨c, h⟩
          · replace w := w.1 c
            exact vp_X7_typesHold_J146 (fun _ _ h w => ih m h w) h w
          · replace w := w.2 c
            rcases h with ⟨c, h⟩ | ⟨c, h⟩
            · replace w := w.1 c
              exact vp_X7_typesHold_J146 (fun _ _ h w => ih m h w) h w
            · replace w := w.2 c
              exact vp_X7_typesHold_J147 (fun _ _ h w => ih m h w) h w
        · replace w := w.2 c
          replace h := h.2
          replace w := w.2
          obtain ⟨v9, e9, h⟩ := h
          replace w := w v9 e9 
          replace h := h.2
          replace w := w.2
          obtain ⟨v9, e9, h⟩ := h
          replace w := w v9 e9 
          rcases h with ⟨c, h⟩ | ⟨c, h⟩
          · replace w := w.1 c
            exact vp_X7_typesHold_J147 (fun _ _ h w => ih m h w) h w
          · replace w := w.2 c
            exact vp_X7_typesHold_J147 (fun _ _ h w => ih m h w) h w
set_option maxRecDepth 100000 in
theorem vw_X7_typesHold_L2 {ro : Int32} {uo : MS} : ∀ (n : Nat) {U2 : MS} {v2_1 : Int32}, v_X7_typesHold_L2 ro uo n U2 v2_1 → w_X7_typesHold_L2 (fun r u => r = ro ∧ u = uo) n U2 v2_1 := by
  intro n
  induction n with
  | zero => intro U2 v2_1 h; unfold v_X7_typesHold_L2 at h; exact h.elim
  | succ n ih =>
    intro U2 v2_1 h
    unfold v_X7_typesHold_L2 at h
    unfold w_X7_typesHold_L2
    intro _
    replace h := h.2
    rcases h with ⟨c, h⟩ | ⟨c, h⟩
    · refine ⟨fun _ => ?_, fun c2 => absurd c c2⟩
      obtain ⟨n9, h⟩ := h
      exact ⟨n9, vw_X7_typesHold_L80 n9 h⟩
    · refine ⟨fun c2 => absurd c2 c, fun _ => ?_⟩
      obtain ⟨g9, h⟩ := h
      refine ⟨g9, ?_⟩
      obtain ⟨v9, e9, h⟩ := h
      intro x9 d9 
      have c9 : v9 = x9 := e9.trans d9.symm
      subst c9
      rcases h with ⟨c, h⟩ | ⟨c, h⟩
      · refine ⟨fun _ => ?_, fun c2 => absurd c c2⟩
        obtain ⟨g9, h⟩ := h
        refine ⟨g9, ?_⟩
        obtain ⟨v9, e9, h⟩ := h
        intro x9 d9 
        have c9 : v9 = x9 := e9.trans d9.symm
        subst c9
        obtain ⟨g9, h⟩ := h
        refine ⟨g9, ?_⟩
        obtain ⟨v9, e9, h⟩ := h
        intro x9 d9 
        have c9 : v9 = x9 := e9.trans d9.symm
        subst c9
        obtain ⟨g9, h⟩ := h
        refine ⟨g9, ?_⟩
        obtain ⟨v9, e9, h⟩ := h
        intro x9 d9 
        have c9 : v9 = x9 := e9.trans d9.symm
        subst c9
        rcases h with ⟨c, h⟩ | ⟨c, h⟩
        · refine ⟨fun _ => ?_, fun c2 => absurd c c2⟩
          exact vw_X7_typesHold_J60 h
        · refine ⟨fun c2 => absurd c2 c, fun _ => ?_⟩
          exact vw_X7_typesHold_J38 (fun _ _ h => ih h) h
      · refine ⟨fun c2 => absurd c2 c, fun _ => ?_⟩
        exact vw_X7_typesHold_J38 (fun _ _ h => ih h) h
set_option maxRecDepth 100000 in
theorem vp_X7_typesHold_L2 {ro : Int32} {uo : MS} {P : Int32 → MS → Prop} : ∀ (n m : Nat) {U2 : MS} {v2_1 : Int32}, v_X7_typesHold_L2 ro uo n U2 v2_1 → w_X7_typesHold_L2 P m U2 v2_1 → P ro uo := by
  intro n
  induction n with
  | zero => intro m U2 v2_1 h; unfold v_X7_typesHold_L2 at h; exact h.elim
  | succ n ih =>
    intro m U2 v2_1 h w
    cases m with
    | zero => unfold w_X7_typesHold_L2 at w; exact w.elim
    | succ m =>
      unfold v_X7_typesHold_L2 at h
      unfold w_X7_typesHold_L2 at w
      obtain ⟨y16_, h⟩ := h
      replace w := w y16_
      rcases h with ⟨c, h⟩ | ⟨c, h⟩
      · replace w := w.1 c
        obtain ⟨n9, h⟩ := h
        obtain ⟨n8, w⟩ := w
        exact vp_X7_typesHold_L80 n9 n8 h w
      · replace w := w.2 c
        replace h := h.2
        replace w := w.2
        obtain ⟨v9, e9, h⟩ := h
        replace w := w v9 e9 
        rcases h with ⟨c, h⟩ | ⟨c, h⟩
        · replace w := w.1 c
          replace h := h.2
          replace w := w.2
          obtain ⟨v9, e9, h⟩ := h
          replace w := w v9 e9 
          replace h := h.2
          replace w := w.2
          obtain ⟨v9, e9, h⟩ := h
          replace w := w v9 e9 
          replace h := h.2
          replace w := w.2
          obtain ⟨v9, e9, h⟩ := h
          replace w := w v9 e9 
          rcases h with ⟨c, h⟩ | ⟨c, h⟩
          · replace w := w.1 c
            exact vp_X7_typesHold_J60 h w
          · replace w := w.2 c
            exact vp_X7_typesHold_J38 (fun _ _ h w => ih m h w) h w
        · replace w := w.2 c
          exact vp_X7_typesHold_J38 (fun _ _ h w => ih m h w) h w
set_option maxRecDepth 100000 in
theorem vwX7_typesHold {S : MS} {ro : Int32} {uo : MS} (h : vX7_typesHold S ro uo) : wX7_typesHold S (fun r u => r = ro ∧ u = uo) := by
  unfold vX7_typesHold at h
  unfold wX7_typesHold
  obtain ⟨n9, h⟩ := h
  exact ⟨n9, vw_X7_typesHold_L2 n9 h⟩
set_option maxRecDepth 100000 in
theorem vpX7_typesHold {S : MS} {ro : Int32} {uo : MS} {P : Int32 → MS → Prop} (h : vX7_typesHold S ro uo) (w : wX7_typesHold S P) : P ro uo := by
  unfold vX7_typesHold at h
  unfold wX7_typesHold at w
  obtain ⟨n9, h⟩ := h
  obtain ⟨n8, w⟩ := w
  exact vp_X7_typesHold_L2 n9 n8 h w
def v_X9_findReached_J78 (uo : MS) (k50 : MS → Int32 → Int32 → Int32 → Prop) (U78 : MS) (v78_1 : Int32) (v78_2 : Int32) (v78_3 : Int32) : Prop := (wfC U78 ∧ (∃ a13 : Int32, a13 = (v78_3 + Int32.ofInt 1) ∧ (k50 U78 v78_1 v78_2 a13)))
def v_X9_findReached_J25 (uo : MS) (k2 : MS → Int32 → Prop) (U25 : MS) (t25_0 : Int32) (t25_1 : Int32) (t25_2 : Nat) (v25_1 : Int32) : Prop := (wfC U25 ∧ qT U25 t25_2 = 306 ∧ (t25_0 = 0 ∨ t25_0 = 1) ∧ (((0 : Int) ≤ t25_1.toInt ∧ t25_1.toInt < (qN U25 t25_2 : Int)) ∧ (∃ S23 : MS, S23 = wI U25 t25_2 t25_1.toInt.toNat (vp_nar .boolean t25_0) ∧ qT U25 t25_2 = 306 ∧ wfC S23 ∧ (∃ a24 : Int32, a24 = (v25_1 + Int32.ofInt 1) ∧ (k2 S23 a24)))))
def v_X9_findReached_L50 (uo : MS) (k36 : MS → Int32 → Int32 → Prop) : Nat → MS → Int32 → Int32 → Int32 → Prop
  | 0, _, _, _, _ => False
  | n50 + 1, U50, v50_1, v50_2, v50_3 => (wfC U50 ∧ (((qI U50 (qO U50 66 0) 2).toInt ≤ v50_3.toInt ∧ (∃ a8 : Int32, a8 = (v50_2 + Int32.ofInt 1) ∧ (k36 U50 v50_1 a8))) ∨ (¬ (qI U50 (qO U50 66 0) 2).toInt ≤ v50_3.toInt ∧ (((0 : Int) ≤ v50_3.toInt ∧ v50_3.toInt < (qN U50 (qO U50 66 3) : Int)) ∧ (((qI U50 (qO U50 66 3) v50_3.toInt.toNat).toInt = 0 ∧ (v_X9_findReached_J78 uo (v_X9_findReached_L50 uo k36 n50) U50 v50_1 v50_2 v50_3)) ∨ (¬ (qI U50 (qO U50 66 3) v50_3.toInt.toNat).toInt = 0 ∧ (∃ (r16 : Int32) (S17 : MS), vX9_reachFrom U50 v50_3 r16 S17 ∧ wfC S17 ∧ shy U50 S17 ∧ (∃ a20 : Int32, a20 = (v50_1 ||| r16) ∧ (v_X9_findReached_J78 uo (v_X9_findReached_L50 uo k36 n50) S17 a20 v50_2 v50_3)))))))))
def v_X9_findReached_L36 (uo : MS) : Nat → MS → Int32 → Int32 → Prop
  | 0, _, _, _ => False
  | n36 + 1, U36, v36_1, v36_2 => (wfC U36 ∧ ((v36_1.toInt = 0 ∧ (uo = U36)) ∨ (¬ v36_1.toInt = 0 ∧ ((1000000 ≤ v36_2.toInt ∧ (uo = U36)) ∨ (¬ 1000000 ≤ v36_2.toInt ∧ (∃ n, v_X9_findReached_L50 uo (v_X9_findReached_L36 uo n36) n U36 0 v36_2 0))))))
def v_X9_findReached_L2 (uo : MS) : Nat → MS → Int32 → Prop
  | 0, _, _ => False
  | n2 + 1, U2, v2_1 => (wfC U2 ∧ (((qN U2 (qO U2 66 3) : Int) ≤ v2_1.toInt ∧ (∃ n, v_X9_findReached_L36 uo n U2 1 0)) ∨ (¬ (qN U2 (qO U2 66 3) : Int) ≤ v2_1.toInt ∧ ((v2_1.toInt = 0 ∧ (v_X9_findReached_J25 uo (v_X9_findReached_L2 uo n2) U2 1 v2_1 (qO U2 66 3) v2_1)) ∨ (¬ v2_1.toInt = 0 ∧ (v_X9_findReached_J25 uo (v_X9_findReached_L2 uo n2) U2 0 v2_1 (qO U2 66 3) v2_1))))))
def vX9_findReached (S : MS) (uo : MS) : Prop := (∃ n, v_X9_findReached_L2 uo n S 0)
set_option maxRecDepth 100000 in
theorem ru_X9_findReached_J78 {ι : Type} {P Q : MS → Prop} {k50 k50' : MS → Int32 → Int32 → Int32 → Prop} {k50v : ι → MS → MS → Int32 → Int32 → Int32 → Prop} {U78 : MS} {v78_1 : Int32} {v78_2 : Int32} {v78_3 : Int32} (i0 : ι) (hk50 : ∀ (u : MS) (z0 : Int32) (z1 : Int32) (z2 : Int32), k50 u z0 z1 z2 → (∀ (i : ι) (uo : MS), k50v i uo u z0 z1 z2 → P uo) → k50' u z0 z1 z2) (K : ∀ (i : ι) (uo : MS), v_X9_findReached_J78 uo (k50v i uo) U78 v78_1 v78_2 v78_3 → P uo) (h : w_X9_findReached_J78 Q k50 U78 v78_1 v78_2 v78_3) : w_X9_findReached_J78 (fun u => Q u ∧ P u) k50' U78 v78_1 v78_2 v78_3 := by
  unfold w_X9_findReached_J78 at h ⊢
  intro y1_
  replace h := h y1_
  replace K := fun i uo z => K i uo ⟨y1_, z⟩
  intro a13 ea13 
  replace h := h a13 ea13 
  replace K := fun i uo z => K i uo ⟨a13, ea13, z⟩
  exact hk50 _ _ _ _ h K
set_option maxRecDepth 100000 in
theorem ru_X9_findReached_J25 {ι : Type} {P Q : MS → Prop} {k2 k2' : MS → Int32 → Prop} {k2v : ι → MS → MS → Int32 → Prop} {U25 : MS} {t25_0 : Int32} {t25_1 : Int32} {t25_2 : Nat} {v25_1 : Int32} (i0 : ι) (hk2 : ∀ (u : MS) (z0 : Int32), k2 u z0 → (∀ (i : ι) (uo : MS), k2v i uo u z0 → P uo) → k2' u z0) (K : ∀ (i : ι) (uo : MS), v_X9_findReached_J25 uo (k2v i uo) U25 t25_0 t25_1 t25_2 v25_1 → P uo) (h : w_X9_findReached_J25 Q k2 U25 t25_0 t25_1 t25_2 v25_1) : w_X9_findReached_J25 (fun u => Q u ∧ P u) k2' U25 t25_0 t25_1 t25_2 v25_1 := by
  unfold w_X9_findReached_J25 at h ⊢
  intro y2_ y3_ y4_
  replace h := h y2_ y3_ y4_
  replace K := fun i uo z => K i uo ⟨y2_, y3_, y4_, z⟩
  obtain ⟨g5_, h⟩ := h
  refine ⟨g5_, ?_⟩
  replace K := fun i uo z => K i uo ⟨g5_, z⟩
  intro S23 eS23 y6_ y7_
  replace h := h S23 eS23 y6_ y7_
  replace K := fun i uo z => K i uo ⟨S23, eS23, y6_, y7_, z⟩
  intro a24 ea24 
  replace h := h a24 ea24 
  replace K := fun i uo z => K i uo ⟨a24, ea24, z⟩
  exact hk2 _ _ h K
set_option maxRecDepth 100000 in
theorem ru_X9_findReached_L50 {ι : Type} {P Q : MS → Prop} {k36 k36' : MS → Int32 → Int32 → Prop} {k36v : ι → MS → MS → Int32 → Int32 → Prop} : ∀ (n : Nat) {U50 : MS} {v50_1 : Int32} {v50_2 : Int32} {v50_3 : Int32} (i0 : ι) (hk36 : ∀ (u : MS) (z0 : Int32) (z1 : Int32), k36 u z0 z1 → (∀ (i : ι) (uo : MS), k36v i uo u z0 z1 → P uo) → k36' u z0 z1), (∀ (i : ι) (uo : MS), (∃ n8, v_X9_findReached_L50 uo (k36v i uo) n8 U50 v50_1 v50_2 v50_3) → P uo) → w_X9_findReached_L50 Q k36 n U50 v50_1 v50_2 v50_3 → w_X9_findReached_L50 (fun u => Q u ∧ P u) k36' n U50 v50_1 v50_2 v50_3 := by
  intro n
  induction n with
  | zero => intro U50 v50_1 v50_2 v50_3 i0 hk36 K h; unfold w_X9_findReached_L50 at h; exact h.elim
  | succ n ih =>
    intro U50 v50_1 v50_2 v50_3 i0 hk36 K h
    unfold w_X9_findReached_L50 at h ⊢
    replace K := fun (i : ι × Nat) uo (z : v_X9_findReached_L50 uo (k36v i.1 uo) (i.2 + 1) U50 v50_1 v50_2 v50_3) => K i.1 uo ⟨i.2 + 1, z⟩
    have i00 := i0
    replace i0 : ι × Nat := (i0, 0)
    intro y8_
    replace h := h y8_
    replace K := fun i uo z => K i uo ⟨y8_, z⟩
    refine ⟨fun c => ?_, fun c => ?_⟩
    · replace h := h.1 c
      replace K := fun i uo z => K i uo (Or.inl ⟨c, z⟩)
      intro a8 ea8 
      replace h := h a8 ea8 
      replace K := fun i uo z => K i uo ⟨a8, ea8, z⟩
      exact hk36 _ _ _ h (fun i uo z => K (i, 0) uo z)
    · replace h := h.2 c
      replace K := fun i uo z => K i uo (Or.inr ⟨c, z⟩)
      obtain ⟨g9_, h⟩ := h
      refine ⟨g9_, ?_⟩
      replace K := fun i uo z => K i uo ⟨g9_, z⟩
      refine ⟨fun c => ?_, fun c => ?_⟩
      · replace h := h.1 c
        replace K := fun i uo z => K i uo (Or.inl ⟨c, z⟩)
        exact ru_X9_findReached_J78 i0 (fun _ _ _ _ h K => ih i00 hk36 (fun i uo ⟨n8, z⟩ => K (i, n8) uo z) h) K h
      · replace h := h.2 c
        replace K := fun i uo z => K i uo (Or.inr ⟨c, z⟩)
        obtain ⟨Q9, h0, h⟩ := h
        refine ⟨_, ruX9_reachFrom h0, ?_⟩
        intro r16 S17 q10_ y11_ y12_
        replace h := h r16 S17 q10_.1 y11_ y12_
        replace K := fun i uo z => K i uo ⟨r16, S17, q10_.2, y11_, y12_, z⟩
        intro a20 ea20 
        replace h := h a20 ea20 
        replace K := fun i uo z => K i uo ⟨a20, ea20, z⟩
        exact ru_X9_findReached_J78 i0 (fun _ _ _ _ h K => ih i00 hk36 (fun i uo ⟨n8, z⟩ => K (i, n8) uo z) h) K h
set_option maxRecDepth 100000 in
theorem ru_X9_findReached_L36 {ι : Type} {P Q : MS → Prop} : ∀ (n : Nat) {U36 : MS} {v36_1 : Int32} {v36_2 : Int32} (i0 : ι), (∀ (i : ι) (uo : MS), (∃ n8, v_X9_findReached_L36 uo n8 U36 v36_1 v36_2) → P uo) → w_X9_findReached_L36 Q n U36 v36_1 v36_2 → w_X9_findReached_L36 (fun u => Q u ∧ P u) n U36 v36_1 v36_2 := by
  intro n
  induction n with
  | zero => intro U36 v36_1 v36_2 i0 K h; unfold w_X9_findReached_L36 at h; exact h.elim
  | succ n ih =>
    intro U36 v36_1 v36_2 i0 K h
    unfold w_X9_findReached_L36 at h ⊢
    replace K := fun (i : ι × Nat) uo (z : v_X9_findReached_L36 uo (i.2 + 1) U36 v36_1 v36_2) => K i.1 uo ⟨i.2 + 1, z⟩
    have i00 := i0
    replace i0 : ι × Nat := (i0, 0)
    intro y13_
    replace h := h y13_
    replace K := fun i uo z => K i uo ⟨y13_, z⟩
    refine ⟨fun c => ?_, fun c => ?_⟩
    · replace h := h.1 c
      replace K := fun i uo z => K i uo (Or.inl ⟨c, z⟩)
      exact ⟨h, K i0 _ rfl⟩
    · replace h := h.2 c
      replace K := fun i uo z => K i uo (Or.inr ⟨c, z⟩)
      refine ⟨fun c => ?_, fun c => ?_⟩
      · replace h := h.1 c
        replace K := fun i uo z => K i uo (Or.inl ⟨c, z⟩)
        exact ⟨h, K i0 _ rfl⟩
      · replace h := h.2 c
        replace K := fun i uo z => K i uo (Or.inr ⟨c, z⟩)
        obtain ⟨n9, h⟩ := h
        exact ⟨n9, ru_X9_findReached_L50 n9 i0 (fun _ _ _ h K => ih i00 (fun i uo ⟨n8, z⟩ => K (i, n8) uo z) h) K h⟩
set_option maxRecDepth 100000 in
theorem ru_X9_findReached_L2 {ι : Type} {P Q : MS → Prop} : ∀ (n : Nat) {U2 : MS} {v2_1 : Int32} (i0 : ι), (∀ (i : ι) (uo : MS), (∃ n8, v_X9_findReached_L2 uo n8 U2 v2_1) → P uo) → w_X9_findReached_L2 Q n U2 v2_1 → w_X9_findReached_L2 (fun u => Q u ∧ P u) n U2 v2_1 := by
  intro n
  induction n with
  | zero => intro U2 v2_1 i0 K h; unfold w_X9_findReached_L2 at h; exact h.elim
  | succ n ih =>
    intro U2 v2_1 i0 K h
    unfold w_X9_findReached_L2 at h ⊢
    replace K := fun (i : ι × Nat) uo (z : v_X9_findReached_L2 uo (i.2 + 1) U2 v2_1) => K i.1 uo ⟨i.2 + 1, z⟩
    have i00 := i0
    replace i0 : ι × Nat := (i0, 0)
    intro y14_
    replace h := h y14_
    replace K := fun i uo z => K i uo ⟨y14_, z⟩
    refine ⟨fun c => ?_, fun c => ?_⟩
    · replace h := h.1 c
      replace K := fun i uo z => K i uo (Or.inl ⟨c, z⟩)
      obtain ⟨n9, h⟩ := h
      exact ⟨n9, ru_X9_findReached_L36 n9 i0 K h⟩
    · replace h := h.2 c
      replace K := fun i uo z => K i uo (Or.inr ⟨c, z⟩)
      refine ⟨fun c => ?_, fun c => ?_⟩
      · replace h := h.1 c
        replace K := fun i uo z => K i uo (Or.inl ⟨c, z⟩)
        exact ru_X9_findReached_J25 i0 (fun _ _ h K => ih i00 (fun i uo ⟨n8, z⟩ => K (i, n8) uo z) h) K h
      · replace h := h.2 c
        replace K := fun i uo z => K i uo (Or.inr ⟨c, z⟩)
        exact ru_X9_findReached_J25 i0 (fun _ _ h K => ih i00 (fun i uo ⟨n8, z⟩ => K (i, n8) uo z) h) K h
set_option maxRecDepth 100000 in
theorem ruX9_findReached {S : MS} {Q : MS → Prop} (h : wX9_findReached S Q) : wX9_findReached S (fun u => Q u ∧ vX9_findReached S u) := by
  have i0 : Unit := ()
  have K : ∀ (i : Unit) (uo : MS), vX9_findReached S uo → vX9_findReached S uo := fun _ _ z => z
  unfold wX9_findReached at h ⊢
  obtain ⟨n9, h⟩ := h
  exact ⟨n9, ru_X9_findReached_L2 n9 i0 K h⟩
set_option maxRecDepth 100000 in
theorem vw_X9_findReached_J78 {uo : MS} {k50 k50v : MS → Int32 → Int32 → Int32 → Prop} {U78 : MS} {v78_1 : Int32} {v78_2 : Int32} {v78_3 : Int32} (hk50 : ∀ (u : MS) (z0 : Int32) (z1 : Int32) (z2 : Int32), k50v u z0 z1 z2 → k50 u z0 z1 z2) (h : v_X9_findReached_J78 uo k50v U78 v78_1 v78_2 v78_3) : w_X9_findReached_J78 (fun u => u = uo) k50 U78 v78_1 v78_2 v78_3 := by
  unfold v_X9_findReached_J78 at h
  unfold w_X9_findReached_J78
  intro _
  replace h := h.2
  obtain ⟨v9, e9, h⟩ := h
  intro x9 d9 
  have c9 : v9 = x9 := e9.trans d9.symm
  subst c9
  exact hk50 _ _ _ _ h
set_option maxRecDepth 100000 in
theorem vp_X9_findReached_J78 {uo : MS} {P : MS → Prop} {k50 k50v : MS → Int32 → Int32 → Int32 → Prop} {U78 : MS} {v78_1 : Int32} {v78_2 : Int32} {v78_3 : Int32} (hk50 : ∀ (u : MS) (z0 : Int32) (z1 : Int32) (z2 : Int32), k50v u z0 z1 z2 → k50 u z0 z1 z2 → P uo) (h : v_X9_findReached_J78 uo k50v U78 v78_1 v78_2 v78_3) (w : w_X9_findReached_J78 P k50 U78 v78_1 v78_2 v78_3) : P uo := by
  unfold v_X9_findReached_J78 at h
  unfold w_X9_findReached_J78 at w
  obtain ⟨y1_, h⟩ := h
  replace w := w y1_
  obtain ⟨v9, e9, h⟩ := h
  replace w := w v9 e9 
  exact hk50 _ _ _ _ h w
set_option maxRecDepth 100000 in
theorem vw_X9_findReached_J25 {uo : MS} {k2 k2v : MS → Int32 → Prop} {U25 : MS} {t25_0 : Int32} {t25_1 : Int32} {t25_2 : Nat} {v25_1 : Int32} (hk2 : ∀ (u : MS) (z0 : Int32), k2v u z0 → k2 u z0) (h : v_X9_findReached_J25 uo k2v U25 t25_0 t25_1 t25_2 v25_1) : w_X9_findReached_J25 (fun u => u = uo) k2 U25 t25_0 t25_1 t25_2 v25_1 := by
  unfold v_X9_findReached_J25 at h
  unfold w_X9_findReached_J25
  intro _ _ _
  replace h := h.2.2.2
  obtain ⟨g9, h⟩ := h
  refine ⟨g9, ?_⟩
  obtain ⟨v9, e9, h⟩ := h
  intro x9 d9 _ _
  have c9 : v9 = x9 := e9.trans d9.symm
  subst c9
  replace h := h.2.2
  obtain ⟨v9, e9, h⟩ := h
  intro x9 d9 
  have c9 : v9 = x9 := e9.trans d9.symm
  subst c9
  exact hk2 _ _ h
set_option maxRecDepth 100000 in
theorem vp_X9_findReached_J25 {uo : MS} {P : MS → Prop} {k2 k2v : MS → Int32 → Prop} {U25 : MS} {t25_0 : Int32} {t25_1 : Int32} {t25_2 : Nat} {v25_1 : Int32} (hk2 : ∀ (u : MS) (z0 : Int32), k2v u z0 → k2 u z0 → P uo) (h : v_X9_findReached_J25 uo k2v U25 t25_0 t25_1 t25_2 v25_1) (w : w_X9_findReached_J25 P k2 U25 t25_0 t25_1 t25_2 v25_1) : P uo := by
  unfold v_X9_findReached_J25 at h
  unfold w_X9_findReached_J25 at w
  obtain ⟨y2_, y3_, y4_, h⟩ := h
  replace w := w y2_ y3_ y4_
  replace h := h.2
  replace w := w.2
  obtain ⟨v9, e9, y5_, y6_, h⟩ := h
  replace w := w v9 e9 y5_ y6_
  obtain ⟨v9, e9, h⟩ := h
  replace w := w v9 e9 
  exact hk2 _ _ h w
set_option maxRecDepth 100000 in
theorem vw_X9_findReached_L50 {uo : MS} {k36 k36v : MS → Int32 → Int32 → Prop} : ∀ (n : Nat) {U50 : MS} {v50_1 : Int32} {v50_2 : Int32} {v50_3 : Int32} (hk36 : ∀ (u : MS) (z0 : Int32) (z1 : Int32), k36v u z0 z1 → k36 u z0 z1), v_X9_findReached_L50 uo k36v n U50 v50_1 v50_2 v50_3 → w_X9_findReached_L50 (fun u => u = uo) k36 n U50 v50_1 v50_2 v50_3 := by
  intro n
  induction n with
  | zero => intro U50 v50_1 v50_2 v50_3 hk36 h; unfold v_X9_findReached_L50 at h; exact h.elim
  | succ n ih =>
    intro U50 v50_1 v50_2 v50_3 hk36 h
    unfold v_X9_findReached_L50 at h
    unfold w_X9_findReached_L50
    intro _
    replace h := h.2
    rcases h with ⟨c, h⟩ | ⟨c, h⟩
    · refine ⟨fun _ => ?_, fun c2 => absurd c c2⟩
      obtain ⟨v9, e9, h⟩ := h
      intro x9 d9 
      have c9 : v9 = x9 := e9.trans d9.symm
      subst c9
      exact hk36 _ _ _ h
    · refine ⟨fun c2 => absurd c2 c, fun _ => ?_⟩
      obtain ⟨g9, h⟩ := h
      refine ⟨g9, ?_⟩
      rcases h with ⟨c, h⟩ | ⟨c, h⟩
      · refine ⟨fun _ => ?_, fun c2 => absurd c c2⟩
        exact vw_X9_findReached_J78 (fun _ _ _ _ h => ih hk36 h) h
      · refine ⟨fun c2 => absurd c2 c, fun _ => ?_⟩
        obtain ⟨p9, q9, z9, h⟩ := h
        refine ⟨_, vwX9_reachFrom z9, ?_⟩
        rintro p8 q8 ⟨d8, d9⟩ _ _
        subst d8
        subst d9
        replace h := h.2.2
        obtain ⟨v9, e9, h⟩ := h
        intro x9 d9 
        have c9 : v9 = x9 := e9.trans d9.symm
        subst c9
        exact vw_X9_findReached_J78 (fun _ _ _ _ h => ih hk36 h) h
set_option maxRecDepth 100000 in
theorem vp_X9_findReached_L50 {uo : MS} {P : MS → Prop} {k36 k36v : MS → Int32 → Int32 → Prop} : ∀ (n m : Nat) {U50 : MS} {v50_1 : Int32} {v50_2 : Int32} {v50_3 : Int32} (hk36 : ∀ (u : MS) (z0 : Int32) (z1 : Int32), k36v u z0 z1 → k36 u z0 z1 → P uo), v_X9_findReached_L50 uo k36v n U50 v50_1 v50_2 v50_3 → w_X9_findReached_L50 P k36 m U50 v50_1 v50_2 v50_3 → P uo := by
  intro n
  induction n with
  | zero => intro m U50 v50_1 v50_2 v50_3 hk36 h; unfold v_X9_findReached_L50 at h; exact h.elim
  | succ n ih =>
    intro m U50 v50_1 v50_2 v50_3 hk36 h w
    cases m with
    | zero => unfold w_X9_findReached_L50 at w; exact w.elim
    | succ m =>
      unfold v_X9_findReached_L50 at h
      unfold w_X9_findReached_L50 at w
      obtain ⟨y7_, h⟩ := h
      replace w := w y7_
      rcases h with ⟨c, h⟩ | ⟨c, h⟩
      · replace w := w.1 c
        obtain ⟨v9, e9, h⟩ := h
        replace w := w v9 e9 
        exact hk36 _ _ _ h w
      · replace w := w.2 c
        replace h := h.2
        replace w := w.2
        rcases h with ⟨c, h⟩ | ⟨c, h⟩
        · replace w := w.1 c
          exact vp_X9_findReached_J78 (fun _ _ _ _ h w => ih m hk36 h w) h w
        · replace w := w.2 c
          obtain ⟨p9, q9, z9, y8_, y9_, h⟩ := h
          obtain ⟨Q9, w0, w⟩ := w
          replace w := w p9 q9 (vpX9_reachFrom z9 w0) y8_ y9_
          obtain ⟨v9, e9, h⟩ := h
          replace w := w v9 e9 
          exact vp_X9_findReached_J78 (fun _ _ _ _ h w => ih m hk36 h w) h w
set_option maxRecDepth 100000 in
theorem vw_X9_findReached_L36 {uo : MS} : ∀ (n : Nat) {U36 : MS} {v36_1 : Int32} {v36_2 : Int32}, v_X9_findReached_L36 uo n U36 v36_1 v36_2 → w_X9_findReached_L36 (fun u => u = uo) n U36 v36_1 v36_2 := by
  intro n
  induction n with
  | zero => intro U36 v36_1 v36_2 h; unfold v_X9_findReached_L36 at h; exact h.elim
  | succ n ih =>
    intro U36 v36_1 v36_2 h
    unfold v_X9_findReached_L36 at h
    unfold w_X9_findReached_L36
    intro _
    replace h := h.2
    rcases h with ⟨c, h⟩ | ⟨c, h⟩
    · refine ⟨fun _ => ?_, fun c2 => absurd c c2⟩
      exact h.symm
    · refine ⟨fun c2 => absurd c2 c, fun _ => ?_⟩
      rcases h with ⟨c, h⟩ | ⟨c, h⟩
      · refine ⟨fun _ => ?_, fun c2 => absurd c c2⟩
        exact h.symm
      · refine ⟨fun c2 => absurd c2 c, fun _ => ?_⟩
        obtain ⟨n9, h⟩ := h
        exact ⟨n9, vw_X9_findReached_L50 n9 (fun _ _ _ h => ih h) h⟩
set_option maxRecDepth 100000 in
theorem vp_X9_findReached_L36 {uo : MS} {P : MS → Prop} : ∀ (n m : Nat) {U36 : MS} {v36_1 : Int32} {v36_2 : Int32}, v_X9_findReached_L36 uo n U36 v36_1 v36_2 → w_X9_findReached_L36 P m U36 v36_1 v36_2 → P uo := by
  intro n
  induction n with
  | zero => intro m U36 v36_1 v36_2 h; unfold v_X9_findReached_L36 at h; exact h.elim
  | succ n ih =>
    intro m U36 v36_1 v36_2 h w
    cases m with
    | zero => unfold w_X9_findReached_L36 at w; exact w.elim
    | succ m =>
      unfold v_X9_findReached_L36 at h
      unfold w_X9_findReached_L36 at w
      obtain ⟨y10_, h⟩ := h
      replace w := w y10_
      rcases h with ⟨c, h⟩ | ⟨c, h⟩
      · replace w := w.1 c
        rw [h]
        exact w
      · replace w := w.2 c
        rcases h with ⟨c, h⟩ | ⟨c, h⟩
        · replace w := w.1 c
          rw [h]
          exact w
        · replace w := w.2 c
          obtain ⟨n9, h⟩ := h
          obtain ⟨n8, w⟩ := w
          exact vp_X9_findReached_L50 n9 n8 (fun _ _ _ h w => ih m h w) h w
set_option maxRecDepth 100000 in
theorem vw_X9_findReached_L2 {uo : MS} : ∀ (n : Nat) {U2 : MS} {v2_1 : Int32}, v_X9_findReached_L2 uo n U2 v2_1 → w_X9_findReached_L2 (fun u => u = uo) n U2 v2_1 := by
  intro n
  induction n with
  | zero => intro U2 v2_1 h; unfold v_X9_findReached_L2 at h; exact h.elim
  | succ n ih =>
    intro U2 v2_1 h
    unfold v_X9_findReached_L2 at h
    unfold w_X9_findReached_L2
    intro _
    replace h := h.2
    rcases h with ⟨c, h⟩ | ⟨c, h⟩
    · refine ⟨fun _ => ?_, fun c2 => absurd c c2⟩
      obtain ⟨n9, h⟩ := h
      exact ⟨n9, vw_X9_findReached_L36 n9 h⟩
    · refine ⟨fun c2 => absurd c2 c, fun _ => ?_⟩
      rcases h with ⟨c, h⟩ | ⟨c, h⟩
      · refine ⟨fun _ => ?_, fun c2 => absurd c c2⟩
        exact vw_X9_findReached_J25 (fun _ _ h => ih h) h
      · refine ⟨fun c2 => absurd c2 c, fun _ => ?_⟩
        exact vw_X9_findReached_J25 (fun _ _ h => ih h) h
set_option maxRecDepth 100000 in
theorem vp_X9_findReached_L2 {uo : MS} {P : MS → Prop} : ∀ (n m : Nat) {U2 : MS} {v2_1 : Int32}, v_X9_findReached_L2 uo n U2 v2_1 → w_X9_findReached_L2 P m U2 v2_1 → P uo := by
  intro n
  induction n with
  | zero => intro m U2 v2_1 h; unfold v_X9_findReached_L2 at h; exact h.elim
  | succ n ih =>
    intro m U2 v2_1 h w
    cases m with
    | zero => unfold w_X9_findReached_L2 at w; exact w.elim
    | succ m =>
      unfold v_X9_findReached_L2 at h
      unfold w_X9_findReached_L2 at w
      obtain ⟨y11_, h⟩ := h
      replace w := w y11_
      rcases h with ⟨c, h⟩ | ⟨c, h⟩
      · replace w := w.1 c
        obtain ⟨n9, h⟩ := h
        obtain ⟨n8, w⟩ := w
        exact vp_X9_findReached_L36 n9 n8 h w
      · replace w := w.2 c
        rcases h with ⟨c, h⟩ | ⟨c, h⟩
        · replace w := w.1 c
          exact vp_X9_findReached_J25 (fun _ _ h w => ih m h w) h w
        · replace w := w.2 c
          exact vp_X9_findReached_J25 (fun _ _ h w => ih m h w) h w
set_option maxRecDepth 100000 in
theorem vwX9_findReached {S : MS} {uo : MS} (h : vX9_findReached S uo) : wX9_findReached S (fun u => u = uo) := by
  unfold vX9_findReached at h
  unfold wX9_findReached
  obtain ⟨n9, h⟩ := h
  exact ⟨n9, vw_X9_findReached_L2 n9 h⟩
set_option maxRecDepth 100000 in
theorem vpX9_findReached {S : MS} {uo : MS} {P : MS → Prop} (h : vX9_findReached S uo) (w : wX9_findReached S P) : P uo := by
  unfold vX9_findReached at h
  unfold wX9_findReached at w
  obtain ⟨n9, h⟩ := h
  obtain ⟨n8, w⟩ := w
  exact vp_X9_findReached_L2 n9 n8 h w
