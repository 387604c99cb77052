def v_X9_putCounters_L234 (uo : MS) (k208 : MS → Nat → Int32 → Prop) : Nat → MS → Nat → Int32 → Int32 → Int32 → Prop
  | 0, _, _, _, _, _ => False
  | n234 + 1, U234, v234_1, v234_5, v234_6, v234_7 => (wfC U234 ∧ qT U234 v234_1 = 47 ∧ ((v234_6.toInt ≤ v234_7.toInt ∧ (∃ a62 : Int32, a62 = (v234_5 + Int32.ofInt 1) ∧ (k208 U234 v234_1 a62))) ∨ (¬ v234_6.toInt ≤ v234_7.toInt ∧ (d_X8_targetAt U234 (qO U234 66 0) v234_5 v234_7 ∧ (∃ a68 : Int32, a68 = (fX8_targetAt U234 (qO U234 66 0) v234_5 v234_7) ∧ (d_X9_placeOf U234 a68 ∧ (∃ a72 : Int32, a72 = (fX9_placeOf U234 a68) ∧ (qT U234 (qO U234 66 0) = 47 ∧ (∃ (S74 : MS), vX8_setTarget U234 (qO U234 66 0) v234_5 v234_7 a72 S74 ∧ wfC S74 ∧ shy U234 S74 ∧ (∃ a76 : Int32, a76 = (v234_7 + Int32.ofInt 1) ∧ ((v_X9_putCounters_L234 uo k208 n234) S74 v234_1 v234_5 v234_6 a76)))))))))))
def v_X9_putCounters_L290 (uo : MS) : Nat → MS → Nat → Int32 → Prop
  | 0, _, _, _ => False
  | n290 + 1, U290, v290_1, v290_5 => (wfC U290 ∧ qT U290 v290_1 = 47 ∧ (((qI U290 v290_1 9).toInt ≤ v290_5.toInt ∧ (uo = U290)) ∨ (¬ (qI U290 v290_1 9).toInt ≤ v290_5.toInt ∧ ((qR U290 v290_1 5 = some (qO U290 v290_1 5)) ∧ (((0 : Int) ≤ v290_5.toInt ∧ v290_5.toInt < (qN U290 (qO U290 v290_1 5) : Int)) ∧ (d_X9_placeOf U290 (qI U290 (qO U290 v290_1 5) v290_5.toInt.toNat) ∧ (∃ a31 : Int32, a31 = (fX9_placeOf U290 (qI U290 (qO U290 v290_1 5) v290_5.toInt.toNat)) ∧ ((qR U290 v290_1 6 = some (qO U290 v290_1 6)) ∧ (((0 : Int) ≤ v290_5.toInt ∧ v290_5.toInt < (qN U290 (qO U290 v290_1 6) : Int)) ∧ (d_X9_placeOf U290 (qI U290 (qO U290 v290_1 6) v290_5.toInt.toNat) ∧ (∃ a39 : Int32, a39 = (fX9_placeOf U290 (qI U290 (qO U290 v290_1 6) v290_5.toInt.toNat)) ∧ ((qR U290 v290_1 7 = some (qO U290 v290_1 7)) ∧ (((0 : Int) ≤ v290_5.toInt ∧ v290_5.toInt < (qN U290 (qO U290 v290_1 7) : Int)) ∧ (d_X9_placeOf U290 (qI U290 (qO U290 v290_1 7) v290_5.toInt.toNat) ∧ (∃ a47 : Int32, a47 = (fX9_placeOf U290 (qI U290 (qO U290 v290_1 7) v290_5.toInt.toNat)) ∧ ((qR U290 v290_1 8 = some (qO U290 v290_1 8)) ∧ (((0 : Int) ≤ v290_5.toInt ∧ v290_5.toInt < (qN U290 (qO U290 v290_1 8) : Int)) ∧ (qT U290 (qO U290 66 0) = 47 ∧ (∃ (S53 : MS), vX8_addCatch U290 (qO U290 66 0) a31 a39 a47 (qI U290 (qO U290 v290_1 8) v290_5.toInt.toNat) S53 ∧ wfC S53 ∧ shy U290 S53 ∧ (∃ a55 : Int32, a55 = (v290_5 + Int32.ofInt 1) ∧ ((v_X9_putCounters_L290 uo n290) S53 v290_1 a55)))))))))))))))))))))
def v_X9_putCounters_L208 (uo : MS) : Nat → MS → Nat → Int32 → Prop
  | 0, _, _, _ => False
  | n208 + 1, U208, v208_1, v208_5 => (wfC U208 ∧ qT U208 v208_1 = 47 ∧ (((qI U208 (qO U208 66 0) 2).toInt ≤ v208_5.toInt ∧ (∃ S21 : MS, S21 = wI U208 (qO U208 66 0) 9 (0 : Int32) ∧ qT U208 (qO U208 66 0) = 47 ∧ wfC S21 ∧ (∃ n, v_X9_putCounters_L290 uo n S21 v208_1 0))) ∨ (¬ (qI U208 (qO U208 66 0) 2).toInt ≤ v208_5.toInt ∧ (d_X8_targetCount U208 (qO U208 66 0) v208_5 ∧ (∃ a60 : Int32, a60 = (fX8_targetCount U208 (qO U208 66 0) v208_5) ∧ (∃ n, v_X9_putCounters_L234 uo (v_X9_putCounters_L208 uo n208) n U208 v208_1 v208_5 a60 0))))))
def v_X9_putCounters_L176 (uo : MS) : Nat → MS → Nat → Int32 → Prop
  | 0, _, _, _ => False
  | n176 + 1, U176, v176_1, v176_5 => (wfC U176 ∧ qT U176 v176_1 = 47 ∧ (((qI U176 v176_1 4).toInt ≤ v176_5.toInt ∧ (∃ n, v_X9_putCounters_L208 uo n U176 v176_1 0)) ∨ (¬ (qI U176 v176_1 4).toInt ≤ v176_5.toInt ∧ ((qR U176 v176_1 3 = some (qO U176 v176_1 3)) ∧ (((0 : Int) ≤ v176_5.toInt ∧ v176_5.toInt < (qN U176 (qO U176 v176_1 3) : Int)) ∧ (qT U176 (qO U176 66 0) = 47 ∧ (∃ (S83 : MS), vX8_addToTable U176 (qO U176 66 0) (qI U176 (qO U176 v176_1 3) v176_5.toInt.toNat) S83 ∧ wfC S83 ∧ shy U176 S83 ∧ (∃ a85 : Int32, a85 = (v176_5 + Int32.ofInt 1) ∧ ((v_X9_putCounters_L176 uo n176) S83 v176_1 a85)))))))))
def v_X9_putCounters_J139 (uo : MS) (U139 : MS) (v139_1 : Nat) : Prop := (wfC U139 ∧ qT U139 v139_1 = 47 ∧ (((0 : Int) ≤ (if ((Int32.ofNat (qN U139 (qO U139 66 5))) - (1 : Int32)) < (qI U139 v139_1 2) then ((Int32.ofNat (qN U139 (qO U139 66 5))) - (1 : Int32)) else (qI U139 v139_1 2)).toInt ∧ (if ((Int32.ofNat (qN U139 (qO U139 66 5))) - (1 : Int32)) < (qI U139 v139_1 2) then ((Int32.ofNat (qN U139 (qO U139 66 5))) - (1 : Int32)) else (qI U139 v139_1 2)).toInt < (qN U139 (qO U139 66 5) : Int)) ∧ (∃ S14 : MS, S14 = wI U139 (qO U139 66 5) (((if ((Int32.ofNat (qN U139 (qO U139 66 5))) - (1 : Int32)) < (qI U139 v139_1 2) then ((Int32.ofNat (qN U139 (qO U139 66 5))) - (1 : Int32)) else (qI U139 v139_1 2)).toInt).toNat) (qI U139 (qO U139 66 0) 2) ∧ qT U139 (qO U139 66 5) = 230 ∧ wfC S14 ∧ (∃ S16 : MS, S16 = wI S14 (qO S14 66 0) 4 (0 : Int32) ∧ qT S14 (qO S14 66 0) = 47 ∧ wfC S16 ∧ (∃ n, v_X9_putCounters_L176 uo n S16 v139_1 0)))))
def v_X9_putCounters_J114 (uo : MS) (k19 : MS → Nat → Int32 → Int32 → Prop) (U114 : MS) (v114_1 : Nat) (v114_4 : Int32) (v114_5 : Int32) : Prop := (wfC U114 ∧ qT U114 v114_1 = 47 ∧ (d_X8_opAt U114 v114_1 v114_5 ∧ (∃ a106 : Int32, a106 = (fX8_opAt U114 v114_1 v114_5) ∧ (d_X8_argAt U114 v114_1 v114_5 ∧ (∃ a110 : Int64, a110 = (fX8_argAt U114 v114_1 v114_5) ∧ (qT U114 (qO U114 66 0) = 47 ∧ (∃ (S112 : MS), vX8_add U114 (qO U114 66 0) a106 a110 S112 ∧ wfC S112 ∧ shy U114 S112 ∧ (∃ a114 : Int32, a114 = (v114_5 + Int32.ofInt 1) ∧ (k19 S112 v114_1 v114_4 a114)))))))))
def v_X9_putCounters_L19 (uo : MS) : Nat → MS → Nat → Int32 → Int32 → Prop
  | 0, _, _, _, _ => False
  | n19 + 1, U19, v19_1, v19_4, v19_5 => (wfC U19 ∧ qT U19 v19_1 = 47 ∧ (((qI U19 v19_1 2).toInt ≤ v19_5.toInt ∧ (v_X9_putCounters_J139 uo U19 v19_1)) ∨ (¬ (qI U19 v19_1 2).toInt ≤ v19_5.toInt ∧ (((qN U19 (qO U19 66 5) : Int) ≤ v19_5.toInt ∧ (v_X9_putCounters_J139 uo U19 v19_1)) ∨ (¬ (qN U19 (qO U19 66 5) : Int) ≤ v19_5.toInt ∧ (((0 : Int) ≤ v19_5.toInt ∧ v19_5.toInt < (qN U19 (qO U19 66 5) : Int)) ∧ (∃ S93 : MS, S93 = wI U19 (qO U19 66 5) v19_5.toInt.toNat (qI U19 (qO U19 66 0) 2) ∧ qT U19 (qO U19 66 5) = 230 ∧ wfC S93 ∧ (d_X3_blockAt S93 v19_5 ∧ (∃ a97 : Int32, a97 = (fX3_blockAt S93 v19_5) ∧ (d_X3_isReached S93 a97 ∧ (∃ a101 : Int32, a101 = (fX3_isReached S93 a97) ∧ ((a101.toInt = 0 ∧ (v_X9_putCounters_J114 uo (v_X9_putCounters_L19 uo n19) S93 v19_1 v19_4 v19_5)) ∨ (¬ a101.toInt = 0 ∧ (qT S93 (qO S93 66 0) = 47 ∧ (∃ (S118 : MS), vX8_add S93 (qO S93 66 0) (178 : Int32) (v19_4.toInt64) S118 ∧ wfC S118 ∧ shy S93 S118 ∧ (qT S118 (qO S118 66 0) = 47 ∧ (∃ (S122 : MS), vX8_add S118 (qO S118 66 0) (20 : Int32) 1 S122 ∧ wfC S122 ∧ shy S118 S122 ∧ (qT S122 (qO S122 66 0) = 47 ∧ (∃ (S126 : MS), vX8_add S122 (qO S122 66 0) (97 : Int32) 0 S126 ∧ wfC S126 ∧ shy S122 S126 ∧ (qT S126 (qO S126 66 0) = 47 ∧ (∃ (S130 : MS), vX8_add S126 (qO S126 66 0) (179 : Int32) (v19_4.toInt64) S130 ∧ wfC S130 ∧ shy S126 S130 ∧ (∃ a132 : Int32, a132 = (v19_4 + Int32.ofInt 1) ∧ (v_X9_putCounters_J114 uo (v_X9_putCounters_L19 uo n19) S130 v19_1 a132 v19_5)))))))))))))))))))))))
def vX9_putCounters (S : MS) (p1 : Nat) (x3 : Int32) (uo : MS) : Prop := (qT S p1 = 47 ∧ (∃ (S2 : MS), vX9_makeRoom S p1 S2 ∧ wfC S2 ∧ shx S S2 ∧ (∃ S6 : MS, S6 = wI S2 (qO S2 66 0) 2 (0 : Int32) ∧ qT S2 (qO S2 66 0) = 47 ∧ wfC S6 ∧ (∃ n, v_X9_putCounters_L19 uo n S6 p1 x3 0))))
set_option maxRecDepth 100000 in
theorem ru_X9_putCounters_L234 {ι : Type} {P Q : MS → Prop} {k208 k208' : MS → Nat → Int32 → Prop} {k208v : ι → MS → MS → Nat → Int32 → Prop} : ∀ (n : Nat) {U234 : MS} {v234_1 : Nat} {v234_5 : Int32} {v234_6 : Int32} {v234_7 : Int32} (i0 : ι) (hk208 : ∀ (u : MS) (z0 : Nat) (z1 : Int32), k208 u z0 z1 → (∀ (i : ι) (uo : MS), k208v i uo u z0 z1 → P uo) → k208' u z0 z1), (∀ (i : ι) (uo : MS), (∃ n8, v_X9_putCounters_L234 uo (k208v i uo) n8 U234 v234_1 v234_5 v234_6 v234_7) → P uo) → w_X9_putCounters_L234 Q k208 n U234 v234_1 v234_5 v234_6 v234_7 → w_X9_putCounters_L234 (fun u => Q u ∧ P u) k208' n U234 v234_1 v234_5 v234_6 v234_7 := by
  intro n
  induction n with
  | zero => intro U234 v234_1 v234_5 v234_6 v234_7 i0 hk208 K h; unfold w_X9_putCounters_L234 at h; exact h.elim
  | succ n ih =>
    intro U234 v234_1 v234_5 v234_6 v234_7 i0 hk208 K h
    unfold w_X9_putCounters_L234 at h ⊢
    replace K := fun (i : ι × Nat) uo (z : v_X9_putCounters_L234 uo (k208v i.1 uo) (i.2 + 1) U234 v234_1 v234_5 v234_6 v234_7) => K i.1 uo ⟨i.2 + 1, z⟩
    have i00 := i0
    replace i0 : ι × Nat := (i0, 0)
    intro y1_ y2_
    replace h := h y1_ y2_
    replace K := fun i uo z => K i uo ⟨y1_, y2_, z⟩
    refine ⟨fun c => ?_, fun c => ?_⟩
    · replace h := h.1 c
      replace K := fun i uo z => K i uo (Or.inl ⟨c, z⟩)
      intro a62 ea62 
      replace h := h a62 ea62 
      replace K := fun i uo z => K i uo ⟨a62, ea62, z⟩
      exact hk208 _ _ _ h (fun i uo z => K (i, 0) uo z)
    · replace h := h.2 c
      replace K := fun i uo z => K i uo (Or.inr ⟨c, z⟩)
      obtain ⟨g3_, h⟩ := h
      refine ⟨g3_, ?_⟩
      replace K := fun i uo z => K i uo ⟨g3_, z⟩
      intro a68 ea68 
      replace h := h a68 ea68 
      replace K := fun i uo z => K i uo ⟨a68, ea68, z⟩
      obtain ⟨g4_, h⟩ := h
      refine ⟨g4_, ?_⟩
      replace K := fun i uo z => K i uo ⟨g4_, z⟩
      intro a72 ea72 
      replace h := h a72 ea72 
      replace K := fun i uo z => K i uo ⟨a72, ea72, z⟩
      intro y5_
      replace h := h y5_
      replace K := fun i uo z => K i uo ⟨y5_, z⟩
      obtain ⟨Q9, h0, h⟩ := h
      refine ⟨_, ruX8_setTarget h0, ?_⟩
      intro S74 q6_ y7_ y8_
      replace h := h S74 q6_.1 y7_ y8_
      replace K := fun i uo z => K i uo ⟨S74, q6_.2, y7_, y8_, z⟩
      intro a76 ea76 
      replace h := h a76 ea76 
      replace K := fun i uo z => K i uo ⟨a76, ea76, z⟩
      exact ih i00 hk208 (fun i uo ⟨n8, z⟩ => K (i, n8) uo z) h
set_option maxRecDepth 100000 in
theorem ru_X9_putCounters_L290 {ι : Type} {P Q : MS → Prop} : ∀ (n : Nat) {U290 : MS} {v290_1 : Nat} {v290_5 : Int32} (i0 : ι), (∀ (i : ι) (uo : MS), (∃ n8, v_X9_putCounters_L290 uo n8 U290 v290_1 v290_5) → P uo) → w_X9_putCounters_L290 Q n U290 v290_1 v290_5 → w_X9_putCounters_L290 (fun u => Q u ∧ P u) n U290 v290_1 v290_5 := by
  intro n
  induction n with
  | zero => intro U290 v290_1 v290_5 i0 K h; unfold w_X9_putCounters_L290 at h; exact h.elim
  | succ n ih =>
    intro U290 v290_1 v290_5 i0 K h
    unfold w_X9_putCounters_L290 at h ⊢
    replace K := fun (i : ι × Nat) uo (z : v_X9_putCounters_L290 uo (i.2 + 1) U290 v290_1 v290_5) => K i.1 uo ⟨i.2 + 1, z⟩
    have i00 := i0
    replace i0 : ι × Nat := (i0, 0)
    intro y9_ y10_
    replace h := h y9_ y10_
    replace K := fun i uo z => K i uo ⟨y9_, y10_, z⟩
    refine ⟨fun c => ?_, fun c => ?_⟩
    · replace h := h.1 c
      replace K := fun i uo z => K i uo (Or.inl ⟨c, z⟩)
      exact ⟨h, K i0 _ rfl⟩
    · replace h := h.2 c
      replace K := fun i uo z => K i uo (Or.inr ⟨c, z⟩)
      obtain ⟨g11_, h⟩ := h
      refine ⟨g11_, ?_⟩
      replace K := fun i uo z => K i uo ⟨g11_, z⟩
      obtain ⟨g12_, h⟩ := h
      refine ⟨g12_, ?_⟩
      replace K := fun i uo z => K i uo ⟨g12_, z⟩
      obtain ⟨g13_, h⟩ := h
      refine ⟨g13_, ?_⟩
      replace K := fun i uo z => K i uo ⟨g13_, z⟩
      intro a31 ea31 
      replace h := h a31 ea31 
      replace K := fun i uo z => K i uo ⟨a31, ea31, z⟩
      obtain ⟨g14_, h⟩ := h
      refine ⟨g14_, ?_⟩
      replace K := fun i uo z => K i uo ⟨g14_, z⟩
      obtain ⟨g15_, h⟩ := h
      refine ⟨g15_, ?_⟩
      replace K := fun i uo z => K i uo ⟨g15_, z⟩
      obtain ⟨g16_, h⟩ := h
      refine ⟨g16_, ?_⟩
      replace K := fun i uo z => K i uo ⟨g16_, z⟩
      intro a39 ea39 
      replace h := h a39 ea39 
      replace K := fun i uo z => K i uo ⟨a39, ea39, z⟩
      obtain ⟨g17_, h⟩ := h
      refine ⟨g17_, ?_⟩
      replace K := fun i uo z => K i uo ⟨g17_, z⟩
      obtain ⟨g18_, h⟩ := h
      refine ⟨g18_, ?_⟩
      replace K := fun i uo z => K i uo ⟨g18_, z⟩
      obtain ⟨g19_, h⟩ := h
      refine ⟨g19_, ?_⟩
      replace K := fun i uo z => K i uo ⟨g19_, z⟩
      intro a47 ea47 
      replace h := h a47 ea47 
      replace K := fun i uo z => K i uo ⟨a47, ea47, z⟩
      obtain ⟨g20_, h⟩ := h
      refine ⟨g20_, ?_⟩
      replace K := fun i uo z => K i uo ⟨g20_, z⟩
      obtain ⟨g21_, h⟩ := h
      refine ⟨g21_, ?_⟩
      replace K := fun i uo z => K i uo ⟨g21_, z⟩
      intro y22_
      replace h := h y22_
      replace K := fun i uo z => K i uo ⟨y22_, z⟩
      obtain ⟨Q9, h0, h⟩ := h
      refine ⟨_, ruX8_addCatch h0, ?_⟩
      intro S53 q23_ y24_ y25_
      replace h := h S53 q23_.1 y24_ y25_
      replace K := fun i uo z => K i uo ⟨S53, q23_.2, y24_, y25_, z⟩
      intro a55 ea55 
      replace h := h a55 ea55 
      replace K := fun i uo z => K i uo ⟨a55, ea55, z⟩
      exact ih i00 (fun i uo ⟨n8, z⟩ => K (i, n8) uo z) h
set_option maxRecDepth 100000 in
theorem ru_X9_putCounters_L208 {ι : Type} {P Q : MS → Prop} : ∀ (n : Nat) {U208 : MS} {v208_1 : Nat} {v208_5 : Int32} (i0 : ι), (∀ (i : ι) (uo : MS), (∃ n8, v_X9_putCounters_L208 uo n8 U208 v208_1 v208_5) → P uo) → w_X9_putCounters_L208 Q n U208 v208_1 v208_5 → w_X9_putCounters_L208 (fun u => Q u ∧ P u) n U208 v208_1 v208_5 := by
  intro n
  induction n with
  | zero => intro U208 v208_1 v208_5 i0 K h; unfold w_X9_putCounters_L208 at h; exact h.elim
  | succ n ih =>
    intro U208 v208_1 v208_5 i0 K h
    unfold w_X9_putCounters_L208 at h ⊢
    replace K := fun (i : ι × Nat) uo (z : v_X9_putCounters_L208 uo (i.2 + 1) U208 v208_1 v208_5) => K i.1 uo ⟨i.2 + 1, z⟩
    have i00 := i0
    replace i0 : ι × Nat := (i0, 0)
    intro y26_ y27_
    replace h := h y26_ y27_
    replace K := fun i uo z => K i uo ⟨y26_, y27_, z⟩
    refine ⟨fun c => ?_, fun c => ?_⟩
    · replace h := h.1 c
      replace K := fun i uo z => K i uo (Or.inl ⟨c, z⟩)
      intro S21 eS21 y28_ y29_
      replace h := h S21 eS21 y28_ y29_
      replace K := fun i uo z => K i uo ⟨S21, eS21, y28_, y29_, z⟩
      obtain ⟨n9, h⟩ := h
      exact ⟨n9, ru_X9_putCounters_L290 n9 i0 K h⟩
    · replace h := h.2 c
      replace K := fun i uo z => K i uo (Or.inr ⟨c, z⟩)
      obtain ⟨g30_, h⟩ := h
      refine ⟨g30_, ?_⟩
      replace K := fun i uo z => K i uo ⟨g30_, z⟩
      intro a60 ea60 
      replace h := h a60 ea60 
      replace K := fun i uo z => K i uo ⟨a60, ea60, z⟩
      obtain ⟨n9, h⟩ := h
      exact ⟨n9, ru_X9_putCounters_L234 n9 i0 (fun _ _ _ h K => ih i00 (fun i uo ⟨n8, z⟩ => K (i, n8) uo z) h) K h⟩
set_option maxRecDepth 100000 in
theorem ru_X9_putCounters_L176 {ι : Type} {P Q : MS → Prop} : ∀ (n : Nat) {U176 : MS} {v176_1 : Nat} {v176_5 : Int32} (i0 : ι), (∀ (i : ι) (uo : MS), (∃ n8, v_X9_putCounters_L176 uo n8 U176 v176_1 v176_5) → P uo) → w_X9_putCounters_L176 Q n U176 v176_1 v176_5 → w_X9_putCounters_L176 (fun u => Q u ∧ P u) n U176 v176_1 v176_5 := by
  intro n
  induction n with
  | zero => intro U176 v176_1 v176_5 i0 K h; unfold w_X9_putCounters_L176 at h; exact h.elim
  | succ n ih =>
    intro U176 v176_1 v176_5 i0 K h
    unfold w_X9_putCounters_L176 at h ⊢
    replace K := fun (i : ι × Nat) uo (z : v_X9_putCounters_L176 uo (i.2 + 1) U176 v176_1 v176_5) => K i.1 uo ⟨i.2 + 1, z⟩
    have i00 := i0
    replace i0 : ι × Nat := (i0, 0)
    intro y31_ y32_
    replace h := h y31_ y32_
    replace K := fun i uo z => K i uo ⟨y31_, y32_, z⟩
    refine ⟨fun c => ?_, fun c => ?_⟩
    · replace h := h.1 c
      replace K := fun i uo z => K i uo (Or.inl ⟨c, z⟩)
      obtain ⟨n9, h⟩ := h
      exact ⟨n9, ru_X9_putCounters_L208 n9 i0 K h⟩
    · replace h := h.2 c
      replace K := fun i uo z => K i uo (Or.inr ⟨c, z⟩)
      obtain ⟨g33_, h⟩ := h
      refine ⟨g33_, ?_⟩
      replace K := fun i uo z => K i uo ⟨g33_, z⟩
      obtain ⟨g34_, h⟩ := h
      refine ⟨g34_, ?_⟩
      replace K := fun i uo z => K i uo ⟨g34_, z⟩
      intro y35_
      replace h := h y35_
      replace K := fun i uo z => K i uo ⟨y35_, z⟩
      obtain ⟨Q9, h0, h⟩ := h
      refine ⟨_, ruX8_addToTable h0, ?_⟩
      intro S83 q36_ y37_ y38_
      replace h := h S83 q36_.1 y37_ y38_
      replace K := fun i uo z => K i uo ⟨S83, q36_.2, y37_, y38_, z⟩
      intro a85 ea85 
      replace h := h a85 ea85 
      replace K := fun i uo z => K i uo ⟨a85, ea85, z⟩
      exact ih i00 (fun i uo ⟨n8, z⟩ => K (i, n8) uo z) h
set_option maxRecDepth 100000 in
theorem ru_X9_putCounters_J139 {ι : Type} {P Q : MS → Prop} {U139 : MS} {v139_1 : Nat} (i0 : ι) (K : ∀ (i : ι) (uo : MS), v_X9_putCounters_J139 uo U139 v139_1 → P uo) (h : w_X9_putCounters_J139 Q U139 v139_1) : w_X9_putCounters_J139 (fun u => Q u ∧ P u) U139 v139_1 := by
  unfold w_X9_putCounters_J139 at h ⊢
  intro y39_ y40_
  replace h := h y39_ y40_
  replace K := fun i uo z => K i uo ⟨y39_, y40_, z⟩
  obtain ⟨g41_, h⟩ := h
  refine ⟨g41_, ?_⟩
  replace K := fun i uo z => K i uo ⟨g41_, z⟩
  intro S14 eS14 y42_ y43_
  replace h := h S14 eS14 y42_ y43_
  replace K := fun i uo z => K i uo ⟨S14, eS14, y42_, y43_, z⟩
  intro S16 eS16 y44_ y45_
  replace h := h S16 eS16 y44_ y45_
  replace K := fun i uo z => K i uo ⟨S16, eS16, y44_, y45_, z⟩
  obtain ⟨n9, h⟩ := h
  exact ⟨n9, ru_X9_putCounters_L176 n9 i0 K h⟩
set_option maxRecDepth 100000 in
theorem ru_X9_putCounters_J114 {ι : Type} {P Q : MS → Prop} {k19 k19' : MS → Nat → Int32 → Int32 → Prop} {k19v : ι → MS → MS → Nat → Int32 → Int32 → Prop} {U114 : MS} {v114_1 : Nat} {v114_4 : Int32} {v114_5 : Int32} (i0 : ι) (hk19 : ∀ (u : MS) (z0 : Nat) (z1 : Int32) (z2 : Int32), k19 u z0 z1 z2 → (∀ (i : ι) (uo : MS), k19v i uo u z0 z1 z2 → P uo) → k19' u z0 z1 z2) (K : ∀ (i : ι) (uo : MS), v_X9_putCounters_J114 uo (k19v i uo) U114 v114_1 v114_4 v114_5 → P uo) (h : w_X9_putCounters_J114 Q k19 U114 v114_1 v114_4 v114_5) : w_X9_putCounters_J114 (fun u => Q u ∧ P u) k19' U114 v114_1 v114_4 v114_5 := by
  unfold w_X9_putCounters_J114 at h ⊢
  intro y46_ y47_
  replace h := h y46_ y47_
  replace K := fun i uo z => K i uo ⟨y46_, y47_, z⟩
  obtain ⟨g48_, h⟩ := h
  refine ⟨g48_, ?_⟩
  replace K := fun i uo z => K i uo ⟨g48_, z⟩
  intro a106 ea106 
  replace h := h a106 ea106 
  replace K := fun i uo z => K i uo ⟨a106, ea106, z⟩
  obtain ⟨g49_, h⟩ := h
  refine ⟨g49_, ?_⟩
  replace K := fun i uo z => K i uo ⟨g49_, z⟩
  intro a110 ea110 
  replace h := h a110 ea110 
  replace K := fun i uo z => K i uo ⟨a110, ea110, z⟩
  intro y50_
  replace h := h y50_
  replace K := fun i uo z => K i uo ⟨y50_, z⟩
  obtain ⟨Q9, h0, h⟩ := h
  refine ⟨_, ruX8_add h0, ?_⟩
  intro S112 q51_ y52_ y53_
  replace h := h S112 q51_.1 y52_ y53_
  replace K := fun i uo z => K i uo ⟨S112, q51_.2, y52_, y53_, z⟩
  intro a114 ea114 
  replace h := h a114 ea114 
  replace K := fun i uo z => K i uo ⟨a114, ea114, z⟩
  exact hk19 _ _ _ _ h K
set_option maxRecDepth 100000 in
theorem ru_X9_putCounters_L19 {ι : Type} {P Q : MS → Prop} : ∀ (n : Nat) {U19 : MS} {v19_1 : Nat} {v19_4 : Int32} {v19_5 : Int32} (i0 : ι), (∀ (i : ι) (uo : MS), (∃ n8, v_X9_putCounters_L19 uo n8 U19 v19_1 v19_4 v19_5) → P uo) → w_X9_putCounters_L19 Q n U19 v19_1 v19_4 v19_5 → w_X9_putCounters_L19 (fun u => Q u ∧ P u) n U19 v19_1 v19_4 v19_5 := by
  intro n
  induction n with
  | zero => intro U19 v19_1 v19_4 v19_5 i0 K h; unfold w_X9_putCounters_L19 at h; exact h.elim
  | succ n ih =>
    intro U19 v19_1 v19_4 v19_5 i0 K h
    unfold w_X9_putCounters_L19 at h ⊢
    replace K := fun (i : ι × Nat) uo (z : v_X9_putCounters_L19 uo (i.2 + 1) U19 v19_1 v19_4 v19_5) => K i.1 uo ⟨i.2 + 1, z⟩
    have i00 := i0
    replace i0 : ι × Nat := (i0, 0)
    intro y54_ y55_
    replace h := h y54_ y55_
    replace K := fun i uo z => K i uo ⟨y54_, y55_, z⟩
    refine ⟨fun c => ?_, fun c => ?_⟩
    · replace h := h.1 c
      replace K := fun i uo z => K i uo (Or.inl ⟨c, z⟩)
      exact ru_X9_putCounters_J139 i0 K h
    · replace h := h.2 c
      replace K := fun i uo z => K i uo (Or.inr ⟨c, z⟩)
      refine ⟨fun c => ?_, fun c => ?_⟩
      · replace h := h.1 c
        replace K := fun i uo z => K i uo (Or.inl ⟨c, z⟩)
        exact ru_X9_putCounters_J139 i0 K h
      · replace h := h.2 c
        replace K := fun i uo z => K i uo (Or.inr ⟨c, z⟩)
        obtain ⟨g56_, h⟩ := h
        refine ⟨g56_, ?_⟩
        replace K := fun i uo z => K i uo ⟨g56_, z⟩
        intro S93 eS93 y57_ y58_
        replace h := h S93 eS93 y57_ y58_
        replace K := fun i uo z => K i uo ⟨S93, eS93, y57_, y58_, z⟩
        obtain ⟨g59_, h⟩ := h
        refine ⟨g59_, ?_⟩
        replace K := fun i uo z => K i uo ⟨g59_, z⟩
        intro a97 ea97 
        replace h := h a97 ea97 
        replace K := fun i uo z => K i uo ⟨a97, ea97, z⟩
        obtain ⟨g60_, h⟩ := h
        refine ⟨g60_, ?_⟩
        replace K := fun i uo z => K i uo ⟨g60_, z⟩
        intro a101 ea101 
        replace h := h a101 ea101 
        replace K := fun i uo z => K i uo ⟨a101, ea101, z⟩
        refine ⟨fun c => ?_, fun c => ?_⟩
        · replace h := h.1 c
          replace K := fun i uo z => K i uo (Or.inl ⟨c, z⟩)
          exact ru_X9_putCounters_J114 i0 (fun _ _ _ _ h K => ih i00 (fun i uo ⟨n8, z⟩ => K (i, n8) uo z) h) K h
        · replace h := h.2 c
          replace K := fun i uo z => K i uo (Or.inr ⟨c, z⟩)
          intro y61_
          replace h := h y61_
          replace K := fun i uo z => K i uo ⟨y61_, z⟩
          obtain ⟨Q9, h0, h⟩ := h
          refine ⟨_, ruX8_add h0, ?_⟩
          intro S118 q62_ y63_ y64_
          replace h := h S118 q62_.1 y63_ y64_
          replace K := fun i uo z => K i uo ⟨S118, q62_.2, y63_, y64_, z⟩
          intro y65_
          replace h := h y65_
          replace K := fun i uo z => K i uo ⟨y65_, z⟩
          obtain ⟨Q9, h0, h⟩ := h
          refine ⟨_, ruX8_add h0, ?_⟩
          intro S122 q66_ y67_ y68_
          replace h := h S122 q66_.1 y67_ y68_
          replace K := fun i uo z => K i uo ⟨S122, q66_.2, y67_, y68_, z⟩
          intro y69_
          replace h := h y69_
          replace K := fun i uo z => K i uo ⟨y69_, z⟩
          obtain ⟨Q9, h0, h⟩ := h
          refine ⟨_, ruX8_add h0, ?_⟩
          intro S126 q70_ y71_ y72_
          replace h := h S126 q70_.1 y71_ y72_
          replace K := fun i uo z => K i uo ⟨S126, q70_.2, y71_, y72_, z⟩
          intro y73_
          replace h := h y73_
          replace K := fun i uo z => K i uo ⟨y73_, z⟩
          obtain ⟨Q9, h0, h⟩ := h
          refine ⟨_, ruX8_add h0, ?_⟩
          intro S130 q74_ y75_ y76_
          replace h := h S130 q74_.1 y75_ y76_
          replace K := fun i uo z => K i uo ⟨S130, q74_.2, y75_, y76_, z⟩
          intro a132 ea132 
          replace h := h a132 ea132 
          replace K := fun i uo z => K i uo ⟨a132, ea132, z⟩
          exact ru_X9_putCounters_J114 i0 (fun _ _ _ _ h K => ih i00 (fun i uo ⟨n8, z⟩ => K (i, n8) uo z) h) K h
set_option maxRecDepth 100000 in
theorem ruX9_putCounters {S : MS} {p1 : Nat} {x3 : Int32} {Q : MS → Prop} (h : wX9_putCounters S p1 x3 Q) : wX9_putCounters S p1 x3 (fun u => Q u ∧ vX9_putCounters S p1 x3 u) := by
  have i0 : Unit := ()
  have K : ∀ (i : Unit) (uo : MS), vX9_putCounters S p1 x3 uo → vX9_putCounters S p1 x3 uo := fun _ _ z => z
  unfold wX9_putCounters at h ⊢
  intro y77_
  replace h := h y77_
  replace K := fun i uo z => K i uo ⟨y77_, z⟩
  obtain ⟨Q9, h0, h⟩ := h
  refine ⟨_, ruX9_makeRoom h0, ?_⟩
  intro S2 q78_ y79_ y80_
  replace h := h S2 q78_.1 y79_ y80_
  replace K := fun i uo z => K i uo ⟨S2, q78_.2, y79_, y80_, z⟩
  intro S6 eS6 y81_ y82_
  replace h := h S6 eS6 y81_ y82_
  replace K := fun i uo z => K i uo ⟨S6, eS6, y81_, y82_, z⟩
  obtain ⟨n9, h⟩ := h
  exact ⟨n9, ru_X9_putCounters_L19 n9 i0 K h⟩
set_option maxRecDepth 100000 in
theorem vw_X9_putCounters_L234 {uo : MS} {k208 k208v : MS → Nat → Int32 → Prop} : ∀ (n : Nat) {U234 : MS} {v234_1 : Nat} {v234_5 : Int32} {v234_6 : Int32} {v234_7 : Int32} (hk208 : ∀ (u : MS) (z0 : Nat) (z1 : Int32), k208v u z0 z1 → k208 u z0 z1), v_X9_putCounters_L234 uo k208v n U234 v234_1 v234_5 v234_6 v234_7 → w_X9_putCounters_L234 (fun u => u = uo) k208 n U234 v234_1 v234_5 v234_6 v234_7 := by
  intro n
  induction n with
  | zero => intro U234 v234_1 v234_5 v234_6 v234_7 hk208 h; unfold v_X9_putCounters_L234 at h; exact h.elim
  | succ n ih =>
    intro U234 v234_1 v234_5 v234_6 v234_7 hk208 h
    unfold v_X9_putCounters_L234 at h
    unfold w_X9_putCounters_L234
    intro _ _
    replace h := h.2.2
    rcases h with ⟨c, h⟩ | ⟨c, h⟩
    · refine ⟨fun _ => ?_, fun c2 => absurd c c2⟩
      obtain ⟨v9, e9, h⟩ := h
      intro x9 d9 
      have c9 : v9 = x9 := e9.trans d9.symm
      subst c9
      exact hk208 _ _ _ h
    · refine ⟨fun c2 => absurd c2 c, fun _ => ?_⟩
      obtain ⟨g9, h⟩ := h
      refine ⟨g9, ?_⟩
      obtain ⟨v9, e9, h⟩ := h
      intro x9 d9 
      have c9 : v9 = x9 := e9.trans d9.symm
      subst c9
      obtain ⟨g9, h⟩ := h
      refine ⟨g9, ?_⟩
      obtain ⟨v9, e9, h⟩ := h
      intro x9 d9 
      have c9 : v9 = x9 := e9.trans d9.symm
      subst c9
      intro _
      replace h := h.2
      obtain ⟨q9, z9, h⟩ := h
      refine ⟨_, vwX8_setTarget z9, ?_⟩
      intro q8 d9 _ _
      subst d9
      replace h := h.2.2
      obtain ⟨v9, e9, h⟩ := h
      intro x9 d9 
      have c9 : v9 = x9 := e9.trans d9.symm
      subst c9
      exact ih hk208 h
set_option maxRecDepth 100000 in
theorem vp_X9_putCounters_L234 {uo : MS} {P : MS → Prop} {k208 k208v : MS → Nat → Int32 → Prop} : ∀ (n m : Nat) {U234 : MS} {v234_1 : Nat} {v234_5 : Int32} {v234_6 : Int32} {v234_7 : Int32} (hk208 : ∀ (u : MS) (z0 : Nat) (z1 : Int32), k208v u z0 z1 → k208 u z0 z1 → P uo), v_X9_putCounters_L234 uo k208v n U234 v234_1 v234_5 v234_6 v234_7 → w_X9_putCounters_L234 P k208 m U234 v234_1 v234_5 v234_6 v234_7 → P uo := by
  intro n
  induction n with
  | zero => intro m U234 v234_1 v234_5 v234_6 v234_7 hk208 h; unfold v_X9_putCounters_L234 at h; exact h.elim
  | succ n ih =>
    intro m U234 v234_1 v234_5 v234_6 v234_7 hk208 h w
    cases m with
    | zero => unfold w_X9_putCounters_L234 at w; exact w.elim
    | succ m =>
      unfold v_X9_putCounters_L234 at h
      unfold w_X9_putCounters_L234 at w
      obtain ⟨y1_, y2_, h⟩ := h
      replace w := w y1_ y2_
      rcases h with ⟨c, h⟩ | ⟨c, h⟩
      · replace w := w.1 c
        obtain ⟨v9, e9, h⟩ := h
        replace w := w v9 e9 
        exact hk208 _ _ _ h w
      · replace w := w.2 c
        replace h := h.2
        replace w := w.2
        obtain ⟨v9, e9, h⟩ := h
        replace w := w v9 e9 
        replace h := h.2
        replace w := w.2
        obtain ⟨v9, e9, h⟩ := h
        replace w := w v9 e9 
        obtain ⟨y3_, h⟩ := h
        replace w := w y3_
        obtain ⟨q9, z9, y4_, y5_, h⟩ := h
        obtain ⟨Q9, w0, w⟩ := w
        replace w := w q9 (vpX8_setTarget z9 w0) y4_ y5_
        obtain ⟨v9, e9, h⟩ := h
        replace w := w v9 e9 
        exact ih m hk208 h w
set_option maxRecDepth 100000 in
theorem vw_X9_putCounters_L290 {uo : MS} : ∀ (n : Nat) {U290 : MS} {v290_1 : Nat} {v290_5 : Int32}, v_X9_putCounters_L290 uo n U290 v290_1 v290_5 → w_X9_putCounters_L290 (fun u => u = uo) n U290 v290_1 v290_5 := by
  intro n
  induction n with
  | zero => intro U290 v290_1 v290_5 h; unfold v_X9_putCounters_L290 at h; exact h.elim
  | succ n ih =>
    intro U290 v290_1 v290_5 h
    unfold v_X9_putCounters_L290 at h
    unfold w_X9_putCounters_L290
    intro _ _
    replace h := h.2.2
    rcases h with ⟨c, h⟩ | ⟨c, h⟩
    · refine ⟨fun _ => ?_, fun c2 => absurd c c2⟩
      exact h.symm
    · refine ⟨fun c2 => absurd c2 c, fun _ => ?_⟩
      obtain ⟨g9, h⟩ := h
      refine ⟨g9, ?_⟩
      obtain ⟨g9, h⟩ := h
      refine ⟨g9, ?_⟩
      obtain ⟨g9, h⟩ := h
      refine ⟨g9, ?_⟩
      obtain ⟨v9, e9, h⟩ := h
      intro x9 d9 
      have c9 : v9 = x9 := e9.trans d9.symm
      subst c9
      obtain ⟨g9, h⟩ := h
      refine ⟨g9, ?_⟩
      obtain ⟨g9, h⟩ := h
      refine ⟨g9, ?_⟩
      obtain ⟨g9, h⟩ := h
      refine ⟨g9, ?_⟩
      obtain ⟨v9, e9, h⟩ := h
      intro x9 d9 
      have c9 : v9 = x9 := e9.trans d9.symm
      subst c9
      obtain ⟨g9, h⟩ := h
      refine ⟨g9, ?_⟩
      obtain ⟨g9, h⟩ := h
      refine ⟨g9, ?_⟩
      obtain ⟨g9, h⟩ := h
      refine ⟨g9, ?_⟩
      obtain ⟨v9, e9, h⟩ := h
      intro x9 d9 
      have c9 : v9 = x9 := e9.trans d9.symm
      subst c9
      obtain ⟨g9, h⟩ := h
      refine ⟨g9, ?_⟩
      obtain ⟨g9, h⟩ := h
      refine ⟨g9, ?_⟩
      intro _
      replace h := h.2
      obtain ⟨q9, z9, h⟩ := h
      refine ⟨_, vwX8_addCatch z9, ?_⟩
      intro q8 d9 _ _
      subst d9
      replace h := h.2.2
      obtain ⟨v9, e9, h⟩ := h
      intro x9 d9 
      have c9 : v9 = x9 := e9.trans d9.symm
      subst c9
      exact ih h
set_option maxRecDepth 100000 in
theorem vp_X9_putCounters_L290 {uo : MS} {P : MS → Prop} : ∀ (n m : Nat) {U290 : MS} {v290_1 : Nat} {v290_5 : Int32}, v_X9_putCounters_L290 uo n U290 v290_1 v290_5 → w_X9_putCounters_L290 P m U290 v290_1 v290_5 → P uo := by
  intro n
  induction n with
  | zero => intro m U290 v290_1 v290_5 h; unfold v_X9_putCounters_L290 at h; exact h.elim
  | succ n ih =>
    intro m U290 v290_1 v290_5 h w
    cases m with
    | zero => unfold w_X9_putCounters_L290 at w; exact w.elim
    | succ m =>
      unfold v_X9_putCounters_L290 at h
      unfold w_X9_putCounters_L290 at w
      obtain ⟨y6_, y7_, h⟩ := h
      replace w := w y6_ y7_
      rcases h with ⟨c, h⟩ | ⟨c, h⟩
      · replace w := w.1 c
        rw [h]
        exact w
      · replace w := w.2 c
        replace h := h.2
        replace w := w.2
        replace h := h.2
        replace w := w.2
        replace h := h.2
        replace w := w.2
        obtain ⟨v9, e9, h⟩ := h
        replace w := w v9 e9 
        replace h := h.2
        replace w := w.2
        replace h := h.2
        replace w := w.2
        replace h := h.2
        replace w := w.2
        obtain ⟨v9, e9, h⟩ := h
        replace w := w v9 e9 
        replace h := h.2
        replace w := w.2
        replace h := h.2
        replace w := w.2
        replace h := h.2
        replace w := w.2
        obtain ⟨v9, e9, h⟩ := h
        replace w := w v9 e9 
        replace h := h.2
        replace w := w.2
        replace h := h.2
        replace w := w.2
        obtain ⟨y8_, h⟩ := h
        replace w := w y8_
        obtain ⟨q9, z9, y9_, y10_, h⟩ := h
        obtain ⟨Q9, w0, w⟩ := w
        replace w := w q9 (vpX8_addCatch z9 w0) y9_ y10_
        obtain ⟨v9, e9, h⟩ := h
        replace w := w v9 e9 
        exact ih m h w
set_option maxRecDepth 100000 in
theorem vw_X9_putCounters_L208 {uo : MS} : ∀ (n : Nat) {U208 : MS} {v208_1 : Nat} {v208_5 : Int32}, v_X9_putCounters_L208 uo n U208 v208_1 v208_5 → w_X9_putCounters_L208 (fun u => u = uo) n U208 v208_1 v208_5 := by
  intro n
  induction n with
  | zero => intro U208 v208_1 v208_5 h; unfold v_X9_putCounters_L208 at h; exact h.elim
  | succ n ih =>
    intro U208 v208_1 v208_5 h
    unfold v_X9_putCounters_L208 at h
    unfold w_X9_putCounters_L208
    intro _ _
    replace h := h.2.2
    rcases h with ⟨c, h⟩ | ⟨c, h⟩
    · refine ⟨fun _ => ?_, fun c2 => absurd c c2⟩
      obtain ⟨v9, e9, h⟩ := h
      intro x9 d9 _ _
      have c9 : v9 = x9 := e9.trans d9.symm
      subst c9
      replace h := h.2.2
      obtain ⟨n9, h⟩ := h
      exact ⟨n9, vw_X9_putCounters_L290 n9 h⟩
    · refine ⟨fun c2 => absurd c2 c, fun _ => ?_⟩
      obtain ⟨g9, h⟩ := h
      refine ⟨g9, ?_⟩
      obtain ⟨v9, e9, h⟩ := h
      intro x9 d9 
      have c9 : v9 = x9 := e9.trans d9.symm
      subst c9
      obtain ⟨n9, h⟩ := h
      exact ⟨n9, vw_X9_putCounters_L234 n9 (fun _ _ _ h => ih h) h⟩
set_option maxRecDepth 100000 in
theorem vp_X9_putCounters_L208 {uo : MS} {P : MS → Prop} : ∀ (n m : Nat) {U208 : MS} {v208_1 : Nat} {v208_5 : Int32}, v_X9_putCounters_L208 uo n U208 v208_1 v208_5 → w_X9_putCounters_L208 P m U208 v208_1 v208_5 → P uo := by
  intro n
  induction n with
  | zero => intro m U208 v208_1 v208_5 h; unfold v_X9_putCounters_L208 at h; exact h.elim
  | succ n ih =>
    intro m U208 v208_1 v208_5 h w
    cases m with
    | zero => unfold w_X9_putCounters_L208 at w; exact w.elim
    | succ m =>
      unfold v_X9_putCounters_L208 at h
      unfold w_X9_putCounters_L208 at w
      obtain ⟨y11_, y12_, h⟩ := h
      replace w := w y11_ y12_
      rcases h with ⟨c, h⟩ | ⟨c, h⟩
      · replace w := w.1 c
        obtain ⟨v9, e9, y13_, y14_, h⟩ := h
        replace w := w v9 e9 y13_ y14_
        obtain ⟨n9, h⟩ := h
        obtain ⟨n8, w⟩ := w
        exact vp_X9_putCounters_L290 n9 n8 h w
      · replace w := w.2 c
        replace h := h.2
        replace w := w.2
        obtain ⟨v9, e9, h⟩ := h
        replace w := w v9 e9 
        obtain ⟨n9, h⟩ := h
        obtain ⟨n8, w⟩ := w
        exact vp_X9_putCounters_L234 n9 n8 (fun _ _ _ h w => ih m h w) h w
set_option maxRecDepth 100000 in
theorem vw_X9_putCounters_L176 {uo : MS} : ∀ (n : Nat) {U176 : MS} {v176_1 : Nat} {v176_5 : Int32}, v_X9_putCounters_L176 uo n U176 v176_1 v176_5 → w_X9_putCounters_L176 (fun u => u = uo) n U176 v176_1 v176_5 := by
  intro n
  induction n with
  | zero => intro U176 v176_1 v176_5 h; unfold v_X9_putCounters_L176 at h; exact h.elim
  | succ n ih =>
    intro U176 v176_1 v176_5 h
    unfold v_X9_putCounters_L176 at h
    unfold w_X9_putCounters_L176
    intro _ _
    replace h := h.2.2
    rcases h with ⟨c, h⟩ | ⟨c, h⟩
    · refine ⟨fun _ => ?_, fun c2 => absurd c c2⟩
      obtain ⟨n9, h⟩ := h
      exact ⟨n9, vw_X9_putCounters_L208 n9 h⟩
    · refine ⟨fun c2 => absurd c2 c, fun _ => ?_⟩
      obtain ⟨g9, h⟩ := h
      refine ⟨g9, ?_⟩
      obtain ⟨g9, h⟩ := h
      refine ⟨g9, ?_⟩
      intro _
      replace h := h.2
      obtain ⟨q9, z9, h⟩ := h
      refine ⟨_, vwX8_addToTable z9, ?_⟩
      intro q8 d9 _ _
      subst d9
      replace h := h.2.2
      obtain ⟨v9, e9, h⟩ := h
      intro x9 d9 
      have c9 : v9 = x9 := e9.trans d9.symm
      subst c9
      exact ih h
set_option maxRecDepth 100000 in
theorem vp_X9_putCounters_L176 {uo : MS} {P : MS → Prop} : ∀ (n m : Nat) {U176 : MS} {v176_1 : Nat} {v176_5 : Int32}, v_X9_putCounters_L176 uo n U176 v176_1 v176_5 → w_X9_putCounters_L176 P m U176 v176_1 v176_5 → P uo := by
  intro n
  induction n with
  | zero => intro m U176 v176_1 v176_5 h; unfold v_X9_putCounters_L176 at h; exact h.elim
  | succ n ih =>
    intro m U176 v176_1 v176_5 h w
    cases m with
    | zero => unfold w_X9_putCounters_L176 at w; exact w.elim
    | succ m =>
      unfold v_X9_putCounters_L176 at h
      unfold w_X9_putCounters_L176 at w
      obtain ⟨y15_, y16_, h⟩ := h
      replace w := w y15_ y16_
      rcases h with ⟨c, h⟩ | ⟨c, h⟩
      · replace w := w.1 c
        obtain ⟨n9, h⟩ := h
        obtain ⟨n8, w⟩ := w
        exact vp_X9_putCounters_L208 n9 n8 h w
      · replace w := w.2 c
        replace h := h.2
        replace w := w.2
        replace h := h.2
        replace w := w.2
        obtain ⟨y17_, h⟩ := h
        replace w := w y17_
        obtain ⟨q9, z9, y18_, y19_, h⟩ := h
        obtain ⟨Q9, w0, w⟩ := w
        replace w := w q9 (vpX8_addToTable z9 w0) y18_ y19_
        obtain ⟨v9, e9, h⟩ := h
        replace w := w v9 e9 
        exact ih m h w
set_option maxRecDepth 100000 in
theorem vw_X9_putCounters_J139 {uo : MS} {U139 : MS} {v139_1 : Nat} (h : v_X9_putCounters_J139 uo U139 v139_1) : w_X9_putCounters_J139 (fun u => u = uo) U139 v139_1 := by
  unfold v_X9_putCounters_J139 at h
  unfold w_X9_putCounters_J139
  intro _ _
  replace h := h.2.2
  obtain ⟨g9, h⟩ := h
  refine ⟨g9, ?_⟩
  obtain ⟨v9, e9, h⟩ := h
  intro x9 d9 _ _
  have c9 : v9 = x9 := e9.trans d9.symm
  subst c9
  replace h := h.2.2
  obtain ⟨v9, e9, h⟩ := h
  intro x9 d9 _ _
  have c9 : v9 = x9 := e9.trans d9.symm
  subst c9
  replace h := h.2.2
  obtain ⟨n9, h⟩ := h
  exact ⟨n9, vw_X9_putCounters_L176 n9 h⟩
set_option maxRecDepth 100000 in
theorem vp_X9_putCounters_J139 {uo : MS} {P : MS → Prop} {U139 : MS} {v139_1 : Nat} (h : v_X9_putCounters_J139 uo U139 v139_1) (w : w_X9_putCounters_J139 P U139 v139_1) : P uo := by
  unfold v_X9_putCounters_J139 at h
  unfold w_X9_putCounters_J139 at w
  obtain ⟨y20_, y21_, h⟩ := h
  replace w := w y20_ y21_
  replace h := h.2
  replace w := w.2
  obtain ⟨v9, e9, y22_, y23_, h⟩ := h
  replace w := w v9 e9 y22_ y23_
  obtain ⟨v9, e9, y24_, y25_, h⟩ := h
  replace w := w v9 e9 y24_ y25_
  obtain ⟨n9, h⟩ := h
  obtain ⟨n8, w⟩ := w
  exact vp_X9_putCounters_L176 n9 n8 h w
set_option maxRecDepth 100000 in
theorem vw_X9_putCounters_J114 {uo : MS} {k19 k19v : MS → Nat → Int32 → Int32 → Prop} {U114 : MS} {v114_1 : Nat} {v114_4 : Int32} {v114_5 : Int32} (hk19 : ∀ (u : MS) (z0 : Nat) (z1 : Int32) (z2 : Int32), k19v u z0 z1 z2 → k19 u z0 z1 z2) (h : v_X9_putCounters_J114 uo k19v U114 v114_1 v114_4 v114_5) : w_X9_putCounters_J114 (fun u => u = uo) k19 U114 v114_1 v114_4 v114_5 := by
  unfold v_X9_putCounters_J114 at h
  unfold w_X9_putCounters_J114
  intro _ _
  replace h := h.2.2
  obtain ⟨g9, h⟩ := h
  refine ⟨g9, ?_⟩
  obtain ⟨v9, e9, h⟩ := h
  intro x9 d9 
  have c9 : v9 = x9 := e9.trans d9.symm
  subst c9
  obtain ⟨g9, h⟩ := h
  refine ⟨g9, ?_⟩
  obtain ⟨v9, e9, h⟩ := h
  intro x9 d9 
  have c9 : v9 = x9 := e9.trans d9.symm
  subst c9
  intro _
  replace h := h.2
  obtain ⟨q9, z9, h⟩ := h
  refine ⟨_, vwX8_add z9, ?_⟩
  intro q8 d9 _ _
  subst d9
  replace h := h.2.2
  obtain ⟨v9, e9, h⟩ := h
  intro x9 d9 
  have c9 : v9 = x9 := e9.trans d9.symm
  subst c9
  exact hk19 _ _ _ _ h
set_option maxRecDepth 100000 in
theorem vp_X9_putCounters_J114 {uo : MS} {P : MS → Prop} {k19 k19v : MS → Nat → Int32 → Int32 → Prop} {U114 : MS} {v114_1 : Nat} {v114_4 : Int32} {v114_5 : Int32} (hk19 : ∀ (u : MS) (z0 : Nat) (z1 : Int32) (z2 : Int32), k19v u z0 z1 z2 → k19 u z0 z1 z2 → P uo) (h : v_X9_putCounters_J114 uo k19v U114 v114_1 v114_4 v114_5) (w : w_X9_putCounters_J114 P k19 U114 v114_1 v114_4 v114_5) : P uo := by
  unfold v_X9_putCounters_J114 at h
  unfold w_X9_putCounters_J114 at w
  obtain ⟨y26_, y27_, h⟩ := h
  replace w := w y26_ y27_
  replace h := h.2
  replace w := w.2
  obtain ⟨v9, e9, h⟩ := h
  replace w := w v9 e9 
  replace h := h.2
  replace w := w.2
  obtain ⟨v9, e9, h⟩ := h
  replace w := w v9 e9 
  obtain ⟨y28_, h⟩ := h
  replace w := w y28_
  obtain ⟨q9, z9, y29_, y30_, h⟩ := h
  obtain ⟨Q9, w0, w⟩ := w
  replace w := w q9 (vpX8_add z9 w0) y29_ y30_
  obtain ⟨v9, e9, h⟩ := h
  replace w := w v9 e9 
  exact hk19 _ _ _ _ h w
set_option maxRecDepth 100000 in
theorem vw_X9_putCounters_L19 {uo : MS} : ∀ (n : Nat) {U19 : MS} {v19_1 : Nat} {v19_4 : Int32} {v19_5 : Int32}, v_X9_putCounters_L19 uo n U19 v19_1 v19_4 v19_5 → w_X9_putCounters_L19 (fun u => u = uo) n U19 v19_1 v19_4 v19_5 := by
  intro n
  induction n with
  | zero => intro U19 v19_1 v19_4 v19_5 h; unfold v_X9_putCounters_L19 at h; exact h.elim
  | succ n ih =>
    intro U19 v19_1 v19_4 v19_5 h
    unfold v_X9_putCounters_L19 at h
    unfold w_X9_putCounters_L19
    intro _ _
    replace h := h.2.2
    rcases h with ⟨c, h⟩ | ⟨c, h⟩
    · refine ⟨fun _ => ?_, fun c2 => absurd c c2⟩
      exact vw_X9_putCounters_J139 h
    · refine ⟨fun c2 => absurd c2 c, fun _ => ?_⟩
      rcases h with ⟨c, h⟩ | ⟨c, h⟩
      · refine ⟨fun _ => ?_, fun c2 => absurd c c2⟩
        exact vw_X9_putCounters_J139 h
      · refine ⟨fun c2 => absurd c2 c, fun _ => ?_⟩
        obtain ⟨g9, h⟩ := h
        refine ⟨g9, ?_⟩
        obtain ⟨v9, e9, h⟩ := h
        intro x9 d9 _ _
        have c9 : v9 = x9 := e9.trans d9.symm
        subst c9
        replace h := h.2.2
        obtain ⟨g9, h⟩ := h
        refine ⟨g9, ?_⟩
        obtain ⟨v9, e9, h⟩ := h
        intro x9 d9 
        have c9 : v9 = x9 := e9.trans d9.symm
        subst c9
        obtain ⟨g9, h⟩ := h
        refine ⟨g9, ?_⟩
        obtain ⟨v9, e9, h⟩ := h
        intro x9 d9 
        have c9 : v9 = x9 := e9.trans d9.symm
        subst c9
        rcases h with ⟨c, h⟩ | ⟨c, h⟩
        · refine ⟨fun _ => ?_, fun c2 => absurd c c2⟩
          exact vw_X9_putCounters_J114 (fun _ _ _ _ h => ih h) h
        · refine ⟨fun c2 => absurd c2 c, fun _ => ?_⟩
          intro _
          replace h := h.2
          obtain ⟨q9, z9, h⟩ := h
          refine ⟨_, vwX8_add z9, ?_⟩
          intro q8 d9 _ _
          subst d9
          replace h := h.2.2
          intro _
          replace h := h.2
          obtain ⟨q9, z9, h⟩ := h
          refine ⟨_, vwX8_add z9, ?_⟩
          intro q8 d9 _ _
          subst d9
          replace h := h.2.2
          intro _
          replace h := h.2
          obtain ⟨q9, z9, h⟩ := h
          refine ⟨_, vwX8_add z9, ?_⟩
          intro q8 d9 _ _
          subst d9
          replace h := h.2.2
          intro _
          replace h := h.2
          obtain ⟨q9, z9, h⟩ := h
          refine ⟨_, vwX8_add z9, ?_⟩
          intro q8 d9 _ _
          subst d9
          replace h := h.2.2
          obtain ⟨v9, e9, h⟩ := h
          intro x9 d9 
          have c9 : v9 = x9 := e9.trans d9.symm
          subst c9
          exact vw_X9_putCounters_J114 (fun _ _ _ _ h => ih h) h
set_option maxRecDepth 100000 in
theorem vp_X9_putCounters_L19 {uo : MS} {P : MS → Prop} : ∀ (n m : Nat) {U19 : MS} {v19_1 : Nat} {v19_4 : Int32} {v19_5 : Int32}, v_X9_putCounters_L19 uo n U19 v19_1 v19_4 v19_5 → w_X9_putCounters_L19 P m U19 v19_1 v19_4 v19_5 → P uo := by
  intro n
  induction n with
  | zero => intro m U19 v19_1 v19_4 v19_5 h; unfold v_X9_putCounters_L19 at h; exact h.elim
  | succ n ih =>
    intro m U19 v19_1 v19_4 v19_5 h w
    cases m with
    | zero => unfold w_X9_putCounters_L19 at w; exact w.elim
    | succ m =>
      unfold v_X9_putCounters_L19 at h
      unfold w_X9_putCounters_L19 at w
      obtain ⟨y31_, y32_, h⟩ := h
      replace w := w y31_ y32_
      rcases h with ⟨c, h⟩ | ⟨c, h⟩
      · replace w := w.1 c
        exact vp_X9_putCounters_J139 h w
      · replace w := w.2 c
        rcases h with ⟨c, h⟩ | ⟨c, h⟩
        · replace w := w.1 c
          exact vp_X9_putCounters_J139 h w
        · replace w := w.2 c
          replace h := h.2
          replace w := w.2
          obtain ⟨v9, e9, y33_, y34_, h⟩ := h
          replace w := w v9 e9 y33_ y34_
          replace h := h.2
          replace w := w.2
          obtain ⟨v9, e9, h⟩ := h
          replace w := w v9 e9 
          replace h := h.2
          replace w := w.2
          obtain ⟨v9, e9, h⟩ := h
          replace w := w v9 e9 
          rcases h with ⟨c, h⟩ | ⟨c, h⟩
          · replace w := w.1 c
            exact vp_X9_putCounters_J114 (fun _ _ _ _ h w => ih m h w) h w
          · replace w := w.2 c
            obtain ⟨y35_, h⟩ := h
            replace w := w y35_
            obtain ⟨q9, z9, y36_, y37_, h⟩ := h
            obtain ⟨Q9, w0, w⟩ := w
            replace w := w q9 (vpX8_add z9 w0) y36_ y37_
            obtain ⟨y38_, h⟩ := h
            replace w := w y38_
            obtain ⟨q9, z9, y39_, y40_, h⟩ := h
            obtain ⟨Q9, w0, w⟩ := w
            replace w := w q9 (vpX8_add z9 w0) y39_ y40_
            obtain ⟨y41_, h⟩ := h
            replace w := w y41_
            obtain ⟨q9, z9, y42_, y43_, h⟩ := h
            obtain ⟨Q9, w0, w⟩ := w
            replace w := w q9 (vpX8_add z9 w0) y42_ y43_
            obtain ⟨y44_, h⟩ := h
            replace w := w y44_
            obtain ⟨q9, z9, y45_, y46_, h⟩ := h
            obtain ⟨Q9, w0, w⟩ := w
            replace w := w q9 (vpX8_add z9 w0) y45_ y46_
            obtain ⟨v9, e9, h⟩ := h
            replace w := w v9 e9 
            exact vp_X9_putCounters_J114 (fun _ _ _ _ h w => ih m h w) h w
set_option maxRecDepth 100000 in
theorem vwX9_putCounters {S : MS} {p1 : Nat} {x3 : Int32} {uo : MS} (h : vX9_putCounters S p1 x3 uo) : wX9_putCounters S p1 x3 (fun u => u = uo) := by
  unfold vX9_putCounters at h
  unfold wX9_putCounters
  intro _
  replace h := h.2
  obtain ⟨q9, z9, h⟩ := h
  refine ⟨_, vwX9_makeRoom z9, ?_⟩
  intro q8 d9 _ _
  subst d9
  replace h := h.2.2
  obtain ⟨v9, e9, h⟩ := h
  intro x9 d9 _ _
  have c9 : v9 = x9 := e9.trans d9.symm
  subst c9
  replace h := h.2.2
  obtain ⟨n9, h⟩ := h
  exact ⟨n9, vw_X9_putCounters_L19 n9 h⟩
set_option maxRecDepth 100000 in
theorem vpX9_putCounters {S : MS} {p1 : Nat} {x3 : Int32} {uo : MS} {P : MS → Prop} (h : vX9_putCounters S p1 x3 uo) (w : wX9_putCounters S p1 x3 P) : P uo := by
  unfold vX9_putCounters at h
  unfold wX9_putCounters at w
  obtain ⟨y47_, h⟩ := h
  replace w := w y47_
  obtain ⟨q9, z9, y48_, y49_, h⟩ := h
  obtain ⟨Q9, w0, w⟩ := w
  replace w := w q9 (vpX9_makeRoom z9 w0) y48_ y49_
  obtain ⟨v9, e9, y50_, y51_, h⟩ := h
  replace w := w v9 e9 y50_ y51_
  obtain ⟨n9, h⟩ := h
  obtain ⟨n8, w⟩ := w
  exact vp_X9_putCounters_L19 n9 n8 h w
def vX9_isDropped (S : MS) (x1 : Int32) (x2 : Int32) (ro : Int32) (uo : MS) : Prop := (qT S (qO S 66 0) = 47 ∧ (∃ (S3 : MS), vX8_remove S (qO S 66 0) x1 x2 S3 ∧ wfC S3 ∧ shy S S3 ∧ (ro = (1 : Int32) ∧ uo = S3)))
set_option maxRecDepth 100000 in
theorem ruX9_isDropped {S : MS} {x1 : Int32} {x2 : Int32} {Q : Int32 → MS → Prop} (h : wX9_isDropped S x1 x2 Q) : wX9_isDropped S x1 x2 (fun r u => Q r u ∧ vX9_isDropped S x1 x2 r u) := by
  have i0 : Unit := ()
  have K : ∀ (i : Unit) (ro : Int32) (uo : MS), vX9_isDropped S x1 x2 ro uo → vX9_isDropped S x1 x2 ro uo := fun _ _ _ z => z
  unfold wX9_isDropped at h ⊢
  intro y1_
  replace h := h y1_
  replace K := fun i ro uo z => K i ro uo ⟨y1_, z⟩
  obtain ⟨Q9, h0, h⟩ := h
  refine ⟨_, ruX8_remove h0, ?_⟩
  intro S3 q2_ y3_ y4_
  replace h := h S3 q2_.1 y3_ y4_
  replace K := fun i ro uo z => K i ro uo ⟨S3, q2_.2, y3_, y4_, z⟩
  exact ⟨h, K i0 _ _ ⟨rfl, rfl⟩⟩
set_option maxRecDepth 100000 in
theorem vwX9_isDropped {S : MS} {x1 : Int32} {x2 : Int32} {ro : Int32} {uo : MS} (h : vX9_isDropped S x1 x2 ro uo) : wX9_isDropped S x1 x2 (fun r u => r = ro ∧ u = uo) := by
  unfold vX9_isDropped at h
  unfold wX9_isDropped
  intro _
  replace h := h.2
  obtain ⟨q9, z9, h⟩ := h
  refine ⟨_, vwX8_remove z9, ?_⟩
  intro q8 d9 _ _
  subst d9
  replace h := h.2.2
  exact ⟨h.1.symm, h.2.symm⟩
set_option maxRecDepth 100000 in
theorem vpX9_isDropped {S : MS} {x1 : Int32} {x2 : Int32} {ro : Int32} {uo : MS} {P : Int32 → MS → Prop} (h : vX9_isDropped S x1 x2 ro uo) (w : wX9_isDropped S x1 x2 P) : P ro uo := by
  unfold vX9_isDropped at h
  unfold wX9_isDropped at w
  obtain ⟨y1_, h⟩ := h
  replace w := w y1_
  obtain ⟨q9, z9, y2_, y3_, h⟩ := h
  obtain ⟨Q9, w0, w⟩ := w
  replace w := w q9 (vpX8_remove z9 w0) y2_ y3_
  rw [h.1, h.2]
  exact w
def v_X9_reachFrom_J122 (ro : Int32) (uo : MS) (k74 : MS → Int32 → Int32 → Int32 → Prop) (U122 : MS) (t122_0 : Int32) (t122_1 : Int32) (v122_1 : Int32) (v122_4 : Int32) : Prop := (wfC U122 ∧ (t122_0 = 0 ∨ t122_0 = 1) ∧ (∃ a25 : Int32, a25 = (t122_1 ||| t122_0) ∧ (∃ a26 : Int32, a26 = (v122_4 + Int32.ofInt 1) ∧ (k74 U122 v122_1 a25 a26))))
def v_X9_reachFrom_J121 (ro : Int32) (uo : MS) (k74 : MS → Int32 → Int32 → Int32 → Prop) (U121 : MS) (t121_0 : Int32) (v121_1 : Int32) (v121_4 : Int32) : Prop := (wfC U121 ∧ (v_X9_reachFrom_J122 ro uo k74 U121 0 t121_0 v121_1 v121_4))
def v_X9_reachFrom_L74 (ro : Int32) (uo : MS) : Nat → MS → Int32 → Int32 → Int32 → Prop
  | 0, _, _, _, _ => False
  | n74 + 1, U74, v74_1, v74_2, v74_4 => (wfC U74 ∧ (((qI U74 (qO U74 66 0) 9).toInt ≤ v74_4.toInt ∧ ((v74_2 = 0 ∨ v74_2 = 1) ∧ (ro = v74_2 ∧ uo = U74))) ∨ (¬ (qI U74 (qO U74 66 0) 9).toInt ≤ v74_4.toInt ∧ (d_X8_catchHas U74 (qO U74 66 0) v74_4 v74_1 ∧ (∃ a23 : Int32, a23 = (fX8_catchHas U74 (qO U74 66 0) v74_4 v74_1) ∧ ((a23.toInt = 0 ∧ (v_X9_reachFrom_J121 ro uo (v_X9_reachFrom_L74 ro uo n74) U74 v74_2 v74_1 v74_4)) ∨ (¬ a23.toInt = 0 ∧ ((qR U74 (qO U74 66 0) 7 = some (qO U74 (qO U74 66 0) 7)) ∧ (((0 : Int) ≤ v74_4.toInt ∧ v74_4.toInt < (qN U74 (qO U74 (qO U74 66 0) 7) : Int)) ∧ (∃ (r34 : Int32) (S35 : MS), vX9_isNewlyReached U74 (qI U74 (qO U74 (qO U74 66 0) 7) v74_4.toInt.toNat) r34 S35 ∧ wfC S35 ∧ shy U74 S35 ∧ ((r34.toInt = 0 ∧ (v_X9_reachFrom_J121 ro uo (v_X9_reachFrom_L74 ro uo n74) S35 v74_2 v74_1 v74_4)) ∨ (¬ r34.toInt = 0 ∧ (v_X9_reachFrom_J122 ro uo (v_X9_reachFrom_L74 ro uo n74) S35 1 v74_2 v74_1 v74_4)))))))))))))
def v_X9_reachFrom_L42 (ro : Int32) (uo : MS) : Nat → MS → Int32 → Int32 → Int32 → Int32 → Prop
  | 0, _, _, _, _, _ => False
  | n42 + 1, U42, v42_1, v42_2, v42_3, v42_4 => (wfC U42 ∧ ((v42_3.toInt ≤ v42_4.toInt ∧ (∃ n, v_X9_reachFrom_L74 ro uo n U42 v42_1 v42_2 0)) ∨ (¬ v42_3.toInt ≤ v42_4.toInt ∧ (d_X8_targetAt U42 (qO U42 66 0) v42_1 v42_4 ∧ (∃ a42 : Int32, a42 = (fX8_targetAt U42 (qO U42 66 0) v42_1 v42_4) ∧ (∃ (r44 : Int32) (S45 : MS), vX9_isNewlyReached U42 a42 r44 S45 ∧ wfC S45 ∧ shy U42 S45 ∧ (∃ a48 : Int32, a48 = (v42_2 ||| r44) ∧ (∃ a49 : Int32, a49 = (v42_4 + Int32.ofInt 1) ∧ ((v_X9_reachFrom_L42 ro uo n42) S45 v42_1 a48 v42_3 a49)))))))))
def v_X9_reachFrom_J29 (ro : Int32) (uo : MS) (U29 : MS) (t29_0 : Int32) (v29_1 : Int32) : Prop := (wfC U29 ∧ (t29_0 = 0 ∨ t29_0 = 1) ∧ (d_X8_targetCount U29 (qO U29 66 0) v29_1 ∧ (∃ a14 : Int32, a14 = (fX8_targetCount U29 (qO U29 66 0) v29_1) ∧ (∃ n, v_X9_reachFrom_L42 ro uo n U29 v29_1 t29_0 a14 0))))
def v_X9_reachFrom_J28 (ro : Int32) (uo : MS) (U28 : MS) (v28_1 : Int32) : Prop := (wfC U28 ∧ (v_X9_reachFrom_J29 ro uo U28 0 v28_1))
def vX9_reachFrom (S : MS) (x1 : Int32) (ro : Int32) (uo : MS) : Prop := (d_X8_opAt S (qO S 66 0) x1 ∧ (∃ a5 : Int32, a5 = (fX8_opAt S (qO S 66 0) x1) ∧ (d_X6_goesOn S a5 ∧ (∃ a9 : Int32, a9 = (fX6_goesOn S a5) ∧ ((a9.toInt = 0 ∧ (v_X9_reachFrom_J28 ro uo S x1)) ∨ (¬ a9.toInt = 0 ∧ (∃ (r53 : Int32) (S54 : MS), vX9_isNewlyReached S (x1 + (1 : Int32)) r53 S54 ∧ wfC S54 ∧ shy S S54 ∧ ((r53.toInt = 0 ∧ (v_X9_reachFrom_J28 ro uo S54 x1)) ∨ (¬ r53.toInt = 0 ∧ (v_X9_reachFrom_J29 ro uo S54 1 x1))))))))))
set_option maxRecDepth 100000 in
theorem ru_X9_reachFrom_J122 {ι : Type} {P Q : Int32 → MS → Prop} {k74 k74' : MS → Int32 → Int32 → Int32 → Prop} {k74v : ι → Int32 → MS → MS → Int32 → Int32 → Int32 → Prop} {U122 : MS} {t122_0 : Int32} {t122_1 : Int32} {v122_1 : Int32} {v122_4 : Int32} (i0 : ι) (hk74 : ∀ (u : MS) (z0 : Int32) (z1 : Int32) (z2 : Int32), k74 u z0 z1 z2 → (∀ (i : ι) (ro : Int32) (uo : MS), k74v i ro uo u z0 z1 z2 → P ro uo) → k74' u z0 z1 z2) (K : ∀ (i : ι) (ro : Int32) (uo : MS), v_X9_reachFrom_J122 ro uo (k74v i ro uo) U122 t122_0 t122_1 v122_1 v122_4 → P ro uo) (h : w_X9_reachFrom_J122 Q k74 U122 t122_0 t122_1 v122_1 v122_4) : w_X9_reachFrom_J122 (fun r u => Q r u ∧ P r u) k74' U122 t122_0 t122_1 v122_1 v122_4 := by
  unfold w_X9_reachFrom_J122 at h ⊢
  intro y1_ y2_
  replace h := h y1_ y2_
  replace K := fun i ro uo z => K i ro uo ⟨y1_, y2_, z⟩
  intro a25 ea25 
  replace h := h a25 ea25 
  replace K := fun i ro uo z => K i ro uo ⟨a25, ea25, z⟩
  intro a26 ea26 
  replace h := h a26 ea26 
  replace K := fun i ro uo z => K i ro uo ⟨a26, ea26, z⟩
  exact hk74 _ _ _ _ h K
set_option maxRecDepth 100000 in
theorem ru_X9_reachFrom_J121 {ι : Type} {P Q : Int32 → MS → Prop} {k74 k74' : MS → Int32 → Int32 → Int32 → Prop} {k74v : ι → Int32 → MS → MS → Int32 → Int32 → Int32 → Prop} {U121 : MS} {t121_0 : Int32} {v121_1 : Int32} {v121_4 : Int32} (i0 : ι) (hk74 : ∀ (u : MS) (z0 : Int32) (z1 : Int32) (z2 : Int32), k74 u z0 z1 z2 → (∀ (i : ι) (ro : Int32) (uo : MS), k74v i ro uo u z0 z1 z2 → P ro uo) → k74' u z0 z1 z2) (K : ∀ (i : ι) (ro : Int32) (uo : MS), v_X9_reachFrom_J121 ro uo (k74v i ro uo) U121 t121_0 v121_1 v121_4 → P ro uo) (h : w_X9_reachFrom_J121 Q k74 U121 t121_0 v121_1 v121_4) : w_X9_reachFrom_J121 (fun r u => Q r u ∧ P r u) k74' U121 t121_0 v121_1 v121_4 := by
  unfold w_X9_reachFrom_J121 at h ⊢
  intro y3_
  replace h := h y3_
  replace K := fun i ro uo z => K i ro uo ⟨y3_, z⟩
  exact ru_X9_reachFrom_J122 i0 hk74 K h
set_option maxRecDepth 100000 in
theorem ru_X9_reachFrom_L74 {ι : Type} {P Q : Int32 → MS → Prop} : ∀ (n : Nat) {U74 : MS} {v74_1 : Int32} {v74_2 : Int32} {v74_4 : Int32} (i0 : ι), (∀ (i : ι) (ro : Int32) (uo : MS), (∃ n8, v_X9_reachFrom_L74 ro uo n8 U74 v74_1 v74_2 v74_4) → P ro uo) → w_X9_reachFrom_L74 Q n U74 v74_1 v74_2 v74_4 → w_X9_reachFrom_L74 (fun r u => Q r u ∧ P r u) n U74 v74_1 v74_2 v74_4 := by
  intro n
  induction n with
  | zero => intro U74 v74_1 v74_2 v74_4 i0 K h; unfold w_X9_reachFrom_L74 at h; exact h.elim
  | succ n ih =>
    intro U74 v74_1 v74_2 v74_4 i0 K h
    unfold w_X9_reachFrom_L74 at h ⊢
    replace K := fun (i : ι × Nat) ro uo (z : v_X9_reachFrom_L74 ro uo (i.2 + 1) U74 v74_1 v74_2 v74_4) => K i.1 ro uo ⟨i.2 + 1, z⟩
    have i00 := i0
    replace i0 : ι × Nat := (i0, 0)
    intro y4_
    replace h := h y4_
    replace K := fun i ro uo z => K i ro uo ⟨y4_, z⟩
    refine ⟨fun c => ?_, fun c => ?_⟩
    · replace h := h.1 c
      replace K := fun i ro uo z => K i ro uo (Or.inl ⟨c, z⟩)
      obtain ⟨g5_, h⟩ := h
      refine ⟨g5_, ?_⟩
      replace K := fun i ro uo z => K i ro uo ⟨g5_, z⟩
      exact ⟨h, K i0 _ _ ⟨rfl, rfl⟩⟩
    · replace h := h.2 c
      replace K := fun i ro uo z => K i ro uo (Or.inr ⟨c, z⟩)
      obtain ⟨g6_, h⟩ := h
      refine ⟨g6_, ?_⟩
      replace K := fun i ro uo z => K i ro uo ⟨g6_, z⟩
      intro a23 ea23 
      replace h := h a23 ea23 
      replace K := fun i ro uo z => K i ro uo ⟨a23, ea23, z⟩
      refine ⟨fun c => ?_, fun c => ?_⟩
      · replace h := h.1 c
        replace K := fun i ro uo z => K i ro uo (Or.inl ⟨c, z⟩)
        exact ru_X9_reachFrom_J121 i0 (fun _ _ _ _ h K => ih i00 (fun i ro uo ⟨n8, z⟩ => K (i, n8) ro uo z) h) K h
      · replace h := h.2 c
        replace K := fun i ro uo z => K i ro uo (Or.inr ⟨c, z⟩)
        obtain ⟨g7_, h⟩ := h
        refine ⟨g7_, ?_⟩
        replace K := fun i ro uo z => K i ro uo ⟨g7_, z⟩
        obtain ⟨g8_, h⟩ := h
        refine ⟨g8_, ?_⟩
        replace K := fun i ro uo z => K i ro uo ⟨g8_, z⟩
        obtain ⟨Q9, h0, h⟩ := h
        refine ⟨_, ruX9_isNewlyReached h0, ?_⟩
        intro r34 S35 q9_ y10_ y11_
        replace h := h r34 S35 q9_.1 y10_ y11_
        replace K := fun i ro uo z => K i ro uo ⟨r34, S35, q9_.2, y10_, y11_, z⟩
        refine ⟨fun c => ?_, fun c => ?_⟩
        · replace h := h.1 c
          replace K := fun i ro uo z => K i ro uo (Or.inl ⟨c, z⟩)
          exact ru_X9_reachFrom_J121 i0 (fun _ _ _ _ h K => ih i00 (fun i ro uo ⟨n8, z⟩ => K (i, n8) ro uo z) h) K h
        · replace h := h.2 c
          replace K := fun i ro uo z => K i ro uo (Or.inr ⟨c, z⟩)
          exact ru_X9_reachFrom_J122 i0 (fun _ _ _ _ h K => ih i00 (fun i ro uo ⟨n8, z⟩ => K (i, n8) ro uo z) h) K h
set_option maxRecDepth 100000 in
theorem ru_X9_reachFrom_L42 {ι : Type} {P Q : Int32 → MS → Prop} : ∀ (n : Nat) {U42 : MS} {v42_1 : Int32} {v42_2 : Int32} {v42_3 : Int32} {v42_4 : Int32} (i0 : ι), (∀ (i : ι) (ro : Int32) (uo : MS), (∃ n8, v_X9_reachFrom_L42 ro uo n8 U42 v42_1 v42_2 v42_3 v42_4) → P ro uo) → w_X9_reachFrom_L42 Q n U42 v42_1 v42_2 v42_3 v42_4 → w_X9_reachFrom_L42 (fun r u => Q r u ∧ P r u) n U42 v42_1 v42_2 v42_3 v42_4 := by
  intro n
  induction n with
  | zero => intro U42 v42_1 v42_2 v42_3 v42_4 i0 K h; unfold w_X9_reachFrom_L42 at h; exact h.elim
  | succ n ih =>
    intro U42 v42_1 v42_2 v42_3 v42_4 i0 K h
    unfold w_X9_reachFrom_L42 at h ⊢
    replace K := fun (i : ι × Nat) ro uo (z : v_X9_reachFrom_L42 ro uo (i.2 + 1) U42 v42_1 v42_2 v42_3 v42_4) => K i.1 ro uo ⟨i.2 + 1, z⟩
    have i00 := i0
    replace i0 : ι × Nat := (i0, 0)
    intro y12_
    replace h := h y12_
    replace K := fun i ro uo z => K i ro uo ⟨y12_, z⟩
    refine ⟨fun c => ?_, fun c => ?_⟩
    · replace h := h.1 c
      replace K := fun i ro uo z => K i ro uo (Or.inl ⟨c, z⟩)
      obtain ⟨n9, h⟩ := h
      exact ⟨n9, ru_X9_reachFrom_L74 n9 i0 K h⟩
    · replace h := h.2 c
      replace K := fun i ro uo z => K i ro uo (Or.inr ⟨c, z⟩)
      obtain ⟨g13_, h⟩ := h
      refine ⟨g13_, ?_⟩
      replace K := fun i ro uo z => K i ro uo ⟨g13_, z⟩
      intro a42 ea42 
      replace h := h a42 ea42 
      replace K := fun i ro uo z => K i ro uo ⟨a42, ea42, z⟩
      obtain ⟨Q9, h0, h⟩ := h
      refine ⟨_, ruX9_isNewlyReached h0, ?_⟩
      intro r44 S45 q14_ y15_ y16_
      replace h := h r44 S45 q14_.1 y15_ y16_
      replace K := fun i ro uo z => K i ro uo ⟨r44, S45, q14_.2, y15_, y16_, z⟩
      intro a48 ea48 
      replace h := h a48 ea48 
      replace K := fun i ro uo z => K i ro uo ⟨a48, ea48, z⟩
      intro a49 ea49 
      replace h := h a49 ea49 
      replace K := fun i ro uo z => K i ro uo ⟨a49, ea49, z⟩
      exact ih i00 (fun i ro uo ⟨n8, z⟩ => K (i, n8) ro uo z) h
set_option maxRecDepth 100000 in
theorem ru_X9_reachFrom_J29 {ι : Type} {P Q : Int32 → MS → Prop} {U29 : MS} {t29_0 : Int32} {v29_1 : Int32} (i0 : ι) (K : ∀ (i : ι) (ro : Int32) (uo : MS), v_X9_reachFrom_J29 ro uo U29 t29_0 v29_1 → P ro uo) (h : w_X9_reachFrom_J29 Q U29 t29_0 v29_1) : w_X9_reachFrom_J29 (fun r u => Q r u ∧ P r u) U29 t29_0 v29_1 := by
  unfold w_X9_reachFrom_J29 at h ⊢
  intro y17_ y18_
  replace h := h y17_ y18_
  replace K := fun i ro uo z => K i ro uo ⟨y17_, y18_, z⟩
  obtain ⟨g19_, h⟩ := h
  refine ⟨g19_, ?_⟩
  replace K := fun i ro uo z => K i ro uo ⟨g19_, z⟩
  intro a14 ea14 
  replace h := h a14 ea14 
  replace K := fun i ro uo z => K i ro uo ⟨a14, ea14, z⟩
  obtain ⟨n9, h⟩ := h
  exact ⟨n9, ru_X9_reachFrom_L42 n9 i0 K h⟩
set_option maxRecDepth 100000 in
theorem ru_X9_reachFrom_J28 {ι : Type} {P Q : Int32 → MS → Prop} {U28 : MS} {v28_1 : Int32} (i0 : ι) (K : ∀ (i : ι) (ro : Int32) (uo : MS), v_X9_reachFrom_J28 ro uo U28 v28_1 → P ro uo) (h : w_X9_reachFrom_J28 Q U28 v28_1) : w_X9_reachFrom_J28 (fun r u => Q r u ∧ P r u) U28 v28_1 := by
  unfold w_X9_reachFrom_J28 at h ⊢
  intro y20_
  replace h := h y20_
  replace K := fun i ro uo z => K i ro uo ⟨y20_, z⟩
  exact ru_X9_reachFrom_J29 i0 K h
set_option maxRecDepth 100000 in
theorem ruX9_reachFrom {S : MS} {x1 : Int32} {Q : Int32 → MS → Prop} (h : wX9_reachFrom S x1 Q) : wX9_reachFrom S x1 (fun r u => Q r u ∧ vX9_reachFrom S x1 r u) := by
  have i0 : Unit := ()
  have K : ∀ (i : Unit) (ro : Int32) (uo : MS), vX9_reachFrom S x1 ro uo → vX9_reachFrom S x1 ro uo := fun _ _ _ z => z
  unfold wX9_reachFrom at h ⊢
  obtain ⟨g21_, h⟩ := h
  refine ⟨g21_, ?_⟩
  replace K := fun i ro uo z => K i ro uo ⟨g21_, z⟩
  intro a5 ea5 
  replace h := h a5 ea5 
  replace K := fun i ro uo z => K i ro uo ⟨a5, ea5, z⟩
  obtain ⟨g22_, h⟩ := h
  refine ⟨g22_, ?_⟩
  replace K := fun i ro uo z => K i ro uo ⟨g22_, z⟩
  intro a9 ea9 
  replace h := h a9 ea9 
  replace K := fun i ro uo z => K i ro uo ⟨a9, ea9, z⟩
  refine ⟨fun c => ?_, fun c => ?_⟩
  · replace h := h.1 c
    replace K := fun i ro uo z => K i ro uo (Or.inl ⟨c, z⟩)
    exact ru_X9_reachFrom_J28 i0 K h
  · replace h := h.2 c
    replace K := fun i ro uo z => K i ro uo (Or.inr ⟨c, z⟩)
    obtain ⟨Q9, h0, h⟩ := h
    refine ⟨_, ruX9_isNewlyReached h0, ?_⟩
    intro r53 S54 q23_ y24_ y25_
    replace h := h r53 S54 q23_.1 y24_ y25_
    replace K := fun i ro uo z => K i ro uo ⟨r53, S54, q23_.2, y24_, y25_, z⟩
    refine ⟨fun c => ?_, fun c => ?_⟩
    · replace h := h.1 c
      replace K := fun i ro uo z => K i ro uo (Or.inl ⟨c, z⟩)
      exact ru_X9_reachFrom_J28 i0 K h
    · replace h := h.2 c
      replace K := fun i ro uo z => K i ro uo (Or.inr ⟨c, z⟩)
      exact ru_X9_reachFrom_J29 i0 K h
set_option maxRecDepth 100000 in
theorem vw_X9_reachFrom_J122 {ro : Int32} {uo : MS} {k74 k74v : MS → Int32 → Int32 → Int32 → Prop} {U122 : MS} {t122_0 : Int32} {t122_1 : Int32} {v122_1 : Int32} {v122_4 : Int32} (hk74 : ∀ (u : MS) (z0 : Int32) (z1 : Int32) (z2 : Int32), k74v u z0 z1 z2 → k74 u z0 z1 z2) (h : v_X9_reachFrom_J122 ro uo k74v U122 t122_0 t122_1 v122_1 v122_4) : w_X9_reachFrom_J122 (fun r u => r = ro ∧ u = uo) k74 U122 t122_0 t122_1 v122_1 v122_4 := by
  unfold v_X9_reachFrom_J122 at h
  unfold w_X9_reachFrom_J122
  intro _ _
  replace h := h.2.2
  obtain ⟨v9, e9, h⟩ := h
  intro x9 d9 
  have c9 : v9 = x9 := e9.trans d9.symm
  subst c9
  obtain ⟨v9, e9, h⟩ := h
  intro x9 d9 
  have c9 : v9 = x9 := e9.trans d9.symm
  subst c9
  exact hk74 _ _ _ _ h
set_option maxRecDepth 100000 in
theorem vp_X9_reachFrom_J122 {ro : Int32} {uo : MS} {P : Int32 → MS → Prop} {k74 k74v : MS → Int32 → Int32 → Int32 → Prop} {U122 : MS} {t122_0 : Int32} {t122_1 : Int32} {v122_1 : Int32} {v122_4 : Int32} (hk74 : ∀ (u : MS) (z0 : Int32) (z1 : Int32) (z2 : Int32), k74v u z0 z1 z2 → k74 u z0 z1 z2 → P ro uo) (h : v_X9_reachFrom_J122 ro uo k74v U122 t122_0 t122_1 v122_1 v122_4) (w : w_X9_reachFrom_J122 P k74 U122 t122_0 t122_1 v122_1 v122_4) : P ro uo := by
  unfold v_X9_reachFrom_J122 at h
  unfold w_X9_reachFrom_J122 at w
  obtain ⟨y1_, y2_, h⟩ := h
  replace w := w y1_ y2_
  obtain ⟨v9, e9, h⟩ := h
  replace w := w v9 e9 
  obtain ⟨v9, e9, h⟩ := h
  replace w := w v9 e9 
  exact hk74 _ _ _ _ h w
set_option maxRecDepth 100000 in
theorem vw_X9_reachFrom_J121 {ro : Int32} {uo : MS} {k74 k74v : MS → Int32 → Int32 → Int32 → Prop} {U121 : MS} {t121_0 : Int32} {v121_1 : Int32} {v121_4 : Int32} (hk74 : ∀ (u : MS) (z0 : Int32) (z1 : Int32) (z2 : Int32), k74v u z0 z1 z2 → k74 u z0 z1 z2) (h : v_X9_reachFrom_J121 ro uo k74v U121 t121_0 v121_1 v121_4) : w_X9_reachFrom_J121 (fun r u => r = ro ∧ u = uo) k74 U121 t121_0 v121_1 v121_4 := by
  unfold v_X9_reachFrom_J121 at h
  unfold w_X9_reachFrom_J121
  intro _
  replace h := h.2
  exact vw_X9_reachFrom_J122 hk74 h
set_option maxRecDepth 100000 in
theorem vp_X9_reachFrom_J121 {ro : Int32} {uo : MS} {P : Int32 → MS → Prop} {k74 k74v : MS → Int32 → Int32 → Int32 → Prop} {U121 : MS} {t121_0 : Int32} {v121_1 : Int32} {v121_4 : Int32} (hk74 : ∀ (u : MS) (z0 : Int32) (z1 : Int32) (z2 : Int32), k74v u z0 z1 z2 → k74 u z0 z1 z2 → P ro uo) (h : v_X9_reachFrom_J121 ro uo k74v U121 t121_0 v121_1 v121_4) (w : w_X9_reachFrom_J121 P k74 U121 t121_0 v121_1 v121_4) : P ro uo := by
  unfold v_X9_reachFrom_J121 at h
  unfold w_X9_reachFrom_J121 at w
  obtain ⟨y3_, h⟩ := h
  replace w := w y3_
  exact vp_X9_reachFrom_J122 hk74 h w
set_option maxRecDepth 100000 in
theorem vw_X9_reachFrom_L74 {ro : Int32} {uo : MS} : ∀ (n : Nat) {U74 : MS} {v74_1 : Int32} {v74_2 : Int32} {v74_4 : Int32}, v_X9_reachFrom_L74 ro uo n U74 v74_1 v74_2 v74_4 → w_X9_reachFrom_L74 (fun r u => r = ro ∧ u = uo) n U74 v74_1 v74_2 v74_4 := by
  intro n
  induction n with
  | zero => intro U74 v74_1 v74_2 v74_4 h; unfold v_X9_reachFrom_L74 at h; exact h.elim
  | succ n ih =>
    intro U74 v74_1 v74_2 v74_4 h
    unfold v_X9_reachFrom_L74 at h
    unfold w_X9_reachFrom_L74
    intro _
    replace h := h.2
    rcases h with ⟨c, h⟩ | ⟨c, h⟩
    · refine ⟨fun _ => ?_, fun c2 => absurd c c2⟩
      obtain ⟨g9, h⟩ := h
      refine ⟨g9, ?_⟩
      exact ⟨h.1.symm, h.2.symm⟩
    · refine ⟨fun c2 => absurd c2 c, fun _ => ?_⟩
      obtain ⟨g9, h⟩ := h
      refine ⟨g9, ?_⟩
      obtain ⟨v9, e9, h⟩ := h
      intro x9 d9 
      have c9 : v9 = x9 := e9.trans d9.symm
      subst c9
      rcases h with ⟨c, h⟩ | ⟨c, h⟩
      · refine ⟨fun _ => ?_, fun c2 => absurd c c2⟩
        exact vw_X9_reachFrom_J121 (fun _ _ _ _ h => ih h) h
      · refine ⟨fun c2 => absurd c2 c, fun _ => ?_⟩
        obtain ⟨g9, h⟩ := h
        refine ⟨g9, ?_⟩
        obtain ⟨g9, h⟩ := h
        refine ⟨g9, ?_⟩
        obtain ⟨p9, q9, z9, h⟩ := h
        refine ⟨_, vwX9_isNewlyReached z9, ?_⟩
        rintro p8 q8 ⟨d8, d9⟩ _ _
        subst d8
        subst d9
        replace h := h.2.2
        rcases h with ⟨c, h⟩ | ⟨c, h⟩
        · refine ⟨fun _ => ?_, fun c2 => absurd c c2⟩
          exact vw_X9_reachFrom_J121 (fun _ _ _ _ h => ih h) h
        · refine ⟨fun c2 => absurd c2 c, fun _ => ?_⟩
          exact vw_X9_reachFrom_J122 (fun _ _ _ _ h => ih h) h
set_option maxRecDepth 100000 in
theorem vp_X9_reachFrom_L74 {ro : Int32} {uo : MS} {P : Int32 → MS → Prop} : ∀ (n m : Nat) {U74 : MS} {v74_1 : Int32} {v74_2 : Int32} {v74_4 : Int32}, v_X9_reachFrom_L74 ro uo n U74 v74_1 v74_2 v74_4 → w_X9_reachFrom_L74 P m U74 v74_1 v74_2 v74_4 → P ro uo := by
  intro n
  induction n with
  | zero => intro m U74 v74_1 v74_2 v74_4 h; unfold v_X9_reachFrom_L74 at h; exact h.elim
  | succ n ih =>
    intro m U74 v74_1 v74_2 v74_4 h w
    cases m with
    | zero => unfold w_X9_reachFrom_L74 at w; exact w.elim
    | succ m =>
      unfold v_X9_reachFrom_L74 at h
      unfold w_X9_reachFrom_L74 at w
      obtain ⟨y4_, h⟩ := h
      replace w := w y4_
      rcases h with ⟨c, h⟩ | ⟨c, h⟩
      · replace w := w.1 c
        replace h := h.2
        replace w := w.2
        rw [h.1, h.2]
        exact w
      · replace w := w.2 c
        replace h := h.2
        replace w := w.2
        obtain ⟨v9, e9, h⟩ := h
        replace w := w v9 e9 
        rcases h with ⟨c, h⟩ | ⟨c, h⟩
        · replace w := w.1 c
          exact vp_X9_reachFrom_J121 (fun _ _ _ _ h w => ih m h w) h w
        · replace w := w.2 c
          replace h := h.2
          replace w := w.2
          replace h := h.2
          replace w := w.2
          obtain ⟨p9, q9, z9, y5_, y6_, h⟩ := h
          obtain ⟨Q9, w0, w⟩ := w
          replace w := w p9 q9 (vpX9_isNewlyReached z9 w0) y5_ y6_
          rcases h with ⟨c, h⟩ | ⟨c, h⟩
          · replace w := w.1 c
            exact vp_X9_reachFrom_J121 (fun _ _ _ _ h w => ih m h w) h w
          · replace w := w.2 c
            exact vp_X9_reachFrom_J122 (fun _ _ _ _ h w => ih m h w) h w
set_option maxRecDepth 100000 in
theorem vw_X9_reachFrom_L42 {ro : Int32} {uo : MS} : ∀ (n : Nat) {U42 : MS} {v42_1 : Int32} {v42_2 : Int32} {v42_3 : Int32} {v42_4 : Int32}, v_X9_reachFrom_L42 ro uo n U42 v42_1 v42_2 v42_3 v42_4 → w_X9_reachFrom_L42 (fun r u => r = ro ∧ u = uo) n U42 v42_1 v42_2 v42_3 v42_4 := by
  intro n
  induction n with
  | zero => intro U42 v42_1 v42_2 v42_3 v42_4 h; unfold v_X9_reachFrom_L42 at h; exact h.elim
  | succ n ih =>
    intro U42 v42_1 v42_2 v42_3 v42_4 h
    unfold v_X9_reachFrom_L42 at h
    unfold w_X9_reachFrom_L42
    intro _
    replace h := h.2
    rcases h with ⟨c, h⟩ | ⟨c, h⟩
    · refine ⟨fun _ => ?_, fun c2 => absurd c c2⟩
      obtain ⟨n9, h⟩ := h
      exact ⟨n9, vw_X9_reachFrom_L74 n9 h⟩
    · refine ⟨fun c2 => absurd c2 c, fun _ => ?_⟩
      obtain ⟨g9, h⟩ := h
      refine ⟨g9, ?_⟩
      obtain ⟨v9, e9, h⟩ := h
      intro x9 d9 
      have c9 : v9 = x9 := e9.trans d9.symm
      subst c9
      obtain ⟨p9, q9, z9, h⟩ := h
      refine ⟨_, vwX9_isNewlyReached z9, ?_⟩
      rintro p8 q8 ⟨d8, d9⟩ _ _
      subst d8
      subst d9
      replace h := h.2.2
      obtain ⟨v9, e9, h⟩ := h
      intro x9 d9 
      have c9 : v9 = x9 := e9.trans d9.symm
      subst c9
      obtain ⟨v9, e9, h⟩ := h
      intro x9 d9 
      have c9 : v9 = x9 := e9.trans d9.symm
      subst c9
      exact ih h
set_option maxRecDepth 100000 in
theorem vp_X9_reachFrom_L42 {ro : Int32} {uo : MS} {P : Int32 → MS → Prop} : ∀ (n m : Nat) {U42 : MS} {v42_1 : Int32} {v42_2 : Int32} {v42_3 : Int32} {v42_4 : Int32}, v_X9_reachFrom_L42 ro uo n U42 v42_1 v42_2 v42_3 v42_4 → w_X9_reachFrom_L42 P m U42 v42_1 v42_2 v42_3 v42_4 → P ro uo := by
  intro n
  induction n with
  | zero => intro m U42 v42_1 v42_2 v42_3 v42_4 h; unfold v_X9_reachFrom_L42 at h; exact h.elim
  | succ n ih =>
    intro m U42 v42_1 v42_2 v42_3 v42_4 h w
    cases m with
    | zero => unfold w_X9_reachFrom_L42 at w; exact w.elim
    | succ m =>
      unfold v_X9_reachFrom_L42 at h
      unfold w_X9_reachFrom_L42 at w
      obtain ⟨y7_, h⟩ := h
      replace w := w y7_
      rcases h with ⟨c, h⟩ | ⟨c, h⟩
      · replace w := w.1 c
        obtain ⟨n9, h⟩ := h
        obtain ⟨n8, w⟩ := w
        exact vp_X9_reachFrom_L74 n9 n8 h w
      · replace w := w.2 c
        replace h := h.2
        replace w := w.2
        obtain ⟨v9, e9, h⟩ := h
        replace w := w v9 e9 
        obtain ⟨p9, q9, z9, y8_, y9_, h⟩ := h
        obtain ⟨Q9, w0, w⟩ := w
        replace w := w p9 q9 (vpX9_isNewlyReached z9 w0) y8_ y9_
        obtain ⟨v9, e9, h⟩ := h
        replace w := w v9 e9 
        obtain ⟨v9, e9, h⟩ := h
        replace w := w v9 e9 
        exact ih m h w
set_option maxRecDepth 100000 in
theorem vw_X9_reachFrom_J29 {ro : Int32} {uo : MS} {U29 : MS} {t29_0 : Int32} {v29_1 : Int32} (h : v_X9_reachFrom_J29 ro uo U29 t29_0 v29_1) : w_X9_reachFrom_J29 (fun r u => r = ro ∧ u = uo) U29 t29_0 v29_1 := by
  unfold v_X9_reachFrom_J29 at h
  unfold w_X9_reachFrom_J29
  intro _ _
  replace h := h.2.2
  obtain ⟨g9, h⟩ := h
  refine ⟨g9, ?_⟩
  obtain ⟨v9, e9, h⟩ := h
  intro x9 d9 
  have c9 : v9 = x9 := e9.trans d9.symm
  subst c9
  obtain ⟨n9, h⟩ := h
  exact ⟨n9, vw_X9_reachFrom_L42 n9 h⟩
set_option maxRecDepth 100000 in
theorem vp_X9_reachFrom_J29 {ro : Int32} {uo : MS} {P : Int32 → MS → Prop} {U29 : MS} {t29_0 : Int32} {v29_1 : Int32} (h : v_X9_reachFrom_J29 ro uo U29 t29_0 v29_1) (w : w_X9_reachFrom_J29 P U29 t29_0 v29_1) : P ro uo := by
  unfold v_X9_reachFrom_J29 at h
  unfold w_X9_reachFrom_J29 at w
  obtain ⟨y10_, y11_, h⟩ := h
  replace w := w y10_ y11_
  replace h := h.2
  replace w := w.2
  obtain ⟨v9, e9, h⟩ := h
  replace w := w v9 e9 
  obtain ⟨n9, h⟩ := h
  obtain ⟨n8, w⟩ := w
  exact vp_X9_reachFrom_L42 n9 n8 h w
set_option maxRecDepth 100000 in
theorem vw_X9_reachFrom_J28 {ro : Int32} {uo : MS} {U28 : MS} {v28_1 : Int32} (h : v_X9_reachFrom_J28 ro uo U28 v28_1) : w_X9_reachFrom_J28 (fun r u => r = ro ∧ u = uo) U28 v28_1 := by
  unfold v_X9_reachFrom_J28 at h
  unfold w_X9_reachFrom_J28
  intro _
  replace h := h.2
  exact vw_X9_reachFrom_J29 h
set_option maxRecDepth 100000 in
theorem vp_X9_reachFrom_J28 {ro : Int32} {uo : MS} {P : Int32 → MS → Prop} {U28 : MS} {v28_1 : Int32} (h : v_X9_reachFrom_J28 ro uo U28 v28_1) (w : w_X9_reachFrom_J28 P U28 v28_1) : P ro uo := by
  unfold v_X9_reachFrom_J28 at h
  unfold w_X9_reachFrom_J28 at w
  obtain ⟨y12_, h⟩ := h
  replace w := w y12_
  exact vp_X9_reachFrom_J29 h w
set_option maxRecDepth 100000 in
theorem vwX9_reachFrom {S : MS} {x1 : Int32} {ro : Int32} {uo : MS} (h : vX9_reachFrom S x1 ro uo) : wX9_reachFrom S x1 (fun r u => r = ro ∧ u = uo) := by
  unfold vX9_reachFrom at h
  unfold wX9_reachFrom
  obtain ⟨g9, h⟩ := h
  refine ⟨g9, ?_⟩
  obtain ⟨v9, e9, h⟩ := h
  intro x9 d9 
  have c9 : v9 = x9 := e9.trans d9.symm
  subst c9
  obtain ⟨g9, h⟩ := h
  refine ⟨g9, ?_⟩
  obtain ⟨v9, e9, h⟩ := h
  intro x9 d9 
  have c9 : v9 = x9 := e9.trans d9.symm
  subst c9
  rcases h with ⟨c, h⟩ | ⟨c, h⟩
  · refine ⟨fun _ => ?_, fun c2 => absurd c c2⟩
    exact vw_X9_reachFrom_J28 h
  · refine ⟨fun c2 => absurd c2 c, fun _ => ?_⟩
    obtain ⟨p9, q9, z9, h⟩ := h
    refine ⟨_, vwX9_isNewlyReached z9, ?_⟩
    rintro p8 q8 ⟨d8, d9⟩ _ _
    subst d8
    subst d9
    replace h := h.2.2
    rcases h with ⟨c, h⟩ | ⟨c, h⟩
    · refine ⟨fun _ => ?_, fun c2 => absurd c c2⟩
      exact vw_X9_reachFrom_J28 h
    · refine ⟨fun c2 => absurd c2 c, fun _ => ?_⟩
      exact vw_X9_reachFrom_J29 h
set_option maxRecDepth 100000 in
theorem vpX9_reachFrom {S : MS} {x1 : Int32} {ro : Int32} {uo : MS} {P : Int32 → MS → Prop} (h : vX9_reachFrom S x1 ro uo) (w : wX9_reachFrom S x1 P) : P ro uo := by
  unfold vX9_reachFrom at h
  unfold wX9_reachFrom at w
  replace h := h.2
  replace w := w.2
  obtain ⟨v9, e9, h⟩ := h
  replace w := w v9 e9 
  replace h := h.2
  replace w := w.2
  obtain ⟨v9, e9, h⟩ := h
  replace w := w v9 e9 
  rcases h with ⟨c, h⟩ | ⟨c, h⟩
  · replace w := w.1 c
    exact vp_X9_reachFrom_J28 h w
  · replace w := w.2 c
    obtain ⟨p9, q9, z9, y13_, y14_, h⟩ := h
    obtain ⟨Q9, w0, w⟩ := w
    replace w := w p9 q9 (vpX9_isNewlyReached z9 w0) y13_ y14_
    rcases h with ⟨c, h⟩ | ⟨c, h⟩
    · replace w := w.1 c
      exact vp_X9_reachFrom_J28 h w
    · replace w := w.2 c
      exact vp_X9_reachFrom_J29 h w
def v_X9_findMarked_L80 (uo : MS) : Nat → MS → Int32 → Prop
  | 0, _, _ => False
  | n80 + 1, U80, v80_1 => (wfC U80 ∧ (((qI U80 (qO U80 66 0) 9).toInt ≤ v80_1.toInt ∧ (uo = U80)) ∨ (¬ (qI U80 (qO U80 66 0) 9).toInt ≤ v80_1.toInt ∧ ((qR U80 (qO U80 66 0) 5 = some (qO U80 (qO U80 66 0) 5)) ∧ (((0 : Int) ≤ v80_1.toInt ∧ v80_1.toInt < (qN U80 (qO U80 (qO U80 66 0) 5) : Int)) ∧ (∃ (S14 : MS), vX9_mark U80 (qI U80 (qO U80 (qO U80 66 0) 5) v80_1.toInt.toNat) S14 ∧ wfC S14 ∧ shy U80 S14 ∧ ((qR S14 (qO S14 66 0) 6 = some (qO S14 (qO S14 66 0) 6)) ∧ (((0 : Int) ≤ v80_1.toInt ∧ v80_1.toInt < (qN S14 (qO S14 (qO S14 66 0) 6) : Int)) ∧ (∃ (S22 : MS), vX9_mark S14 (qI S14 (qO S14 (qO S14 66 0) 6) v80_1.toInt.toNat) S22 ∧ wfC S22 ∧ shy S14 S22 ∧ ((qR S22 (qO S22 66 0) 7 = some (qO S22 (qO S22 66 0) 7)) ∧ (((0 : Int) ≤ v80_1.toInt ∧ v80_1.toInt < (qN S22 (qO S22 (qO S22 66 0) 7) : Int)) ∧ (∃ (S30 : MS), vX9_mark S22 (qI S22 (qO S22 (qO S22 66 0) 7) v80_1.toInt.toNat) S30 ∧ wfC S30 ∧ shy S22 S30 ∧ (∃ a32 : Int32, a32 = (v80_1 + Int32.ofInt 1) ∧ ((v_X9_findMarked_L80 uo n80) S30 a32))))))))))))))
def v_X9_findMarked_L48 (uo : MS) (k26 : MS → Int32 → Prop) : Nat → MS → Int32 → Int32 → Int32 → Prop
  | 0, _, _, _, _ => False
  | n48 + 1, U48, v48_1, v48_2, v48_3 => (wfC U48 ∧ ((v48_2.toInt ≤ v48_3.toInt ∧ (∃ a39 : Int32, a39 = (v48_1 + Int32.ofInt 1) ∧ (k26 U48 a39))) ∨ (¬ v48_2.toInt ≤ v48_3.toInt ∧ (d_X8_targetAt U48 (qO U48 66 0) v48_1 v48_3 ∧ (∃ a44 : Int32, a44 = (fX8_targetAt U48 (qO U48 66 0) v48_1 v48_3) ∧ (∃ (S46 : MS), vX9_mark U48 a44 S46 ∧ wfC S46 ∧ shy U48 S46 ∧ (∃ a48 : Int32, a48 = (v48_3 + Int32.ofInt 1) ∧ ((v_X9_findMarked_L48 uo k26 n48) S46 v48_1 v48_2 a48))))))))
def v_X9_findMarked_L26 (uo : MS) : Nat → MS → Int32 → Prop
  | 0, _, _ => False
  | n26 + 1, U26, v26_1 => (wfC U26 ∧ (((qI U26 (qO U26 66 0) 2).toInt ≤ v26_1.toInt ∧ (∃ n, v_X9_findMarked_L80 uo n U26 0)) ∨ (¬ (qI U26 (qO U26 66 0) 2).toInt ≤ v26_1.toInt ∧ (d_X8_targetCount U26 (qO U26 66 0) v26_1 ∧ (∃ a37 : Int32, a37 = (fX8_targetCount U26 (qO U26 66 0) v26_1) ∧ (∃ n, v_X9_findMarked_L48 uo (v_X9_findMarked_L26 uo n26) n U26 v26_1 a37 0))))))
def v_X9_findMarked_L2 (uo : MS) : Nat → MS → Int32 → Prop
  | 0, _, _ => False
  | n2 + 1, U2, v2_1 => (wfC U2 ∧ (((qN U2 (qO U2 66 2) : Int) ≤ v2_1.toInt ∧ (∃ n, v_X9_findMarked_L26 uo n U2 0)) ∨ (¬ (qN U2 (qO U2 66 2) : Int) ≤ v2_1.toInt ∧ (((0 : Int) ≤ v2_1.toInt ∧ v2_1.toInt < (qN U2 (qO U2 66 2) : Int)) ∧ (∃ S51 : MS, S51 = wI U2 (qO U2 66 2) v2_1.toInt.toNat (vp_nar .boolean (0 : Int32)) ∧ qT U2 (qO U2 66 2) = 305 ∧ wfC S51 ∧ (∃ a52 : Int32, a52 = (v2_1 + Int32.ofInt 1) ∧ ((v_X9_findMarked_L2 uo n2) S51 a52)))))))
def vX9_findMarked (S : MS) (uo : MS) : Prop := (∃ n, v_X9_findMarked_L2 uo n S 0)
set_option maxRecDepth 100000 in
theorem ru_X9_findMarked_L80 {ι : Type} {P Q : MS → Prop} : ∀ (n : Nat) {U80 : MS} {v80_1 : Int32} (i0 : ι), (∀ (i : ι) (uo : MS), (∃ n8, v_X9_findMarked_L80 uo n8 U80 v80_1) → P uo) → w_X9_findMarked_L80 Q n U80 v80_1 → w_X9_findMarked_L80 (fun u => Q u ∧ P u) n U80 v80_1 := by
  intro n
  induction n with
  | zero => intro U80 v80_1 i0 K h; unfold w_X9_findMarked_L80 at h; exact h.elim
  | succ n ih =>
    intro U80 v80_1 i0 K h
    unfold w_X9_findMarked_L80 at h ⊢
    replace K := fun (i : ι × Nat) uo (z : v_X9_findMarked_L80 uo (i.2 + 1) U80 v80_1) => K i.1 uo ⟨i.2 + 1, z⟩
    have i00 := i0
    replace i0 : ι × Nat := (i0, 0)
    intro y1_
    replace h := h y1_
    replace K := fun i uo z => K i uo ⟨y1_, z⟩
    refine ⟨fun c => ?_, fun c => ?_⟩
    · replace h := h.1 c
      replace K := fun i uo z => K i uo (Or.inl ⟨c, z⟩)
      exact ⟨h, K i0 _ rfl⟩
    · replace h := h.2 c
      replace K := fun i uo z => K i uo (Or.inr ⟨c, z⟩)
      obtain ⟨g2_, h⟩ := h
      refine ⟨g2_, ?_⟩
      replace K := fun i uo z => K i uo ⟨g2_, z⟩
      obtain ⟨g3_, h⟩ := h
      refine ⟨g3_, ?_⟩
      replace K := fun i uo z => K i uo ⟨g3_, z⟩
      obtain ⟨Q9, h0, h⟩ := h
      refine ⟨_, ruX9_mark h0, ?_⟩
      intro S14 q4_ y5_ y6_
      replace h := h S14 q4_.1 y5_ y6_
      replace K := fun i uo z => K i uo ⟨S14, q4_.2, y5_, y6_, z⟩
      obtain ⟨g7_, h⟩ := h
      refine ⟨g7_, ?_⟩
      replace K := fun i uo z => K i uo ⟨g7_, z⟩
      obtain ⟨g8_, h⟩ := h
      refine ⟨g8_, ?_⟩
      replace K := fun i uo z => K i uo ⟨g8_, z⟩
      obtain ⟨Q9, h0, h⟩ := h
      refine ⟨_, ruX9_mark h0, ?_⟩
      intro S22 q9_ y10_ y11_
      replace h := h S22 q9_.1 y10_ y11_
      replace K := fun i uo z => K i uo ⟨S22, q9_.2, y10_, y11_, z⟩
      obtain ⟨g12_, h⟩ := h
      refine ⟨g12_, ?_⟩
      replace K := fun i uo z => K i uo ⟨g12_, z⟩
      obtain ⟨g13_, h⟩ := h
      refine ⟨g13_, ?_⟩
      replace K := fun i uo z => K i uo ⟨g13_, z⟩
      obtain ⟨Q9, h0, h⟩ := h
      refine ⟨_, ruX9_mark h0, ?_⟩
      intro S30 q14_ y15_ y16_
      replace h := h S30 q14_.1 y15_ y16_
      replace K := fun i uo z => K i uo ⟨S30, q14_.2, y15_, y16_, z⟩
      intro a32 ea32 
      replace h := h a32 ea32 
      replace K := fun i uo z => K i uo ⟨a32, ea32, z⟩
      exact ih i00 (fun i uo ⟨n8, z⟩ => K (i, n8) uo z) h
set_option maxRecDepth 100000 in
theorem ru_X9_findMarked_L48 {ι : Type} {P Q : MS → Prop} {k26 k26' : MS → Int32 → Prop} {k26v : ι → MS → MS → Int32 → Prop} : ∀ (n : Nat) {U48 : MS} {v48_1 : Int32} {v48_2 : Int32} {v48_3 : Int32} (i0 : ι) (hk26 : ∀ (u : MS) (z0 : Int32), k26 u z0 → (∀ (i : ι) (uo : MS), k26v i uo u z0 → P uo) → k26' u z0), (∀ (i : ι) (uo : MS), (∃ n8, v_X9_findMarked_L48 uo (k26v i uo) n8 U48 v48_1 v48_2 v48_3) → P uo) → w_X9_findMarked_L48 Q k26 n U48 v48_1 v48_2 v48_3 → w_X9_findMarked_L48 (fun u => Q u ∧ P u) k26' n U48 v48_1 v48_2 v48_3 := by
  intro n
  induction n with
  | zero => intro U48 v48_1 v48_2 v48_3 i0 hk26 K h; unfold w_X9_findMarked_L48 at h; exact h.elim
  | succ n ih =>
    intro U48 v48_1 v48_2 v48_3 i0 hk26 K h
    unfold w_X9_findMarked_L48 at h ⊢
    replace K := fun (i : ι × Nat) uo (z : v_X9_findMarked_L48 uo (k26v i.1 uo) (i.2 + 1) U48 v48_1 v48_2 v48_3) => K i.1 uo ⟨i.2 + 1, z⟩
    have i00 := i0
    replace i0 : ι × Nat := (i0, 0)
    intro y17_
    replace h := h y17_
    replace K := fun i uo z => K i uo ⟨y17_, z⟩
    refine ⟨fun c => ?_, fun c => ?_⟩
    · replace h := h.1 c
      replace K := fun i uo z => K i uo (Or.inl ⟨c, z⟩)
      intro a39 ea39 
      replace h := h a39 ea39 
      replace K := fun i uo z => K i uo ⟨a39, ea39, z⟩
      exact hk26 _ _ h (fun i uo z => K (i, 0) uo z)
    · replace h := h.2 c
      replace K := fun i uo z => K i uo (Or.inr ⟨c, z⟩)
      obtain ⟨g18_, h⟩ := h
      refine ⟨g18_, ?_⟩
      replace K := fun i uo z => K i uo ⟨g18_, z⟩
      intro a44 ea44 
      replace h := h a44 ea44 
      replace K := fun i uo z => K i uo ⟨a44, ea44, z⟩
      obtain ⟨Q9, h0, h⟩ := h
      refine ⟨_, ruX9_mark h0, ?_⟩
      intro S46 q19_ y20_ y21_
      replace h := h S46 q19_.1 y20_ y21_
      replace K := fun i uo z => K i uo ⟨S46, q19_.2, y20_, y21_, z⟩
      intro a48 ea48 
      replace h := h a48 ea48 
      replace K := fun i uo z => K i uo ⟨a48, ea48, z⟩
      exact ih i00 hk26 (fun i uo ⟨n8, z⟩ => K (i, n8) uo z) h
set_option maxRecDepth 100000 in
theorem ru_X9_findMarked_L26 {ι : Type} {P Q : MS → Prop} : ∀ (n : Nat) {U26 : MS} {v26_1 : Int32} (i0 : ι), (∀ (i : ι) (uo : MS), (∃ n8, v_X9_findMarked_L26 uo n8 U26 v26_1) → P uo) → w_X9_findMarked_L26 Q n U26 v26_1 → w_X9_findMarked_L26 (fun u => Q u ∧ P u) n U26 v26_1 := by
  intro n
  induction n with
  | zero => intro U26 v26_1 i0 K h; unfold w_X9_findMarked_L26 at h; exact h.elim
  | succ n ih =>
    intro U26 v26_1 i0 K h
    unfold w_X9_findMarked_L26 at h ⊢
    replace K := fun (i : ι × Nat) uo (z : v_X9_findMarked_L26 uo (i.2 + 1) U26 v26_1) => K i.1 uo ⟨i.2 + 1, z⟩
    have i00 := i0
    replace i0 : ι × Nat := (i0, 0)
    intro y22_
    replace h := h y22_
    replace K := fun i uo z => K i uo ⟨y22_, z⟩
    refine ⟨fun c => ?_, fun c => ?_⟩
    · replace h := h.1 c
      replace K := fun i uo z => K i uo (Or.inl ⟨c, z⟩)
      obtain ⟨n9, h⟩ := h
      exact ⟨n9, ru_X9_findMarked_L80 n9 i0 K h⟩
    · replace h := h.2 c
      replace K := fun i uo z => K i uo (Or.inr ⟨c, z⟩)
      obtain ⟨g23_, h⟩ := h
      refine ⟨g23_, ?_⟩
      replace K := fun i uo z => K i uo ⟨g23_, z⟩
      intro a37 ea37 
      replace h := h a37 ea37 
      replace K := fun i uo z => K i uo ⟨a37, ea37, z⟩
      obtain ⟨n9, h⟩ := h
      exact ⟨n9, ru_X9_findMarked_L48 n9 i0 (fun _ _ h K => ih i00 (fun i uo ⟨n8, z⟩ => K (i, n8) uo z) h) K h⟩
set_option maxRecDepth 100000 in
theorem ru_X9_findMarked_L2 {ι : Type} {P Q : MS → Prop} : ∀ (n : Nat) {U2 : MS} {v2_1 : Int32} (i0 : ι), (∀ (i : ι) (uo : MS), (∃ n8, v_X9_findMarked_L2 uo n8 U2 v2_1) → P uo) → w_X9_findMarked_L2 Q n U2 v2_1 → w_X9_findMarked_L2 (fun u => Q u ∧ P u) n U2 v2_1 := by
  intro n
  induction n with
  | zero => intro U2 v2_1 i0 K h; unfold w_X9_findMarked_L2 at h; exact h.elim
  | succ n ih =>
    intro U2 v2_1 i0 K h
    unfold w_X9_findMarked_L2 at h ⊢
    replace K := fun (i : ι × Nat) uo (z : v_X9_findMarked_L2 uo (i.2 + 1) U2 v2_1) => K i.1 uo ⟨i.2 + 1, z⟩
    have i00 := i0
    replace i0 : ι × Nat := (i0, 0)
    intro y24_
    replace h := h y24_
    replace K := fun i uo z => K i uo ⟨y24_, z⟩
    refine ⟨fun c => ?_, fun c => ?_⟩
    · replace h := h.1 c
      replace K := fun i uo z => K i uo (Or.inl ⟨c, z⟩)
      obtain ⟨n9, h⟩ := h
      exact ⟨n9, ru_X9_findMarked_L26 n9 i0 K h⟩
    · replace h := h.2 c
      replace K := fun i uo z => K i uo (Or.inr ⟨c, z⟩)
      obtain ⟨g25_, h⟩ := h
      refine ⟨g25_, ?_⟩
      replace K := fun i uo z => K i uo ⟨g25_, z⟩
      intro S51 eS51 y26_ y27_
      replace h := h S51 eS51 y26_ y27_
      replace K := fun i uo z => K i uo ⟨S51, eS51, y26_, y27_, z⟩
      intro a52 ea52 
      replace h := h a52 ea52 
      replace K := fun i uo z => K i uo ⟨a52, ea52, z⟩
      exact ih i00 (fun i uo ⟨n8, z⟩ => K (i, n8) uo z) h
set_option maxRecDepth 100000 in
theorem ruX9_findMarked {S : MS} {Q : MS → Prop} (h : wX9_findMarked S Q) : wX9_findMarked S (fun u => Q u ∧ vX9_findMarked S u) := by
  have i0 : Unit := ()
  have K : ∀ (i : Unit) (uo : MS), vX9_findMarked S uo → vX9_findMarked S uo := fun _ _ z => z
  unfold wX9_findMarked at h ⊢
  obtain ⟨n9, h⟩ := h
  exact ⟨n9, ru_X9_findMarked_L2 n9 i0 K h⟩
set_option maxRecDepth 100000 in
theorem vw_X9_findMarked_L80 {uo : MS} : ∀ (n : Nat) {U80 : MS} {v80_1 : Int32}, v_X9_findMarked_L80 uo n U80 v80_1 → w_X9_findMarked_L80 (fun u => u = uo) n U80 v80_1 := by
  intro n
  induction n with
  | zero => intro U80 v80_1 h; unfold v_X9_findMarked_L80 at h; exact h.elim
  | succ n ih =>
    intro U80 v80_1 h
    unfold v_X9_findMarked_L80 at h
    unfold w_X9_findMarked_L80
    intro _
    replace h := h.2
    rcases h with ⟨c, h⟩ | ⟨c, h⟩
    · refine ⟨fun _ => ?_, fun c2 => absurd c c2⟩
      exact h.symm
    · refine ⟨fun c2 => absurd c2 c, fun _ => ?_⟩
      obtain ⟨g9, h⟩ := h
      refine ⟨g9, ?_⟩
      obtain ⟨g9, h⟩ := h
      refine ⟨g9, ?_⟩
      obtain ⟨q9, z9, h⟩ := h
      refine ⟨_, vwX9_mark z9, ?_⟩
      intro q8 d9 _ _
      subst d9
      replace h := h.2.2
      obtain ⟨g9, h⟩ := h
      refine ⟨g9, ?_⟩
      obtain ⟨g9, h⟩ := h
      refine ⟨g9, ?_⟩
      obtain ⟨q9, z9, h⟩ := h
      refine ⟨_, vwX9_mark z9, ?_⟩
      intro q8 d9 _ _
      subst d9
      replace h := h.2.2
      obtain ⟨g9, h⟩ := h
      refine ⟨g9, ?_⟩
      obtain ⟨g9, h⟩ := h
      refine ⟨g9, ?_⟩
      obtain ⟨q9, z9, h⟩ := h
      refine ⟨_, vwX9_mark z9, ?_⟩
      intro q8 d9 _ _
      subst d9
      replace h := h.2.2
      obtain ⟨v9, e9, h⟩ := h
      intro x9 d9 
      have c9 : v9 = x9 := e9.trans d9.symm
      subst c9
      exact ih h
set_option maxRecDepth 100000 in
theorem vp_X9_findMarked_L80 {uo : MS} {P : MS → Prop} : ∀ (n m : Nat) {U80 : MS} {v80_1 : Int32}, v_X9_findMarked_L80 uo n U80 v80_1 → w_X9_findMarked_L80 P m U80 v80_1 → P uo := by
  intro n
  induction n with
  | zero => intro m U80 v80_1 h; unfold v_X9_findMarked_L80 at h; exact h.elim
  | succ n ih =>
    intro m U80 v80_1 h w
    cases m with
    | zero => unfold w_X9_findMarked_L80 at w; exact w.elim
    | succ m =>
      unfold v_X9_findMarked_L80 at h
      unfold w_X9_findMarked_L80 at w
      obtain ⟨y1_, h⟩ := h
      replace w := w y1_
      rcases h with ⟨c, h⟩ | ⟨c, h⟩
      · replace w := w.1 c
        rw [h]
        exact w
      · replace w := w.2 c
        replace h := h.2
        replace w := w.2
        replace h := h.2
        replace w := w.2
        obtain ⟨q9, z9, y2_, y3_, h⟩ := h
        obtain ⟨Q9, w0, w⟩ := w
        replace w := w q9 (vpX9_mark z9 w0) y2_ y3_
        replace h := h.2
        replace w := w.2
        replace h := h.2
        replace w := w.2
        obtain ⟨q9, z9, y4_, y5_, h⟩ := h
        obtain ⟨Q9, w0, w⟩ := w
        replace w := w q9 (vpX9_mark z9 w0) y4_ y5_
        replace h := h.2
        replace w := w.2
        replace h := h.2
        replace w := w.2
        obtain ⟨q9, z9, y6_, y7_, h⟩ := h
        obtain ⟨Q9, w0, w⟩ := w
        replace w := w q9 (vpX9_mark z9 w0) y6_ y7_
        obtain ⟨v9, e9, h⟩ := h
        replace w := w v9 e9 
        exact ih m h w
set_option maxRecDepth 100000 in
theorem vw_X9_findMarked_L48 {uo : MS} {k26 k26v : MS → Int32 → Prop} : ∀ (n : Nat) {U48 : MS} {v48_1 : Int32} {v48_2 : Int32} {v48_3 : Int32} (hk26 : ∀ (u : MS) (z0 : Int32), k26v u z0 → k26 u z0), v_X9_findMarked_L48 uo k26v n U48 v48_1 v48_2 v48_3 → w_X9_findMarked_L48 (fun u => u = uo) k26 n U48 v48_1 v48_2 v48_3 := by
  intro n
  induction n with
  | zero => intro U48 v48_1 v48_2 v48_3 hk26 h; unfold v_X9_findMarked_L48 at h; exact h.elim
  | succ n ih =>
    intro U48 v48_1 v48_2 v48_3 hk26 h
    unfold v_X9_findMarked_L48 at h
    unfold w_X9_findMarked_L48
    intro _
    replace h := h.2
    rcases h with ⟨c, h⟩ | ⟨c, h⟩
    · refine ⟨fun _ => ?_, fun c2 => absurd c c2⟩
      obtain ⟨v9, e9, h⟩ := h
      intro x9 d9 
      have c9 : v9 = x9 := e9.trans d9.symm
      subst c9
      exact hk26 _ _ h
    · refine ⟨fun c2 => absurd c2 c, fun _ => ?_⟩
      obtain ⟨g9, h⟩ := h
      refine ⟨g9, ?_⟩
      obtain ⟨v9, e9, h⟩ := h
      intro x9 d9 
      have c9 : v9 = x9 := e9.trans d9.symm
      subst c9
      obtain ⟨q9, z9, h⟩ := h
      refine ⟨_, vwX9_mark z9, ?_⟩
      intro q8 d9 _ _
      subst d9
      replace h := h.2.2
      obtain ⟨v9, e9, h⟩ := h
      intro x9 d9 
      have c9 : v9 = x9 := e9.trans d9.symm
      subst c9
      exact ih hk26 h
set_option maxRecDepth 100000 in
theorem vp_X9_findMarked_L48 {uo : MS} {P : MS → Prop} {k26 k26v : MS → Int32 → Prop} : ∀ (n m : Nat) {U48 : MS} {v48_1 : Int32} {v48_2 : Int32} {v48_3 : Int32} (hk26 : ∀ (u : MS) (z0 : Int32), k26v u z0 → k26 u z0 → P uo), v_X9_findMarked_L48 uo k26v n U48 v48_1 v48_2 v48_3 → w_X9_findMarked_L48 P k26 m U48 v48_1 v48_2 v48_3 → P uo := by
  intro n
  induction n with
  | zero => intro m U48 v48_1 v48_2 v48_3 hk26 h; unfold v_X9_findMarked_L48 at h; exact h.elim
  | succ n ih =>
    intro m U48 v48_1 v48_2 v48_3 hk26 h w
    cases m with
    | zero => unfold w_X9_findMarked_L48 at w; exact w.elim
    | succ m =>
      unfold v_X9_findMarked_L48 at h
      unfold w_X9_findMarked_L48 at w
      obtain ⟨y8_, h⟩ := h
      replace w := w y8_
      rcases h with ⟨c, h⟩ | ⟨c, h⟩
      · replace w := w.1 c
        obtain ⟨v9, e9, h⟩ := h
        replace w := w v9 e9 
        exact hk26 _ _ h w
      · replace w := w.2 c
        replace h := h.2
        replace w := w.2
        obtain ⟨v9, e9, h⟩ := h
        replace w := w v9 e9 
        obtain ⟨q9, z9, y9_, y10_, h⟩ := h
        obtain ⟨Q9, w0, w⟩ := w
        replace w := w q9 (vpX9_mark z9 w0) y9_ y10_
        obtain ⟨v9, e9, h⟩ := h
        replace w := w v9 e9 
        exact ih m hk26 h w
set_option maxRecDepth 100000 in
theorem vw_X9_findMarked_L26 {uo : MS} : ∀ (n : Nat) {U26 : MS} {v26_1 : Int32}, v_X9_findMarked_L26 uo n U26 v26_1 → w_X9_findMarked_L26 (fun u => u = uo) n U26 v26_1 := by
  intro n
  induction n with
  | zero => intro U26 v26_1 h; unfold v_X9_findMarked_L26 at h; exact h.elim
  | succ n ih =>
    intro U26 v26_1 h
    unfold v_X9_findMarked_L26 at h
    unfold w_X9_findMarked_L26
    intro _
    replace h := h.2
    rcases h with ⟨c, h⟩ | ⟨c, h⟩
    · refine ⟨fun _ => ?_, fun c2 => absurd c c2⟩
      obtain ⟨n9, h⟩ := h
      exact ⟨n9, vw_X9_findMarked_L80 n9 h⟩
    · refine ⟨fun c2 => absurd c2 c, fun _ => ?_⟩
      obtain ⟨g9, h⟩ := h
      refine ⟨g9, ?_⟩
      obtain ⟨v9, e9, h⟩ := h
      intro x9 d9 
      have c9 : v9 = x9 := e9.trans d9.symm
      subst c9
      obtain ⟨n9, h⟩ := h
      exact ⟨n9, vw_X9_findMarked_L48 n9 (fun _ _ h => ih h) h⟩
set_option maxRecDepth 100000 in
theorem vp_X9_findMarked_L26 {uo : MS} {P : MS → Prop} : ∀ (n m : Nat) {U26 : MS} {v26_1 : Int32}, v_X9_findMarked_L26 uo n U26 v26_1 → w_X9_findMarked_L26 P m U26 v26_1 → P uo := by
  intro n
  induction n with
  | zero => intro m U26 v26_1 h; unfold v_X9_findMarked_L26 at h; exact h.elim
  | succ n ih =>
    intro m U26 v26_1 h w
    cases m with
    | zero => unfold w_X9_findMarked_L26 at w; exact w.elim
    | succ m =>
      unfold v_X9_findMarked_L26 at h
      unfold w_X9_findMarked_L26 at w
      obtain ⟨y11_, h⟩ := h
      replace w := w y11_
      rcases h with ⟨c, h⟩ | ⟨c, h⟩
      · replace w := w.1 c
        obtain ⟨n9, h⟩ := h
        obtain ⟨n8, w⟩ := w
        exact vp_X9_findMarked_L80 n9 n8 h w
      · replace w := w.2 c
        replace h := h.2
        replace w := w.2
        obtain ⟨v9, e9, h⟩ := h
        replace w := w v9 e9 
        obtain ⟨n9, h⟩ := h
        obtain ⟨n8, w⟩ := w
        exact vp_X9_findMarked_L48 n9 n8 (fun _ _ h w => ih m h w) h w
set_option maxRecDepth 100000 in
theorem vw_X9_findMarked_L2 {uo : MS} : ∀ (n : Nat) {U2 : MS} {v2_1 : Int32}, v_X9_findMarked_L2 uo n U2 v2_1 → w_X9_findMarked_L2 (fun u => u = uo) n U2 v2_1 := by
  intro n
  induction n with
  | zero => intro U2 v2_1 h; unfold v_X9_findMarked_L2 at h; exact h.elim
  | succ n ih =>
    intro U2 v2_1 h
    unfold v_X9_findMarked_L2 at h
    unfold w_X9_findMarked_L2
    intro _
    replace h := h.2
    rcases h with ⟨c, h⟩ | ⟨c, h⟩
    · refine ⟨fun _ => ?_, fun c2 => absurd c c2⟩
      obtain ⟨n9, h⟩ := h
      exact ⟨n9, vw_X9_findMarked_L26 n9 h⟩
    · refine ⟨fun c2 => absurd c2 c, fun _ => ?_⟩
      obtain ⟨g9, h⟩ := h
      refine ⟨g9, ?_⟩
      obtain ⟨v9, e9, h⟩ := h
      intro x9 d9 _ _
      have c9 : v9 = x9 := e9.trans d9.symm
      subst c9
      replace h := h.2.2
      obtain ⟨v9, e9, h⟩ := h
      intro x9 d9 
      have c9 : v9 = x9 := e9.trans d9.symm
      subst c9
      exact ih h
set_option maxRecDepth 100000 in
theorem vp_X9_findMarked_L2 {uo : MS} {P : MS → Prop} : ∀ (n m : Nat) {U2 : MS} {v2_1 : Int32}, v_X9_findMarked_L2 uo n U2 v2_1 → w_X9_findMarked_L2 P m U2 v2_1 → P uo := by
  intro n
  induction n with
  | zero => intro m U2 v2_1 h; unfold v_X9_findMarked_L2 at h; exact h.elim
  | succ n ih =>
    intro m U2 v2_1 h w
    cases m with
    | zero => unfold w_X9_findMarked_L2 at w; exact w.elim
    | succ m =>
      unfold v_X9_findMarked_L2 at h
      unfold w_X9_findMarked_L2 at w
      obtain ⟨y12_, h⟩ := h
      replace w := w y12_
      rcases h with ⟨c, h⟩ | ⟨c, h⟩
      · replace w := w.1 c
        obtain ⟨n9, h⟩ := h
        obtain ⟨n8, w⟩ := w
        exact vp_X9_findMarked_L26 n9 n8 h w
      · replace w := w.2 c
        replace h := h.2
        replace w := w.2
        obtain ⟨v9, e9, y13_, y14_, h⟩ := h
        replace w := w v9 e9 y13_ y14_
        obtain ⟨v9, e9, h⟩ := h
        replace w := w v9 e9 
        exact ih m h w
set_option maxRecDepth 100000 in
theorem vwX9_findMarked {S : MS} {uo : MS} (h : vX9_findMarked S uo) : wX9_findMarked S (fun u => u = uo) := by
  unfold vX9_findMarked at h
  unfold wX9_findMarked
  obtain ⟨n9, h⟩ := h
  exact ⟨n9, vw_X9_findMarked_L2 n9 h⟩
set_option maxRecDepth 100000 in
theorem vpX9_findMarked {S : MS} {uo : MS} {P : MS → Prop} (h : vX9_findMarked S uo) (w : wX9_findMarked S P) : P uo := by
  unfold vX9_findMarked at h
  unfold wX9_findMarked at w
  obtain ⟨n9, h⟩ := h
  obtain ⟨n8, w⟩ := w
  exact vp_X9_findMarked_L2 n9 n8 h w
def v_X9_isFolded_J91 (ro : Int32) (uo : MS) (U91 : MS) (v91_1 : Int32) (v91_2 : Int32) : Prop := (wfC U91 ∧ (d_X6_gives U91 v91_2 ∧ (∃ a51 : Int32, a51 = (fX6_gives U91 v91_2) ∧ (d_X8_argAt U91 (qO U91 66 0) v91_1 ∧ (∃ a56 : Int64, a56 = (fX8_argAt U91 (qO U91 66 0) v91_1) ∧ (d_X8_argAt U91 (qO U91 66 0) (v91_1 + (1 : Int32)) ∧ (∃ a62 : Int64, a62 = (fX8_argAt U91 (qO U91 66 0) (v91_1 + (1 : Int32))) ∧ (d_X6_binary U91 v91_2 a56 a62 ∧ (∃ a66 : Int64, a66 = (fX6_binary U91 v91_2 a56 a62) ∧ (∃ (S68 : MS), vX9_putPush U91 v91_1 a51 a66 S68 ∧ wfC S68 ∧ shy U91 S68 ∧ (qT S68 (qO S68 66 0) = 47 ∧ (∃ (S73 : MS), vX8_remove S68 (qO S68 66 0) (v91_1 + (1 : Int32)) (2 : Int32) S73 ∧ wfC S73 ∧ shy S68 S73 ∧ (ro = (1 : Int32) ∧ uo = S73)))))))))))))
def vX9_isFolded (S : MS) (x1 : Int32) (ro : Int32) (uo : MS) : Prop := (d_X8_opAt S (qO S 66 0) (x1 + (2 : Int32)) ∧ (∃ a6 : Int32, a6 = (fX8_opAt S (qO S 66 0) (x1 + (2 : Int32))) ∧ (d_X6_isBinary S a6 ∧ (∃ a10 : Int32, a10 = (fX6_isBinary S a6) ∧ ((a10.toInt = 0 ∧ (ro = (0 : Int32) ∧ uo = S)) ∨ (¬ a10.toInt = 0 ∧ (d_X9_pushKind S x1 ∧ (∃ a15 : Int32, a15 = (fX9_pushKind S x1) ∧ ((a15.toInt = 0 ∧ (ro = (0 : Int32) ∧ uo = S)) ∨ (¬ a15.toInt = 0 ∧ (d_X9_pushKind S (x1 + (1 : Int32)) ∧ (∃ a21 : Int32, a21 = (fX9_pushKind S (x1 + (1 : Int32))) ∧ ((a21.toInt = 0 ∧ (ro = (0 : Int32) ∧ uo = S)) ∨ (¬ a21.toInt = 0 ∧ (d_X9_isWindow S x1 (3 : Int32) ∧ (∃ a26 : Int32, a26 = (fX9_isWindow S x1 (3 : Int32)) ∧ ((a26.toInt = 0 ∧ (ro = (0 : Int32) ∧ uo = S)) ∨ (¬ a26.toInt = 0 ∧ (d_X6_takes S a6 ∧ (∃ a31 : Int32, a31 = (fX6_takes S a6) ∧ (d_X9_pushKind S x1 ∧ (∃ a35 : Int32, a35 = (fX9_pushKind S x1) ∧ (d_X9_pushKind S (x1 + (1 : Int32)) ∧ (∃ a41 : Int32, a41 = (fX9_pushKind S (x1 + (1 : Int32))) ∧ ((a31.toInt = ((a35 <<< ((4 : Int32) &&& 31)) ||| a41).toInt ∧ (d_X6_isDivision S a6 ∧ (∃ a47 : Int32, a47 = (fX6_isDivision S a6) ∧ ((a47.toInt = 0 ∧ (v_X9_isFolded_J91 ro uo S x1 a6)) ∨ (¬ a47.toInt = 0 ∧ (d_X8_argAt S (qO S 66 0) (x1 + (1 : Int32)) ∧ (∃ a81 : Int64, a81 = (fX8_argAt S (qO S 66 0) (x1 + (1 : Int32))) ∧ (((lg_cmp a81 0).toInt = 0 ∧ (ro = (0 : Int32) ∧ uo = S)) ∨ (¬ (lg_cmp a81 0).toInt = 0 ∧ (v_X9_isFolded_J91 ro uo S x1 a6)))))))))) ∨ (¬ a31.toInt = ((a35 <<< ((4 : Int32) &&& 31)) ||| a41).toInt ∧ (ro = (0 : Int32) ∧ uo = S)))))))))))))))))))))))))))
set_option maxRecDepth 100000 in
theorem ru_X9_isFolded_J91 {ι : Type} {P Q : Int32 → MS → Prop} {U91 : MS} {v91_1 : Int32} {v91_2 : Int32} (i0 : ι) (K : ∀ (i : ι) (ro : Int32) (uo : MS), v_X9_isFolded_J91 ro uo U91 v91_1 v91_2 → P ro uo) (h : w_X9_isFolded_J91 Q U91 v91_1 v91_2) : w_X9_isFolded_J91 (fun r u => Q r u ∧ P r u) U91 v91_1 v91_2 := by
  unfold w_X9_isFolded_J91 at h ⊢
  intro y1_
  replace h := h y1_
  replace K := fun i ro uo z => K i ro uo ⟨y1_, z⟩
  obtain ⟨g2_, h⟩ := h
  refine ⟨g2_, ?_⟩
  replace K := fun i ro uo z => K i ro uo ⟨g2_, z⟩
  intro a51 ea51 
  replace h := h a51 ea51 
  replace K := fun i ro uo z => K i ro uo ⟨a51, ea51, z⟩
  obtain ⟨g3_, h⟩ := h
  refine ⟨g3_, ?_⟩
  replace K := fun i ro uo z => K i ro uo ⟨g3_, z⟩
  intro a56 ea56 
  replace h := h a56 ea56 
  replace K := fun i ro uo z => K i ro uo ⟨a56, ea56, z⟩
  obtain ⟨g4_, h⟩ := h
  refine ⟨g4_, ?_⟩
  replace K := fun i ro uo z => K i ro uo ⟨g4_, z⟩
  intro a62 ea62 
  replace h := h a62 ea62 
  replace K := fun i ro uo z => K i ro uo ⟨a62, ea62, z⟩
  obtain ⟨g5_, h⟩ := h
  refine ⟨g5_, ?_⟩
  replace K := fun i ro uo z => K i ro uo ⟨g5_, z⟩
  intro a66 ea66 
  replace h := h a66 ea66 
  replace K := fun i ro uo z => K i ro uo ⟨a66, ea66, z⟩
  obtain ⟨Q9, h0, h⟩ := h
  refine ⟨_, ruX9_putPush h0, ?_⟩
  intro S68 q6_ y7_ y8_
  replace h := h S68 q6_.1 y7_ y8_
  replace K := fun i ro uo z => K i ro uo ⟨S68, q6_.2, y7_, y8_, z⟩
  intro y9_
  replace h := h y9_
  replace K := fun i ro uo z => K i ro uo ⟨y9_, z⟩
  obtain ⟨Q9, h0, h⟩ := h
  refine ⟨_, ruX8_remove h0, ?_⟩
  intro S73 q10_ y11_ y12_
  replace h := h S73 q10_.1 y11_ y12_
  replace K := fun i ro uo z => K i ro uo ⟨S73, q10_.2, y11_, y12_, z⟩
  exact ⟨h, K i0 _ _ ⟨rfl, rfl⟩⟩
set_option maxRecDepth 100000 in
theorem ruX9_isFolded {S : MS} {x1 : Int32} {Q : Int32 → MS → Prop} (h : wX9_isFolded S x1 Q) : wX9_isFolded S x1 (fun r u => Q r u ∧ vX9_isFolded S x1 r u) := by
  have i0 : Unit := ()
  have K : ∀ (i : Unit) (ro : Int32) (uo : MS), vX9_isFolded S x1 ro uo → vX9_isFolded S x1 ro uo := fun _ _ _ z => z
  unfold wX9_isFolded at h ⊢
  obtain ⟨g13_, h⟩ := h
  refine ⟨g13_, ?_⟩
  replace K := fun i ro uo z => K i ro uo ⟨g13_, z⟩
  intro a6 ea6 
  replace h := h a6 ea6 
  replace K := fun i ro uo z => K i ro uo ⟨a6, ea6, z⟩
  obtain ⟨g14_, h⟩ := h
  refine ⟨g14_, ?_⟩
  replace K := fun i ro uo z => K i ro uo ⟨g14_, z⟩
  intro a10 ea10 
  replace h := h a10 ea10 
  replace K := fun i ro uo z => K i ro uo ⟨a10, ea10, z⟩
  refine ⟨fun c => ?_, fun c => ?_⟩
  · replace h := h.1 c
    replace K := fun i ro uo z => K i ro uo (Or.inl ⟨c, z⟩)
    exact ⟨h, K i0 _ _ ⟨rfl, rfl⟩⟩
  · replace h := h.2 c
    replace K := fun i ro uo z => K i ro uo (Or.inr ⟨c, z⟩)
    obtain ⟨g15_, h⟩ := h
    refine ⟨g15_, ?_⟩
    replace K := fun i ro uo z => K i ro uo ⟨g15_, z⟩
    intro a15 ea15 
    replace h := h a15 ea15 
    replace K := fun i ro uo z => K i ro uo ⟨a15, ea15, z⟩
    refine ⟨fun c => ?_, fun c => ?_⟩
    · replace h := h.1 c
      replace K := fun i ro uo z => K i ro uo (Or.inl ⟨c, z⟩)
      exact ⟨h, K i0 _ _ ⟨rfl, rfl⟩⟩
    · replace h := h.2 c
      replace K := fun i ro uo z => K i ro uo (Or.inr ⟨c, z⟩)
      obtain ⟨g16_, h⟩ := h
      refine ⟨g16_, ?_⟩
      replace K := fun i ro uo z => K i ro uo ⟨g16_, z⟩
      intro a21 ea21 
      replace h := h a21 ea21 
      replace K := fun i ro uo z => K i ro uo ⟨a21, ea21, z⟩
      refine ⟨fun c => ?_, fun c => ?_⟩
      · replace h := h.1 c
        replace K := fun i ro uo z => K i ro uo (Or.inl ⟨c, z⟩)
        exact ⟨h, K i0 _ _ ⟨rfl, rfl⟩⟩
      · replace h := h.2 c
        replace K := fun i ro uo z => K i ro uo (Or.inr ⟨c, z⟩)
        obtain ⟨g17_, h⟩ := h
        refine ⟨g17_, ?_⟩
        replace K := fun i ro uo z => K i ro uo ⟨g17_, z⟩
        intro a26 ea26 
        replace h := h a26 ea26 
        replace K := fun i ro uo z => K i ro uo ⟨a26, ea26, z⟩
        refine ⟨fun c => ?_, fun c => ?_⟩
        · replace h := h.1 c
          replace K := fun i ro uo z => K i ro uo (Or.inl ⟨c, z⟩)
          exact ⟨h, K i0 _ _ ⟨rfl, rfl⟩⟩
        · replace h := h.2 c
          replace K := fun i ro uo z => K i ro uo (Or.inr ⟨c, z⟩)
          obtain ⟨g18_, h⟩ := h
          refine ⟨g18_, ?_⟩
          replace K := fun i ro uo z => K i ro uo ⟨g18_, z⟩
          intro a31 ea31 
          replace h := h a31 ea31 
          replace K := fun i ro uo z => K i ro uo ⟨a31, ea31, z⟩
          obtain ⟨g19_, h⟩ := h
          refine ⟨g19_, ?_⟩
          replace K := fun i ro uo z => K i ro uo ⟨g19_, z⟩
          intro a35 ea35 
          replace h := h a35 ea35 
          replace K := fun i ro uo z => K i ro uo ⟨a35, ea35, z⟩
          obtain ⟨g20_, h⟩ := h
          refine ⟨g20_, ?_⟩
          replace K := fun i ro uo z => K i ro uo ⟨g20_, z⟩
          intro a41 ea41 
          replace h := h a41 ea41 
          replace K := fun i ro uo z => K i ro uo ⟨a41, ea41, z⟩
          refine ⟨fun c => ?_, fun c => ?_⟩
          · replace h := h.1 c
            replace K := fun i ro uo z => K i ro uo (Or.inl ⟨c, z⟩)
            obtain ⟨g21_, h⟩ := h
            refine ⟨g21_, ?_⟩
            replace K := fun i ro uo z => K i ro uo ⟨g21_, z⟩
            intro a47 ea47 
            replace h := h a47 ea47 
            replace K := fun i ro uo z => K i ro uo ⟨a47, ea47, z⟩
            refine ⟨fun c => ?_, fun c => ?_⟩
            · replace h := h.1 c
              replace K := fun i ro uo z => K i ro uo (Or.inl ⟨c, z⟩)
              exact ru_X9_isFolded_J91 i0 K h
            · replace h := h.2 c
              replace K := fun i ro uo z => K i ro uo (Or.inr ⟨c, z⟩)
              obtain ⟨g22_, h⟩ := h
              refine ⟨g22_, ?_⟩
              replace K := fun i ro uo z => K i ro uo ⟨g22_, z⟩
              intro a81 ea81 
              replace h := h a81 ea81 
              replace K := fun i ro uo z => K i ro uo ⟨a81, ea81, z⟩
              refine ⟨fun c => ?_, fun c => ?_⟩
              · replace h := h.1 c
                replace K := fun i ro uo z => K i ro uo (Or.inl ⟨c, z⟩)
                exact ⟨h, K i0 _ _ ⟨rfl, rfl⟩⟩
              · replace h := h.2 c
                replace K := fun i ro uo z => K i ro uo (Or.inr ⟨c, z⟩)
                exact ru_X9_isFolded_J91 i0 K h
          · replace h := h.2 c
            replace K := fun i ro uo z => K i ro uo (Or.inr ⟨c, z⟩)
            exact ⟨h, K i0 _ _ ⟨rfl, rfl⟩⟩
set_option maxRecDepth 100000 in
theorem vw_X9_isFolded_J91 {ro : Int32} {uo : MS} {U91 : MS} {v91_1 : Int32} {v91_2 : Int32} (h : v_X9_isFolded_J91 ro uo U91 v91_1 v91_2) : w_X9_isFolded_J91 (fun r u => r = ro ∧ u = uo) U91 v91_1 v91_2 := by
  unfold v_X9_isFolded_J91 at h
  unfold w_X9_isFolded_J91
  intro _
  replace h := h.2
  obtain ⟨g9, h⟩ := h
  refine ⟨g9, ?_⟩
  obtain ⟨v9, e9, h⟩ := h
  intro x9 d9 
  have c9 : v9 = x9 := e9.trans d9.symm
  subst c9
  obtain ⟨g9, h⟩ := h
  refine ⟨g9, ?_⟩
  obtain ⟨v9, e9, h⟩ := h
  intro x9 d9 
  have c9 : v9 = x9 := e9.trans d9.symm
  subst c9
  obtain ⟨g9, h⟩ := h
  refine ⟨g9, ?_⟩
  obtain ⟨v9, e9, h⟩ := h
  intro x9 d9 
  have c9 : v9 = x9 := e9.trans d9.symm
  subst c9
  obtain ⟨g9, h⟩ := h
  refine ⟨g9, ?_⟩
  obtain ⟨v9, e9, h⟩ := h
  intro x9 d9 
  have c9 : v9 = x9 := e9.trans d9.symm
  subst c9
  obtain ⟨q9, z9, h⟩ := h
  refine ⟨_, vwX9_putPush z9, ?_⟩
  intro q8 d9 _ _
  subst d9
  replace h := h.2.2
  intro _
  replace h := h.2
  obtain ⟨q9, z9, h⟩ := h
  refine ⟨_, vwX8_remove z9, ?_⟩
  intro q8 d9 _ _
  subst d9
  replace h := h.2.2
  exact ⟨h.1.symm, h.2.symm⟩
set_option maxRecDepth 100000 in
theorem vp_X9_isFolded_J91 {ro : Int32} {uo : MS} {P : Int32 → MS → Prop} {U91 : MS} {v91_1 : Int32} {v91_2 : Int32} (h : v_X9_isFolded_J91 ro uo U91 v91_1 v91_2) (w : w_X9_isFolded_J91 P U91 v91_1 v91_2) : P ro uo := by
  unfold v_X9_isFolded_J91 at h
  unfold w_X9_isFolded_J91 at w
  obtain ⟨y1_, h⟩ := h
  replace w := w y1_
  replace h := h.2
  replace w := w.2
  obtain ⟨v9, e9, h⟩ := h
  replace w := w v9 e9 
  replace h := h.2
  replace w := w.2
  obtain ⟨v9, e9, h⟩ := h
  replace w := w v9 e9 
  replace h := h.2
  replace w := w.2
  obtain ⟨v9, e9, h⟩ := h
  replace w := w v9 e9 
  replace h := h.2
  replace w := w.2
  obtain ⟨v9, e9, h⟩ := h
  replace w := w v9 e9 
  obtain ⟨q9, z9, y2_, y3_, h⟩ := h
  obtain ⟨Q9, w0, w⟩ := w
  replace w := w q9 (vpX9_putPush z9 w0) y2_ y3_
  obtain ⟨y4_, h⟩ := h
  replace w := w y4_
  obtain ⟨q9, z9, y5_, y6_, h⟩ := h
  obtain ⟨Q9, w0, w⟩ := w
  replace w := w q9 (vpX8_remove z9 w0) y5_ y6_
  rw [h.1, h.2]
  exact w
set_option maxRecDepth 100000 in
theorem vwX9_isFolded {S : MS} {x1 : Int32} {ro : Int32} {uo : MS} (h : vX9_isFolded S x1 ro uo) : wX9_isFolded S x1 (fun r u => r = ro ∧ u = uo) := by
  unfold vX9_isFolded at h
  unfold wX9_isFolded
  obtain ⟨g9, h⟩ := h
  refine ⟨g9, ?_⟩
  obtain ⟨v9, e9, h⟩ := h
  intro x9 d9 
  have c9 : v9 = x9 := e9.trans d9.symm
  subst c9
  obtain ⟨g9, h⟩ := h
  refine ⟨g9, ?_⟩
  obtain ⟨v9, e9, h⟩ := h
  intro x9 d9 
  have c9 : v9 = x9 := e9.trans d9.symm
  subst c9
  rcases h with ⟨c, h⟩ | ⟨c, h⟩
  · refine ⟨fun _ => ?_, fun c2 => absurd c c2⟩
    exact ⟨h.1.symm, h.2.symm⟩
  · refine ⟨fun c2 => absurd c2 c, fun _ => ?_⟩
    obtain ⟨g9, h⟩ := h
    refine ⟨g9, ?_⟩
    obtain ⟨v9, e9, h⟩ := h
    intro x9 d9 
    have c9 : v9 = x9 := e9.trans d9.symm
    subst c9
    rcases h with ⟨c, h⟩ | ⟨c, h⟩
    · refine ⟨fun _ => ?_, fun c2 => absurd c c2⟩
      exact ⟨h.1.symm, h.2.symm⟩
    · refine ⟨fun c2 => absurd c2 c, fun _ => ?_⟩
      obtain ⟨g9, h⟩ := h
      refine ⟨g9, ?_⟩
      obtain ⟨v9, e9, h⟩ := h
      intro x9 d9 
      have c9 : v9 = x9 := e9.trans d9.symm
      subst c9
      rcases h with ⟨c, h⟩ | ⟨c, h⟩
      · refine ⟨fun _ => ?_, fun c2 => absurd c c2⟩
        exact ⟨h.1.symm, h.2.symm⟩
      · refine ⟨fun c2 => absurd c2 c, fun _ => ?_⟩
        obtain ⟨g9, h⟩ := h
        refine ⟨g9, ?_⟩
        obtain ⟨v9, e9, h⟩ := h
        intro x9 d9 
        have c9 : v9 = x9 := e9.trans d9.symm
        subst c9
        rcases h with ⟨c, h⟩ | ⟨c, h⟩
        · refine ⟨fun _ => ?_, fun c2 => absurd c c2⟩
          exact ⟨h.1.symm, h.2.symm⟩
        · refine ⟨fun c2 => absurd c2 c, fun _ => ?_⟩
          obtain ⟨g9, h⟩ := h
          refine ⟨g9, ?_⟩
          obtain ⟨v9, e9, h⟩ := h
          intro x9 d9 
          have c9 : v9 = x9 := e9.trans d9.symm
          subst c9
          obtain ⟨g9, h⟩ := h
          refine ⟨g9, ?_⟩
          obtain ⟨v9, e9, h⟩ := h
          intro x9 d9 
          have c9 : v9 = x9 := e9.trans d9.symm
          subst c9
          obtain ⟨g9, h⟩ := h
          refine ⟨g9, ?_⟩
          obtain ⟨v9, e9, h⟩ := h
          intro x9 d9 
          have c9 : v9 = x9 := e9.trans d9.symm
          subst c9
          rcases h with ⟨c, h⟩ | ⟨c, h⟩
          · refine ⟨fun _ => ?_, fun c2 => absurd c c2⟩
            obtain ⟨g9, h⟩ := h
            refine ⟨g9, ?_⟩
            obtain ⟨v9, e9, h⟩ := h
            intro x9 d9 
            have c9 : v9 = x9 := e9.trans d9.symm
            subst c9
            rcases h with ⟨c, h⟩ | ⟨c, h⟩
            · refine ⟨fun _ => ?_, fun c2 => absurd c c2⟩
              exact vw_X9_isFolded_J91 h
            · refine ⟨fun c2 => absurd c2 c, fun _ => ?_⟩
              obtain ⟨g9, h⟩ := h
              refine ⟨g9, ?_⟩
              obtain ⟨v9, e9, h⟩ := h
              intro x9 d9 
              have c9 : v9 = x9 := e9.trans d9.symm
              subst c9
              rcases h with ⟨c, h⟩ | ⟨c, h⟩
              · refine ⟨fun _ => ?_, fun c2 => absurd c c2⟩
                exact ⟨h.1.symm, h.2.symm⟩
              · refine ⟨fun c2 => absurd c2 c, fun _ => ?_⟩
                exact vw_X9_isFolded_J91 h
          · refine ⟨fun c2 => absurd c2 c, fun _ => ?_⟩
            exact ⟨h.1.symm, h.2.symm⟩
set_option maxRecDepth 100000 in
theorem vpX9_isFolded {S : MS} {x1 : Int32} {ro : Int32} {uo : MS} {P : Int32 → MS → Prop} (h : vX9_isFolded S x1 ro uo) (w : wX9_isFolded S x1 P) : P ro uo := by
  unfold vX9_isFolded at h
  unfold wX9_isFolded at w
  replace h := h.2
  replace w := w.2
  obtain ⟨v9, e9, h⟩ := h
  replace w := w v9 e9 
  replace h := h.2
  replace w := w.2
  obtain ⟨v9, e9, h⟩ := h
  replace w := w v9 e9 
  rcases h with ⟨c, h⟩ | ⟨c, h⟩
  · replace w := w.1 c
    rw [h.1, h.2]
    exact w
  · replace w := w.2 c
    replace h := h.2
    replace w := w.2
    obtain ⟨v9, e9, h⟩ := h
    replace w := w v9 e9 
    rcases h with ⟨c, h⟩ | ⟨c, h⟩
    · replace w := w.1 c
      rw [h.1, h.2]
      exact w
    · replace w := w.2 c
      replace h := h.2
      replace w := w.2
      obtain ⟨v9, e9, h⟩ := h
      replace w := w v9 e9 
      rcases h with ⟨c, h⟩ | ⟨c, h⟩
      · replace w := w.1 c
        rw [h.1, h.2]
        exact w
      · replace w := w.2 c
        replace h := h.2
        replace w := w.2
        obtain ⟨v9, e9, h⟩ := h
        replace w := w v9 e9 
        rcases h with ⟨c, h⟩ | ⟨c, h⟩
        · replace w := w.1 c
          rw [h.1, h.2]
          exact w
        · replace w := w.2 c
          replace h := h.2
          replace w := w.2
          obtain ⟨v9, e9, h⟩ := h
          replace w := w v9 e9 
          replace h := h.2
          replace w := w.2
          obtain ⟨v9, e9, h⟩ := h
          replace w := w v9 e9 
          replace h := h.2
          replace w := w.2
          obtain ⟨v9, e9, h⟩ := h
          replace w := w v9 e9 
          rcases h with ⟨c, h⟩ | ⟨c, h⟩
          · replace w := w.1 c
            replace h := h.2
            replace w := w.2
            obtain ⟨v9, e9, h⟩ := h
            replace w := w v9 e9 
            rcases h with ⟨c, h⟩ | ⟨c, h⟩
            · replace w := w.1 c
              exact vp_X9_isFolded_J91 h w
            · replace w := w.2 c
              replace h := h.2
              replace w := w.2
              obtain ⟨v9, e9, h⟩ := h
              replace w := w v9 e9 
              rcases h with ⟨c, h⟩ | ⟨c, h⟩
              · replace w := w.1 c
                rw [h.1, h.2]
                exact w
              · replace w := w.2 c
                exact vp_X9_isFolded_J91 h w
          · replace w := w.2 c
            rw [h.1, h.2]
            exact w
def vX9_isUnaryFolded (S : MS) (x1 : Int32) (ro : Int32) (uo : MS) : Prop := (d_X8_opAt S (qO S 66 0) (x1 + (1 : Int32)) ∧ (∃ a6 : Int32, a6 = (fX8_opAt S (qO S 66 0) (x1 + (1 : Int32))) ∧ (d_X6_isUnary S a6 ∧ (∃ a10 : Int32, a10 = (fX6_isUnary S a6) ∧ ((a10.toInt = 0 ∧ (ro = (0 : Int32) ∧ uo = S)) ∨ (¬ a10.toInt = 0 ∧ (d_X9_pushKind S x1 ∧ (∃ a15 : Int32, a15 = (fX9_pushKind S x1) ∧ (d_X6_takes S a6 ∧ (∃ a19 : Int32, a19 = (fX6_takes S a6) ∧ ((a15.toInt = a19.toInt ∧ (d_X9_isWindow S x1 (2 : Int32) ∧ (∃ a24 : Int32, a24 = (fX9_isWindow S x1 (2 : Int32)) ∧ ((a24.toInt = 0 ∧ (ro = (0 : Int32) ∧ uo = S)) ∨ (¬ a24.toInt = 0 ∧ (d_X6_gives S a6 ∧ (∃ a29 : Int32, a29 = (fX6_gives S a6) ∧ (d_X8_argAt S (qO S 66 0) x1 ∧ (∃ a34 : Int64, a34 = (fX8_argAt S (qO S 66 0) x1) ∧ (d_X6_unary S a6 a34 ∧ (∃ a38 : Int64, a38 = (fX6_unary S a6 a34) ∧ (∃ (S40 : MS), vX9_putPush S x1 a29 a38 S40 ∧ wfC S40 ∧ shy S S40 ∧ (qT S40 (qO S40 66 0) = 47 ∧ (∃ (S45 : MS), vX8_remove S40 (qO S40 66 0) (x1 + (1 : Int32)) (1 : Int32) S45 ∧ wfC S45 ∧ shy S40 S45 ∧ (ro = (1 : Int32) ∧ uo = S45))))))))))))))) ∨ (¬ a15.toInt = a19.toInt ∧ (ro = (0 : Int32) ∧ uo = S)))))))))))))
set_option maxRecDepth 100000 in
theorem ruX9_isUnaryFolded {S : MS} {x1 : Int32} {Q : Int32 → MS → Prop} (h : wX9_isUnaryFolded S x1 Q) : wX9_isUnaryFolded S x1 (fun r u => Q r u ∧ vX9_isUnaryFolded S x1 r u) := by
  have i0 : Unit := ()
  have K : ∀ (i : Unit) (ro : Int32) (uo : MS), vX9_isUnaryFolded S x1 ro uo → vX9_isUnaryFolded S x1 ro uo := fun _ _ _ z => z
  unfold wX9_isUnaryFolded at h ⊢
  obtain ⟨g1_, h⟩ := h
  refine ⟨g1_, ?_⟩
  replace K := fun i ro uo z => K i ro uo ⟨g1_, z⟩
  intro a6 ea6 
  replace h := h a6 ea6 
  replace K := fun i ro uo z => K i ro uo ⟨a6, ea6, z⟩
  obtain ⟨g2_, h⟩ := h
  refine ⟨g2_, ?_⟩
  replace K := fun i ro uo z => K i ro uo ⟨g2_, z⟩
  intro a10 ea10 
  replace h := h a10 ea10 
  replace K := fun i ro uo z => K i ro uo ⟨a10, ea10, z⟩
  refine ⟨fun c => ?_, fun c => ?_⟩
  · replace h := h.1 c
    replace K := fun i ro uo z => K i ro uo (Or.inl ⟨c, z⟩)
    exact ⟨h, K i0 _ _ ⟨rfl, rfl⟩⟩
  · replace h := h.2 c
    replace K := fun i ro uo z => K i ro uo (Or.inr ⟨c, z⟩)
    obtain ⟨g3_, h⟩ := h
    refine ⟨g3_, ?_⟩
    replace K := fun i ro uo z => K i ro uo ⟨g3_, z⟩
    intro a15 ea15 
    replace h := h a15 ea15 
    replace K := fun i ro uo z => K i ro uo ⟨a15, ea15, z⟩
    obtain ⟨g4_, h⟩ := h
    refine ⟨g4_, ?_⟩
    replace K := fun i ro uo z => K i ro uo ⟨g4_, z⟩
    intro a19 ea19 
    replace h := h a19 ea19 
    replace K := fun i ro uo z => K i ro uo ⟨a19, ea19, z⟩
    refine ⟨fun c => ?_, fun c => ?_⟩
    · replace h := h.1 c
      replace K := fun i ro uo z => K i ro uo (Or.inl ⟨c, z⟩)
      obtain ⟨g5_, h⟩ := h
      refine ⟨g5_, ?_⟩
      replace K := fun i ro uo z => K i ro uo ⟨g5_, z⟩
      intro a24 ea24 
      replace h := h a24 ea24 
      replace K := fun i ro uo z => K i ro uo ⟨a24, ea24, z⟩
      refine ⟨fun c => ?_, fun c => ?_⟩
      · replace h := h.1 c
        replace K := fun i ro uo z => K i ro uo (Or.inl ⟨c, z⟩)
        exact ⟨h, K i0 _ _ ⟨rfl, rfl⟩⟩
      · replace h := h.2 c
        replace K := fun i ro uo z => K i ro uo (Or.inr ⟨c, z⟩)
        obtain ⟨g6_, h⟩ := h
        refine ⟨g6_, ?_⟩
        replace K := fun i ro uo z => K i ro uo ⟨g6_, z⟩
        intro a29 ea29 
        replace h := h a29 ea29 
        replace K := fun i ro uo z => K i ro uo ⟨a29, ea29, z⟩
        obtain ⟨g7_, h⟩ := h
        refine ⟨g7_, ?_⟩
        replace K := fun i ro uo z => K i ro uo ⟨g7_, z⟩
        intro a34 ea34 
        replace h := h a34 ea34 
        replace K := fun i ro uo z => K i ro uo ⟨a34, ea34, z⟩
        obtain ⟨g8_, h⟩ := h
        refine ⟨g8_, ?_⟩
        replace K := fun i ro uo z => K i ro uo ⟨g8_, z⟩
        intro a38 ea38 
        replace h := h a38 ea38 
        replace K := fun i ro uo z => K i ro uo ⟨a38, ea38, z⟩
        obtain ⟨Q9, h0, h⟩ := h
        refine ⟨_, ruX9_putPush h0, ?_⟩
        intro S40 q9_ y10_ y11_
        replace h := h S40 q9_.1 y10_ y11_
        replace K := fun i ro uo z => K i ro uo ⟨S40, q9_.2, y10_, y11_, z⟩
        intro y12_
        replace h := h y12_
        replace K := fun i ro uo z => K i ro uo ⟨y12_, z⟩
        obtain ⟨Q9, h0, h⟩ := h
        refine ⟨_, ruX8_remove h0, ?_⟩
        intro S45 q13_ y14_ y15_
        replace h := h S45 q13_.1 y14_ y15_
        replace K := fun i ro uo z => K i ro uo ⟨S45, q13_.2, y14_, y15_, z⟩
        exact ⟨h, K i0 _ _ ⟨rfl, rfl⟩⟩
    · replace h := h.2 c
      replace K := fun i ro uo z => K i ro uo (Or.inr ⟨c, z⟩)
      exact ⟨h, K i0 _ _ ⟨rfl, rfl⟩⟩
set_option maxRecDepth 100000 in
theorem vwX9_isUnaryFolded {S : MS} {x1 : Int32} {ro : Int32} {uo : MS} (h : vX9_isUnaryFolded S x1 ro uo) : wX9_isUnaryFolded S x1 (fun r u => r = ro ∧ u = uo) := by
  unfold vX9_isUnaryFolded at h
  unfold wX9_isUnaryFolded
  obtain ⟨g9, h⟩ := h
  refine ⟨g9, ?_⟩
  obtain ⟨v9, e9, h⟩ := h
  intro x9 d9 
  have c9 : v9 = x9 := e9.trans d9.symm
  subst c9
  obtain ⟨g9, h⟩ := h
  refine ⟨g9, ?_⟩
  obtain ⟨v9, e9, h⟩ := h
  intro x9 d9 
  have c9 : v9 = x9 := e9.trans d9.symm
  subst c9
  rcases h with ⟨c, h⟩ | ⟨c, h⟩
  · refine ⟨fun _ => ?_, fun c2 => absurd c c2⟩
    exact ⟨h.1.symm, h.2.symm⟩
  · refine ⟨fun c2 => absurd c2 c, fun _ => ?_⟩
    obtain ⟨g9, h⟩ := h
    refine ⟨g9, ?_⟩
    obtain ⟨v9, e9, h⟩ := h
    intro x9 d9 
    have c9 : v9 = x9 := e9.trans d9.symm
    subst c9
    obtain ⟨g9, h⟩ := h
    refine ⟨g9, ?_⟩
    obtain ⟨v9, e9, h⟩ := h
    intro x9 d9 
    have c9 : v9 = x9 := e9.trans d9.symm
    subst c9
    rcases h with ⟨c, h⟩ | ⟨c, h⟩
    · refine ⟨fun _ => ?_, fun c2 => absurd c c2⟩
      obtain ⟨g9, h⟩ := h
      refine ⟨g9, ?_⟩
      obtain ⟨v9, e9, h⟩ := h
      intro x9 d9 
      have c9 : v9 = x9 := e9.trans d9.symm
      subst c9
      rcases h with ⟨c, h⟩ | ⟨c, h⟩
      · refine ⟨fun _ => ?_, fun c2 => absurd c c2⟩
        exact ⟨h.1.symm, h.2.symm⟩
      · refine ⟨fun c2 => absurd c2 c, fun _ => ?_⟩
        obtain ⟨g9, h⟩ := h
        refine ⟨g9, ?_⟩
        obtain ⟨v9, e9, h⟩ := h
        intro x9 d9 
        have c9 : v9 = x9 := e9.trans d9.symm
        subst c9
        obtain ⟨g9, h⟩ := h
        refine ⟨g9, ?_⟩
        obtain ⟨v9, e9, h⟩ := h
        intro x9 d9 
        have c9 : v9 = x9 := e9.trans d9.symm
        subst c9
        obtain ⟨g9, h⟩ := h
        refine ⟨g9, ?_⟩
        obtain ⟨v9, e9, h⟩ := h
        intro x9 d9 
        have c9 : v9 = x9 := e9.trans d9.symm
        subst c9
        obtain ⟨q9, z9, h⟩ := h
        refine ⟨_, vwX9_putPush z9, ?_⟩
        intro q8 d9 _ _
        subst d9
        replace h := h.2.2
        intro _
        replace h := h.2
        obtain ⟨q9, z9, h⟩ := h
        refine ⟨_, vwX8_remove z9, ?_⟩
        intro q8 d9 _ _
        subst d9
        replace h := h.2.2
        exact ⟨h.1.symm, h.2.symm⟩
    · refine ⟨fun c2 => absurd c2 c, fun _ => ?_⟩
      exact ⟨h.1.symm, h.2.symm⟩
set_option maxRecDepth 100000 in
theorem vpX9_isUnaryFolded {S : MS} {x1 : Int32} {ro : Int32} {uo : MS} {P : Int32 → MS → Prop} (h : vX9_isUnaryFolded S x1 ro uo) (w : wX9_isUnaryFolded S x1 P) : P ro uo := by
  unfold vX9_isUnaryFolded at h
  unfold wX9_isUnaryFolded at w
  replace h := h.2
  replace w := w.2
  obtain ⟨v9, e9, h⟩ := h
  replace w := w v9 e9 
  replace h := h.2
  replace w := w.2
  obtain ⟨v9, e9, h⟩ := h
  replace w := w v9 e9 
  rcases h with ⟨c, h⟩ | ⟨c, h⟩
  · replace w := w.1 c
    rw [h.1, h.2]
    exact w
  · replace w := w.2 c
    replace h := h.2
    replace w := w.2
    obtain ⟨v9, e9, h⟩ := h
    replace w := w v9 e9 
    replace h := h.2
    replace w := w.2
    obtain ⟨v9, e9, h⟩ := h
    replace w := w v9 e9 
    rcases h with ⟨c, h⟩ | ⟨c, h⟩
    · replace w := w.1 c
      replace h := h.2
      replace w := w.2
      obtain ⟨v9, e9, h⟩ := h
      replace w := w v9 e9 
      rcases h with ⟨c, h⟩ | ⟨c, h⟩
      · replace w := w.1 c
        rw [h.1, h.2]
        exact w
      · replace w := w.2 c
        replace h := h.2
        replace w := w.2
        obtain ⟨v9, e9, h⟩ := h
        replace w := w v9 e9 
        replace h := h.2
        replace w := w.2
        obtain ⟨v9, e9, h⟩ := h
        replace w := w v9 e9 
        replace h := h.2
        replace w := w.2
        obtain ⟨v9, e9, h⟩ := h
        replace w := w v9 e9 
        obtain ⟨q9, z9, y1_, y2_, h⟩ := h
        obtain ⟨Q9, w0, w⟩ := w
        replace w := w q9 (vpX9_putPush z9 w0) y1_ y2_
        obtain ⟨y3_, h⟩ := h
        replace w := w y3_
        obtain ⟨q9, z9, y4_, y5_, h⟩ := h
        obtain ⟨Q9, w0, w⟩ := w
        replace w := w q9 (vpX8_remove z9 w0) y4_ y5_
        rw [h.1, h.2]
        exact w
    · replace w := w.2 c
      rw [h.1, h.2]
      exact w
def v_X9_isJumpDecided_J113 (ro : Int32) (uo : MS) (U113 : MS) (t113_0 : Int32) (t113_1 : Int32) (t113_2 : Int32) (v113_1 : Int32) (v113_2 : Int32) : Prop := (wfC U113 ∧ (d_X6_isTaken U113 t113_2 t113_1 t113_0 ∧ (((fX6_isTaken U113 t113_2 t113_1 t113_0).toInt = 0 ∧ (qT U113 (qO U113 66 0) = 47 ∧ (∃ (S33 : MS), vX8_remove U113 (qO U113 66 0) v113_1 v113_2 S33 ∧ wfC S33 ∧ shy U113 S33 ∧ (ro = (1 : Int32) ∧ uo = S33)))) ∨ (¬ (fX6_isTaken U113 t113_2 t113_1 t113_0).toInt = 0 ∧ (d_X8_argAt U113 (qO U113 66 0) ((v113_1 + v113_2) - (1 : Int32)) ∧ (qT U113 (qO U113 66 0) = 47 ∧ (∃ (S43 : MS), vX8_set U113 (qO U113 66 0) v113_1 (167 : Int32) (fX8_argAt U113 (qO U113 66 0) ((v113_1 + v113_2) - (1 : Int32))) S43 ∧ wfC S43 ∧ shy U113 S43 ∧ (qT S43 (qO S43 66 0) = 47 ∧ (∃ (S49 : MS), vX8_remove S43 (qO S43 66 0) (v113_1 + (1 : Int32)) (v113_2 - (1 : Int32)) S49 ∧ wfC S49 ∧ shy S43 S49 ∧ (ro = (1 : Int32) ∧ uo = S49))))))))))
def v_X9_isJumpDecided_J55 (ro : Int32) (uo : MS) (U55 : MS) (t55_0 : Int32) (v55_1 : Int32) (v55_2 : Int32) (v55_3 : Int32) : Prop := (wfC U55 ∧ ((v55_3.toInt < t55_0.toInt ∧ (ro = (0 : Int32) ∧ uo = U55)) ∨ (¬ v55_3.toInt < t55_0.toInt ∧ (((t55_0 + (6 : Int32)).toInt ≤ v55_3.toInt ∧ (ro = (0 : Int32) ∧ uo = U55)) ∨ (¬ (t55_0 + (6 : Int32)).toInt ≤ v55_3.toInt ∧ (d_X9_isWindow U55 v55_1 v55_2 ∧ (((fX9_isWindow U55 v55_1 v55_2).toInt = 0 ∧ (ro = (0 : Int32) ∧ uo = U55)) ∨ (¬ (fX9_isWindow U55 v55_1 v55_2).toInt = 0 ∧ (d_X8_argAt U55 (qO U55 66 0) v55_1 ∧ ((v55_2.toInt = 3 ∧ (d_X8_argAt U55 (qO U55 66 0) (v55_1 + (1 : Int32)) ∧ (v_X9_isJumpDecided_J113 ro uo U55 ((fX8_argAt U55 (qO U55 66 0) (v55_1 + (1 : Int32))).toInt32) ((fX8_argAt U55 (qO U55 66 0) v55_1).toInt32) v55_3 v55_1 v55_2))) ∨ (¬ v55_2.toInt = 3 ∧ (v_X9_isJumpDecided_J113 ro uo U55 0 ((fX8_argAt U55 (qO U55 66 0) v55_1).toInt32) v55_3 v55_1 v55_2))))))))))))
def v_X9_isJumpDecided_J27 (ro : Int32) (uo : MS) (U27 : MS) (t27_0 : Int32) (v27_1 : Int32) : Prop := (wfC U27 ∧ (d_X8_opAt U27 (qO U27 66 0) ((v27_1 + t27_0) - (1 : Int32)) ∧ (∃ a15 : Int32, a15 = (fX8_opAt U27 (qO U27 66 0) ((v27_1 + t27_0) - (1 : Int32))) ∧ ((t27_0.toInt = 3 ∧ (v_X9_isJumpDecided_J55 ro uo U27 159 v27_1 t27_0 a15)) ∨ (¬ t27_0.toInt = 3 ∧ (v_X9_isJumpDecided_J55 ro uo U27 153 v27_1 t27_0 a15))))))
def vX9_isJumpDecided (S : MS) (x1 : Int32) (ro : Int32) (uo : MS) : Prop := (d_X9_pushKind S x1 ∧ (((fX9_pushKind S x1).toInt = 1 ∧ (d_X9_pushKind S (x1 + (1 : Int32)) ∧ (((fX9_pushKind S (x1 + (1 : Int32))).toInt = 1 ∧ (v_X9_isJumpDecided_J27 ro uo S 3 x1)) ∨ (¬ (fX9_pushKind S (x1 + (1 : Int32))).toInt = 1 ∧ (v_X9_isJumpDecided_J27 ro uo S 2 x1))))) ∨ (¬ (fX9_pushKind S x1).toInt = 1 ∧ (ro = (0 : Int32) ∧ uo = S))))
set_option maxRecDepth 100000 in
theorem ru_X9_isJumpDecided_J113 {ι : Type} {P Q : Int32 → MS → Prop} {U113 : MS} {t113_0 : Int32} {t113_1 : Int32} {t113_2 : Int32} {v113_1 : Int32} {v113_2 : Int32} (i0 : ι) (K : ∀ (i : ι) (ro : Int32) (uo : MS), v_X9_isJumpDecided_J113 ro uo U113 t113_0 t113_1 t113_2 v113_1 v113_2 → P ro uo) (h : w_X9_isJumpDecided_J113 Q U113 t113_0 t113_1 t113_2 v113_1 v113_2) : w_X9_isJumpDecided_J113 (fun r u => Q r u ∧ P r u) U113 t113_0 t113_1 t113_2 v113_1 v113_2 := by
  unfold w_X9_isJumpDecided_J113 at h ⊢
  intro y1_
  replace h := h y1_
  replace K := fun i ro uo z => K i ro uo ⟨y1_, z⟩
  obtain ⟨g2_, h⟩ := h
  refine ⟨g2_, ?_⟩
  replace K := fun i ro uo z => K i ro uo ⟨g2_, z⟩
  refine ⟨fun c => ?_, fun c => ?_⟩
  · replace h := h.1 c
    replace K := fun i ro uo z => K i ro uo (Or.inl ⟨c, z⟩)
    intro y3_
    replace h := h y3_
    replace K := fun i ro uo z => K i ro uo ⟨y3_, z⟩
    obtain ⟨Q9, h0, h⟩ := h
    refine ⟨_, ruX8_remove h0, ?_⟩
    intro S33 q4_ y5_ y6_
    replace h := h S33 q4_.1 y5_ y6_
    replace K := fun i ro uo z => K i ro uo ⟨S33, q4_.2, y5_, y6_, z⟩
    exact ⟨h, K i0 _ _ ⟨rfl, rfl⟩⟩
  · replace h := h.2 c
    replace K := fun i ro uo z => K i ro uo (Or.inr ⟨c, z⟩)
    obtain ⟨g7_, h⟩ := h
    refine ⟨g7_, ?_⟩
    replace K := fun i ro uo z => K i ro uo ⟨g7_, z⟩
    intro y8_
    replace h := h y8_
    replace K := fun i ro uo z => K i ro uo ⟨y8_, z⟩
    obtain ⟨Q9, h0, h⟩ := h
    refine ⟨_, ruX8_set h0, ?_⟩
    intro S43 q9_ y10_ y11_
    replace h := h S43 q9_.1 y10_ y11_
    replace K := fun i ro uo z => K i ro uo ⟨S43, q9_.2, y10_, y11_, z⟩
    intro y12_
    replace h := h y12_
    replace K := fun i ro uo z => K i ro uo ⟨y12_, z⟩
    obtain ⟨Q9, h0, h⟩ := h
    refine ⟨_, ruX8_remove h0, ?_⟩
    intro S49 q13_ y14_ y15_
    replace h := h S49 q13_.1 y14_ y15_
    replace K := fun i ro uo z => K i ro uo ⟨S49, q13_.2, y14_, y15_, z⟩
    exact ⟨h, K i0 _ _ ⟨rfl, rfl⟩⟩
set_option maxRecDepth 100000 in
theorem ru_X9_isJumpDecided_J55 {ι : Type} {P Q : Int32 → MS → Prop} {U55 : MS} {t55_0 : Int32} {v55_1 : Int32} {v55_2 : Int32} {v55_3 : Int32} (i0 : ι) (K : ∀ (i : ι) (ro : Int32) (uo : MS), v_X9_isJumpDecided_J55 ro uo U55 t55_0 v55_1 v55_2 v55_3 → P ro uo) (h : w_X9_isJumpDecided_J55 Q U55 t55_0 v55_1 v55_2 v55_3) : w_X9_isJumpDecided_J55 (fun r u => Q r u ∧ P r u) U55 t55_0 v55_1 v55_2 v55_3 := by
  unfold w_X9_isJumpDecided_J55 at h ⊢
  intro y16_
  replace h := h y16_
  replace K := fun i ro uo z => K i ro uo ⟨y16_, z⟩
  refine ⟨fun c => ?_, fun c => ?_⟩
  · replace h := h.1 c
    replace K := fun i ro uo z => K i ro uo (Or.inl ⟨c, z⟩)
    exact ⟨h, K i0 _ _ ⟨rfl, rfl⟩⟩
  · replace h := h.2 c
    replace K := fun i ro uo z => K i ro uo (Or.inr ⟨c, z⟩)
    refine ⟨fun c => ?_, fun c => ?_⟩
    · replace h := h.1 c
      replace K := fun i ro uo z => K i ro uo (Or.inl ⟨c, z⟩)
      exact ⟨h, K i0 _ _ ⟨rfl, rfl⟩⟩
    · replace h := h.2 c
      replace K := fun i ro uo z => K i ro uo (Or.inr ⟨c, z⟩)
      obtain ⟨g17_, h⟩ := h
      refine ⟨g17_, ?_⟩
      replace K := fun i ro uo z => K i ro uo ⟨g17_, z⟩
      refine ⟨fun c => ?_, fun c => ?_⟩
      · replace h := h.1 c
        replace K := fun i ro uo z => K i ro uo (Or.inl ⟨c, z⟩)
        exact ⟨h, K i0 _ _ ⟨rfl, rfl⟩⟩
      · replace h := h.2 c
        replace K := fun i ro uo z => K i ro uo (Or.inr ⟨c, z⟩)
        obtain ⟨g18_, h⟩ := h
        refine ⟨g18_, ?_⟩
        replace K := fun i ro uo z => K i ro uo ⟨g18_, z⟩
        refine ⟨fun c => ?_, fun c => ?_⟩
        · replace h := h.1 c
          replace K := fun i ro uo z => K i ro uo (Or.inl ⟨c, z⟩)
          obtain ⟨g19_, h⟩ := h
          refine ⟨g19_, ?_⟩
          replace K := fun i ro uo z => K i ro uo ⟨g19_, z⟩
          exact ru_X9_isJumpDecided_J113 i0 K h
        · replace h := h.2 c
          replace K := fun i ro uo z => K i ro uo (Or.inr ⟨c, z⟩)
          exact ru_X9_isJumpDecided_J113 i0 K h
set_option maxRecDepth 100000 in
theorem ru_X9_isJumpDecided_J27 {ι : Type} {P Q : Int32 → MS → Prop} {U27 : MS} {t27_0 : Int32} {v27_1 : Int32} (i0 : ι) (K : ∀ (i : ι) (ro : Int32) (uo : MS), v_X9_isJumpDecided_J27 ro uo U27 t27_0 v27_1 → P ro uo) (h : w_X9_isJumpDecided_J27 Q U27 t27_0 v27_1) : w_X9_isJumpDecided_J27 (fun r u => Q r u ∧ P r u) U27 t27_0 v27_1 := by
  unfold w_X9_isJumpDecided_J27 at h ⊢
  intro y20_
  replace h := h y20_
  replace K := fun i ro uo z => K i ro uo ⟨y20_, z⟩
  obtain ⟨g21_, h⟩ := h
  refine ⟨g21_, ?_⟩
  replace K := fun i ro uo z => K i ro uo ⟨g21_, z⟩
  intro a15 ea15 
  replace h := h a15 ea15 
  replace K := fun i ro uo z => K i ro uo ⟨a15, ea15, z⟩
  refine ⟨fun c => ?_, fun c => ?_⟩
  · replace h := h.1 c
    replace K := fun i ro uo z => K i ro uo (Or.inl ⟨c, z⟩)
    exact ru_X9_isJumpDecided_J55 i0 K h
  · replace h := h.2 c
    replace K := fun i ro uo z => K i ro uo (Or.inr ⟨c, z⟩)
    exact ru_X9_isJumpDecided_J55 i0 K h
set_option maxRecDepth 100000 in
theorem ruX9_isJumpDecided {S : MS} {x1 : Int32} {Q : Int32 → MS → Prop} (h : wX9_isJumpDecided S x1 Q) : wX9_isJumpDecided S x1 (fun r u => Q r u ∧ vX9_isJumpDecided S x1 r u) := by
  have i0 : Unit := ()
  have K : ∀ (i : Unit) (ro : Int32) (uo : MS), vX9_isJumpDecided S x1 ro uo → vX9_isJumpDecided S x1 ro uo := fun _ _ _ z => z
  unfold wX9_isJumpDecided at h ⊢
  obtain ⟨g22_, h⟩ := h
  refine ⟨g22_, ?_⟩
  replace K := fun i ro uo z => K i ro uo ⟨g22_, z⟩
  refine ⟨fun c => ?_, fun c => ?_⟩
  · replace h := h.1 c
    replace K := fun i ro uo z => K i ro uo (Or.inl ⟨c, z⟩)
    obtain ⟨g23_, h⟩ := h
    refine ⟨g23_, ?_⟩
    replace K := fun i ro uo z => K i ro uo ⟨g23_, z⟩
    refine ⟨fun c => ?_, fun c => ?_⟩
    · replace h := h.1 c
      replace K := fun i ro uo z => K i ro uo (Or.inl ⟨c, z⟩)
      exact ru_X9_isJumpDecided_J27 i0 K h
    · replace h := h.2 c
      replace K := fun i ro uo z => K i ro uo (Or.inr ⟨c, z⟩)
      exact ru_X9_isJumpDecided_J27 i0 K h
  · replace h := h.2 c
    replace K := fun i ro uo z => K i ro uo (Or.inr ⟨c, z⟩)
    exact ⟨h, K i0 _ _ ⟨rfl, rfl⟩⟩
set_option maxRecDepth 100000 in
theorem vw_X9_isJumpDecided_J113 {ro : Int32} {uo : MS} {U113 : MS} {t113_0 : Int32} {t113_1 : Int32} {t113_2 : Int32} {v113_1 : Int32} {v113_2 : Int32} (h : v_X9_isJumpDecided_J113 ro uo U113 t113_0 t113_1 t113_2 v113_1 v113_2) : w_X9_isJumpDecided_J113 (fun r u => r = ro ∧ u = uo) U113 t113_0 t113_1 t113_2 v113_1 v113_2 := by
  unfold v_X9_isJumpDecided_J113 at h
  unfold w_X9_isJumpDecided_J113
  intro _
  replace h := h.2
  obtain ⟨g9, h⟩ := h
  refine ⟨g9, ?_⟩
  rcases h with ⟨c, h⟩ | ⟨c, h⟩
  · refine ⟨fun _ => ?_, fun c2 => absurd c c2⟩
    intro _
    replace h := h.2
    obtain ⟨q9, z9, h⟩ := h
    refine ⟨_, vwX8_remove z9, ?_⟩
    intro q8 d9 _ _
    subst d9
    replace h := h.2.2
    exact ⟨h.1.symm, h.2.symm⟩
  · refine ⟨fun c2 => absurd c2 c, fun _ => ?_⟩
    obtain ⟨g9, h⟩ := h
    refine ⟨g9, ?_⟩
    intro _
    replace h := h.2
    obtain ⟨q9, z9, h⟩ := h
    refine ⟨_, vwX8_set z9, ?_⟩
    intro q8 d9 _ _
    subst d9
    replace h := h.2.2
    intro _
    replace h := h.2
    obtain ⟨q9, z9, h⟩ := h
    refine ⟨_, vwX8_remove z9, ?_⟩
    intro q8 d9 _ _
    subst d9
    replace h := h.2.2
    exact ⟨h.1.symm, h.2.symm⟩
set_option maxRecDepth 100000 in
theorem vp_X9_isJumpDecided_J113 {ro : Int32} {uo : MS} {P : Int32 → MS → Prop} {U113 : MS} {t113_0 : Int32} {t113_1 : Int32} {t113_2 : Int32} {v113_1 : Int32} {v113_2 : Int32} (h : v_X9_isJumpDecided_J113 ro uo U113 t113_0 t113_1 t113_2 v113_1 v113_2) (w : w_X9_isJumpDecided_J113 P U113 t113_0 t113_1 t113_2 v113_1 v113_2) : P ro uo := by
  unfold v_X9_isJumpDecided_J113 at h
  unfold w_X9_isJumpDecided_J113 at w
  obtain ⟨y1_, h⟩ := h
  replace w := w y1_
  replace h := h.2
  replace w := w.2
  rcases h with ⟨c, h⟩ | ⟨c, h⟩
  · replace w := w.1 c
    obtain ⟨y2_, h⟩ := h
    replace w := w y2_
    obtain ⟨q9, z9, y3_, y4_, h⟩ := h
    obtain ⟨Q9, w0, w⟩ := w
    replace w := w q9 (vpX8_remove z9 w0) y3_ y4_
    rw [h.1, h.2]
    exact w
  · replace w := w.2 c
    replace h := h.2
    replace w := w.2
    obtain ⟨y5_, h⟩ := h
    replace w := w y5_
    obtain ⟨q9, z9, y6_, y7_, h⟩ := h
    obtain ⟨Q9, w0, w⟩ := w
    replace w := w q9 (vpX8_set z9 w0) y6_ y7_
    obtain ⟨y8_, h⟩ := h
    replace w := w y8_
    obtain ⟨q9, z9, y9_, y10_, h⟩ := h
    obtain ⟨Q9, w0, w⟩ := w
    replace w := w q9 (vpX8_remove z9 w0) y9_ y10_
    rw [h.1, h.2]
    exact w
set_option maxRecDepth 100000 in
theorem vw_X9_isJumpDecided_J55 {ro : Int32} {uo : MS} {U55 : MS} {t55_0 : Int32} {v55_1 : Int32} {v55_2 : Int32} {v55_3 : Int32} (h : v_X9_isJumpDecided_J55 ro uo U55 t55_0 v55_1 v55_2 v55_3) : w_X9_isJumpDecided_J55 (fun r u => r = ro ∧ u = uo) U55 t55_0 v55_1 v55_2 v55_3 := by
  unfold v_X9_isJumpDecided_J55 at h
  unfold w_X9_isJumpDecided_J55
  intro _
  replace h := h.2
  rcases h with ⟨c, h⟩ | ⟨c, h⟩
  · refine ⟨fun _ => ?_, fun c2 => absurd c c2⟩
    exact ⟨h.1.symm, h.2.symm⟩
  · refine ⟨fun c2 => absurd c2 c, fun _ => ?_⟩
    rcases h with ⟨c, h⟩ | ⟨c, h⟩
    · refine ⟨fun _ => ?_, fun c2 => absurd c c2⟩
      exact ⟨h.1.symm, h.2.symm⟩
    · refine ⟨fun c2 => absurd c2 c, fun _ => ?_⟩
      obtain ⟨g9, h⟩ := h
      refine ⟨g9, ?_⟩
      rcases h with ⟨c, h⟩ | ⟨c, h⟩
      · refine ⟨fun _ => ?_, fun c2 => absurd c c2⟩
        exact ⟨h.1.symm, h.2.symm⟩
      · refine ⟨fun c2 => absurd c2 c, fun _ => ?_⟩
        obtain ⟨g9, h⟩ := h
        refine ⟨g9, ?_⟩
        rcases h with ⟨c, h⟩ | ⟨c, h⟩
        · refine ⟨fun _ => ?_, fun c2 => absurd c c2⟩
          obtain ⟨g9, h⟩ := h
          refine ⟨g9, ?_⟩
          exact vw_X9_isJumpDecided_J113 h
        · refine ⟨fun c2 => absurd c2 c, fun _ => ?_⟩
          exact vw_X9_isJumpDecided_J113 h
set_option maxRecDepth 100000 in
theorem vp_X9_isJumpDecided_J55 {ro : Int32} {uo : MS} {P : Int32 → MS → Prop} {U55 : MS} {t55_0 : Int32} {v55_1 : Int32} {v55_2 : Int32} {v55_3 : Int32} (h : v_X9_isJumpDecided_J55 ro uo U55 t55_0 v55_1 v55_2 v55_3) (w : w_X9_isJumpDecided_J55 P U55 t55_0 v55_1 v55_2 v55_3) : P ro uo := by
  unfold v_X9_isJumpDecided_J55 at h
  unfold w_X9_isJumpDecided_J55 at w
  obtain ⟨y11_, h⟩ := h
  replace w := w y11_
  rcases h with ⟨c, h⟩ | ⟨c, h⟩
  · replace w := w.1 c
    rw [h.1, h.2]
    exact w
  · replace w := w.2 c
    rcases h with ⟨c, h⟩ | ⟨c, h⟩
    · replace w := w.1 c
      rw [h.1, h.2]
      exact w
    · replace w := w.2 c
      replace h := h.2
      replace w := w.2
      rcases h with ⟨c, h⟩ | ⟨c, h⟩
      · replace w := w.1 c
        rw [h.1, h.2]
        exact w
      · replace w := w.2 c
        replace h := h.2
        replace w := w.2
        rcases h with ⟨c, h⟩ | ⟨c, h⟩
        · replace w := w.1 c
          replace h := h.2
          replace w := w.2
          exact vp_X9_isJumpDecided_J113 h w
        · replace w := w.2 c
          exact vp_X9_isJumpDecided_J113 h w
set_option maxRecDepth 100000 in
theorem vw_X9_isJumpDecided_J27 {ro : Int32} {uo : MS} {U27 : MS} {t27_0 : Int32} {v27_1 : Int32} (h : v_X9_isJumpDecided_J27 ro uo U27 t27_0 v27_1) : w_X9_isJumpDecided_J27 (fun r u => r = ro ∧ u = uo) U27 t27_0 v27_1 := by
  unfold v_X9_isJumpDecided_J27 at h
  unfold w_X9_isJumpDecided_J27
  intro _
  replace h := h.2
  obtain ⟨g9, h⟩ := h
  refine ⟨g9, ?_⟩
  obtain ⟨v9, e9, h⟩ := h
  intro x9 d9 
  have c9 : v9 = x9 := e9.trans d9.symm
  subst c9
  rcases h with ⟨c, h⟩ | ⟨c, h⟩
  · refine ⟨fun _ => ?_, fun c2 => absurd c c2⟩
    exact vw_X9_isJumpDecided_J55 h
  · refine ⟨fun c2 => absurd c2 c, fun _ => ?_⟩
    exact vw_X9_isJumpDecided_J55 h
set_option maxRecDepth 100000 in
theorem vp_X9_isJumpDecided_J27 {ro : Int32} {uo : MS} {P : Int32 → MS → Prop} {U27 : MS} {t27_0 : Int32} {v27_1 : Int32} (h : v_X9_isJumpDecided_J27 ro uo U27 t27_0 v27_1) (w : w_X9_isJumpDecided_J27 P U27 t27_0 v27_1) : P ro uo := by
  unfold v_X9_isJumpDecided_J27 at h
  unfold w_X9_isJumpDecided_J27 at w
  obtain ⟨y12_, h⟩ := h
  replace w := w y12_
  replace h := h.2
  replace w := w.2
  obtain ⟨v9, e9, h⟩ := h
  replace w := w v9 e9 
  rcases h with ⟨c, h⟩ | ⟨c, h⟩
  · replace w := w.1 c
    exact vp_X9_isJumpDecided_J55 h w
  · replace w := w.2 c
    exact vp_X9_isJumpDecided_J55 h w
set_option maxRecDepth 100000 in
theorem vwX9_isJumpDecided {S : MS} {x1 : Int32} {ro : Int32} {uo : MS} (h : vX9_isJumpDecided S x1 ro uo) : wX9_isJumpDecided S x1 (fun r u => r = ro ∧ u = uo) := by
  unfold vX9_isJumpDecided at h
  unfold wX9_isJumpDecided
  obtain ⟨g9, h⟩ := h
  refine ⟨g9, ?_⟩
  rcases h with ⟨c, h⟩ | ⟨c, h⟩
  · refine ⟨fun _ => ?_, fun c2 => absurd c c2⟩
    obtain ⟨g9, h⟩ := h
    refine ⟨g9, ?_⟩
    rcases h with ⟨c, h⟩ | ⟨c, h⟩
    · refine ⟨fun _ => ?_, fun c2 => absurd c c2⟩
      exact vw_X9_isJumpDecided_J27 h
    · refine ⟨fun c2 => absurd c2 c, fun _ => ?_⟩
      exact vw_X9_isJumpDecided_J27 h
  · refine ⟨fun c2 => absurd c2 c, fun _ => ?_⟩
    exact ⟨h.1.symm, h.2.symm⟩
set_option maxRecDepth 100000 in
theorem vpX9_isJumpDecided {S : MS} {x1 : Int32} {ro : Int32} {uo : MS} {P : Int32 → MS → Prop} (h : vX9_isJumpDecided S x1 ro uo) (w : wX9_isJumpDecided S x1 P) : P ro uo := by
  unfold vX9_isJumpDecided at h
  unfold wX9_isJumpDecided at w
  replace h := h.2
  replace w := w.2
  rcases h with ⟨c, h⟩ | ⟨c, h⟩
  · replace w := w.1 c
    replace h := h.2
    replace w := w.2
    rcases h with ⟨c, h⟩ | ⟨c, h⟩
    · replace w := w.1 c
      exact vp_X9_isJumpDecided_J27 h w
    · replace w := w.2 c
      exact vp_X9_isJumpDecided_J27 h w
  · replace w := w.2 c
    rw [h.1, h.2]
    exact w
def v_X9_liveBehind_L38 (ro : Int32) (uo : MS) : Nat → MS → Int32 → Int32 → Int32 → Int32 → Prop
  | 0, _, _, _, _, _ => False
  | n38 + 1, U38, v38_1, v38_2, v38_3, v38_4 => (wfC U38 ∧ ((v38_3.toInt ≤ v38_4.toInt ∧ (ro = v38_2 ∧ uo = U38)) ∨ (¬ v38_3.toInt ≤ v38_4.toInt ∧ (d_X8_targetAt U38 (qO U38 66 0) v38_1 v38_4 ∧ (∃ a20 : Int32, a20 = (fX8_targetAt U38 (qO U38 66 0) v38_1 v38_4) ∧ (d_X9_liveAt U38 a20 ∧ (∃ a24 : Int32, a24 = (fX9_liveAt U38 a20) ∧ (∃ a26 : Int32, a26 = (v38_2 ||| a24) ∧ (∃ a27 : Int32, a27 = (v38_4 + Int32.ofInt 1) ∧ ((v_X9_liveBehind_L38 ro uo n38) U38 v38_1 a26 v38_3 a27))))))))))
def v_X9_liveBehind_J25 (ro : Int32) (uo : MS) (U25 : MS) (t25_0 : Int32) (v25_1 : Int32) : Prop := (wfC U25 ∧ (d_X8_targetCount U25 (qO U25 66 0) v25_1 ∧ (∃ a14 : Int32, a14 = (fX8_targetCount U25 (qO U25 66 0) v25_1) ∧ (∃ n, v_X9_liveBehind_L38 ro uo n U25 v25_1 t25_0 a14 0))))
def vX9_liveBehind (S : MS) (x1 : Int32) (ro : Int32) (uo : MS) : Prop := (d_X8_opAt S (qO S 66 0) x1 ∧ (∃ a5 : Int32, a5 = (fX8_opAt S (qO S 66 0) x1) ∧ (d_X6_goesOn S a5 ∧ (∃ a9 : Int32, a9 = (fX6_goesOn S a5) ∧ ((a9.toInt = 0 ∧ (v_X9_liveBehind_J25 ro uo S 0 x1)) ∨ (¬ a9.toInt = 0 ∧ (d_X9_liveAt S (x1 + (1 : Int32)) ∧ (∃ a33 : Int32, a33 = (fX9_liveAt S (x1 + (1 : Int32))) ∧ (v_X9_liveBehind_J25 ro uo S a33 x1)))))))))
set_option maxRecDepth 100000 in
theorem ru_X9_liveBehind_L38 {ι : Type} {P Q : Int32 → MS → Prop} : ∀ (n : Nat) {U38 : MS} {v38_1 : Int32} {v38_2 : Int32} {v38_3 : Int32} {v38_4 : Int32} (i0 : ι), (∀ (i : ι) (ro : Int32) (uo : MS), (∃ n8, v_X9_liveBehind_L38 ro uo n8 U38 v38_1 v38_2 v38_3 v38_4) → P ro uo) → w_X9_liveBehind_L38 Q n U38 v38_1 v38_2 v38_3 v38_4 → w_X9_liveBehind_L38 (fun r u => Q r u ∧ P r u) n U38 v38_1 v38_2 v38_3 v38_4 := by
  intro n
  induction n with
  | zero => intro U38 v38_1 v38_2 v38_3 v38_4 i0 K h; unfold w_X9_liveBehind_L38 at h; exact h.elim
  | succ n ih =>
    intro U38 v38_1 v38_2 v38_3 v38_4 i0 K h
    unfold w_X9_liveBehind_L38 at h ⊢
    replace K := fun (i : ι × Nat) ro uo (z : v_X9_liveBehind_L38 ro uo (i.2 + 1) U38 v38_1 v38_2 v38_3 v38_4) => K i.1 ro uo ⟨i.2 + 1, z⟩
    have i00 := i0
    replace i0 : ι × Nat := (i0, 0)
    intro y1_
    replace h := h y1_
    replace K := fun i ro uo z => K i ro uo ⟨y1_, z⟩
    refine ⟨fun c => ?_, fun c => ?_⟩
    · replace h := h.1 c
      replace K := fun i ro uo z => K i ro uo (Or.inl ⟨c, z⟩)
      exact ⟨h, K i0 _ _ ⟨rfl, rfl⟩⟩
    · replace h := h.2 c
      replace K := fun i ro uo z => K i ro uo (Or.inr ⟨c, z⟩)
      obtain ⟨g2_, h⟩ := h
      refine ⟨g2_, ?_⟩
      replace K := fun i ro uo z => K i ro uo ⟨g2_, z⟩
      intro a20 ea20 
      replace h := h a20 ea20 
      replace K := fun i ro uo z => K i ro uo ⟨a20, ea20, z⟩
      obtain ⟨g3_, h⟩ := h
      refine ⟨g3_, ?_⟩
      replace K := fun i ro uo z => K i ro uo ⟨g3_, z⟩
      intro a24 ea24 
      replace h := h a24 ea24 
      replace K := fun i ro uo z => K i ro uo ⟨a24, ea24, z⟩
      intro a26 ea26 
      replace h := h a26 ea26 
      replace K := fun i ro uo z => K i ro uo ⟨a26, ea26, z⟩
      intro a27 ea27 
      replace h := h a27 ea27 
      replace K := fun i ro uo z => K i ro uo ⟨a27, ea27, z⟩
      exact ih i00 (fun i ro uo ⟨n8, z⟩ => K (i, n8) ro uo z) h
set_option maxRecDepth 100000 in
theorem ru_X9_liveBehind_J25 {ι : Type} {P Q : Int32 → MS → Prop} {U25 : MS} {t25_0 : Int32} {v25_1 : Int32} (i0 : ι) (K : ∀ (i : ι) (ro : Int32) (uo : MS), v_X9_liveBehind_J25 ro uo U25 t25_0 v25_1 → P ro uo) (h : w_X9_liveBehind_J25 Q U25 t25_0 v25_1) : w_X9_liveBehind_J25 (fun r u => Q r u ∧ P r u) U25 t25_0 v25_1 := by
  unfold w_X9_liveBehind_J25 at h ⊢
  intro y4_
  replace h := h y4_
  replace K := fun i ro uo z => K i ro uo ⟨y4_, z⟩
  obtain ⟨g5_, h⟩ := h
  refine ⟨g5_, ?_⟩
  replace K := fun i ro uo z => K i ro uo ⟨g5_, z⟩
  intro a14 ea14 
  replace h := h a14 ea14 
  replace K := fun i ro uo z => K i ro uo ⟨a14, ea14, z⟩
  obtain ⟨n9, h⟩ := h
  exact ⟨n9, ru_X9_liveBehind_L38 n9 i0 K h⟩
set_option maxRecDepth 100000 in
theorem ruX9_liveBehind {S : MS} {x1 : Int32} {Q : Int32 → MS → Prop} (h : wX9_liveBehind S x1 Q) : wX9_liveBehind S x1 (fun r u => Q r u ∧ vX9_liveBehind S x1 r u) := by
  have i0 : Unit := ()
  have K : ∀ (i : Unit) (ro : Int32) (uo : MS), vX9_liveBehind S x1 ro uo → vX9_liveBehind S x1 ro uo := fun _ _ _ z => z
  unfold wX9_liveBehind at h ⊢
  obtain ⟨g6_, h⟩ := h
  refine ⟨g6_, ?_⟩
  replace K := fun i ro uo z => K i ro uo ⟨g6_, z⟩
  intro a5 ea5 
  replace h := h a5 ea5 
  replace K := fun i ro uo z => K i ro uo ⟨a5, ea5, z⟩
  obtain ⟨g7_, h⟩ := h
  refine ⟨g7_, ?_⟩
  replace K := fun i ro uo z => K i ro uo ⟨g7_, z⟩
  intro a9 ea9 
  replace h := h a9 ea9 
  replace K := fun i ro uo z => K i ro uo ⟨a9, ea9, z⟩
  refine ⟨fun c => ?_, fun c => ?_⟩
  · replace h := h.1 c
    replace K := fun i ro uo z => K i ro uo (Or.inl ⟨c, z⟩)
    exact ru_X9_liveBehind_J25 i0 K h
  · replace h := h.2 c
    replace K := fun i ro uo z => K i ro uo (Or.inr ⟨c, z⟩)
    obtain ⟨g8_, h⟩ := h
    refine ⟨g8_, ?_⟩
    replace K := fun i ro uo z => K i ro uo ⟨g8_, z⟩
    intro a33 ea33 
    replace h := h a33 ea33 
    replace K := fun i ro uo z => K i ro uo ⟨a33, ea33, z⟩
    exact ru_X9_liveBehind_J25 i0 K h
set_option maxRecDepth 100000 in
theorem vw_X9_liveBehind_L38 {ro : Int32} {uo : MS} : ∀ (n : Nat) {U38 : MS} {v38_1 : Int32} {v38_2 : Int32} {v38_3 : Int32} {v38_4 : Int32}, v_X9_liveBehind_L38 ro uo n U38 v38_1 v38_2 v38_3 v38_4 → w_X9_liveBehind_L38 (fun r u => r = ro ∧ u = uo) n U38 v38_1 v38_2 v38_3 v38_4 := by
  intro n
  induction n with
  | zero => intro U38 v38_1 v38_2 v38_3 v38_4 h; unfold v_X9_liveBehind_L38 at h; exact h.elim
  | succ n ih =>
    intro U38 v38_1 v38_2 v38_3 v38_4 h
    unfold v_X9_liveBehind_L38 at h
    unfold w_X9_liveBehind_L38
    intro _
    replace h := h.2
    rcases h with ⟨c, h⟩ | ⟨c, h⟩
    · refine ⟨fun _ => ?_, fun c2 => absurd c c2⟩
      exact ⟨h.1.symm, h.2.symm⟩
    · refine ⟨fun c2 => absurd c2 c, fun _ => ?_⟩
      obtain ⟨g9, h⟩ := h
      refine ⟨g9, ?_⟩
      obtain ⟨v9, e9, h⟩ := h
      intro x9 d9 
      have c9 : v9 = x9 := e9.trans d9.symm
      subst c9
      obtain ⟨g9, h⟩ := h
      refine ⟨g9, ?_⟩
      obtain ⟨v9, e9, h⟩ := h
      intro x9 d9 
      have c9 : v9 = x9 := e9.trans d9.symm
      subst c9
      obtain ⟨v9, e9, h⟩ := h
      intro x9 d9 
      have c9 : v9 = x9 := e9.trans d9.symm
      subst c9
      obtain ⟨v9, e9, h⟩ := h
      intro x9 d9 
      have c9 : v9 = x9 := e9.trans d9.symm
      subst c9
      exact ih h
set_option maxRecDepth 100000 in
theorem vp_X9_liveBehind_L38 {ro : Int32} {uo : MS} {P : Int32 → MS → Prop} : ∀ (n m : Nat) {U38 : MS} {v38_1 : Int32} {v38_2 : Int32} {v38_3 : Int32} {v38_4 : Int32}, v_X9_liveBehind_L38 ro uo n U38 v38_1 v38_2 v38_3 v38_4 → w_X9_liveBehind_L38 P m U38 v38_1 v38_2 v38_3 v38_4 → P ro uo := by
  intro n
  induction n with
  | zero => intro m U38 v38_1 v38_2 v38_3 v38_4 h; unfold v_X9_liveBehind_L38 at h; exact h.elim
  | succ n ih =>
    intro m U38 v38_1 v38_2 v38_3 v38_4 h w
    cases m with
    | zero => unfold w_X9_liveBehind_L38 at w; exact w.elim
    | succ m =>
      unfold v_X9_liveBehind_L38 at h
      unfold w_X9_liveBehind_L38 at w
      obtain ⟨y1_, h⟩ := h
      replace w := w y1_
      rcases h with ⟨c, h⟩ | ⟨c, h⟩
      · replace w := w.1 c
        rw [h.1, h.2]
        exact w
      · replace w := w.2 c
        replace h := h.2
        replace w := w.2
        obtain ⟨v9, e9, h⟩ := h
        replace w := w v9 e9 
        replace h := h.2
        replace w := w.2
        obtain ⟨v9, e9, h⟩ := h
        replace w := w v9 e9 
        obtain ⟨v9, e9, h⟩ := h
        replace w := w v9 e9 
        obtain ⟨v9, e9, h⟩ := h
        replace w := w v9 e9 
        exact ih m h w
set_option maxRecDepth 100000 in
theorem vw_X9_liveBehind_J25 {ro : Int32} {uo : MS} {U25 : MS} {t25_0 : Int32} {v25_1 : Int32} (h : v_X9_liveBehind_J25 ro uo U25 t25_0 v25_1) : w_X9_liveBehind_J25 (fun r u => r = ro ∧ u = uo) U25 t25_0 v25_1 := by
  unfold v_X9_liveBehind_J25 at h
  unfold w_X9_liveBehind_J25
  intro _
  replace h := h.2
  obtain ⟨g9, h⟩ := h
  refine ⟨g9, ?_⟩
  obtain ⟨v9, e9, h⟩ := h
  intro x9 d9 
  have c9 : v9 = x9 := e9.trans d9.symm
  subst c9
  obtain ⟨n9, h⟩ := h
  exact ⟨n9, vw_X9_liveBehind_L38 n9 h⟩
set_option maxRecDepth 100000 in
theorem vp_X9_liveBehind_J25 {ro : Int32} {uo : MS} {P : Int32 → MS → Prop} {U25 : MS} {t25_0 : Int32} {v25_1 : Int32} (h : v_X9_liveBehind_J25 ro uo U25 t25_0 v25_1) (w : w_X9_liveBehind_J25 P U25 t25_0 v25_1) : P ro uo := by
  unfold v_X9_liveBehind_J25 at h
  unfold w_X9_liveBehind_J25 at w
  obtain ⟨y2_, h⟩ := h
  replace w := w y2_
  replace h := h.2
  replace w := w.2
  obtain ⟨v9, e9, h⟩ := h
  replace w := w v9 e9 
  obtain ⟨n9, h⟩ := h
  obtain ⟨n8, w⟩ := w
  exact vp_X9_liveBehind_L38 n9 n8 h w
set_option maxRecDepth 100000 in
theorem vwX9_liveBehind {S : MS} {x1 : Int32} {ro : Int32} {uo : MS} (h : vX9_liveBehind S x1 ro uo) : wX9_liveBehind S x1 (fun r u => r = ro ∧ u = uo) := by
  unfold vX9_liveBehind at h
  unfold wX9_liveBehind
  obtain ⟨g9, h⟩ := h
  refine ⟨g9, ?_⟩
  obtain ⟨v9, e9, h⟩ := h
  intro x9 d9 
  have c9 : v9 = x9 := e9.trans d9.symm
  subst c9
  obtain ⟨g9, h⟩ := h
  refine ⟨g9, ?_⟩
  obtain ⟨v9, e9, h⟩ := h
  intro x9 d9 
  have c9 : v9 = x9 := e9.trans d9.symm
  subst c9
  rcases h with ⟨c, h⟩ | ⟨c, h⟩
  · refine ⟨fun _ => ?_, fun c2 => absurd c c2⟩
    exact vw_X9_liveBehind_J25 h
  · refine ⟨fun c2 => absurd c2 c, fun _ => ?_⟩
    obtain ⟨g9, h⟩ := h
    refine ⟨g9, ?_⟩
    obtain ⟨v9, e9, h⟩ := h
    intro x9 d9 
    have c9 : v9 = x9 := e9.trans d9.symm
    subst c9
    exact vw_X9_liveBehind_J25 h
set_option maxRecDepth 100000 in
theorem vpX9_liveBehind {S : MS} {x1 : Int32} {ro : Int32} {uo : MS} {P : Int32 → MS → Prop} (h : vX9_liveBehind S x1 ro uo) (w : wX9_liveBehind S x1 P) : P ro uo := by
  unfold vX9_liveBehind at h
  unfold wX9_liveBehind at w
  replace h := h.2
  replace w := w.2
  obtain ⟨v9, e9, h⟩ := h
  replace w := w v9 e9 
  replace h := h.2
  replace w := w.2
  obtain ⟨v9, e9, h⟩ := h
  replace w := w v9 e9 
  rcases h with ⟨c, h⟩ | ⟨c, h⟩
  · replace w := w.1 c
    exact vp_X9_liveBehind_J25 h w
  · replace w := w.2 c
    replace h := h.2
    replace w := w.2
    obtain ⟨v9, e9, h⟩ := h
    replace w := w v9 e9 
    exact vp_X9_liveBehind_J25 h w
def v_X11_entryOfWanted_J166 (ro : Int32) (uo : MS) (U166 : MS) (v166_1 : Int32) : Prop := (wfC U166 ∧ (ro = ((qI U166 25 5) - v166_1) ∧ uo = U166))
def v_X11_entryOfWanted_J52 (ro : Int32) (uo : MS) (U52 : MS) (t52_0 : Int32) : Prop := (wfC U52 ∧ ((((qI U52 25 5) + t52_0).toInt ≤ 500 ∧ (((0 : Int) ≤ (qI U52 25 5).toInt ∧ (qI U52 25 5).toInt < 500) ∧ (∃ S7 : MS, S7 = wI U52 32 (((qI U52 25 5).toInt).toNat) (qI U52 26 1) ∧ qT U52 32 = 238 ∧ wfC S7 ∧ (qT S7 26 = 40 ∧ qT S7 30 = 40 ∧ (∃ (S9 : MS), vX0_putAll S7 26 30 S9 ∧ wfC S9 ∧ shx S7 S9 ∧ (((0 : Int) ≤ (qI S9 25 5).toInt ∧ (qI S9 25 5).toInt < 500) ∧ (∃ S13 : MS, S13 = wI S9 33 (((qI S9 25 5).toInt).toNat) (qI S9 26 1) ∧ qT S9 33 = 239 ∧ wfC S13 ∧ (∃ S15 : MS, S15 = wI S13 25 5 ((qI S13 25 5) + t52_0) ∧ qT S13 25 = 50 ∧ wfC S15 ∧ ((t52_0.toInt = 2 ∧ (((0 : Int) ≤ ((qI S15 25 5) - (1 : Int32)).toInt ∧ ((qI S15 25 5) - (1 : Int32)).toInt < 500) ∧ (∃ S20 : MS, S20 = wI S15 32 ((((qI S15 25 5) - (1 : Int32)).toInt).toNat) (qI S15 26 1) ∧ qT S15 32 = 238 ∧ wfC S20 ∧ (((0 : Int) ≤ ((qI S20 25 5) - (1 : Int32)).toInt ∧ ((qI S20 25 5) - (1 : Int32)).toInt < 500) ∧ (∃ S23 : MS, S23 = wI S20 33 ((((qI S20 25 5) - (1 : Int32)).toInt).toNat) (qI S20 26 1) ∧ qT S20 33 = 239 ∧ wfC S23 ∧ (v_X11_entryOfWanted_J166 ro uo S23 t52_0)))))) ∨ (¬ t52_0.toInt = 2 ∧ (v_X11_entryOfWanted_J166 ro uo S15 t52_0))))))))))) ∨ (¬ ((qI U52 25 5) + t52_0).toInt ≤ 500 ∧ (∃ S24 : MS, S24 = wI U52 25 6 (1 : Int32) ∧ qT U52 25 = 50 ∧ wfC S24 ∧ (ro = (0 : Int32) ∧ uo = S24)))))
def v_X11_entryOfWanted_J35 (ro : Int32) (uo : MS) (U35 : MS) : Prop := (wfC U35 ∧ (d_X0_get U35 30 (0 : Int32) ∧ (((fX0_get U35 30 (0 : Int32)).toInt = 5 ∧ (v_X11_entryOfWanted_J52 ro uo U35 2)) ∨ (¬ (fX0_get U35 30 (0 : Int32)).toInt = 5 ∧ (v_X11_entryOfWanted_J52 ro uo U35 1)))))
def v_X11_entryOfWanted_L2 (ro : Int32) (uo : MS) : Nat → MS → Int32 → Prop
  | 0, _, _ => False
  | n2 + 1, U2, v2_1 => (wfC U2 ∧ (((qI U2 25 5).toInt ≤ v2_1.toInt ∧ (v_X11_entryOfWanted_J35 ro uo U2)) ∨ (¬ (qI U2 25 5).toInt ≤ v2_1.toInt ∧ ((500 ≤ v2_1.toInt ∧ (v_X11_entryOfWanted_J35 ro uo U2)) ∨ (¬ 500 ≤ v2_1.toInt ∧ (∃ (r29 : Int32) (S30 : MS), vX11_isWanted U2 v2_1 r29 S30 ∧ wfC S30 ∧ shy U2 S30 ∧ ((r29.toInt = 0 ∧ (∃ a33 : Int32, a33 = (v2_1 + Int32.ofInt 1) ∧ ((v_X11_entryOfWanted_L2 ro uo n2) S30 a33))) ∨ (¬ r29.toInt = 0 ∧ (ro = v2_1 ∧ uo = S30)))))))))
def vX11_entryOfWanted (S : MS) (ro : Int32) (uo : MS) : Prop := (∃ n, v_X11_entryOfWanted_L2 ro uo n S 1)
set_option maxRecDepth 100000 in
theorem ru_X11_entryOfWanted_J166 {ι : Type} {P Q : Int32 → MS → Prop} {U166 : MS} {v166_1 : Int32} (i0 : ι) (K : ∀ (i : ι) (ro : Int32) (uo : MS), v_X11_entryOfWanted_J166 ro uo U166 v166_1 → P ro uo) (h : w_X11_entryOfWanted_J166 Q U166 v166_1) : w_X11_entryOfWanted_J166 (fun r u => Q r u ∧ P r u) U166 v166_1 := by
  unfold w_X11_entryOfWanted_J166 at h ⊢
  intro y1_
  replace h := h y1_
  replace K := fun i ro uo z => K i ro uo ⟨y1_, z⟩
  exact ⟨h, K i0 _ _ ⟨rfl, rfl⟩⟩
set_option maxRecDepth 100000 in
theorem ru_X11_entryOfWanted_J52 {ι : Type} {P Q : Int32 → MS → Prop} {U52 : MS} {t52_0 : Int32} (i0 : ι) (K : ∀ (i : ι) (ro : Int32) (uo : MS), v_X11_entryOfWanted_J52 ro uo U52 t52_0 → P ro uo) (h : w_X11_entryOfWanted_J52 Q U52 t52_0) : w_X11_entryOfWanted_J52 (fun r u => Q r u ∧ P r u) U52 t52_0 := by
  unfold w_X11_entryOfWanted_J52 at h ⊢
  intro y2_
  replace h := h y2_
  replace K := fun i ro uo z => K i ro uo ⟨y2_, z⟩
  refine ⟨fun c => ?_, fun c => ?_⟩
  · replace h := h.1 c
    replace K := fun i ro uo z => K i ro uo (Or.inl ⟨c, z⟩)
    obtain ⟨g3_, h⟩ := h
    refine ⟨g3_, ?_⟩
    replace K := fun i ro uo z => K i ro uo ⟨g3_, z⟩
    intro S7 eS7 y4_ y5_
    replace h := h S7 eS7 y4_ y5_
    replace K := fun i ro uo z => K i ro uo ⟨S7, eS7, y4_, y5_, z⟩
    intro y6_ y7_
    replace h := h y6_ y7_
    replace K := fun i ro uo z => K i ro uo ⟨y6_, y7_, z⟩
    obtain ⟨Q9, h0, h⟩ := h
    refine ⟨_, ruX0_putAll h0, ?_⟩
    intro S9 q8_ y9_ y10_
    replace h := h S9 q8_.1 y9_ y10_
    replace K := fun i ro uo z => K i ro uo ⟨S9, q8_.2, y9_, y10_, z⟩
    obtain ⟨g11_, h⟩ := h
    refine ⟨g11_, ?_⟩
    replace K := fun i ro uo z => K i ro uo ⟨g11_, z⟩
    intro S13 eS13 y12_ y13_
    replace h := h S13 eS13 y12_ y13_
    replace K := fun i ro uo z => K i ro uo ⟨S13, eS13, y12_, y13_, z⟩
    intro S15 eS15 y14_ y15_
    replace h := h S15 eS15 y14_ y15_
    replace K := fun i ro uo z => K i ro uo ⟨S15, eS15, y14_, y15_, z⟩
    refine ⟨fun c => ?_, fun c => ?_⟩
    · replace h := h.1 c
      replace K := fun i ro uo z => K i ro uo (Or.inl ⟨c, z⟩)
      obtain ⟨g16_, h⟩ := h
      refine ⟨g16_, ?_⟩
      replace K := fun i ro uo z => K i ro uo ⟨g16_, z⟩
      intro S20 eS20 y17_ y18_
      replace h := h S20 eS20 y17_ y18_
      replace K := fun i ro uo z => K i ro uo ⟨S20, eS20, y17_, y18_, z⟩
      obtain ⟨g19_, h⟩ := h
      refine ⟨g19_, ?_⟩
      replace K := fun i ro uo z => K i ro uo ⟨g19_, z⟩
      intro S23 eS23 y20_ y21_
      replace h := h S23 eS23 y20_ y21_
      replace K := fun i ro uo z => K i ro uo ⟨S23, eS23, y20_, y21_, z⟩
      exact ru_X11_entryOfWanted_J166 i0 K h
    · replace h := h.2 c
      replace K := fun i ro uo z => K i ro uo (Or.inr ⟨c, z⟩)
      exact ru_X11_entryOfWanted_J166 i0 K h
  · replace h := h.2 c
    replace K := fun i ro uo z => K i ro uo (Or.inr ⟨c, z⟩)
    intro S24 eS24 y22_ y23_
    replace h := h S24 eS24 y22_ y23_
    replace K := fun i ro uo z => K i ro uo ⟨S24, eS24, y22_, y23_, z⟩
    exact ⟨h, K i0 _ _ ⟨rfl, rfl⟩⟩
set_option maxRecDepth 100000 in
theorem ru_X11_entryOfWanted_J35 {ι : Type} {P Q : Int32 → MS → Prop} {U35 : MS} (i0 : ι) (K : ∀ (i : ι) (ro : Int32) (uo : MS), v_X11_entryOfWanted_J35 ro uo U35 → P ro uo) (h : w_X11_entryOfWanted_J35 Q U35) : w_X11_entryOfWanted_J35 (fun r u => Q r u ∧ P r u) U35 := by
  unfold w_X11_entryOfWanted_J35 at h ⊢
  intro y24_
  replace h := h y24_
  replace K := fun i ro uo z => K i ro uo ⟨y24_, z⟩
  obtain ⟨g25_, h⟩ := h
  refine ⟨g25_, ?_⟩
  replace K := fun i ro uo z => K i ro uo ⟨g25_, z⟩
  refine ⟨fun c => ?_, fun c => ?_⟩
  · replace h := h.1 c
    replace K := fun i ro uo z => K i ro uo (Or.inl ⟨c, z⟩)
    exact ru_X11_entryOfWanted_J52 i0 K h
  · replace h := h.2 c
    replace K := fun i ro uo z => K i ro uo (Or.inr ⟨c, z⟩)
    exact ru_X11_entryOfWanted_J52 i0 K h
set_option maxRecDepth 100000 in
theorem ru_X11_entryOfWanted_L2 {ι : Type} {P Q : Int32 → MS → Prop} : ∀ (n : Nat) {U2 : MS} {v2_1 : Int32} (i0 : ι), (∀ (i : ι) (ro : Int32) (uo : MS), (∃ n8, v_X11_entryOfWanted_L2 ro uo n8 U2 v2_1) → P ro uo) → w_X11_entryOfWanted_L2 Q n U2 v2_1 → w_X11_entryOfWanted_L2 (fun r u => Q r u ∧ P r u) n U2 v2_1 := by
  intro n
  induction n with
  | zero => intro U2 v2_1 i0 K h; unfold w_X11_entryOfWanted_L2 at h; exact h.elim
  | succ n ih =>
    intro U2 v2_1 i0 K h
    unfold w_X11_entryOfWanted_L2 at h ⊢
    replace K := fun (i : ι × Nat) ro uo (z : v_X11_entryOfWanted_L2 ro uo (i.2 + 1) U2 v2_1) => K i.1 ro uo ⟨i.2 + 1, z⟩
    have i00 := i0
    replace i0 : ι × Nat := (i0, 0)
    intro y26_
    replace h := h y26_
    replace K := fun i ro uo z => K i ro uo ⟨y26_, z⟩
    refine ⟨fun c => ?_, fun c => ?_⟩
    · replace h := h.1 c
      replace K := fun i ro uo z => K i ro uo (Or.inl ⟨c, z⟩)
      exact ru_X11_entryOfWanted_J35 i0 K h
    · replace h := h.2 c
      replace K := fun i ro uo z => K i ro uo (Or.inr ⟨c, z⟩)
      refine ⟨fun c => ?_, fun c => ?_⟩
      · replace h := h.1 c
        replace K := fun i ro uo z => K i ro uo (Or.inl ⟨c, z⟩)
        exact ru_X11_entryOfWanted_J35 i0 K h
      · replace h := h.2 c
        replace K := fun i ro uo z => K i ro uo (Or.inr ⟨c, z⟩)
        obtain ⟨Q9, h0, h⟩ := h
        refine ⟨_, ruX11_isWanted h0, ?_⟩
        intro r29 S30 q27_ y28_ y29_
        replace h := h r29 S30 q27_.1 y28_ y29_
        replace K := fun i ro uo z => K i ro uo ⟨r29, S30, q27_.2, y28_, y29_, z⟩
        refine ⟨fun c => ?_, fun c => ?_⟩
        · replace h := h.1 c
          replace K := fun i ro uo z => K i ro uo (Or.inl ⟨c, z⟩)
          intro a33 ea33 
          replace h := h a33 ea33 
          replace K := fun i ro uo z => K i ro uo ⟨a33, ea33, z⟩
          exact ih i00 (fun i ro uo ⟨n8, z⟩ => K (i, n8) ro uo z) h
        · replace h := h.2 c
          replace K := fun i ro uo z => K i ro uo (Or.inr ⟨c, z⟩)
          exact ⟨h, K i0 _ _ ⟨rfl, rfl⟩⟩
set_option maxRecDepth 100000 in
theorem ruX11_entryOfWanted {S : MS} {Q : Int32 → MS → Prop} (h : wX11_entryOfWanted S Q) : wX11_entryOfWanted S (fun r u => Q r u ∧ vX11_entryOfWanted S r u) := by
  have i0 : Unit := ()
  have K : ∀ (i : Unit) (ro : Int32) (uo : MS), vX11_entryOfWanted S ro uo → vX11_entryOfWanted S ro uo := fun _ _ _ z => z
  unfold wX11_entryOfWanted at h ⊢
  obtain ⟨n9, h⟩ := h
  exact ⟨n9, ru_X11_entryOfWanted_L2 n9 i0 K h⟩
set_option maxRecDepth 100000 in
theorem vw_X11_entryOfWanted_J166 {ro : Int32} {uo : MS} {U166 : MS} {v166_1 : Int32} (h : v_X11_entryOfWanted_J166 ro uo U166 v166_1) : w_X11_entryOfWanted_J166 (fun r u => r = ro ∧ u = uo) U166 v166_1 := by
  unfold v_X11_entryOfWanted_J166 at h
  unfold w_X11_entryOfWanted_J166
  intro _
  replace h := h.2
  exact ⟨h.1.symm, h.2.symm⟩
set_option maxRecDepth 100000 in
theorem vp_X11_entryOfWanted_J166 {ro : Int32} {uo : MS} {P : Int32 → MS → Prop} {U166 : MS} {v166_1 : Int32} (h : v_X11_entryOfWanted_J166 ro uo U166 v166_1) (w : w_X11_entryOfWanted_J166 P U166 v166_1) : P ro uo := by
  unfold v_X11_entryOfWanted_J166 at h
  unfold w_X11_entryOfWanted_J166 at w
  obtain ⟨y1_, h⟩ := h
  replace w := w y1_
  rw [h.1, h.2]
  exact w
set_option maxRecDepth 100000 in
theorem vw_X11_entryOfWanted_J52 {ro : Int32} {uo : MS} {U52 : MS} {t52_0 : Int32} (h : v_X11_entryOfWanted_J52 ro uo U52 t52_0) : w_X11_entryOfWanted_J52 (fun r u => r = ro ∧ u = uo) U52 t52_0 := by
  unfold v_X11_entryOfWanted_J52 at h
  unfold w_X11_entryOfWanted_J52
  intro _
  replace h := h.2
  rcases h with ⟨c, h⟩ | ⟨c, h⟩
  · refine ⟨fun _ => ?_, fun c2 => absurd c c2⟩
    obtain ⟨g9, h⟩ := h
    refine ⟨g9, ?_⟩
    obtain ⟨v9, e9, h⟩ := h
    intro x9 d9 _ _
    have c9 : v9 = x9 := e9.trans d9.symm
    subst c9
    replace h := h.2.2
    intro _ _
    replace h := h.2.2
    obtain ⟨q9, z9, h⟩ := h
    refine ⟨_, vwX0_putAll z9, ?_⟩
    intro q8 d9 _ _
    subst d9
    replace h := h.2.2
    obtain ⟨g9, h⟩ := h
    refine ⟨g9, ?_⟩
    obtain ⟨v9, e9, h⟩ := h
    intro x9 d9 _ _
    have c9 : v9 = x9 := e9.trans d9.symm
    subst c9
    replace h := h.2.2
    obtain ⟨v9, e9, h⟩ := h
    intro x9 d9 _ _
    have c9 : v9 = x9 := e9.trans d9.symm
    subst c9
    replace h := h.2.2
    rcases h with ⟨c, h⟩ | ⟨c, h⟩
    · refine ⟨fun _ => ?_, fun c2 => absurd c c2⟩
      obtain ⟨g9, h⟩ := h
      refine ⟨g9, ?_⟩
      obtain ⟨v9, e9, h⟩ := h
      intro x9 d9 _ _
      have c9 : v9 = x9 := e9.trans d9.symm
      subst c9
      replace h := h.2.2
      obtain ⟨g9, h⟩ := h
      refine ⟨g9, ?_⟩
      obtain ⟨v9, e9, h⟩ := h
      intro x9 d9 _ _
      have c9 : v9 = x9 := e9.trans d9.symm
      subst c9
      replace h := h.2.2
      exact vw_X11_entryOfWanted_J166 h
    · refine ⟨fun c2 => absurd c2 c, fun _ => ?_⟩
      exact vw_X11_entryOfWanted_J166 h
  · refine ⟨fun c2 => absurd c2 c, fun _ => ?_⟩
    obtain ⟨v9, e9, h⟩ := h
    intro x9 d9 _ _
    have c9 : v9 = x9 := e9.trans d9.symm
    subst c9
    replace h := h.2.2
    exact ⟨h.1.symm, h.2.symm⟩
set_option maxRecDepth 100000 in
theorem vp_X11_entryOfWanted_J52 {ro : Int32} {uo : MS} {P : Int32 → MS → Prop} {U52 : MS} {t52_0 : Int32} (h : v_X11_entryOfWanted_J52 ro uo U52 t52_0) (w : w_X11_entryOfWanted_J52 P U52 t52_0) : P ro uo := by
  unfold v_X11_entryOfWanted_J52 at h
  unfold w_X11_entryOfWanted_J52 at w
  obtain ⟨y2_, h⟩ := h
  replace w := w y2_
  rcases h with ⟨c, h⟩ | ⟨c, h⟩
  · replace w := w.1 c
    replace h := h.2
    replace w := w.2
    obtain ⟨v9, e9, y3_, y4_, h⟩ := h
    replace w := w v9 e9 y3_ y4_
    obtain ⟨y5_, y6_, h⟩ := h
    replace w := w y5_ y6_
    obtain ⟨q9, z9, y7_, y8_, h⟩ := h
    obtain ⟨Q9, w0, w⟩ := w
    replace w := w q9 (vpX0_putAll z9 w0) y7_ y8_
    replace h := h.2
    replace w := w.2
    obtain ⟨v9, e9, y9_, y10_, h⟩ := h
    replace w := w v9 e9 y9_ y10_
    obtain ⟨v9, e9, y11_, y12_, h⟩ := h
    replace w := w v9 e9 y11_ y12_
    rcases h with ⟨c, h⟩ | ⟨c, h⟩
    · replace w := w.1 c
      replace h := h.2
      replace w := w.2
      obtain ⟨v9, e9, y13_, y14_, h⟩ := h
      replace w := w v9 e9 y13_ y14_
      replace h := h.2
      replace w := w.2
      obtain ⟨v9, e9, y15_, y16_, h⟩ := h
      replace w := w v9 e9 y15_ y16_
      exact vp_X11_entryOfWanted_J166 h w
    · replace w := w.2 c
      exact vp_X11_entryOfWanted_J166 h w
  · replace w := w.2 c
    obtain ⟨v9, e9, y17_, y18_, h⟩ := h
    replace w := w v9 e9 y17_ y18_
    rw [h.1, h.2]
    exact w
set_option maxRecDepth 100000 in
theorem vw_X11_entryOfWanted_J35 {ro : Int32} {uo : MS} {U35 : MS} (h : v_X11_entryOfWanted_J35 ro uo U35) : w_X11_entryOfWanted_J35 (fun r u => r = ro ∧ u = uo) U35 := by
  unfold v_X11_entryOfWanted_J35 at h
  unfold w_X11_entryOfWanted_J35
  intro _
  replace h := h.2
  obtain ⟨g9, h⟩ := h
  refine ⟨g9, ?_⟩
  rcases h with ⟨c, h⟩ | ⟨c, h⟩
  · refine ⟨fun _ => ?_, fun c2 => absurd c c2⟩
    exact vw_X11_entryOfWanted_J52 h
  · refine ⟨fun c2 => absurd c2 c, fun _ => ?_⟩
    exact vw_X11_entryOfWanted_J52 h
set_option maxRecDepth 100000 in
theorem vp_X11_entryOfWanted_J35 {ro : Int32} {uo : MS} {P : Int32 → MS → Prop} {U35 : MS} (h : v_X11_entryOfWanted_J35 ro uo U35) (w : w_X11_entryOfWanted_J35 P U35) : P ro uo := by
  unfold v_X11_entryOfWanted_J35 at h
  unfold w_X11_entryOfWanted_J35 at w
  obtain ⟨y19_, h⟩ := h
  replace w := w y19_
  replace h := h.2
  replace w := w.2
  rcases h with ⟨c, h⟩ | ⟨c, h⟩
  · replace w := w.1 c
    exact vp_X11_entryOfWanted_J52 h w
  · replace w := w.2 c
    exact vp_X11_entryOfWanted_J52 h w
set_option maxRecDepth 100000 in
theorem vw_X11_entryOfWanted_L2 {ro : Int32} {uo : MS} : ∀ (n : Nat) {U2 : MS} {v2_1 : Int32}, v_X11_entryOfWanted_L2 ro uo n U2 v2_1 → w_X11_entryOfWanted_L2 (fun r u => r = ro ∧ u = uo) n U2 v2_1 := by
  intro n
  induction n with
  | zero => intro U2 v2_1 h; unfold v_X11_entryOfWanted_L2 at h; exact h.elim
  | succ n ih =>
    intro U2 v2_1 h
    unfold v_X11_entryOfWanted_L2 at h
    unfold w_X11_entryOfWanted_L2
    intro _
    replace h := h.2
    rcases h with ⟨c, h⟩ | ⟨c, h⟩
    · refine ⟨fun _ => ?_, fun c2 => absurd c c2⟩
      exact vw_X11_entryOfWanted_J35 h
    · refine ⟨fun c2 => absurd c2 c, fun _ => ?_⟩
      rcases h with ⟨c, h⟩ | ⟨c, h⟩
      · refine ⟨fun _ => ?_, fun c2 => absurd c c2⟩
        exact vw_X11_entryOfWanted_J35 h
      · refine ⟨fun c2 => absurd c2 c, fun _ => ?_⟩
        obtain ⟨p9, q9, z9, h⟩ := h
        refine ⟨_, vwX11_isWanted z9, ?_⟩
        rintro p8 q8 ⟨d8, d9⟩ _ _
        subst d8
        subst d9
        replace h := h.2.2
        rcases h with ⟨c, h⟩ | ⟨c, h⟩
        · refine ⟨fun _ => ?_, fun c2 => absurd c c2⟩
          obtain ⟨v9, e9, h⟩ := h
          intro x9 d9 
          have c9 : v9 = x9 := e9.trans d9.symm
          subst c9
          exact ih h
        · refine ⟨fun c2 => absurd c2 c, fun _ => ?_⟩
          exact ⟨h.1.symm, h.2.symm⟩
set_option maxRecDepth 100000 in
theorem vp_X11_entryOfWanted_L2 {ro : Int32} {uo : MS} {P : Int32 → MS → Prop} : ∀ (n m : Nat) {U2 : MS} {v2_1 : Int32}, v_X11_entryOfWanted_L2 ro uo n U2 v2_1 → w_X11_entryOfWanted_L2 P m U2 v2_1 → P ro uo := by
  intro n
  induction n with
  | zero => intro m U2 v2_1 h; unfold v_X11_entryOfWanted_L2 at h; exact h.elim
  | succ n ih =>
    intro m U2 v2_1 h w
    cases m with
    | zero => unfold w_X11_entryOfWanted_L2 at w; exact w.elim
    | succ m =>
      unfold v_X11_entryOfWanted_L2 at h
      unfold w_X11_entryOfWanted_L2 at w
      obtain ⟨y20_, h⟩ := h
      replace w := w y20_
      rcases h with ⟨c, h⟩ | ⟨c, h⟩
      · replace w := w.1 c
        exact vp_X11_entryOfWanted_J35 h w
      · replace w := w.2 c
        rcases h with ⟨c, h⟩ | ⟨c, h⟩
        · replace w := w.1 c
          exact vp_X11_entryOfWanted_J35 h w
        · replace w := w.2 c
          obtain ⟨p9, q9, z9, y21_, y22_, h⟩ := h
          obtain ⟨Q9, w0, w⟩ := w
          replace w := w p9 q9 (vpX11_isWanted z9 w0) y21_ y22_
          rcases h with ⟨c, h⟩ | ⟨c, h⟩
          · replace w := w.1 c
            obtain ⟨v9, e9, h⟩ := h
            replace w := w v9 e9 
            exact ih m h w
          · replace w := w.2 c
            rw [h.1, h.2]
            exact w
set_option maxRecDepth 100000 in
theorem vwX11_entryOfWanted {S : MS} {ro : Int32} {uo : MS} (h : vX11_entryOfWanted S ro uo) : wX11_entryOfWanted S (fun r u => r = ro ∧ u = uo) := by
  unfold vX11_entryOfWanted at h
  unfold wX11_entryOfWanted
  obtain ⟨n9, h⟩ := h
  exact ⟨n9, vw_X11_entryOfWanted_L2 n9 h⟩
set_option maxRecDepth 100000 in
theorem vpX11_entryOfWanted {S : MS} {ro : Int32} {uo : MS} {P : Int32 → MS → Prop} (h : vX11_entryOfWanted S ro uo) (w : wX11_entryOfWanted S P) : P ro uo := by
  unfold vX11_entryOfWanted at h
  unfold wX11_entryOfWanted at w
  obtain ⟨n9, h⟩ := h
  obtain ⟨n8, w⟩ := w
  exact vp_X11_entryOfWanted_L2 n9 n8 h w
