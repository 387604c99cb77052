def v_X5_step_J244 (uo : MS) (U244 : MS) (v244_1 : Int32) : Prop := (wfC U244 ∧ (∃ (S34 : MS), vX5_useStage U244 v244_1 S34 ∧ wfC S34 ∧ shx U244 S34 ∧ (uo = S34)))
def v_X5_step_J225 (uo : MS) (U225 : MS) (v225_1 : Int32) : Prop := (wfC U225 ∧ ((178 ≤ v225_1.toInt ∧ (v_X5_step_J244 uo U225 v225_1)) ∨ (¬ 178 ≤ v225_1.toInt ∧ ((v225_1.toInt = 46 ∧ (v_X5_step_J244 uo U225 v225_1)) ∨ (¬ v225_1.toInt = 46 ∧ ((v225_1.toInt = 79 ∧ (v_X5_step_J244 uo U225 v225_1)) ∨ (¬ v225_1.toInt = 79 ∧ (∃ (S41 : MS), vX5_move U225 v225_1 S41 ∧ wfC S41 ∧ shy U225 S41 ∧ (∃ S44 : MS, S44 = wI S41 44 13 ((qI S41 44 13) + (1 : Int32)) ∧ qT S41 44 = 45 ∧ wfC S44 ∧ (uo = S44))))))))))
def v_X5_step_J203 (uo : MS) (U203 : MS) (v203_1 : Int32) : Prop := (wfC U203 ∧ ((v203_1.toInt < 172 ∧ (v_X5_step_J225 uo U203 v203_1)) ∨ (¬ v203_1.toInt < 172 ∧ ((177 < v203_1.toInt ∧ (v_X5_step_J225 uo U203 v203_1)) ∨ (¬ 177 < v203_1.toInt ∧ (∃ (S48 : MS), vX5_leave U203 v203_1 S48 ∧ wfC S48 ∧ shy U203 S48 ∧ (uo = S48)))))))
def v_X5_step_J132 (uo : MS) (U132 : MS) (t132_0 : Int32) : Prop := (wfC U132 ∧ (∃ S76 : MS, S76 = wI U132 44 13 t132_0 ∧ qT U132 44 = 45 ∧ wfC S76 ∧ (uo = S76)))
def v_X5_step_J40 (uo : MS) (U40 : MS) (v40_1 : Int32) : Prop := (wfC U40 ∧ (d_X6_isBinary U40 v40_1 ∧ (∃ a16 : Int32, a16 = (fX6_isBinary U40 v40_1) ∧ ((a16.toInt = 0 ∧ (d_X6_isUnary U40 v40_1 ∧ (∃ a21 : Int32, a21 = (fX6_isUnary U40 v40_1) ∧ ((a21.toInt = 0 ∧ (d_X6_isJump U40 v40_1 ∧ (∃ a26 : Int32, a26 = (fX6_isJump U40 v40_1) ∧ ((a26.toInt = 0 ∧ (d_X6_isSwitch U40 v40_1 ∧ (∃ a31 : Int32, a31 = (fX6_isSwitch U40 v40_1) ∧ ((a31.toInt = 0 ∧ ((v40_1.toInt < 87 ∧ (v_X5_step_J203 uo U40 v40_1)) ∨ (¬ v40_1.toInt < 87 ∧ ((95 < v40_1.toInt ∧ (v_X5_step_J203 uo U40 v40_1)) ∨ (¬ 95 < v40_1.toInt ∧ (∃ (S53 : MS), vX5_shuffle U40 v40_1 S53 ∧ wfC S53 ∧ shy U40 S53 ∧ (∃ S56 : MS, S56 = wI S53 44 13 ((qI S53 44 13) + (1 : Int32)) ∧ qT S53 44 = 45 ∧ wfC S56 ∧ (uo = S56)))))))) ∨ (¬ a31.toInt = 0 ∧ ((qR U40 44 12 = some (qO U40 44 12)) ∧ (∃ (r60 : Int64) (S61 : MS), vX5_pop U40 r60 S61 ∧ wfC S61 ∧ shy U40 S61 ∧ (∃ (r64 : Int32) (S65 : MS), vX5_switchChoice S61 v40_1 (r60.toInt32) r64 S65 ∧ wfC S65 ∧ shy S61 S65 ∧ (d_X8_targetAt S65 (qO U40 44 12) (qI U40 44 13) r64 ∧ (∃ a70 : Int32, a70 = (fX8_targetAt S65 (qO U40 44 12) (qI U40 44 13) r64) ∧ (∃ S71 : MS, S71 = wI S65 44 13 a70 ∧ qT S65 44 = 45 ∧ wfC S71 ∧ (uo = S71)))))))))))) ∨ (¬ a26.toInt = 0 ∧ (∃ (r73 : Int32) (S74 : MS), vX5_isJumpTaken U40 v40_1 r73 S74 ∧ wfC S74 ∧ shy U40 S74 ∧ ((r73.toInt = 0 ∧ (v_X5_step_J132 uo S74 ((qI S74 44 13) + (1 : Int32)))) ∨ (¬ r73.toInt = 0 ∧ ((qR S74 44 12 = some (qO S74 44 12)) ∧ (d_X8_argAt S74 (qO S74 44 12) (qI S74 44 13) ∧ (∃ a84 : Int64, a84 = (fX8_argAt S74 (qO S74 44 12) (qI S74 44 13)) ∧ (v_X5_step_J132 uo S74 (a84.toInt32))))))))))))) ∨ (¬ a21.toInt = 0 ∧ (d_X6_gives U40 v40_1 ∧ (∃ a88 : Int32, a88 = (fX6_gives U40 v40_1) ∧ (d_X6_takes U40 v40_1 ∧ (∃ a92 : Int32, a92 = (fX6_takes U40 v40_1) ∧ (∃ (r94 : Int64) (S95 : MS), vX5_pop_ U40 a92 r94 S95 ∧ wfC S95 ∧ shy U40 S95 ∧ (d_X6_unary S95 v40_1 r94 ∧ (∃ a100 : Int64, a100 = (fX6_unary S95 v40_1 r94) ∧ (∃ (S102 : MS), vX5_push_ S95 a88 a100 S102 ∧ wfC S102 ∧ shy S95 S102 ∧ (∃ S105 : MS, S105 = wI S102 44 13 ((qI S102 44 13) + (1 : Int32)) ∧ qT S102 44 = 45 ∧ wfC S105 ∧ (uo = S105))))))))))))))) ∨ (¬ a16.toInt = 0 ∧ (∃ (S107 : MS), vX5_calculate U40 v40_1 S107 ∧ wfC S107 ∧ shy U40 S107 ∧ (uo = S107)))))))
def vX5_step (S : MS) (uo : MS) : Prop := ((qR S 44 12 = some (qO S 44 12)) ∧ (d_X8_opAt S (qO S 44 12) (qI S 44 13) ∧ (∃ a6 : Int32, a6 = (fX8_opAt S (qO S 44 12) (qI S 44 13)) ∧ ((qR S 44 12 = some (qO S 44 12)) ∧ (d_X8_heightAt S (qO S 44 12) (qI S 44 13) ∧ (∃ a12 : Int32, a12 = (fX8_heightAt S (qO S 44 12) (qI S 44 13)) ∧ ((a12.toInt = (qI S 44 14).toInt ∧ (v_X5_step_J40 uo S a6)) ∨ (¬ a12.toInt = (qI S 44 14).toInt ∧ (∃ S111 : MS, S111 = wI S 44 19 ((qI S 44 19) + (1 : Int32)) ∧ qT S 44 = 45 ∧ wfC S111 ∧ (v_X5_step_J40 uo S111 a6))))))))))
set_option maxRecDepth 100000 in
theorem ru_X5_step_J244 {ι : Type} {P Q : MS → Prop} {U244 : MS} {v244_1 : Int32} (i0 : ι) (K : ∀ (i : ι) (uo : MS), v_X5_step_J244 uo U244 v244_1 → P uo) (h : w_X5_step_J244 Q U244 v244_1) : w_X5_step_J244 (fun u => Q u ∧ P u) U244 v244_1 := by
  unfold w_X5_step_J244 at h ⊢
  intro y1_
  replace h := h y1_
  replace K := fun i uo z => K i uo ⟨y1_, z⟩
  obtain ⟨Q9, h0, h⟩ := h
  refine ⟨_, ruX5_useStage h0, ?_⟩
  intro S34 q2_ y3_ y4_
  replace h := h S34 q2_.1 y3_ y4_
  replace K := fun i uo z => K i uo ⟨S34, q2_.2, y3_, y4_, z⟩
  exact ⟨h, K i0 _ rfl⟩
set_option maxRecDepth 100000 in
theorem ru_X5_step_J225 {ι : Type} {P Q : MS → Prop} {U225 : MS} {v225_1 : Int32} (i0 : ι) (K : ∀ (i : ι) (uo : MS), v_X5_step_J225 uo U225 v225_1 → P uo) (h : w_X5_step_J225 Q U225 v225_1) : w_X5_step_J225 (fun u => Q u ∧ P u) U225 v225_1 := by
  unfold w_X5_step_J225 at h ⊢
  intro y5_
  replace h := h y5_
  replace K := fun i uo z => K i uo ⟨y5_, z⟩
  refine ⟨fun c => ?_, fun c => ?_⟩
  · replace h := h.1 c
    replace K := fun i uo z => K i uo (Or.inl ⟨c, z⟩)
    exact ru_X5_step_J244 i0 K h
  · replace h := h.2 c
    replace K := fun i uo z => K i uo (Or.inr ⟨c, z⟩)
    refine ⟨fun c => ?_, fun c => ?_⟩
    · replace h := h.1 c
      replace K := fun i uo z => K i uo (Or.inl ⟨c, z⟩)
      exact ru_X5_step_J244 i0 K h
    · replace h := h.2 c
      replace K := fun i uo z => K i uo (Or.inr ⟨c, z⟩)
      refine ⟨fun c => ?_, fun c => ?_⟩
      · replace h := h.1 c
        replace K := fun i uo z => K i uo (Or.inl ⟨c, z⟩)
        exact ru_X5_step_J244 i0 K h
      · replace h := h.2 c
        replace K := fun i uo z => K i uo (Or.inr ⟨c, z⟩)
        obtain ⟨Q9, h0, h⟩ := h
        refine ⟨_, ruX5_move h0, ?_⟩
        intro S41 q6_ y7_ y8_
        replace h := h S41 q6_.1 y7_ y8_
        replace K := fun i uo z => K i uo ⟨S41, q6_.2, y7_, y8_, z⟩
        intro S44 eS44 y9_ y10_
        replace h := h S44 eS44 y9_ y10_
        replace K := fun i uo z => K i uo ⟨S44, eS44, y9_, y10_, z⟩
        exact ⟨h, K i0 _ rfl⟩
set_option maxRecDepth 100000 in
theorem ru_X5_step_J203 {ι : Type} {P Q : MS → Prop} {U203 : MS} {v203_1 : Int32} (i0 : ι) (K : ∀ (i : ι) (uo : MS), v_X5_step_J203 uo U203 v203_1 → P uo) (h : w_X5_step_J203 Q U203 v203_1) : w_X5_step_J203 (fun u => Q u ∧ P u) U203 v203_1 := by
  unfold w_X5_step_J203 at h ⊢
  intro y11_
  replace h := h y11_
  replace K := fun i uo z => K i uo ⟨y11_, z⟩
  refine ⟨fun c => ?_, fun c => ?_⟩
  · replace h := h.1 c
    replace K := fun i uo z => K i uo (Or.inl ⟨c, z⟩)
    exact ru_X5_step_J225 i0 K h
  · replace h := h.2 c
    replace K := fun i uo z => K i uo (Or.inr ⟨c, z⟩)
    refine ⟨fun c => ?_, fun c => ?_⟩
    · replace h := h.1 c
      replace K := fun i uo z => K i uo (Or.inl ⟨c, z⟩)
      exact ru_X5_step_J225 i0 K h
    · replace h := h.2 c
      replace K := fun i uo z => K i uo (Or.inr ⟨c, z⟩)
      obtain ⟨Q9, h0, h⟩ := h
      refine ⟨_, ruX5_leave h0, ?_⟩
      intro S48 q12_ y13_ y14_
      replace h := h S48 q12_.1 y13_ y14_
      replace K := fun i uo z => K i uo ⟨S48, q12_.2, y13_, y14_, z⟩
      exact ⟨h, K i0 _ rfl⟩
set_option maxRecDepth 100000 in
theorem ru_X5_step_J132 {ι : Type} {P Q : MS → Prop} {U132 : MS} {t132_0 : Int32} (i0 : ι) (K : ∀ (i : ι) (uo : MS), v_X5_step_J132 uo U132 t132_0 → P uo) (h : w_X5_step_J132 Q U132 t132_0) : w_X5_step_J132 (fun u => Q u ∧ P u) U132 t132_0 := by
  unfold w_X5_step_J132 at h ⊢
  intro y15_
  replace h := h y15_
  replace K := fun i uo z => K i uo ⟨y15_, z⟩
  intro S76 eS76 y16_ y17_
  replace h := h S76 eS76 y16_ y17_
  replace K := fun i uo z => K i uo ⟨S76, eS76, y16_, y17_, z⟩
  exact ⟨h, K i0 _ rfl⟩
set_option maxRecDepth 100000 in
theorem ru_X5_step_J40 {ι : Type} {P Q : MS → Prop} {U40 : MS} {v40_1 : Int32} (i0 : ι) (K : ∀ (i : ι) (uo : MS), v_X5_step_J40 uo U40 v40_1 → P uo) (h : w_X5_step_J40 Q U40 v40_1) : w_X5_step_J40 (fun u => Q u ∧ P u) U40 v40_1 := by
  unfold w_X5_step_J40 at h ⊢
  intro y18_
  replace h := h y18_
  replace K := fun i uo z => K i uo ⟨y18_, z⟩
  obtain ⟨g19_, h⟩ := h
  refine ⟨g19_, ?_⟩
  replace K := fun i uo z => K i uo ⟨g19_, z⟩
  intro a16 ea16 
  replace h := h a16 ea16 
  replace K := fun i uo z => K i uo ⟨a16, ea16, z⟩
  refine ⟨fun c => ?_, fun c => ?_⟩
  · replace h := h.1 c
    replace K := fun i uo z => K i uo (Or.inl ⟨c, z⟩)
    obtain ⟨g20_, h⟩ := h
    refine ⟨g20_, ?_⟩
    replace K := fun i uo z => K i uo ⟨g20_, z⟩
    intro a21 ea21 
    replace h := h a21 ea21 
    replace K := fun i uo z => K i uo ⟨a21, ea21, z⟩
    refine ⟨fun c => ?_, fun c => ?_⟩
    · replace h := h.1 c
      replace K := fun i uo z => K i uo (Or.inl ⟨c, z⟩)
      obtain ⟨g21_, h⟩ := h
      refine ⟨g21_, ?_⟩
      replace K := fun i uo z => K i uo ⟨g21_, z⟩
      intro a26 ea26 
      replace h := h a26 ea26 
      replace K := fun i uo z => K i uo ⟨a26, ea26, z⟩
      refine ⟨fun c => ?_, fun c => ?_⟩
      · replace h := h.1 c
        replace K := fun i uo z => K i uo (Or.inl ⟨c, z⟩)
        obtain ⟨g22_, h⟩ := h
        refine ⟨g22_, ?_⟩
        replace K := fun i uo z => K i uo ⟨g22_, z⟩
        intro a31 ea31 
        replace h := h a31 ea31 
        replace K := fun i uo z => K i uo ⟨a31, ea31, z⟩
        refine ⟨fun c => ?_, fun c => ?_⟩
        · replace h := h.1 c
          replace K := fun i uo z => K i uo (Or.inl ⟨c, z⟩)
          refine ⟨fun c => ?_, fun c => ?_⟩
          · replace h := h.1 c
            replace K := fun i uo z => K i uo (Or.inl ⟨c, z⟩)
            exact ru_X5_step_J203 i0 K h
          · replace h := h.2 c
            replace K := fun i uo z => K i uo (Or.inr ⟨c, z⟩)
            refine ⟨fun c => ?_, fun c => ?_⟩
            · replace h := h.1 c
              replace K := fun i uo z => K i uo (Or.inl ⟨c, z⟩)
              exact ru_X5_step_J203 i0 K h
            · replace h := h.2 c
              replace K := fun i uo z => K i uo (Or.inr ⟨c, z⟩)
              obtain ⟨Q9, h0, h⟩ := h
              refine ⟨_, ruX5_shuffle h0, ?_⟩
              intro S53 q23_ y24_ y25_
              replace h := h S53 q23_.1 y24_ y25_
              replace K := fun i uo z => K i uo ⟨S53, q23_.2, y24_, y25_, z⟩
              intro S56 eS56 y26_ y27_
              replace h := h S56 eS56 y26_ y27_
              replace K := fun i uo z => K i uo ⟨S56, eS56, y26_, y27_, z⟩
              exact ⟨h, K i0 _ rfl⟩
        · replace h := h.2 c
          replace K := fun i uo z => K i uo (Or.inr ⟨c, z⟩)
          obtain ⟨g28_, h⟩ := h
          refine ⟨g28_, ?_⟩
          replace K := fun i uo z => K i uo ⟨g28_, z⟩
          obtain ⟨Q9, h0, h⟩ := h
          refine ⟨_, ruX5_pop h0, ?_⟩
          intro r60 S61 q29_ y30_ y31_
          replace h := h r60 S61 q29_.1 y30_ y31_
          replace K := fun i uo z => K i uo ⟨r60, S61, q29_.2, y30_, y31_, z⟩
          obtain ⟨Q9, h0, h⟩ := h
          refine ⟨_, ruX5_switchChoice h0, ?_⟩
          intro r64 S65 q32_ y33_ y34_
          replace h := h r64 S65 q32_.1 y33_ y34_
          replace K := fun i uo z => K i uo ⟨r64, S65, q32_.2, y33_, y34_, z⟩
          obtain ⟨g35_, h⟩ := h
          refine ⟨g35_, ?_⟩
          replace K := fun i uo z => K i uo ⟨g35_, z⟩
          intro a70 ea70 
          replace h := h a70 ea70 
          replace K := fun i uo z => K i uo ⟨a70, ea70, z⟩
          intro S71 eS71 y36_ y37_
          replace h := h S71 eS71 y36_ y37_
          replace K := fun i uo z => K i uo ⟨S71, eS71, y36_, y37_, z⟩
          exact ⟨h, K i0 _ rfl⟩
      · replace h := h.2 c
        replace K := fun i uo z => K i uo (Or.inr ⟨c, z⟩)
        obtain ⟨Q9, h0, h⟩ := h
        refine ⟨_, ruX5_isJumpTaken h0, ?_⟩
        intro r73 S74 q38_ y39_ y40_
        replace h := h r73 S74 q38_.1 y39_ y40_
        replace K := fun i uo z => K i uo ⟨r73, S74, q38_.2, y39_, y40_, z⟩
        refine ⟨fun c => ?_, fun c => ?_⟩
        · replace h := h.1 c
          replace K := fun i uo z => K i uo (Or.inl ⟨c, z⟩)
          exact ru_X5_step_J132 i0 K h
        · replace h := h.2 c
          replace K := fun i uo z => K i uo (Or.inr ⟨c, z⟩)
          obtain ⟨g41_, h⟩ := h
          refine ⟨g41_, ?_⟩
          replace K := fun i uo z => K i uo ⟨g41_, z⟩
          obtain ⟨g42_, h⟩ := h
          refine ⟨g42_, ?_⟩
          replace K := fun i uo z => K i uo ⟨g42_, z⟩
          intro a84 ea84 
          replace h := h a84 ea84 
          replace K := fun i uo z => K i uo ⟨a84, ea84, z⟩
          exact ru_X5_step_J132 i0 K h
    · replace h := h.2 c
      replace K := fun i uo z => K i uo (Or.inr ⟨c, z⟩)
      obtain ⟨g43_, h⟩ := h
      refine ⟨g43_, ?_⟩
      replace K := fun i uo z => K i uo ⟨g43_, z⟩
      intro a88 ea88 
      replace h := h a88 ea88 
      replace K := fun i uo z => K i uo ⟨a88, ea88, z⟩
      obtain ⟨g44_, h⟩ := h
      refine ⟨g44_, ?_⟩
      replace K := fun i uo z => K i uo ⟨g44_, z⟩
      intro a92 ea92 
      replace h := h a92 ea92 
      replace K := fun i uo z => K i uo ⟨a92, ea92, z⟩
      obtain ⟨Q9, h0, h⟩ := h
      refine ⟨_, ruX5_pop_ h0, ?_⟩
      intro r94 S95 q45_ y46_ y47_
      replace h := h r94 S95 q45_.1 y46_ y47_
      replace K := fun i uo z => K i uo ⟨r94, S95, q45_.2, y46_, y47_, z⟩
      obtain ⟨g48_, h⟩ := h
      refine ⟨g48_, ?_⟩
      replace K := fun i uo z => K i uo ⟨g48_, z⟩
      intro a100 ea100 
      replace h := h a100 ea100 
      replace K := fun i uo z => K i uo ⟨a100, ea100, z⟩
      obtain ⟨Q9, h0, h⟩ := h
      refine ⟨_, ruX5_push_ h0, ?_⟩
      intro S102 q49_ y50_ y51_
      replace h := h S102 q49_.1 y50_ y51_
      replace K := fun i uo z => K i uo ⟨S102, q49_.2, y50_, y51_, z⟩
      intro S105 eS105 y52_ y53_
      replace h := h S105 eS105 y52_ y53_
      replace K := fun i uo z => K i uo ⟨S105, eS105, y52_, y53_, z⟩
      exact ⟨h, K i0 _ rfl⟩
  · replace h := h.2 c
    replace K := fun i uo z => K i uo (Or.inr ⟨c, z⟩)
    obtain ⟨Q9, h0, h⟩ := h
    refine ⟨_, ruX5_calculate h0, ?_⟩
    intro S107 q54_ y55_ y56_
    replace h := h S107 q54_.1 y55_ y56_
    replace K := fun i uo z => K i uo ⟨S107, q54_.2, y55_, y56_, z⟩
    exact ⟨h, K i0 _ rfl⟩
set_option maxRecDepth 100000 in
theorem ruX5_step {S : MS} {Q : MS → Prop} (h : wX5_step S Q) : wX5_step S (fun u => Q u ∧ vX5_step S u) := by
  have i0 : Unit := ()
  have K : ∀ (i : Unit) (uo : MS), vX5_step S uo → vX5_step S uo := fun _ _ z => z
  unfold wX5_step at h ⊢
  obtain ⟨g57_, h⟩ := h
  refine ⟨g57_, ?_⟩
  replace K := fun i uo z => K i uo ⟨g57_, z⟩
  obtain ⟨g58_, h⟩ := h
  refine ⟨g58_, ?_⟩
  replace K := fun i uo z => K i uo ⟨g58_, z⟩
  intro a6 ea6 
  replace h := h a6 ea6 
  replace K := fun i uo z => K i uo ⟨a6, ea6, z⟩
  obtain ⟨g59_, h⟩ := h
  refine ⟨g59_, ?_⟩
  replace K := fun i uo z => K i uo ⟨g59_, z⟩
  obtain ⟨g60_, h⟩ := h
  refine ⟨g60_, ?_⟩
  replace K := fun i uo z => K i uo ⟨g60_, z⟩
  intro a12 ea12 
  replace h := h a12 ea12 
  replace K := fun i uo z => K i uo ⟨a12, ea12, z⟩
  refine ⟨fun c => ?_, fun c => ?_⟩
  · replace h := h.1 c
    replace K := fun i uo z => K i uo (Or.inl ⟨c, z⟩)
    exact ru_X5_step_J40 i0 K h
  · replace h := h.2 c
    replace K := fun i uo z => K i uo (Or.inr ⟨c, z⟩)
    intro S111 eS111 y61_ y62_
    replace h := h S111 eS111 y61_ y62_
    replace K := fun i uo z => K i uo ⟨S111, eS111, y61_, y62_, z⟩
    exact ru_X5_step_J40 i0 K h
set_option maxRecDepth 100000 in
theorem vw_X5_step_J244 {uo : MS} {U244 : MS} {v244_1 : Int32} (h : v_X5_step_J244 uo U244 v244_1) : w_X5_step_J244 (fun u => u = uo) U244 v244_1 := by
  unfold v_X5_step_J244 at h
  unfold w_X5_step_J244
  intro _
  replace h := h.2
  obtain ⟨q9, z9, h⟩ := h
  refine ⟨_, vwX5_useStage z9, ?_⟩
  intro q8 d9 _ _
  subst d9
  replace h := h.2.2
  exact h.symm
set_option maxRecDepth 100000 in
theorem vp_X5_step_J244 {uo : MS} {P : MS → Prop} {U244 : MS} {v244_1 : Int32} (h : v_X5_step_J244 uo U244 v244_1) (w : w_X5_step_J244 P U244 v244_1) : P uo := by
  unfold v_X5_step_J244 at h
  unfold w_X5_step_J244 at w
  obtain ⟨y1_, h⟩ := h
  replace w := w y1_
  obtain ⟨q9, z9, y2_, y3_, h⟩ := h
  obtain ⟨Q9, w0, w⟩ := w
  replace w := w q9 (vpX5_useStage z9 w0) y2_ y3_
  rw [h]
  exact w
set_option maxRecDepth 100000 in
theorem vw_X5_step_J225 {uo : MS} {U225 : MS} {v225_1 : Int32} (h : v_X5_step_J225 uo U225 v225_1) : w_X5_step_J225 (fun u => u = uo) U225 v225_1 := by
  unfold v_X5_step_J225 at h
  unfold w_X5_step_J225
  intro _
  replace h := h.2
  rcases h with ⟨c, h⟩ | ⟨c, h⟩
  · refine ⟨fun _ => ?_, fun c2 => absurd c c2⟩
    exact vw_X5_step_J244 h
  · refine ⟨fun c2 => absurd c2 c, fun _ => ?_⟩
    rcases h with ⟨c, h⟩ | ⟨c, h⟩
    · refine ⟨fun _ => ?_, fun c2 => absurd c c2⟩
      exact vw_X5_step_J244 h
    · refine ⟨fun c2 => absurd c2 c, fun _ => ?_⟩
      rcases h with ⟨c, h⟩ | ⟨c, h⟩
      · refine ⟨fun _ => ?_, fun c2 => absurd c c2⟩
        exact vw_X5_step_J244 h
      · refine ⟨fun c2 => absurd c2 c, fun _ => ?_⟩
        obtain ⟨q9, z9, h⟩ := h
        refine ⟨_, vwX5_move z9, ?_⟩
        intro q8 d9 _ _
        subst d9
        replace h := h.2.2
        obtain ⟨v9, e9, h⟩ := h
        intro x9 d9 _ _
        have c9 : v9 = x9 := e9.trans d9.symm
        subst c9
        replace h := h.2.2
        exact h.symm
set_option maxRecDepth 100000 in
theorem vp_X5_step_J225 {uo : MS} {P : MS → Prop} {U225 : MS} {v225_1 : Int32} (h : v_X5_step_J225 uo U225 v225_1) (w : w_X5_step_J225 P U225 v225_1) : P uo := by
  unfold v_X5_step_J225 at h
  unfold w_X5_step_J225 at w
  obtain ⟨y4_, h⟩ := h
  replace w := w y4_
  rcases h with ⟨c, h⟩ | ⟨c, h⟩
  · replace w := w.1 c
    exact vp_X5_step_J244 h w
  · replace w := w.2 c
    rcases h with ⟨c, h⟩ | ⟨c, h⟩
    · replace w := w.1 c
      exact vp_X5_step_J244 h w
    · replace w := w.2 c
      rcases h with ⟨c, h⟩ | ⟨c, h⟩
      · replace w := w.1 c
        exact vp_X5_step_J244 h w
      · replace w := w.2 c
        obtain ⟨q9, z9, y5_, y6_, h⟩ := h
        obtain ⟨Q9, w0, w⟩ := w
        replace w := w q9 (vpX5_move z9 w0) y5_ y6_
        obtain ⟨v9, e9, y7_, y8_, h⟩ := h
        replace w := w v9 e9 y7_ y8_
        rw [h]
        exact w
set_option maxRecDepth 100000 in
theorem vw_X5_step_J203 {uo : MS} {U203 : MS} {v203_1 : Int32} (h : v_X5_step_J203 uo U203 v203_1) : w_X5_step_J203 (fun u => u = uo) U203 v203_1 := by
  unfold v_X5_step_J203 at h
  unfold w_X5_step_J203
  intro _
  replace h := h.2
  rcases h with ⟨c, h⟩ | ⟨c, h⟩
  · refine ⟨fun _ => ?_, fun c2 => absurd c c2⟩
    exact vw_X5_step_J225 h
  · refine ⟨fun c2 => absurd c2 c, fun _ => ?_⟩
    rcases h with ⟨c, h⟩ | ⟨c, h⟩
    · refine ⟨fun _ => ?_, fun c2 => absurd c c2⟩
      exact vw_X5_step_J225 h
    · refine ⟨fun c2 => absurd c2 c, fun _ => ?_⟩
      obtain ⟨q9, z9, h⟩ := h
      refine ⟨_, vwX5_leave z9, ?_⟩
      intro q8 d9 _ _
      subst d9
      replace h := h.2.2
      exact h.symm
set_option maxRecDepth 100000 in
theorem vp_X5_step_J203 {uo : MS} {P : MS → Prop} {U203 : MS} {v203_1 : Int32} (h : v_X5_step_J203 uo U203 v203_1) (w : w_X5_step_J203 P U203 v203_1) : P uo := by
  unfold v_X5_step_J203 at h
  unfold w_X5_step_J203 at w
  obtain ⟨y9_, h⟩ := h
  replace w := w y9_
  rcases h with ⟨c, h⟩ | ⟨c, h⟩
  · replace w := w.1 c
    exact vp_X5_step_J225 h w
  · replace w := w.2 c
    rcases h with ⟨c, h⟩ | ⟨c, h⟩
    · replace w := w.1 c
      exact vp_X5_step_J225 h w
    · replace w := w.2 c
      obtain ⟨q9, z9, y10_, y11_, h⟩ := h
      obtain ⟨Q9, w0, w⟩ := w
      replace w := w q9 (vpX5_leave z9 w0) y10_ y11_
      rw [h]
      exact w
set_option maxRecDepth 100000 in
theorem vw_X5_step_J132 {uo : MS} {U132 : MS} {t132_0 : Int32} (h : v_X5_step_J132 uo U132 t132_0) : w_X5_step_J132 (fun u => u = uo) U132 t132_0 := by
  unfold v_X5_step_J132 at h
  unfold w_X5_step_J132
  intro _
  replace h := h.2
  obtain ⟨v9, e9, h⟩ := h
  intro x9 d9 _ _
  have c9 : v9 = x9 := e9.trans d9.symm
  subst c9
  replace h := h.2.2
  exact h.symm
set_option maxRecDepth 100000 in
theorem vp_X5_step_J132 {uo : MS} {P : MS → Prop} {U132 : MS} {t132_0 : Int32} (h : v_X5_step_J132 uo U132 t132_0) (w : w_X5_step_J132 P U132 t132_0) : P uo := by
  unfold v_X5_step_J132 at h
  unfold w_X5_step_J132 at w
  obtain ⟨y12_, h⟩ := h
  replace w := w y12_
  obtain ⟨v9, e9, y13_, y14_, h⟩ := h
  replace w := w v9 e9 y13_ y14_
  rw [h]
  exact w
set_option maxRecDepth 100000 in
theorem vw_X5_step_J40 {uo : MS} {U40 : MS} {v40_1 : Int32} (h : v_X5_step_J40 uo U40 v40_1) : w_X5_step_J40 (fun u => u = uo) U40 v40_1 := by
  unfold v_X5_step_J40 at h
  unfold w_X5_step_J40
  intro _
  replace h := h.2
  obtain ⟨g9, h⟩ := h
  refine ⟨g9, ?_⟩
  obtain ⟨v9, e9, h⟩ := h
  intro x9 d9 
  have c9 : v9 = x9 := e9.trans d9.symm
  subst c9
  rcases h with ⟨c, h⟩ | ⟨c, h⟩
  · refine ⟨fun _ => ?_, fun c2 => absurd c c2⟩
    obtain ⟨g9, h⟩ := h
    refine ⟨g9, ?_⟩
    obtain ⟨v9, e9, h⟩ := h
    intro x9 d9 
    have c9 : v9 = x9 := e9.trans d9.symm
    subst c9
    rcases h with ⟨c, h⟩ | ⟨c, h⟩
    · refine ⟨fun _ => ?_, fun c2 => absurd c c2⟩
      obtain ⟨g9, h⟩ := h
      refine ⟨g9, ?_⟩
      obtain ⟨v9, e9, h⟩ := h
      intro x9 d9 
      have c9 : v9 = x9 := e9.trans d9.symm
      subst c9
      rcases h with ⟨c, h⟩ | ⟨c, h⟩
      · refine ⟨fun _ => ?_, fun c2 => absurd c c2⟩
        obtain ⟨g9, h⟩ := h
        refine ⟨g9, ?_⟩
        obtain ⟨v9, e9, h⟩ := h
        intro x9 d9 
        have c9 : v9 = x9 := e9.trans d9.symm
        subst c9
        rcases h with ⟨c, h⟩ | ⟨c, h⟩
        · refine ⟨fun _ => ?_, fun c2 => absurd c c2⟩
          rcases h with ⟨c, h⟩ | ⟨c, h⟩
          · refine ⟨fun _ => ?_, fun c2 => absurd c c2⟩
            exact vw_X5_step_J203 h
          · refine ⟨fun c2 => absurd c2 c, fun _ => ?_⟩
            rcases h with ⟨c, h⟩ | ⟨c, h⟩
            · refine ⟨fun _ => ?_, fun c2 => absurd c c2⟩
              exact vw_X5_step_J203 h
            · refine ⟨fun c2 => absurd c2 c, fun _ => ?_⟩
              obtain ⟨q9, z9, h⟩ := h
              refine ⟨_, vwX5_shuffle z9, ?_⟩
              intro q8 d9 _ _
              subst d9
              replace h := h.2.2
              obtain ⟨v9, e9, h⟩ := h
              intro x9 d9 _ _
              have c9 : v9 = x9 := e9.trans d9.symm
              subst c9
              replace h := h.2.2
              exact h.symm
        · refine ⟨fun c2 => absurd c2 c, fun _ => ?_⟩
          obtain ⟨g9, h⟩ := h
          refine ⟨g9, ?_⟩
          obtain ⟨p9, q9, z9, h⟩ := h
          refine ⟨_, vwX5_pop z9, ?_⟩
          rintro p8 q8 ⟨d8, d9⟩ _ _
          subst d8
          subst d9
          replace h := h.2.2
          obtain ⟨p9, q9, z9, h⟩ := h
          refine ⟨_, vwX5_switchChoice z9, ?_⟩
          rintro p8 q8 ⟨d8, d9⟩ _ _
          subst d8
          subst d9
          replace h := h.2.2
          obtain ⟨g9, h⟩ := h
          refine ⟨g9, ?_⟩
          obtain ⟨v9, e9, h⟩ := h
          intro x9 d9 
          have c9 : v9 = x9 := e9.trans d9.symm
          subst c9
          obtain ⟨v9, e9, h⟩ := h
          intro x9 d9 _ _
          have c9 : v9 = x9 := e9.trans d9.symm
          subst c9
          replace h := h.2.2
          exact h.symm
      · refine ⟨fun c2 => absurd c2 c, fun _ => ?_⟩
        obtain ⟨p9, q9, z9, h⟩ := h
        refine ⟨_, vwX5_isJumpTaken z9, ?_⟩
        rintro p8 q8 ⟨d8, d9⟩ _ _
        subst d8
        subst d9
        replace h := h.2.2
        rcases h with ⟨c, h⟩ | ⟨c, h⟩
        · refine ⟨fun _ => ?_, fun c2 => absurd c c2⟩
          exact vw_X5_step_J132 h
        · refine ⟨fun c2 => absurd c2 c, fun _ => ?_⟩
          obtain ⟨g9, h⟩ := h
          refine ⟨g9, ?_⟩
          obtain ⟨g9, h⟩ := h
          refine ⟨g9, ?_⟩
          obtain ⟨v9, e9, h⟩ := h
          intro x9 d9 
          have c9 : v9 = x9 := e9.trans d9.symm
          subst c9
          exact vw_X5_step_J132 h
    · refine ⟨fun c2 => absurd c2 c, fun _ => ?_⟩
      obtain ⟨g9, h⟩ := h
      refine ⟨g9, ?_⟩
      obtain ⟨v9, e9, h⟩ := h
      intro x9 d9 
      have c9 : v9 = x9 := e9.trans d9.symm
      subst c9
      obtain ⟨g9, h⟩ := h
      refine ⟨g9, ?_⟩
      obtain ⟨v9, e9, h⟩ := h
      intro x9 d9 
      have c9 : v9 = x9 := e9.trans d9.symm
      subst c9
      obtain ⟨p9, q9, z9, h⟩ := h
      refine ⟨_, vwX5_pop_ z9, ?_⟩
      rintro p8 q8 ⟨d8, d9⟩ _ _
      subst d8
      subst d9
      replace h := h.2.2
      obtain ⟨g9, h⟩ := h
      refine ⟨g9, ?_⟩
      obtain ⟨v9, e9, h⟩ := h
      intro x9 d9 
      have c9 : v9 = x9 := e9.trans d9.symm
      subst c9
      obtain ⟨q9, z9, h⟩ := h
      refine ⟨_, vwX5_push_ z9, ?_⟩
      intro q8 d9 _ _
      subst d9
      replace h := h.2.2
      obtain ⟨v9, e9, h⟩ := h
      intro x9 d9 _ _
      have c9 : v9 = x9 := e9.trans d9.symm
      subst c9
      replace h := h.2.2
      exact h.symm
  · refine ⟨fun c2 => absurd c2 c, fun _ => ?_⟩
    obtain ⟨q9, z9, h⟩ := h
    refine ⟨_, vwX5_calculate z9, ?_⟩
    intro q8 d9 _ _
    subst d9
    replace h := h.2.2
    exact h.symm
set_option maxRecDepth 100000 in
theorem vp_X5_step_J40 {uo : MS} {P : MS → Prop} {U40 : MS} {v40_1 : Int32} (h : v_X5_step_J40 uo U40 v40_1) (w : w_X5_step_J40 P U40 v40_1) : P uo := by
  unfold v_X5_step_J40 at h
  unfold w_X5_step_J40 at w
  obtain ⟨y15_, h⟩ := h
  replace w := w y15_
  replace h := h.2
  replace w := w.2
  obtain ⟨v9, e9, h⟩ := h
  replace w := w v9 e9 
  rcases h with ⟨c, h⟩ | ⟨c, h⟩
  · replace w := w.1 c
    replace h := h.2
    replace w := w.2
    obtain ⟨v9, e9, h⟩ := h
    replace w := w v9 e9 
    rcases h with ⟨c, h⟩ | ⟨c, h⟩
    · replace w := w.1 c
      replace h := h.2
      replace w := w.2
      obtain ⟨v9, e9, h⟩ := h
      replace w := w v9 e9 
      rcases h with ⟨c, h⟩ | ⟨c, h⟩
      · replace w := w.1 c
        replace h := h.2
        replace w := w.2
        obtain ⟨v9, e9, h⟩ := h
        replace w := w v9 e9 
        rcases h with ⟨c, h⟩ | ⟨c, h⟩
        · replace w := w.1 c
          rcases h with ⟨c, h⟩ | ⟨c, h⟩
          · replace w := w.1 c
            exact vp_X5_step_J203 h w
          · replace w := w.2 c
            rcases h with ⟨c, h⟩ | ⟨c, h⟩
            · replace w := w.1 c
              exact vp_X5_step_J203 h w
            · replace w := w.2 c
              obtain ⟨q9, z9, y16_, y17_, h⟩ := h
              obtain ⟨Q9, w0, w⟩ := w
              replace w := w q9 (vpX5_shuffle z9 w0) y16_ y17_
              obtain ⟨v9, e9, y18_, y19_, h⟩ := h
              replace w := w v9 e9 y18_ y19_
              rw [h]
              exact w
        · replace w := w.2 c
          replace h := h.2
          replace w := w.2
          obtain ⟨p9, q9, z9, y20_, y21_, h⟩ := h
          obtain ⟨Q9, w0, w⟩ := w
          replace w := w p9 q9 (vpX5_pop z9 w0) y20_ y21_
          obtain ⟨p9, q9, z9, y22_, y23_, h⟩ := h
          obtain ⟨Q9, w0, w⟩ := w
          replace w := w p9 q9 (vpX5_switchChoice z9 w0) y22_ y23_
          replace h := h.2
          replace w := w.2
          obtain ⟨v9, e9, h⟩ := h
          replace w := w v9 e9 
          obtain ⟨v9, e9, y24_, y25_, h⟩ := h
          replace w := w v9 e9 y24_ y25_
          rw [h]
          exact w
      · replace w := w.2 c
        obtain ⟨p9, q9, z9, y26_, y27_, h⟩ := h
        obtain ⟨Q9, w0, w⟩ := w
        replace w := w p9 q9 (vpX5_isJumpTaken z9 w0) y26_ y27_
        rcases h with ⟨c, h⟩ | ⟨c, h⟩
        · replace w := w.1 c
          exact vp_X5_step_J132 h w
        · replace w := w.2 c
          replace h := h.2
          replace w := w.2
          replace h := h.2
          replace w := w.2
          obtain ⟨v9, e9, h⟩ := h
          replace w := w v9 e9 
          exact vp_X5_step_J132 h w
    · replace w := w.2 c
      replace h := h.2
      replace w := w.2
      obtain ⟨v9, e9, h⟩ := h
      replace w := w v9 e9 
      replace h := h.2
      replace w := w.2
      obtain ⟨v9, e9, h⟩ := h
      replace w := w v9 e9 
      obtain ⟨p9, q9, z9, y28_, y29_, h⟩ := h
      obtain ⟨Q9, w0, w⟩ := w
      replace w := w p9 q9 (vpX5_pop_ z9 w0) y28_ y29_
      replace h := h.2
      replace w := w.2
      obtain ⟨v9, e9, h⟩ := h
      replace w := w v9 e9 
      obtain ⟨q9, z9, y30_, y31_, h⟩ := h
      obtain ⟨Q9, w0, w⟩ := w
      replace w := w q9 (vpX5_push_ z9 w0) y30_ y31_
      obtain ⟨v9, e9, y32_, y33_, h⟩ := h
      replace w := w v9 e9 y32_ y33_
      rw [h]
      exact w
  · replace w := w.2 c
    obtain ⟨q9, z9, y34_, y35_, h⟩ := h
    obtain ⟨Q9, w0, w⟩ := w
    replace w := w q9 (vpX5_calculate z9 w0) y34_ y35_
    rw [h]
    exact w
set_option maxRecDepth 100000 in
theorem vwX5_step {S : MS} {uo : MS} (h : vX5_step S uo) : wX5_step S (fun u => u = uo) := by
  unfold vX5_step at h
  unfold wX5_step
  obtain ⟨g9, h⟩ := h
  refine ⟨g9, ?_⟩
  obtain ⟨g9, h⟩ := h
  refine ⟨g9, ?_⟩
  obtain ⟨v9, e9, h⟩ := h
  intro x9 d9 
  have c9 : v9 = x9 := e9.trans d9.symm
  subst c9
  obtain ⟨g9, h⟩ := h
  refine ⟨g9, ?_⟩
  obtain ⟨g9, h⟩ := h
  refine ⟨g9, ?_⟩
  obtain ⟨v9, e9, h⟩ := h
  intro x9 d9 
  have c9 : v9 = x9 := e9.trans d9.symm
  subst c9
  rcases h with ⟨c, h⟩ | ⟨c, h⟩
  · refine ⟨fun _ => ?_, fun c2 => absurd c c2⟩
    exact vw_X5_step_J40 h
  · refine ⟨fun c2 => absurd c2 c, fun _ => ?_⟩
    obtain ⟨v9, e9, h⟩ := h
    intro x9 d9 _ _
    have c9 : v9 = x9 := e9.trans d9.symm
    subst c9
    replace h := h.2.2
    exact vw_X5_step_J40 h
set_option maxRecDepth 100000 in
theorem vpX5_step {S : MS} {uo : MS} {P : MS → Prop} (h : vX5_step S uo) (w : wX5_step S P) : P uo := by
  unfold vX5_step at h
  unfold wX5_step at w
  replace h := h.2
  replace w := w.2
  replace h := h.2
  replace w := w.2
  obtain ⟨v9, e9, h⟩ := h
  replace w := w v9 e9 
  replace h := h.2
  replace w := w.2
  replace h := h.2
  replace w := w.2
  obtain ⟨v9, e9, h⟩ := h
  replace w := w v9 e9 
  rcases h with ⟨c, h⟩ | ⟨c, h⟩
  · replace w := w.1 c
    exact vp_X5_step_J40 h w
  · replace w := w.2 c
    obtain ⟨v9, e9, y36_, y37_, h⟩ := h
    replace w := w v9 e9 y36_ y37_
    exact vp_X5_step_J40 h w
def v_X9_makeBetter_J74 (uo : MS) (k34 : MS → Int32 → Int32 → Int32 → Int32 → Prop) (U74 : MS) (v74_2 : Int32) (v74_3 : Int32) (v74_4 : Int32) (v74_5 : Int32) : Prop := (wfC U74 ∧ (∃ a16 : Int32, a16 = (v74_5 + Int32.ofInt 1) ∧ (k34 U74 v74_2 v74_3 v74_4 a16)))
def v_X9_makeBetter_J72 (uo : MS) (k34 : MS → Int32 → Int32 → Int32 → Int32 → Prop) (U72 : MS) (t72_0 : Int32) (t72_1 : Int32) (v72_2 : Int32) (v72_4 : Int32) (v72_5 : Int32) : Prop := (wfC U72 ∧ (t72_0 = 0 ∨ t72_0 = 1) ∧ (∃ a19 : Int32, a19 = (t72_1 ||| t72_0) ∧ (v_X9_makeBetter_J74 uo k34 U72 v72_2 a19 v72_4 v72_5)))
def v_X9_makeBetter_L34 (uo : MS) (k18 : MS → Int32 → Int32 → Int32 → Prop) : Nat → MS → Int32 → Int32 → Int32 → Int32 → Prop
  | 0, _, _, _, _, _ => False
  | n34 + 1, U34, v34_2, v34_3, v34_4, v34_5 => (wfC U34 ∧ ((11 < v34_5.toInt ∧ (∃ a12 : Int32, a12 = (v34_4 + Int32.ofInt 1) ∧ (k18 U34 v34_2 v34_3 a12))) ∨ (¬ 11 < v34_5.toInt ∧ ((((v34_2 >>> ((v34_5 - (1 : Int32)) &&& 31)) &&& (1 : Int32)).toInt = 0 ∧ (v_X9_makeBetter_J74 uo (v_X9_makeBetter_L34 uo k18 n34) U34 v34_2 v34_3 v34_4 v34_5)) ∨ (¬ ((v34_2 >>> ((v34_5 - (1 : Int32)) &&& 31)) &&& (1 : Int32)).toInt = 0 ∧ ((v34_5.toInt = 1 ∧ (∃ (r26 : Int32) (S27 : MS), vX9_dropUnreached U34 r26 S27 ∧ wfC S27 ∧ shy U34 S27 ∧ (v_X9_makeBetter_J72 uo (v_X9_makeBetter_L34 uo k18 n34) S27 r26 v34_3 v34_2 v34_4 v34_5))) ∨ (¬ v34_5.toInt = 1 ∧ (∃ (r22 : Int32) (S23 : MS), vX9_goThrough U34 v34_5 r22 S23 ∧ wfC S23 ∧ shy U34 S23 ∧ (v_X9_makeBetter_J72 uo (v_X9_makeBetter_L34 uo k18 n34) S23 r22 v34_3 v34_2 v34_4 v34_5)))))))))
def v_X9_makeBetter_L18 (uo : MS) : Nat → MS → Int32 → Int32 → Int32 → Prop
  | 0, _, _, _, _ => False
  | n18 + 1, U18, v18_2, v18_3, v18_4 => (wfC U18 ∧ ((v18_3.toInt = 0 ∧ (uo = U18)) ∨ (¬ v18_3.toInt = 0 ∧ ((50 ≤ v18_4.toInt ∧ (uo = U18)) ∨ (¬ 50 ≤ v18_4.toInt ∧ (∃ n, v_X9_makeBetter_L34 uo (v_X9_makeBetter_L18 uo n18) n U18 v18_2 0 v18_4 1))))))
def vX9_makeBetter (S : MS) (p1 : Nat) (x2 : Int32) (uo : MS) : Prop := (qT S p1 = 47 ∧ (∃ (S2 : MS), vX9_makeRoom S p1 S2 ∧ wfC S2 ∧ shx S S2 ∧ (qT S2 (qO S2 66 0) = 47 ∧ qT S2 p1 = 47 ∧ (∃ (S7 : MS), vX8_copyFrom S2 (qO S2 66 0) p1 S7 ∧ wfC S7 ∧ shy S2 S7 ∧ (∃ n, v_X9_makeBetter_L18 uo n S7 x2 1 0)))))
set_option maxRecDepth 100000 in
theorem ru_X9_makeBetter_J74 {ι : Type} {P Q : MS → Prop} {k34 k34' : MS → Int32 → Int32 → Int32 → Int32 → Prop} {k34v : ι → MS → MS → Int32 → Int32 → Int32 → Int32 → Prop} {U74 : MS} {v74_2 : Int32} {v74_3 : Int32} {v74_4 : Int32} {v74_5 : Int32} (i0 : ι) (hk34 : ∀ (u : MS) (z0 : Int32) (z1 : Int32) (z2 : Int32) (z3 : Int32), k34 u z0 z1 z2 z3 → (∀ (i : ι) (uo : MS), k34v i uo u z0 z1 z2 z3 → P uo) → k34' u z0 z1 z2 z3) (K : ∀ (i : ι) (uo : MS), v_X9_makeBetter_J74 uo (k34v i uo) U74 v74_2 v74_3 v74_4 v74_5 → P uo) (h : w_X9_makeBetter_J74 Q k34 U74 v74_2 v74_3 v74_4 v74_5) : w_X9_makeBetter_J74 (fun u => Q u ∧ P u) k34' U74 v74_2 v74_3 v74_4 v74_5 := by
  unfold w_X9_makeBetter_J74 at h ⊢
  intro y1_
  replace h := h y1_
  replace K := fun i uo z => K i uo ⟨y1_, z⟩
  intro a16 ea16 
  replace h := h a16 ea16 
  replace K := fun i uo z => K i uo ⟨a16, ea16, z⟩
  exact hk34 _ _ _ _ _ h K
set_option maxRecDepth 100000 in
theorem ru_X9_makeBetter_J72 {ι : Type} {P Q : MS → Prop} {k34 k34' : MS → Int32 → Int32 → Int32 → Int32 → Prop} {k34v : ι → MS → MS → Int32 → Int32 → Int32 → Int32 → Prop} {U72 : MS} {t72_0 : Int32} {t72_1 : Int32} {v72_2 : Int32} {v72_4 : Int32} {v72_5 : Int32} (i0 : ι) (hk34 : ∀ (u : MS) (z0 : Int32) (z1 : Int32) (z2 : Int32) (z3 : Int32), k34 u z0 z1 z2 z3 → (∀ (i : ι) (uo : MS), k34v i uo u z0 z1 z2 z3 → P uo) → k34' u z0 z1 z2 z3) (K : ∀ (i : ι) (uo : MS), v_X9_makeBetter_J72 uo (k34v i uo) U72 t72_0 t72_1 v72_2 v72_4 v72_5 → P uo) (h : w_X9_makeBetter_J72 Q k34 U72 t72_0 t72_1 v72_2 v72_4 v72_5) : w_X9_makeBetter_J72 (fun u => Q u ∧ P u) k34' U72 t72_0 t72_1 v72_2 v72_4 v72_5 := by
  unfold w_X9_makeBetter_J72 at h ⊢
  intro y2_ y3_
  replace h := h y2_ y3_
  replace K := fun i uo z => K i uo ⟨y2_, y3_, z⟩
  intro a19 ea19 
  replace h := h a19 ea19 
  replace K := fun i uo z => K i uo ⟨a19, ea19, z⟩
  exact ru_X9_makeBetter_J74 i0 hk34 K h
set_option maxRecDepth 100000 in
theorem ru_X9_makeBetter_L34 {ι : Type} {P Q : MS → Prop} {k18 k18' : MS → Int32 → Int32 → Int32 → Prop} {k18v : ι → MS → MS → Int32 → Int32 → Int32 → Prop} : ∀ (n : Nat) {U34 : MS} {v34_2 : Int32} {v34_3 : Int32} {v34_4 : Int32} {v34_5 : Int32} (i0 : ι) (hk18 : ∀ (u : MS) (z0 : Int32) (z1 : Int32) (z2 : Int32), k18 u z0 z1 z2 → (∀ (i : ι) (uo : MS), k18v i uo u z0 z1 z2 → P uo) → k18' u z0 z1 z2), (∀ (i : ι) (uo : MS), (∃ n8, v_X9_makeBetter_L34 uo (k18v i uo) n8 U34 v34_2 v34_3 v34_4 v34_5) → P uo) → w_X9_makeBetter_L34 Q k18 n U34 v34_2 v34_3 v34_4 v34_5 → w_X9_makeBetter_L34 (fun u => Q u ∧ P u) k18' n U34 v34_2 v34_3 v34_4 v34_5 := by
  intro n
  induction n with
  | zero => intro U34 v34_2 v34_3 v34_4 v34_5 i0 hk18 K h; unfold w_X9_makeBetter_L34 at h; exact h.elim
  | succ n ih =>
    intro U34 v34_2 v34_3 v34_4 v34_5 i0 hk18 K h
    unfold w_X9_makeBetter_L34 at h ⊢
    replace K := fun (i : ι × Nat) uo (z : v_X9_makeBetter_L34 uo (k18v i.1 uo) (i.2 + 1) U34 v34_2 v34_3 v34_4 v34_5) => K i.1 uo ⟨i.2 + 1, z⟩
    have i00 := i0
    replace i0 : ι × Nat := (i0, 0)
    intro y4_
    replace h := h y4_
    replace K := fun i uo z => K i uo ⟨y4_, z⟩
    refine ⟨fun c => ?_, fun c => ?_⟩
    · replace h := h.1 c
      replace K := fun i uo z => K i uo (Or.inl ⟨c, z⟩)
      intro a12 ea12 
      replace h := h a12 ea12 
      replace K := fun i uo z => K i uo ⟨a12, ea12, z⟩
      exact hk18 _ _ _ _ h (fun i uo z => K (i, 0) uo z)
    · replace h := h.2 c
      replace K := fun i uo z => K i uo (Or.inr ⟨c, z⟩)
      refine ⟨fun c => ?_, fun c => ?_⟩
      · replace h := h.1 c
        replace K := fun i uo z => K i uo (Or.inl ⟨c, z⟩)
        exact ru_X9_makeBetter_J74 i0 (fun _ _ _ _ _ h K => ih i00 hk18 (fun i uo ⟨n8, z⟩ => K (i, n8) uo z) h) K h
      · replace h := h.2 c
        replace K := fun i uo z => K i uo (Or.inr ⟨c, z⟩)
        refine ⟨fun c => ?_, fun c => ?_⟩
        · replace h := h.1 c
          replace K := fun i uo z => K i uo (Or.inl ⟨c, z⟩)
          obtain ⟨Q9, h0, h⟩ := h
          refine ⟨_, ruX9_dropUnreached h0, ?_⟩
          intro r26 S27 q5_ y6_ y7_
          replace h := h r26 S27 q5_.1 y6_ y7_
          replace K := fun i uo z => K i uo ⟨r26, S27, q5_.2, y6_, y7_, z⟩
          exact ru_X9_makeBetter_J72 i0 (fun _ _ _ _ _ h K => ih i00 hk18 (fun i uo ⟨n8, z⟩ => K (i, n8) uo z) h) K h
        · replace h := h.2 c
          replace K := fun i uo z => K i uo (Or.inr ⟨c, z⟩)
          obtain ⟨Q9, h0, h⟩ := h
          refine ⟨_, ruX9_goThrough h0, ?_⟩
          intro r22 S23 q8_ y9_ y10_
          replace h := h r22 S23 q8_.1 y9_ y10_
          replace K := fun i uo z => K i uo ⟨r22, S23, q8_.2, y9_, y10_, z⟩
          exact ru_X9_makeBetter_J72 i0 (fun _ _ _ _ _ h K => ih i00 hk18 (fun i uo ⟨n8, z⟩ => K (i, n8) uo z) h) K h
set_option maxRecDepth 100000 in
theorem ru_X9_makeBetter_L18 {ι : Type} {P Q : MS → Prop} : ∀ (n : Nat) {U18 : MS} {v18_2 : Int32} {v18_3 : Int32} {v18_4 : Int32} (i0 : ι), (∀ (i : ι) (uo : MS), (∃ n8, v_X9_makeBetter_L18 uo n8 U18 v18_2 v18_3 v18_4) → P uo) → w_X9_makeBetter_L18 Q n U18 v18_2 v18_3 v18_4 → w_X9_makeBetter_L18 (fun u => Q u ∧ P u) n U18 v18_2 v18_3 v18_4 := by
  intro n
  induction n with
  | zero => intro U18 v18_2 v18_3 v18_4 i0 K h; unfold w_X9_makeBetter_L18 at h; exact h.elim
  | succ n ih =>
    intro U18 v18_2 v18_3 v18_4 i0 K h
    unfold w_X9_makeBetter_L18 at h ⊢
    replace K := fun (i : ι × Nat) uo (z : v_X9_makeBetter_L18 uo (i.2 + 1) U18 v18_2 v18_3 v18_4) => K i.1 uo ⟨i.2 + 1, z⟩
    have i00 := i0
    replace i0 : ι × Nat := (i0, 0)
    intro y11_
    replace h := h y11_
    replace K := fun i uo z => K i uo ⟨y11_, z⟩
    refine ⟨fun c => ?_, fun c => ?_⟩
    · replace h := h.1 c
      replace K := fun i uo z => K i uo (Or.inl ⟨c, z⟩)
      exact ⟨h, K i0 _ rfl⟩
    · replace h := h.2 c
      replace K := fun i uo z => K i uo (Or.inr ⟨c, z⟩)
      refine ⟨fun c => ?_, fun c => ?_⟩
      · replace h := h.1 c
        replace K := fun i uo z => K i uo (Or.inl ⟨c, z⟩)
        exact ⟨h, K i0 _ rfl⟩
      · replace h := h.2 c
        replace K := fun i uo z => K i uo (Or.inr ⟨c, z⟩)
        obtain ⟨n9, h⟩ := h
        exact ⟨n9, ru_X9_makeBetter_L34 n9 i0 (fun _ _ _ _ h K => ih i00 (fun i uo ⟨n8, z⟩ => K (i, n8) uo z) h) K h⟩
set_option maxRecDepth 100000 in
theorem ruX9_makeBetter {S : MS} {p1 : Nat} {x2 : Int32} {Q : MS → Prop} (h : wX9_makeBetter S p1 x2 Q) : wX9_makeBetter S p1 x2 (fun u => Q u ∧ vX9_makeBetter S p1 x2 u) := by
  have i0 : Unit := ()
  have K : ∀ (i : Unit) (uo : MS), vX9_makeBetter S p1 x2 uo → vX9_makeBetter S p1 x2 uo := fun _ _ z => z
  unfold wX9_makeBetter at h ⊢
  intro y12_
  replace h := h y12_
  replace K := fun i uo z => K i uo ⟨y12_, z⟩
  obtain ⟨Q9, h0, h⟩ := h
  refine ⟨_, ruX9_makeRoom h0, ?_⟩
  intro S2 q13_ y14_ y15_
  replace h := h S2 q13_.1 y14_ y15_
  replace K := fun i uo z => K i uo ⟨S2, q13_.2, y14_, y15_, z⟩
  intro y16_ y17_
  replace h := h y16_ y17_
  replace K := fun i uo z => K i uo ⟨y16_, y17_, z⟩
  obtain ⟨Q9, h0, h⟩ := h
  refine ⟨_, ruX8_copyFrom h0, ?_⟩
  intro S7 q18_ y19_ y20_
  replace h := h S7 q18_.1 y19_ y20_
  replace K := fun i uo z => K i uo ⟨S7, q18_.2, y19_, y20_, z⟩
  obtain ⟨n9, h⟩ := h
  exact ⟨n9, ru_X9_makeBetter_L18 n9 i0 K h⟩
set_option maxRecDepth 100000 in
theorem vw_X9_makeBetter_J74 {uo : MS} {k34 k34v : MS → Int32 → Int32 → Int32 → Int32 → Prop} {U74 : MS} {v74_2 : Int32} {v74_3 : Int32} {v74_4 : Int32} {v74_5 : Int32} (hk34 : ∀ (u : MS) (z0 : Int32) (z1 : Int32) (z2 : Int32) (z3 : Int32), k34v u z0 z1 z2 z3 → k34 u z0 z1 z2 z3) (h : v_X9_makeBetter_J74 uo k34v U74 v74_2 v74_3 v74_4 v74_5) : w_X9_makeBetter_J74 (fun u => u = uo) k34 U74 v74_2 v74_3 v74_4 v74_5 := by
  unfold v_X9_makeBetter_J74 at h
  unfold w_X9_makeBetter_J74
  intro _
  replace h := h.2
  obtain ⟨v9, e9, h⟩ := h
  intro x9 d9 
  have c9 : v9 = x9 := e9.trans d9.symm
  subst c9
  exact hk34 _ _ _ _ _ h
set_option maxRecDepth 100000 in
theorem vp_X9_makeBetter_J74 {uo : MS} {P : MS → Prop} {k34 k34v : MS → Int32 → Int32 → Int32 → Int32 → Prop} {U74 : MS} {v74_2 : Int32} {v74_3 : Int32} {v74_4 : Int32} {v74_5 : Int32} (hk34 : ∀ (u : MS) (z0 : Int32) (z1 : Int32) (z2 : Int32) (z3 : Int32), k34v u z0 z1 z2 z3 → k34 u z0 z1 z2 z3 → P uo) (h : v_X9_makeBetter_J74 uo k34v U74 v74_2 v74_3 v74_4 v74_5) (w : w_X9_makeBetter_J74 P k34 U74 v74_2 v74_3 v74_4 v74_5) : P uo := by
  unfold v_X9_makeBetter_J74 at h
  unfold w_X9_makeBetter_J74 at w
  obtain ⟨y1_, h⟩ := h
  replace w := w y1_
  obtain ⟨v9, e9, h⟩ := h
  replace w := w v9 e9 
  exact hk34 _ _ _ _ _ h w
set_option maxRecDepth 100000 in
theorem vw_X9_makeBetter_J72 {uo : MS} {k34 k34v : MS → Int32 → Int32 → Int32 → Int32 → Prop} {U72 : MS} {t72_0 : Int32} {t72_1 : Int32} {v72_2 : Int32} {v72_4 : Int32} {v72_5 : Int32} (hk34 : ∀ (u : MS) (z0 : Int32) (z1 : Int32) (z2 : Int32) (z3 : Int32), k34v u z0 z1 z2 z3 → k34 u z0 z1 z2 z3) (h : v_X9_makeBetter_J72 uo k34v U72 t72_0 t72_1 v72_2 v72_4 v72_5) : w_X9_makeBetter_J72 (fun u => u = uo) k34 U72 t72_0 t72_1 v72_2 v72_4 v72_5 := by
  unfold v_X9_makeBetter_J72 at h
  unfold w_X9_makeBetter_J72
  intro _ _
  replace h := h.2.2
  obtain ⟨v9, e9, h⟩ := h
  intro x9 d9 
  have c9 : v9 = x9 := e9.trans d9.symm
  subst c9
  exact vw_X9_makeBetter_J74 hk34 h
set_option maxRecDepth 100000 in
theorem vp_X9_makeBetter_J72 {uo : MS} {P : MS → Prop} {k34 k34v : MS → Int32 → Int32 → Int32 → Int32 → Prop} {U72 : MS} {t72_0 : Int32} {t72_1 : Int32} {v72_2 : Int32} {v72_4 : Int32} {v72_5 : Int32} (hk34 : ∀ (u : MS) (z0 : Int32) (z1 : Int32) (z2 : Int32) (z3 : Int32), k34v u z0 z1 z2 z3 → k34 u z0 z1 z2 z3 → P uo) (h : v_X9_makeBetter_J72 uo k34v U72 t72_0 t72_1 v72_2 v72_4 v72_5) (w : w_X9_makeBetter_J72 P k34 U72 t72_0 t72_1 v72_2 v72_4 v72_5) : P uo := by
  unfold v_X9_makeBetter_J72 at h
  unfold w_X9_makeBetter_J72 at w
  obtain ⟨y2_, y3_, h⟩ := h
  replace w := w y2_ y3_
  obtain ⟨v9, e9, h⟩ := h
  replace w := w v9 e9 
  exact vp_X9_makeBetter_J74 hk34 h w
set_option maxRecDepth 100000 in
theorem vw_X9_makeBetter_L34 {uo : MS} {k18 k18v : MS → Int32 → Int32 → Int32 → Prop} : ∀ (n : Nat) {U34 : MS} {v34_2 : Int32} {v34_3 : Int32} {v34_4 : Int32} {v34_5 : Int32} (hk18 : ∀ (u : MS) (z0 : Int32) (z1 : Int32) (z2 : Int32), k18v u z0 z1 z2 → k18 u z0 z1 z2), v_X9_makeBetter_L34 uo k18v n U34 v34_2 v34_3 v34_4 v34_5 → w_X9_makeBetter_L34 (fun u => u = uo) k18 n U34 v34_2 v34_3 v34_4 v34_5 := by
  intro n
  induction n with
  | zero => intro U34 v34_2 v34_3 v34_4 v34_5 hk18 h; unfold v_X9_makeBetter_L34 at h; exact h.elim
  | succ n ih =>
    intro U34 v34_2 v34_3 v34_4 v34_5 hk18 h
    unfold v_X9_makeBetter_L34 at h
    unfold w_X9_makeBetter_L34
    intro _
    replace h := h.2
    rcases h with ⟨c, h⟩ | ⟨c, h⟩
    · refine ⟨fun _ => ?_, fun c2 => absurd c c2⟩
      obtain ⟨v9, e9, h⟩ := h
      intro x9 d9 
      have c9 : v9 = x9 := e9.trans d9.symm
      subst c9
      exact hk18 _ _ _ _ h
    · refine ⟨fun c2 => absurd c2 c, fun _ => ?_⟩
      rcases h with ⟨c, h⟩ | ⟨c, h⟩
      · refine ⟨fun _ => ?_, fun c2 => absurd c c2⟩
        exact vw_X9_makeBetter_J74 (fun _ _ _ _ _ h => ih hk18 h) h
      · refine ⟨fun c2 => absurd c2 c, fun _ => ?_⟩
        rcases h with ⟨c, h⟩ | ⟨c, h⟩
        · refine ⟨fun _ => ?_, fun c2 => absurd c c2⟩
          obtain ⟨p9, q9, z9, h⟩ := h
          refine ⟨_, vwX9_dropUnreached z9, ?_⟩
          rintro p8 q8 ⟨d8, d9⟩ _ _
          subst d8
          subst d9
          replace h := h.2.2
          exact vw_X9_makeBetter_J72 (fun _ _ _ _ _ h => ih hk18 h) h
        · refine ⟨fun c2 => absurd c2 c, fun _ => ?_⟩
          obtain ⟨p9, q9, z9, h⟩ := h
          refine ⟨_, vwX9_goThrough z9, ?_⟩
          rintro p8 q8 ⟨d8, d9⟩ _ _
          subst d8
          subst d9
          replace h := h.2.2
          exact vw_X9_makeBetter_J72 (fun _ _ _ _ _ h => ih hk18 h) h
set_option maxRecDepth 100000 in
theorem vp_X9_makeBetter_L34 {uo : MS} {P : MS → Prop} {k18 k18v : MS → Int32 → Int32 → Int32 → Prop} : ∀ (n m : Nat) {U34 : MS} {v34_2 : Int32} {v34_3 : Int32} {v34_4 : Int32} {v34_5 : Int32} (hk18 : ∀ (u : MS) (z0 : Int32) (z1 : Int32) (z2 : Int32), k18v u z0 z1 z2 → k18 u z0 z1 z2 → P uo), v_X9_makeBetter_L34 uo k18v n U34 v34_2 v34_3 v34_4 v34_5 → w_X9_makeBetter_L34 P k18 m U34 v34_2 v34_3 v34_4 v34_5 → P uo := by
  intro n
  induction n with
  | zero => intro m U34 v34_2 v34_3 v34_4 v34_5 hk18 h; unfold v_X9_makeBetter_L34 at h; exact h.elim
  | succ n ih =>
    intro m U34 v34_2 v34_3 v34_4 v34_5 hk18 h w
    cases m with
    | zero => unfold w_X9_makeBetter_L34 at w; exact w.elim
    | succ m =>
      unfold v_X9_makeBetter_L34 at h
      unfold w_X9_makeBetter_L34 at w
      obtain ⟨y4_, h⟩ := h
      replace w := w y4_
      rcases h with ⟨c, h⟩ | ⟨c, h⟩
      · replace w := w.1 c
        obtain ⟨v9, e9, h⟩ := h
        replace w := w v9 e9 
        exact hk18 _ _ _ _ h w
      · replace w := w.2 c
        rcases h with ⟨c, h⟩ | ⟨c, h⟩
        · replace w := w.1 c
          exact vp_X9_makeBetter_J74 (fun _ _ _ _ _ h w => ih m hk18 h w) h w
        · replace w := w.2 c
          rcases h with ⟨c, h⟩ | ⟨c, h⟩
          · replace w := w.1 c
            obtain ⟨p9, q9, z9, y5_, y6_, h⟩ := h
            obtain ⟨Q9, w0, w⟩ := w
            replace w := w p9 q9 (vpX9_dropUnreached z9 w0) y5_ y6_
            exact vp_X9_makeBetter_J72 (fun _ _ _ _ _ h w => ih m hk18 h w) h w
          · replace w := w.2 c
            obtain ⟨p9, q9, z9, y7_, y8_, h⟩ := h
            obtain ⟨Q9, w0, w⟩ := w
            replace w := w p9 q9 (vpX9_goThrough z9 w0) y7_ y8_
            exact vp_X9_makeBetter_J72 (fun _ _ _ _ _ h w => ih m hk18 h w) h w
set_option maxRecDepth 100000 in
theorem vw_X9_makeBetter_L18 {uo : MS} : ∀ (n : Nat) {U18 : MS} {v18_2 : Int32} {v18_3 : Int32} {v18_4 : Int32}, v_X9_makeBetter_L18 uo n U18 v18_2 v18_3 v18_4 → w_X9_makeBetter_L18 (fun u => u = uo) n U18 v18_2 v18_3 v18_4 := by
  intro n
  induction n with
  | zero => intro U18 v18_2 v18_3 v18_4 h; unfold v_X9_makeBetter_L18 at h; exact h.elim
  | succ n ih =>
    intro U18 v18_2 v18_3 v18_4 h
    unfold v_X9_makeBetter_L18 at h
    unfold w_X9_makeBetter_L18
    intro _
    replace h := h.2
    rcases h with ⟨c, h⟩ | ⟨c, h⟩
    · refine ⟨fun _ => ?_, fun c2 => absurd c c2⟩
      exact h.symm
    · refine ⟨fun c2 => absurd c2 c, fun _ => ?_⟩
      rcases h with ⟨c, h⟩ | ⟨c, h⟩
      · refine ⟨fun _ => ?_, fun c2 => absurd c c2⟩
        exact h.symm
      · refine ⟨fun c2 => absurd c2 c, fun _ => ?_⟩
        obtain ⟨n9, h⟩ := h
        exact ⟨n9, vw_X9_makeBetter_L34 n9 (fun _ _ _ _ h => ih h) h⟩
set_option maxRecDepth 100000 in
theorem vp_X9_makeBetter_L18 {uo : MS} {P : MS → Prop} : ∀ (n m : Nat) {U18 : MS} {v18_2 : Int32} {v18_3 : Int32} {v18_4 : Int32}, v_X9_makeBetter_L18 uo n U18 v18_2 v18_3 v18_4 → w_X9_makeBetter_L18 P m U18 v18_2 v18_3 v18_4 → P uo := by
  intro n
  induction n with
  | zero => intro m U18 v18_2 v18_3 v18_4 h; unfold v_X9_makeBetter_L18 at h; exact h.elim
  | succ n ih =>
    intro m U18 v18_2 v18_3 v18_4 h w
    cases m with
    | zero => unfold w_X9_makeBetter_L18 at w; exact w.elim
    | succ m =>
      unfold v_X9_makeBetter_L18 at h
      unfold w_X9_makeBetter_L18 at w
      obtain ⟨y9_, h⟩ := h
      replace w := w y9_
      rcases h with ⟨c, h⟩ | ⟨c, h⟩
      · replace w := w.1 c
        rw [h]
        exact w
      · replace w := w.2 c
        rcases h with ⟨c, h⟩ | ⟨c, h⟩
        · replace w := w.1 c
          rw [h]
          exact w
        · replace w := w.2 c
          obtain ⟨n9, h⟩ := h
          obtain ⟨n8, w⟩ := w
          exact vp_X9_makeBetter_L34 n9 n8 (fun _ _ _ _ h w => ih m h w) h w
set_option maxRecDepth 100000 in
theorem vwX9_makeBetter {S : MS} {p1 : Nat} {x2 : Int32} {uo : MS} (h : vX9_makeBetter S p1 x2 uo) : wX9_makeBetter S p1 x2 (fun u => u = uo) := by
  unfold vX9_makeBetter at h
  unfold wX9_makeBetter
  intro _
  replace h := h.2
  obtain ⟨q9, z9, h⟩ := h
  refine ⟨_, vwX9_makeRoom z9, ?_⟩
  intro q8 d9 _ _
  subst d9
  replace h := h.2.2
  intro _ _
  replace h := h.2.2
  obtain ⟨q9, z9, h⟩ := h
  refine ⟨_, vwX8_copyFrom z9, ?_⟩
  intro q8 d9 _ _
  subst d9
  replace h := h.2.2
  obtain ⟨n9, h⟩ := h
  exact ⟨n9, vw_X9_makeBetter_L18 n9 h⟩
set_option maxRecDepth 100000 in
theorem vpX9_makeBetter {S : MS} {p1 : Nat} {x2 : Int32} {uo : MS} {P : MS → Prop} (h : vX9_makeBetter S p1 x2 uo) (w : wX9_makeBetter S p1 x2 P) : P uo := by
  unfold vX9_makeBetter at h
  unfold wX9_makeBetter at w
  obtain ⟨y10_, h⟩ := h
  replace w := w y10_
  obtain ⟨q9, z9, y11_, y12_, h⟩ := h
  obtain ⟨Q9, w0, w⟩ := w
  replace w := w q9 (vpX9_makeRoom z9 w0) y11_ y12_
  obtain ⟨y13_, y14_, h⟩ := h
  replace w := w y13_ y14_
  obtain ⟨q9, z9, y15_, y16_, h⟩ := h
  obtain ⟨Q9, w0, w⟩ := w
  replace w := w q9 (vpX8_copyFrom z9 w0) y15_ y16_
  obtain ⟨n9, h⟩ := h
  obtain ⟨n8, w⟩ := w
  exact vp_X9_makeBetter_L18 n9 n8 h w
def v_X12_improve_L73 (ro : Int32) (uo : MS) : Nat → MS → Int32 → Nat → Int32 → Prop
  | 0, _, _, _, _ => False
  | n73 + 1, U73, v73_2, v73_3, v73_4 => (wfC U73 ∧ qT U73 v73_3 = 49 ∧ (((qI U73 v73_3 8).toInt ≤ v73_4.toInt ∧ (d_X11_fits U73 ∧ (((fX11_fits U73).toInt = 0 ∧ (ro = (-3 : Int32) ∧ uo = U73)) ∨ (¬ (fX11_fits U73).toInt = 0 ∧ (qT U73 5 = 40 ∧ (∃ (S26 : MS), vX11_finish U73 5 S26 ∧ wfC S26 ∧ shx U73 S26 ∧ (qT S26 5 = 40 ∧ (∃ (b34 : Option Nat) (S31 : MS), vX2_unitOf S26 5 b34 S31 ∧ wfC S31 ∧ shx S26 S31 ∧ (∀ z, b34 = some z → qT S31 z = 49) ∧ (∃ (r36 : Int32) (S37 : MS), vX12_keep S31 b34 (-3 : Int32) r36 S37 ∧ wfC S37 ∧ shy S31 S37 ∧ (ro = r36 ∧ uo = S37)))))))))) ∨ (¬ (qI U73 v73_3 8).toInt ≤ v73_4.toInt ∧ (qT U73 v73_3 = 49 ∧ (∃ (b43 : Option Nat) (S41 : MS), vX10_rowAt U73 v73_3 v73_4 b43 S41 ∧ wfC S41 ∧ shy U73 S41 ∧ (∀ z, b43 = some z → qT S41 z = 47) ∧ ((b43 = none ∧ False) ∨ (¬ b43 = none ∧ (qT S41 ((b43).getD 0) = 47 ∧ (∃ (S46 : MS), vX9_makeBetter S41 ((b43).getD 0) v73_2 S46 ∧ wfC S46 ∧ shx S41 S46 ∧ (∃ (S51 : MS), vX11_addMethod S46 (some (qO S46 66 0)) S51 ∧ wfC S51 ∧ shx S46 S51 ∧ (∃ a54 : Int32, a54 = (v73_4 + Int32.ofInt 1) ∧ ((v_X12_improve_L73 ro uo n73) S51 v73_2 v73_3 a54))))))))))))
def vX12_improve (S : MS) (x1 : Int32) (x2 : Int32) (ro : Int32) (uo : MS) : Prop := (∃ (S2 : MS), vX9_forgetApplied S S2 ∧ wfC S2 ∧ shy S S2 ∧ (∃ (b8 : Option Nat) (S6 : MS), vX12_soundUnitAt S2 x1 b8 S6 ∧ wfC S6 ∧ shy S2 S6 ∧ (∀ z, b8 = some z → qT S6 z = 49) ∧ ((b8 = none ∧ (ro = (-1 : Int32) ∧ uo = S6)) ∨ (¬ b8 = none ∧ ((x2.toInt < 0 ∧ (ro = (-1 : Int32) ∧ uo = S6)) ∨ (¬ x2.toInt < 0 ∧ ((x2.toInt ≤ 2047 ∧ ((12 ≤ (qI S6 0 11).toInt ∧ (ro = (-2 : Int32) ∧ uo = S6)) ∨ (¬ 12 ≤ (qI S6 0 11).toInt ∧ (((qI S6 0 12).toInt < 16 ∧ (∃ S15 : MS, S15 = wI S6 0 12 ((qI S6 0 12) + (1 : Int32)) ∧ qT S6 0 = 51 ∧ wfC S15 ∧ (qT S15 ((b8).getD 0) = 49 ∧ (∃ (S17 : MS), vX11_begin S15 ((b8).getD 0) (0 : Int32) S17 ∧ wfC S17 ∧ shx S15 S17 ∧ (∃ n, v_X12_improve_L73 ro uo n S17 x2 ((b8).getD 0) 0))))) ∨ (¬ (qI S6 0 12).toInt < 16 ∧ (ro = (-2 : Int32) ∧ uo = S6)))))) ∨ (¬ x2.toInt ≤ 2047 ∧ (ro = (-1 : Int32) ∧ uo = S6)))))))))
set_option maxRecDepth 100000 in
theorem ru_X12_improve_L73 {ι : Type} {P Q : Int32 → MS → Prop} : ∀ (n : Nat) {U73 : MS} {v73_2 : Int32} {v73_3 : Nat} {v73_4 : Int32} (i0 : ι), (∀ (i : ι) (ro : Int32) (uo : MS), (∃ n8, v_X12_improve_L73 ro uo n8 U73 v73_2 v73_3 v73_4) → P ro uo) → w_X12_improve_L73 Q n U73 v73_2 v73_3 v73_4 → w_X12_improve_L73 (fun r u => Q r u ∧ P r u) n U73 v73_2 v73_3 v73_4 := by
  intro n
  induction n with
  | zero => intro U73 v73_2 v73_3 v73_4 i0 K h; unfold w_X12_improve_L73 at h; exact h.elim
  | succ n ih =>
    intro U73 v73_2 v73_3 v73_4 i0 K h
    unfold w_X12_improve_L73 at h ⊢
    replace K := fun (i : ι × Nat) ro uo (z : v_X12_improve_L73 ro uo (i.2 + 1) U73 v73_2 v73_3 v73_4) => K i.1 ro uo ⟨i.2 + 1, z⟩
    have i00 := i0
    replace i0 : ι × Nat := (i0, 0)
    intro y1_ y2_
    replace h := h y1_ y2_
    replace K := fun i ro uo z => K i ro uo ⟨y1_, y2_, z⟩
    refine ⟨fun c => ?_, fun c => ?_⟩
    · replace h := h.1 c
      replace K := fun i ro uo z => K i ro uo (Or.inl ⟨c, z⟩)
      obtain ⟨g3_, h⟩ := h
      refine ⟨g3_, ?_⟩
      replace K := fun i ro uo z => K i ro uo ⟨g3_, z⟩
      refine ⟨fun c => ?_, fun c => ?_⟩
      · replace h := h.1 c
        replace K := fun i ro uo z => K i ro uo (Or.inl ⟨c, z⟩)
        exact ⟨h, K i0 _ _ ⟨rfl, rfl⟩⟩
      · replace h := h.2 c
        replace K := fun i ro uo z => K i ro uo (Or.inr ⟨c, z⟩)
        intro y4_
        replace h := h y4_
        replace K := fun i ro uo z => K i ro uo ⟨y4_, z⟩
        obtain ⟨Q9, h0, h⟩ := h
        refine ⟨_, ruX11_finish h0, ?_⟩
        intro S26 q5_ y6_ y7_
        replace h := h S26 q5_.1 y6_ y7_
        replace K := fun i ro uo z => K i ro uo ⟨S26, q5_.2, y6_, y7_, z⟩
        intro y8_
        replace h := h y8_
        replace K := fun i ro uo z => K i ro uo ⟨y8_, z⟩
        obtain ⟨Q9, h0, h⟩ := h
        refine ⟨_, ruX2_unitOf h0, ?_⟩
        intro b34 S31 q9_ y10_ y11_ y12_
        replace h := h b34 S31 q9_.1 y10_ y11_ y12_
        replace K := fun i ro uo z => K i ro uo ⟨b34, S31, q9_.2, y10_, y11_, y12_, z⟩
        obtain ⟨Q9, h0, h⟩ := h
        refine ⟨_, ruX12_keep h0, ?_⟩
        intro r36 S37 q13_ y14_ y15_
        replace h := h r36 S37 q13_.1 y14_ y15_
        replace K := fun i ro uo z => K i ro uo ⟨r36, S37, q13_.2, y14_, y15_, z⟩
        exact ⟨h, K i0 _ _ ⟨rfl, rfl⟩⟩
    · replace h := h.2 c
      replace K := fun i ro uo z => K i ro uo (Or.inr ⟨c, z⟩)
      intro y16_
      replace h := h y16_
      replace K := fun i ro uo z => K i ro uo ⟨y16_, z⟩
      obtain ⟨Q9, h0, h⟩ := h
      refine ⟨_, ruX10_rowAt h0, ?_⟩
      intro b43 S41 q17_ y18_ y19_ y20_
      replace h := h b43 S41 q17_.1 y18_ y19_ y20_
      replace K := fun i ro uo z => K i ro uo ⟨b43, S41, q17_.2, y18_, y19_, y20_, z⟩
      refine ⟨fun c => ?_, fun c => ?_⟩
      · replace h := h.1 c
        replace K := fun i ro uo z => K i ro uo (Or.inl ⟨c, z⟩)
        exact h.elim
      · replace h := h.2 c
        replace K := fun i ro uo z => K i ro uo (Or.inr ⟨c, z⟩)
        intro y21_
        replace h := h y21_
        replace K := fun i ro uo z => K i ro uo ⟨y21_, z⟩
        obtain ⟨Q9, h0, h⟩ := h
        refine ⟨_, ruX9_makeBetter h0, ?_⟩
        intro S46 q22_ y23_ y24_
        replace h := h S46 q22_.1 y23_ y24_
        replace K := fun i ro uo z => K i ro uo ⟨S46, q22_.2, y23_, y24_, z⟩
        obtain ⟨Q9, h0, h⟩ := h
        refine ⟨_, ruX11_addMethod h0, ?_⟩
        intro S51 q25_ y26_ y27_
        replace h := h S51 q25_.1 y26_ y27_
        replace K := fun i ro uo z => K i ro uo ⟨S51, q25_.2, y26_, y27_, z⟩
        intro a54 ea54 
        replace h := h a54 ea54 
        replace K := fun i ro uo z => K i ro uo ⟨a54, ea54, z⟩
        exact ih i00 (fun i ro uo ⟨n8, z⟩ => K (i, n8) ro uo z) h
set_option maxRecDepth 100000 in
theorem ruX12_improve {S : MS} {x1 : Int32} {x2 : Int32} {Q : Int32 → MS → Prop} (h : wX12_improve S x1 x2 Q) : wX12_improve S x1 x2 (fun r u => Q r u ∧ vX12_improve S x1 x2 r u) := by
  have i0 : Unit := ()
  have K : ∀ (i : Unit) (ro : Int32) (uo : MS), vX12_improve S x1 x2 ro uo → vX12_improve S x1 x2 ro uo := fun _ _ _ z => z
  unfold wX12_improve at h ⊢
  obtain ⟨Q9, h0, h⟩ := h
  refine ⟨_, ruX9_forgetApplied h0, ?_⟩
  intro S2 q28_ y29_ y30_
  replace h := h S2 q28_.1 y29_ y30_
  replace K := fun i ro uo z => K i ro uo ⟨S2, q28_.2, y29_, y30_, z⟩
  obtain ⟨Q9, h0, h⟩ := h
  refine ⟨_, ruX12_soundUnitAt h0, ?_⟩
  intro b8 S6 q31_ y32_ y33_ y34_
  replace h := h b8 S6 q31_.1 y32_ y33_ y34_
  replace K := fun i ro uo z => K i ro uo ⟨b8, S6, q31_.2, y32_, y33_, y34_, z⟩
  refine ⟨fun c => ?_, fun c => ?_⟩
  · replace h := h.1 c
    replace K := fun i ro uo z => K i ro uo (Or.inl ⟨c, z⟩)
    exact ⟨h, K i0 _ _ ⟨rfl, rfl⟩⟩
  · replace h := h.2 c
    replace K := fun i ro uo z => K i ro uo (Or.inr ⟨c, z⟩)
    refine ⟨fun c => ?_, fun c => ?_⟩
    · replace h := h.1 c
      replace K := fun i ro uo z => K i ro uo (Or.inl ⟨c, z⟩)
      exact ⟨h, K i0 _ _ ⟨rfl, rfl⟩⟩
    · replace h := h.2 c
      replace K := fun i ro uo z => K i ro uo (Or.inr ⟨c, z⟩)
      refine ⟨fun c => ?_, fun c => ?_⟩
      · replace h := h.1 c
        replace K := fun i ro uo z => K i ro uo (Or.inl ⟨c, z⟩)
        refine ⟨fun c => ?_, fun c => ?_⟩
        · replace h := h.1 c
          replace K := fun i ro uo z => K i ro uo (Or.inl ⟨c, z⟩)
          exact ⟨h, K i0 _ _ ⟨rfl, rfl⟩⟩
        · replace h := h.2 c
          replace K := fun i ro uo z => K i ro uo (Or.inr ⟨c, z⟩)
          refine ⟨fun c => ?_, fun c => ?_⟩
          · replace h := h.1 c
            replace K := fun i ro uo z => K i ro uo (Or.inl ⟨c, z⟩)
            intro S15 eS15 y35_ y36_
            replace h := h S15 eS15 y35_ y36_
            replace K := fun i ro uo z => K i ro uo ⟨S15, eS15, y35_, y36_, z⟩
            intro y37_
            replace h := h y37_
            replace K := fun i ro uo z => K i ro uo ⟨y37_, z⟩
            obtain ⟨Q9, h0, h⟩ := h
            refine ⟨_, ruX11_begin h0, ?_⟩
            intro S17 q38_ y39_ y40_
            replace h := h S17 q38_.1 y39_ y40_
            replace K := fun i ro uo z => K i ro uo ⟨S17, q38_.2, y39_, y40_, z⟩
            obtain ⟨n9, h⟩ := h
            exact ⟨n9, ru_X12_improve_L73 n9 i0 K h⟩
          · replace h := h.2 c
            replace K := fun i ro uo z => K i ro uo (Or.inr ⟨c, z⟩)
            exact ⟨h, K i0 _ _ ⟨rfl, rfl⟩⟩
      · replace h := h.2 c
        replace K := fun i ro uo z => K i ro uo (Or.inr ⟨c, z⟩)
        exact ⟨h, K i0 _ _ ⟨rfl, rfl⟩⟩
set_option maxRecDepth 100000 in
theorem vw_X12_improve_L73 {ro : Int32} {uo : MS} : ∀ (n : Nat) {U73 : MS} {v73_2 : Int32} {v73_3 : Nat} {v73_4 : Int32}, v_X12_improve_L73 ro uo n U73 v73_2 v73_3 v73_4 → w_X12_improve_L73 (fun r u => r = ro ∧ u = uo) n U73 v73_2 v73_3 v73_4 := by
  intro n
  induction n with
  | zero => intro U73 v73_2 v73_3 v73_4 h; unfold v_X12_improve_L73 at h; exact h.elim
  | succ n ih =>
    intro U73 v73_2 v73_3 v73_4 h
    unfold v_X12_improve_L73 at h
    unfold w_X12_improve_L73
    intro _ _
    replace h := h.2.2
    rcases h with ⟨c, h⟩ | ⟨c, h⟩
    · refine ⟨fun _ => ?_, fun c2 => absurd c c2⟩
      obtain ⟨g9, h⟩ := h
      refine ⟨g9, ?_⟩
      rcases h with ⟨c, h⟩ | ⟨c, h⟩
      · refine ⟨fun _ => ?_, fun c2 => absurd c c2⟩
        exact ⟨h.1.symm, h.2.symm⟩
      · refine ⟨fun c2 => absurd c2 c, fun _ => ?_⟩
        intro _
        replace h := h.2
        obtain ⟨q9, z9, h⟩ := h
        refine ⟨_, vwX11_finish z9, ?_⟩
        intro q8 d9 _ _
        subst d9
        replace h := h.2.2
        intro _
        replace h := h.2
        obtain ⟨p9, q9, z9, h⟩ := h
        refine ⟨_, vwX2_unitOf z9, ?_⟩
        rintro p8 q8 ⟨d8, d9⟩ _ _ _
        subst d8
        subst d9
        replace h := h.2.2.2
        obtain ⟨p9, q9, z9, h⟩ := h
        refine ⟨_, vwX12_keep z9, ?_⟩
        rintro p8 q8 ⟨d8, d9⟩ _ _
        subst d8
        subst d9
        replace h := h.2.2
        exact ⟨h.1.symm, h.2.symm⟩
    · refine ⟨fun c2 => absurd c2 c, fun _ => ?_⟩
      intro _
      replace h := h.2
      obtain ⟨p9, q9, z9, h⟩ := h
      refine ⟨_, vwX10_rowAt z9, ?_⟩
      rintro p8 q8 ⟨d8, d9⟩ _ _ _
      subst d8
      subst d9
      replace h := h.2.2.2
      rcases h with ⟨c, h⟩ | ⟨c, h⟩
      · refine ⟨fun _ => ?_, fun c2 => absurd c c2⟩
        exact h.elim
      · refine ⟨fun c2 => absurd c2 c, fun _ => ?_⟩
        intro _
        replace h := h.2
        obtain ⟨q9, z9, h⟩ := h
        refine ⟨_, vwX9_makeBetter z9, ?_⟩
        intro q8 d9 _ _
        subst d9
        replace h := h.2.2
        obtain ⟨q9, z9, h⟩ := h
        refine ⟨_, vwX11_addMethod z9, ?_⟩
        intro q8 d9 _ _
        subst d9
        replace h := h.2.2
        obtain ⟨v9, e9, h⟩ := h
        intro x9 d9 
        have c9 : v9 = x9 := e9.trans d9.symm
        subst c9
        exact ih h
set_option maxRecDepth 100000 in
theorem vp_X12_improve_L73 {ro : Int32} {uo : MS} {P : Int32 → MS → Prop} : ∀ (n m : Nat) {U73 : MS} {v73_2 : Int32} {v73_3 : Nat} {v73_4 : Int32}, v_X12_improve_L73 ro uo n U73 v73_2 v73_3 v73_4 → w_X12_improve_L73 P m U73 v73_2 v73_3 v73_4 → P ro uo := by
  intro n
  induction n with
  | zero => intro m U73 v73_2 v73_3 v73_4 h; unfold v_X12_improve_L73 at h; exact h.elim
  | succ n ih =>
    intro m U73 v73_2 v73_3 v73_4 h w
    cases m with
    | zero => unfold w_X12_improve_L73 at w; exact w.elim
    | succ m =>
      unfold v_X12_improve_L73 at h
      unfold w_X12_improve_L73 at w
      obtain ⟨y1_, y2_, h⟩ := h
      replace w := w y1_ y2_
      rcases h with ⟨c, h⟩ | ⟨c, h⟩
      · replace w := w.1 c
        replace h := h.2
        replace w := w.2
        rcases h with ⟨c, h⟩ | ⟨c, h⟩
        · replace w := w.1 c
          rw [h.1, h.2]
          exact w
        · replace w := w.2 c
          obtain ⟨y3_, h⟩ := h
          replace w := w y3_
          obtain ⟨q9, z9, y4_, y5_, h⟩ := h
          obtain ⟨Q9, w0, w⟩ := w
          replace w := w q9 (vpX11_finish z9 w0) y4_ y5_
          obtain ⟨y6_, h⟩ := h
          replace w := w y6_
          obtain ⟨p9, q9, z9, y7_, y8_, y9_, h⟩ := h
          obtain ⟨Q9, w0, w⟩ := w
          replace w := w p9 q9 (vpX2_unitOf z9 w0) y7_ y8_ y9_
          obtain ⟨p9, q9, z9, y10_, y11_, h⟩ := h
          obtain ⟨Q9, w0, w⟩ := w
          replace w := w p9 q9 (vpX12_keep z9 w0) y10_ y11_
          rw [h.1, h.2]
          exact w
      · replace w := w.2 c
        obtain ⟨y12_, h⟩ := h
        replace w := w y12_
        obtain ⟨p9, q9, z9, y13_, y14_, y15_, h⟩ := h
        obtain ⟨Q9, w0, w⟩ := w
        replace w := w p9 q9 (vpX10_rowAt z9 w0) y13_ y14_ y15_
        rcases h with ⟨c, h⟩ | ⟨c, h⟩
        · replace w := w.1 c
          exact h.elim
        · replace w := w.2 c
          obtain ⟨y16_, h⟩ := h
          replace w := w y16_
          obtain ⟨q9, z9, y17_, y18_, h⟩ := h
          obtain ⟨Q9, w0, w⟩ := w
          replace w := w q9 (vpX9_makeBetter z9 w0) y17_ y18_
          obtain ⟨q9, z9, y19_, y20_, h⟩ := h
          obtain ⟨Q9, w0, w⟩ := w
          replace w := w q9 (vpX11_addMethod z9 w0) y19_ y20_
          obtain ⟨v9, e9, h⟩ := h
          replace w := w v9 e9 
          exact ih m h w
set_option maxRecDepth 100000 in
theorem vwX12_improve {S : MS} {x1 : Int32} {x2 : Int32} {ro : Int32} {uo : MS} (h : vX12_improve S x1 x2 ro uo) : wX12_improve S x1 x2 (fun r u => r = ro ∧ u = uo) := by
  unfold vX12_improve at h
  unfold wX12_improve
  obtain ⟨q9, z9, h⟩ := h
  refine ⟨_, vwX9_forgetApplied z9, ?_⟩
  intro q8 d9 _ _
  subst d9
  replace h := h.2.2
  obtain ⟨p9, q9, z9, h⟩ := h
  refine ⟨_, vwX12_soundUnitAt z9, ?_⟩
  rintro p8 q8 ⟨d8, d9⟩ _ _ _
  subst d8
  subst d9
  replace h := h.2.2.2
  rcases h with ⟨c, h⟩ | ⟨c, h⟩
  · refine ⟨fun _ => ?_, fun c2 => absurd c c2⟩
    exact ⟨h.1.symm, h.2.symm⟩
  · refine ⟨fun c2 => absurd c2 c, fun _ => ?_⟩
    rcases h with ⟨c, h⟩ | ⟨c, h⟩
    · refine ⟨fun _ => ?_, fun c2 => absurd c c2⟩
      exact ⟨h.1.symm, h.2.symm⟩
    · refine ⟨fun c2 => absurd c2 c, fun _ => ?_⟩
      rcases h with ⟨c, h⟩ | ⟨c, h⟩
      · refine ⟨fun _ => ?_, fun c2 => absurd c c2⟩
        rcases h with ⟨c, h⟩ | ⟨c, h⟩
        · refine ⟨fun _ => ?_, fun c2 => absurd c c2⟩
          exact ⟨h.1.symm, h.2.symm⟩
        · refine ⟨fun c2 => absurd c2 c, fun _ => ?_⟩
          rcases h with ⟨c, h⟩ | ⟨c, h⟩
          · refine ⟨fun _ => ?_, fun c2 => absurd c c2⟩
            obtain ⟨v9, e9, h⟩ := h
            intro x9 d9 _ _
            have c9 : v9 = x9 := e9.trans d9.symm
            subst c9
            replace h := h.2.2
            intro _
            replace h := h.2
            obtain ⟨q9, z9, h⟩ := h
            refine ⟨_, vwX11_begin z9, ?_⟩
            intro q8 d9 _ _
            subst d9
            replace h := h.2.2
            obtain ⟨n9, h⟩ := h
            exact ⟨n9, vw_X12_improve_L73 n9 h⟩
          · refine ⟨fun c2 => absurd c2 c, fun _ => ?_⟩
            exact ⟨h.1.symm, h.2.symm⟩
      · refine ⟨fun c2 => absurd c2 c, fun _ => ?_⟩
        exact ⟨h.1.symm, h.2.symm⟩
set_option maxRecDepth 100000 in
theorem vpX12_improve {S : MS} {x1 : Int32} {x2 : Int32} {ro : Int32} {uo : MS} {P : Int32 → MS → Prop} (h : vX12_improve S x1 x2 ro uo) (w : wX12_improve S x1 x2 P) : P ro uo := by
  unfold vX12_improve at h
  unfold wX12_improve at w
  obtain ⟨q9, z9, y21_, y22_, h⟩ := h
  obtain ⟨Q9, w0, w⟩ := w
  replace w := w q9 (vpX9_forgetApplied z9 w0) y21_ y22_
  obtain ⟨p9, q9, z9, y23_, y24_, y25_, h⟩ := h
  obtain ⟨Q9, w0, w⟩ := w
  replace w := w p9 q9 (vpX12_soundUnitAt z9 w0) y23_ y24_ y25_
  rcases h with ⟨c, h⟩ | ⟨c, h⟩
  · replace w := w.1 c
    rw [h.1, h.2]
    exact w
  · replace w := w.2 c
    rcases h with ⟨c, h⟩ | ⟨c, h⟩
    · replace w := w.1 c
      rw [h.1, h.2]
      exact w
    · replace w := w.2 c
      rcases h with ⟨c, h⟩ | ⟨c, h⟩
      · replace w := w.1 c
        rcases h with ⟨c, h⟩ | ⟨c, h⟩
        · replace w := w.1 c
          rw [h.1, h.2]
          exact w
        · replace w := w.2 c
          rcases h with ⟨c, h⟩ | ⟨c, h⟩
          · replace w := w.1 c
            obtain ⟨v9, e9, y26_, y27_, h⟩ := h
            replace w := w v9 e9 y26_ y27_
            obtain ⟨y28_, h⟩ := h
            replace w := w y28_
            obtain ⟨q9, z9, y29_, y30_, h⟩ := h
            obtain ⟨Q9, w0, w⟩ := w
            replace w := w q9 (vpX11_begin z9 w0) y29_ y30_
            obtain ⟨n9, h⟩ := h
            obtain ⟨n8, w⟩ := w
            exact vp_X12_improve_L73 n9 n8 h w
          · replace w := w.2 c
            rw [h.1, h.2]
            exact w
      · replace w := w.2 c
        rw [h.1, h.2]
        exact w
def v_X5_play_J100 (ro : Int32) (uo : MS) (U100 : MS) : Prop := (wfC U100 ∧ ((0 ≤ (qI U100 44 15).toInt ∧ (ro = (qI U100 44 15) ∧ uo = U100)) ∨ (¬ 0 ≤ (qI U100 44 15).toInt ∧ (ro = (2 : Int32) ∧ uo = U100))))
def v_X5_play_L68 (ro : Int32) (uo : MS) : Nat → MS → Int32 → Prop
  | 0, _, _ => False
  | n68 + 1, U68, v68_2 => (wfC U68 ∧ ((0 ≤ (qI U68 44 15).toInt ∧ (v_X5_play_J100 ro uo U68)) ∨ (¬ 0 ≤ (qI U68 44 15).toInt ∧ ((v68_2.toInt ≤ (qI U68 44 18).toInt ∧ (v_X5_play_J100 ro uo U68)) ∨ (¬ v68_2.toInt ≤ (qI U68 44 18).toInt ∧ (∃ S24 : MS, S24 = wI U68 44 18 ((qI U68 44 18) + (1 : Int32)) ∧ qT U68 44 = 45 ∧ wfC S24 ∧ (∃ (S26 : MS), vX5_step S24 S26 ∧ wfC S26 ∧ shx S24 S26 ∧ ((v_X5_play_L68 ro uo n68) S26 v68_2))))))))
def v_X5_play_J26 (ro : Int32) (uo : MS) (U26 : MS) (v26_1 : Int32) (v26_2 : Int32) : Prop := (wfC U26 ∧ (∃ S3 : MS, S3 = wJ U26 44 16 0 ∧ qT U26 44 = 45 ∧ wfC S3 ∧ (∃ S4 : MS, S4 = wI S3 44 17 (-1 : Int32) ∧ qT S3 44 = 45 ∧ wfC S4 ∧ (∃ S5 : MS, S5 = wI S4 44 18 (0 : Int32) ∧ qT S4 44 = 45 ∧ wfC S5 ∧ (∃ S6 : MS, S6 = wI S5 44 15 (-1 : Int32) ∧ qT S5 44 = 45 ∧ wfC S6 ∧ (∃ S7 : MS, S7 = wI S6 44 11 (0 : Int32) ∧ qT S6 44 = 45 ∧ wfC S7 ∧ (∃ (S9 : MS), vX5_openFrame S7 v26_1 S9 ∧ wfC S9 ∧ shy S7 S9 ∧ ((qR S9 44 0 = some (qO S9 44 0)) ∧ (d_X10_takesOfMethod S9 (qO S9 44 0) v26_1 ∧ (∃ a16 : Int32, a16 = (fX10_takesOfMethod S9 (qO S9 44 0) v26_1) ∧ (∃ (S18 : MS), vX5_passArguments S9 a16 S18 ∧ wfC S18 ∧ shy S9 S18 ∧ (∃ n, v_X5_play_L68 ro uo n S18 v26_2))))))))))))
def vX5_play (S : MS) (x1 : Int32) (x2 : Int32) (ro : Int32) (uo : MS) : Prop := (((qN S (qO S 44 9) : Int) = 0 ∧ (((qn S + 1 ≤ KCC ∧ qu S + 1440 ≤ KSC)) ∧ (∃ S33 : MS, S33 = wN S 405 1440 1440 ∧ wfC S33 ∧ (∃ S35 : MS, S35 = wR S33 44 9 (some (qn S)) ∧ qT S33 44 = 45 ∧ wfC S35 ∧ (((qn S35 + 1 ≤ KCC ∧ qu S35 + 1440 ≤ KSC)) ∧ (∃ S39 : MS, S39 = wN S35 404 1440 1440 ∧ wfC S39 ∧ (∃ S41 : MS, S41 = wR S39 44 8 (some (qn S35)) ∧ qT S39 44 = 45 ∧ wfC S41 ∧ (v_X5_play_J26 ro uo S41 x1 x2)))))))) ∨ (¬ (qN S (qO S 44 9) : Int) = 0 ∧ (v_X5_play_J26 ro uo S x1 x2)))
set_option maxRecDepth 100000 in
theorem ru_X5_play_J100 {ι : Type} {P Q : Int32 → MS → Prop} {U100 : MS} (i0 : ι) (K : ∀ (i : ι) (ro : Int32) (uo : MS), v_X5_play_J100 ro uo U100 → P ro uo) (h : w_X5_play_J100 Q U100) : w_X5_play_J100 (fun r u => Q r u ∧ P r u) U100 := by
  unfold w_X5_play_J100 at h ⊢
  intro y1_
  replace h := h y1_
  replace K := fun i ro uo z => K i ro uo ⟨y1_, z⟩
  refine ⟨fun c => ?_, fun c => ?_⟩
  · replace h := h.1 c
    replace K := fun i ro uo z => K i ro uo (Or.inl ⟨c, z⟩)
    exact ⟨h, K i0 _ _ ⟨rfl, rfl⟩⟩
  · replace h := h.2 c
    replace K := fun i ro uo z => K i ro uo (Or.inr ⟨c, z⟩)
    exact ⟨h, K i0 _ _ ⟨rfl, rfl⟩⟩
set_option maxRecDepth 100000 in
theorem ru_X5_play_L68 {ι : Type} {P Q : Int32 → MS → Prop} : ∀ (n : Nat) {U68 : MS} {v68_2 : Int32} (i0 : ι), (∀ (i : ι) (ro : Int32) (uo : MS), (∃ n8, v_X5_play_L68 ro uo n8 U68 v68_2) → P ro uo) → w_X5_play_L68 Q n U68 v68_2 → w_X5_play_L68 (fun r u => Q r u ∧ P r u) n U68 v68_2 := by
  intro n
  induction n with
  | zero => intro U68 v68_2 i0 K h; unfold w_X5_play_L68 at h; exact h.elim
  | succ n ih =>
    intro U68 v68_2 i0 K h
    unfold w_X5_play_L68 at h ⊢
    replace K := fun (i : ι × Nat) ro uo (z : v_X5_play_L68 ro uo (i.2 + 1) U68 v68_2) => K i.1 ro uo ⟨i.2 + 1, z⟩
    have i00 := i0
    replace i0 : ι × Nat := (i0, 0)
    intro y2_
    replace h := h y2_
    replace K := fun i ro uo z => K i ro uo ⟨y2_, z⟩
    refine ⟨fun c => ?_, fun c => ?_⟩
    · replace h := h.1 c
      replace K := fun i ro uo z => K i ro uo (Or.inl ⟨c, z⟩)
      exact ru_X5_play_J100 i0 K h
    · replace h := h.2 c
      replace K := fun i ro uo z => K i ro uo (Or.inr ⟨c, z⟩)
      refine ⟨fun c => ?_, fun c => ?_⟩
      · replace h := h.1 c
        replace K := fun i ro uo z => K i ro uo (Or.inl ⟨c, z⟩)
        exact ru_X5_play_J100 i0 K h
      · replace h := h.2 c
        replace K := fun i ro uo z => K i ro uo (Or.inr ⟨c, z⟩)
        intro S24 eS24 y3_ y4_
        replace h := h S24 eS24 y3_ y4_
        replace K := fun i ro uo z => K i ro uo ⟨S24, eS24, y3_, y4_, z⟩
        obtain ⟨Q9, h0, h⟩ := h
        refine ⟨_, ruX5_step h0, ?_⟩
        intro S26 q5_ y6_ y7_
        replace h := h S26 q5_.1 y6_ y7_
        replace K := fun i ro uo z => K i ro uo ⟨S26, q5_.2, y6_, y7_, z⟩
        exact ih i00 (fun i ro uo ⟨n8, z⟩ => K (i, n8) ro uo z) h
set_option maxRecDepth 100000 in
theorem ru_X5_play_J26 {ι : Type} {P Q : Int32 → MS → Prop} {U26 : MS} {v26_1 : Int32} {v26_2 : Int32} (i0 : ι) (K : ∀ (i : ι) (ro : Int32) (uo : MS), v_X5_play_J26 ro uo U26 v26_1 v26_2 → P ro uo) (h : w_X5_play_J26 Q U26 v26_1 v26_2) : w_X5_play_J26 (fun r u => Q r u ∧ P r u) U26 v26_1 v26_2 := by
  unfold w_X5_play_J26 at h ⊢
  intro y8_
  replace h := h y8_
  replace K := fun i ro uo z => K i ro uo ⟨y8_, z⟩
  intro S3 eS3 y9_ y10_
  replace h := h S3 eS3 y9_ y10_
  replace K := fun i ro uo z => K i ro uo ⟨S3, eS3, y9_, y10_, z⟩
  intro S4 eS4 y11_ y12_
  replace h := h S4 eS4 y11_ y12_
  replace K := fun i ro uo z => K i ro uo ⟨S4, eS4, y11_, y12_, z⟩
  intro S5 eS5 y13_ y14_
  replace h := h S5 eS5 y13_ y14_
  replace K := fun i ro uo z => K i ro uo ⟨S5, eS5, y13_, y14_, z⟩
  intro S6 eS6 y15_ y16_
  replace h := h S6 eS6 y15_ y16_
  replace K := fun i ro uo z => K i ro uo ⟨S6, eS6, y15_, y16_, z⟩
  intro S7 eS7 y17_ y18_
  replace h := h S7 eS7 y17_ y18_
  replace K := fun i ro uo z => K i ro uo ⟨S7, eS7, y17_, y18_, z⟩
  obtain ⟨Q9, h0, h⟩ := h
  refine ⟨_, ruX5_openFrame h0, ?_⟩
  intro S9 q19_ y20_ y21_
  replace h := h S9 q19_.1 y20_ y21_
  replace K := fun i ro uo z => K i ro uo ⟨S9, q19_.2, y20_, y21_, z⟩
  obtain ⟨g22_, h⟩ := h
  refine ⟨g22_, ?_⟩
  replace K := fun i ro uo z => K i ro uo ⟨g22_, z⟩
  obtain ⟨g23_, h⟩ := h
  refine ⟨g23_, ?_⟩
  replace K := fun i ro uo z => K i ro uo ⟨g23_, z⟩
  intro a16 ea16 
  replace h := h a16 ea16 
  replace K := fun i ro uo z => K i ro uo ⟨a16, ea16, z⟩
  obtain ⟨Q9, h0, h⟩ := h
  refine ⟨_, ruX5_passArguments h0, ?_⟩
  intro S18 q24_ y25_ y26_
  replace h := h S18 q24_.1 y25_ y26_
  replace K := fun i ro uo z => K i ro uo ⟨S18, q24_.2, y25_, y26_, z⟩
  obtain ⟨n9, h⟩ := h
  exact ⟨n9, ru_X5_play_L68 n9 i0 K h⟩
set_option maxRecDepth 100000 in
theorem ruX5_play {S : MS} {x1 : Int32} {x2 : Int32} {Q : Int32 → MS → Prop} (h : wX5_play S x1 x2 Q) : wX5_play S x1 x2 (fun r u => Q r u ∧ vX5_play S x1 x2 r u) := by
  have i0 : Unit := ()
  have K : ∀ (i : Unit) (ro : Int32) (uo : MS), vX5_play S x1 x2 ro uo → vX5_play S x1 x2 ro uo := fun _ _ _ z => z
  unfold wX5_play at h ⊢
  refine ⟨fun c => ?_, fun c => ?_⟩
  · replace h := h.1 c
    replace K := fun i ro uo z => K i ro uo (Or.inl ⟨c, z⟩)
    obtain ⟨g27_, h⟩ := h
    refine ⟨g27_, ?_⟩
    replace K := fun i ro uo z => K i ro uo ⟨g27_, z⟩
    intro S33 eS33 y28_
    replace h := h S33 eS33 y28_
    replace K := fun i ro uo z => K i ro uo ⟨S33, eS33, y28_, z⟩
    intro S35 eS35 y29_ y30_
    replace h := h S35 eS35 y29_ y30_
    replace K := fun i ro uo z => K i ro uo ⟨S35, eS35, y29_, y30_, z⟩
    obtain ⟨g31_, h⟩ := h
    refine ⟨g31_, ?_⟩
    replace K := fun i ro uo z => K i ro uo ⟨g31_, z⟩
    intro S39 eS39 y32_
    replace h := h S39 eS39 y32_
    replace K := fun i ro uo z => K i ro uo ⟨S39, eS39, y32_, z⟩
    intro S41 eS41 y33_ y34_
    replace h := h S41 eS41 y33_ y34_
    replace K := fun i ro uo z => K i ro uo ⟨S41, eS41, y33_, y34_, z⟩
    exact ru_X5_play_J26 i0 K h
  · replace h := h.2 c
    replace K := fun i ro uo z => K i ro uo (Or.inr ⟨c, z⟩)
    exact ru_X5_play_J26 i0 K h
set_option maxRecDepth 100000 in
theorem vw_X5_play_J100 {ro : Int32} {uo : MS} {U100 : MS} (h : v_X5_play_J100 ro uo U100) : w_X5_play_J100 (fun r u => r = ro ∧ u = uo) U100 := by
  unfold v_X5_play_J100 at h
  unfold w_X5_play_J100
  intro _
  replace h := h.2
  rcases h with ⟨c, h⟩ | ⟨c, h⟩
  · refine ⟨fun _ => ?_, fun c2 => absurd c c2⟩
    exact ⟨h.1.symm, h.2.symm⟩
  · refine ⟨fun c2 => absurd c2 c, fun _ => ?_⟩
    exact ⟨h.1.symm, h.2.symm⟩
set_option maxRecDepth 100000 in
theorem vp_X5_play_J100 {ro : Int32} {uo : MS} {P : Int32 → MS → Prop} {U100 : MS} (h : v_X5_play_J100 ro uo U100) (w : w_X5_play_J100 P U100) : P ro uo := by
  unfold v_X5_play_J100 at h
  unfold w_X5_play_J100 at w
  obtain ⟨y1_, h⟩ := h
  replace w := w y1_
  rcases h with ⟨c, h⟩ | ⟨c, h⟩
  · replace w := w.1 c
    rw [h.1, h.2]
    exact w
  · replace w := w.2 c
    rw [h.1, h.2]
    exact w
set_option maxRecDepth 100000 in
theorem vw_X5_play_L68 {ro : Int32} {uo : MS} : ∀ (n : Nat) {U68 : MS} {v68_2 : Int32}, v_X5_play_L68 ro uo n U68 v68_2 → w_X5_play_L68 (fun r u => r = ro ∧ u = uo) n U68 v68_2 := by
  intro n
  induction n with
  | zero => intro U68 v68_2 h; unfold v_X5_play_L68 at h; exact h.elim
  | succ n ih =>
    intro U68 v68_2 h
    unfold v_X5_play_L68 at h
    unfold w_X5_play_L68
    intro _
    replace h := h.2
    rcases h with ⟨c, h⟩ | ⟨c, h⟩
    · refine ⟨fun _ => ?_, fun c2 => absurd c c2⟩
      exact vw_X5_play_J100 h
    · refine ⟨fun c2 => absurd c2 c, fun _ => ?_⟩
      rcases h with ⟨c, h⟩ | ⟨c, h⟩
      · refine ⟨fun _ => ?_, fun c2 => absurd c c2⟩
        exact vw_X5_play_J100 h
      · refine ⟨fun c2 => absurd c2 c, fun _ => ?_⟩
        obtain ⟨v9, e9, h⟩ := h
        intro x9 d9 _ _
        have c9 : v9 = x9 := e9.trans d9.symm
        subst c9
        replace h := h.2.2
        obtain ⟨q9, z9, h⟩ := h
        refine ⟨_, vwX5_step z9, ?_⟩
        intro q8 d9 _ _
        subst d9
        replace h := h.2.2
        exact ih h
set_option maxRecDepth 100000 in
theorem vp_X5_play_L68 {ro : Int32} {uo : MS} {P : Int32 → MS → Prop} : ∀ (n m : Nat) {U68 : MS} {v68_2 : Int32}, v_X5_play_L68 ro uo n U68 v68_2 → w_X5_play_L68 P m U68 v68_2 → P ro uo := by
  intro n
  induction n with
  | zero => intro m U68 v68_2 h; unfold v_X5_play_L68 at h; exact h.elim
  | succ n ih =>
    intro m U68 v68_2 h w
    cases m with
    | zero => unfold w_X5_play_L68 at w; exact w.elim
    | succ m =>
      unfold v_X5_play_L68 at h
      unfold w_X5_play_L68 at w
      obtain ⟨y2_, h⟩ := h
      replace w := w y2_
      rcases h with ⟨c, h⟩ | ⟨c, h⟩
      · replace w := w.1 c
        exact vp_X5_play_J100 h w
      · replace w := w.2 c
        rcases h with ⟨c, h⟩ | ⟨c, h⟩
        · replace w := w.1 c
          exact vp_X5_play_J100 h w
        · replace w := w.2 c
          obtain ⟨v9, e9, y3_, y4_, h⟩ := h
          replace w := w v9 e9 y3_ y4_
          obtain ⟨q9, z9, y5_, y6_, h⟩ := h
          obtain ⟨Q9, w0, w⟩ := w
          replace w := w q9 (vpX5_step z9 w0) y5_ y6_
          exact ih m h w
set_option maxRecDepth 100000 in
theorem vw_X5_play_J26 {ro : Int32} {uo : MS} {U26 : MS} {v26_1 : Int32} {v26_2 : Int32} (h : v_X5_play_J26 ro uo U26 v26_1 v26_2) : w_X5_play_J26 (fun r u => r = ro ∧ u = uo) U26 v26_1 v26_2 := by
  unfold v_X5_play_J26 at h
  unfold w_X5_play_J26
  intro _
  replace h := h.2
  obtain ⟨v9, e9, h⟩ := h
  intro x9 d9 _ _
  have c9 : v9 = x9 := e9.trans d9.symm
  subst c9
  replace h := h.2.2
  obtain ⟨v9, e9, h⟩ := h
  intro x9 d9 _ _
  have c9 : v9 = x9 := e9.trans d9.symm
  subst c9
  replace h := h.2.2
  obtain ⟨v9, e9, h⟩ := h
  intro x9 d9 _ _
  have c9 : v9 = x9 := e9.trans d9.symm
  subst c9
  replace h := h.2.2
  obtain ⟨v9, e9, h⟩ := h
  intro x9 d9 _ _
  have c9 : v9 = x9 := e9.trans d9.symm
  subst c9
  replace h := h.2.2
  obtain ⟨v9, e9, h⟩ := h
  intro x9 d9 _ _
  have c9 : v9 = x9 := e9.trans d9.symm
  subst c9
  replace h := h.2.2
  obtain ⟨q9, z9, h⟩ := h
  refine ⟨_, vwX5_openFrame z9, ?_⟩
  intro q8 d9 _ _
  subst d9
  replace h := h.2.2
  obtain ⟨g9, h⟩ := h
  refine ⟨g9, ?_⟩
  obtain ⟨g9, h⟩ := h
  refine ⟨g9, ?_⟩
  obtain ⟨v9, e9, h⟩ := h
  intro x9 d9 
  have c9 : v9 = x9 := e9.trans d9.symm
  subst c9
  obtain ⟨q9, z9, h⟩ := h
  refine ⟨_, vwX5_passArguments z9, ?_⟩
  intro q8 d9 _ _
  subst d9
  replace h := h.2.2
  obtain ⟨n9, h⟩ := h
  exact ⟨n9, vw_X5_play_L68 n9 h⟩
set_option maxRecDepth 100000 in
theorem vp_X5_play_J26 {ro : Int32} {uo : MS} {P : Int32 → MS → Prop} {U26 : MS} {v26_1 : Int32} {v26_2 : Int32} (h : v_X5_play_J26 ro uo U26 v26_1 v26_2) (w : w_X5_play_J26 P U26 v26_1 v26_2) : P ro uo := by
  unfold v_X5_play_J26 at h
  unfold w_X5_play_J26 at w
  obtain ⟨y7_, h⟩ := h
  replace w := w y7_
  obtain ⟨v9, e9, y8_, y9_, h⟩ := h
  replace w := w v9 e9 y8_ y9_
  obtain ⟨v9, e9, y10_, y11_, h⟩ := h
  replace w := w v9 e9 y10_ y11_
  obtain ⟨v9, e9, y12_, y13_, h⟩ := h
  replace w := w v9 e9 y12_ y13_
  obtain ⟨v9, e9, y14_, y15_, h⟩ := h
  replace w := w v9 e9 y14_ y15_
  obtain ⟨v9, e9, y16_, y17_, h⟩ := h
  replace w := w v9 e9 y16_ y17_
  obtain ⟨q9, z9, y18_, y19_, h⟩ := h
  obtain ⟨Q9, w0, w⟩ := w
  replace w := w q9 (vpX5_openFrame z9 w0) y18_ y19_
  replace h := h.2
  replace w := w.2
  replace h := h.2
  replace w := w.2
  obtain ⟨v9, e9, h⟩ := h
  replace w := w v9 e9 
  obtain ⟨q9, z9, y20_, y21_, h⟩ := h
  obtain ⟨Q9, w0, w⟩ := w
  replace w := w q9 (vpX5_passArguments z9 w0) y20_ y21_
  obtain ⟨n9, h⟩ := h
  obtain ⟨n8, w⟩ := w
  exact vp_X5_play_L68 n9 n8 h w
set_option maxRecDepth 100000 in
theorem vwX5_play {S : MS} {x1 : Int32} {x2 : Int32} {ro : Int32} {uo : MS} (h : vX5_play S x1 x2 ro uo) : wX5_play S x1 x2 (fun r u => r = ro ∧ u = uo) := by
  unfold vX5_play at h
  unfold wX5_play
  rcases h with ⟨c, h⟩ | ⟨c, h⟩
  · refine ⟨fun _ => ?_, fun c2 => absurd c c2⟩
    obtain ⟨g9, h⟩ := h
    refine ⟨g9, ?_⟩
    obtain ⟨v9, e9, h⟩ := h
    intro x9 d9 _
    have c9 : v9 = x9 := e9.trans d9.symm
    subst c9
    replace h := h.2
    obtain ⟨v9, e9, h⟩ := h
    intro x9 d9 _ _
    have c9 : v9 = x9 := e9.trans d9.symm
    subst c9
    replace h := h.2.2
    obtain ⟨g9, h⟩ := h
    refine ⟨g9, ?_⟩
    obtain ⟨v9, e9, h⟩ := h
    intro x9 d9 _
    have c9 : v9 = x9 := e9.trans d9.symm
    subst c9
    replace h := h.2
    obtain ⟨v9, e9, h⟩ := h
    intro x9 d9 _ _
    have c9 : v9 = x9 := e9.trans d9.symm
    subst c9
    replace h := h.2.2
    exact vw_X5_play_J26 h
  · refine ⟨fun c2 => absurd c2 c, fun _ => ?_⟩
    exact vw_X5_play_J26 h
set_option maxRecDepth 100000 in
theorem vpX5_play {S : MS} {x1 : Int32} {x2 : Int32} {ro : Int32} {uo : MS} {P : Int32 → MS → Prop} (h : vX5_play S x1 x2 ro uo) (w : wX5_play S x1 x2 P) : P ro uo := by
  unfold vX5_play at h
  unfold wX5_play at w
  rcases h with ⟨c, h⟩ | ⟨c, h⟩
  · replace w := w.1 c
    replace h := h.2
    replace w := w.2
    obtain ⟨v9, e9, y22_, h⟩ := h
    replace w := w v9 e9 y22_
    obtain ⟨v9, e9, y23_, y24_, h⟩ := h
    replace w := w v9 e9 y23_ y24_
    replace h := h.2
    replace w := w.2
    obtain ⟨v9, e9, y25_, h⟩ := h
    replace w := w v9 e9 y25_
    obtain ⟨v9, e9, y26_, y27_, h⟩ := h
    replace w := w v9 e9 y26_ y27_
    exact vp_X5_play_J26 h w
  · replace w := w.2 c
    exact vp_X5_play_J26 h w
def v_X12_run_J24 (ro : Int32) (uo : MS) (U24 : MS) (v24_3 : Int32) : Prop := (wfC U24 ∧ (∃ S5 : MS, S5 = wI U24 44 7 (0 : Int32) ∧ qT U24 44 = 45 ∧ wfC S5 ∧ (ro = v24_3 ∧ uo = S5)))
def vX12_run (S : MS) (x1 : Int32) (x2 : Int32) (ro : Int32) (uo : MS) : Prop := (∃ (r2 : Int32) (S3 : MS), vX5_refusal S x1 x2 r2 S3 ∧ wfC S3 ∧ shy S S3 ∧ ((r2.toInt = 0 ∧ (∃ (r8 : Int32) (S9 : MS), vX5_play S3 x1 x2 r8 S9 ∧ wfC S9 ∧ shx S3 S9 ∧ (v_X12_run_J24 ro uo S9 r8))) ∨ (¬ r2.toInt = 0 ∧ (v_X12_run_J24 ro uo S3 r2))))
set_option maxRecDepth 100000 in
theorem ru_X12_run_J24 {ι : Type} {P Q : Int32 → MS → Prop} {U24 : MS} {v24_3 : Int32} (i0 : ι) (K : ∀ (i : ι) (ro : Int32) (uo : MS), v_X12_run_J24 ro uo U24 v24_3 → P ro uo) (h : w_X12_run_J24 Q U24 v24_3) : w_X12_run_J24 (fun r u => Q r u ∧ P r u) U24 v24_3 := by
  unfold w_X12_run_J24 at h ⊢
  intro y1_
  replace h := h y1_
  replace K := fun i ro uo z => K i ro uo ⟨y1_, z⟩
  intro S5 eS5 y2_ y3_
  replace h := h S5 eS5 y2_ y3_
  replace K := fun i ro uo z => K i ro uo ⟨S5, eS5, y2_, y3_, z⟩
  exact ⟨h, K i0 _ _ ⟨rfl, rfl⟩⟩
set_option maxRecDepth 100000 in
theorem ruX12_run {S : MS} {x1 : Int32} {x2 : Int32} {Q : Int32 → MS → Prop} (h : wX12_run S x1 x2 Q) : wX12_run S x1 x2 (fun r u => Q r u ∧ vX12_run S x1 x2 r u) := by
  have i0 : Unit := ()
  have K : ∀ (i : Unit) (ro : Int32) (uo : MS), vX12_run S x1 x2 ro uo → vX12_run S x1 x2 ro uo := fun _ _ _ z => z
  unfold wX12_run at h ⊢
  obtain ⟨Q9, h0, h⟩ := h
  refine ⟨_, ruX5_refusal h0, ?_⟩
  intro r2 S3 q4_ y5_ y6_
  replace h := h r2 S3 q4_.1 y5_ y6_
  replace K := fun i ro uo z => K i ro uo ⟨r2, S3, q4_.2, y5_, y6_, z⟩
  refine ⟨fun c => ?_, fun c => ?_⟩
  · replace h := h.1 c
    replace K := fun i ro uo z => K i ro uo (Or.inl ⟨c, z⟩)
    obtain ⟨Q9, h0, h⟩ := h
    refine ⟨_, ruX5_play h0, ?_⟩
    intro r8 S9 q7_ y8_ y9_
    replace h := h r8 S9 q7_.1 y8_ y9_
    replace K := fun i ro uo z => K i ro uo ⟨r8, S9, q7_.2, y8_, y9_, z⟩
    exact ru_X12_run_J24 i0 K h
  · replace h := h.2 c
    replace K := fun i ro uo z => K i ro uo (Or.inr ⟨c, z⟩)
    exact ru_X12_run_J24 i0 K h
set_option maxRecDepth 100000 in
theorem vw_X12_run_J24 {ro : Int32} {uo : MS} {U24 : MS} {v24_3 : Int32} (h : v_X12_run_J24 ro uo U24 v24_3) : w_X12_run_J24 (fun r u => r = ro ∧ u = uo) U24 v24_3 := by
  unfold v_X12_run_J24 at h
  unfold w_X12_run_J24
  intro _
  replace h := h.2
  obtain ⟨v9, e9, h⟩ := h
  intro x9 d9 _ _
  have c9 : v9 = x9 := e9.trans d9.symm
  subst c9
  replace h := h.2.2
  exact ⟨h.1.symm, h.2.symm⟩
set_option maxRecDepth 100000 in
theorem vp_X12_run_J24 {ro : Int32} {uo : MS} {P : Int32 → MS → Prop} {U24 : MS} {v24_3 : Int32} (h : v_X12_run_J24 ro uo U24 v24_3) (w : w_X12_run_J24 P U24 v24_3) : P ro uo := by
  unfold v_X12_run_J24 at h
  unfold w_X12_run_J24 at w
  obtain ⟨y1_, h⟩ := h
  replace w := w y1_
  obtain ⟨v9, e9, y2_, y3_, h⟩ := h
  replace w := w v9 e9 y2_ y3_
  rw [h.1, h.2]
  exact w
set_option maxRecDepth 100000 in
theorem vwX12_run {S : MS} {x1 : Int32} {x2 : Int32} {ro : Int32} {uo : MS} (h : vX12_run S x1 x2 ro uo) : wX12_run S x1 x2 (fun r u => r = ro ∧ u = uo) := by
  unfold vX12_run at h
  unfold wX12_run
  obtain ⟨p9, q9, z9, h⟩ := h
  refine ⟨_, vwX5_refusal z9, ?_⟩
  rintro p8 q8 ⟨d8, d9⟩ _ _
  subst d8
  subst d9
  replace h := h.2.2
  rcases h with ⟨c, h⟩ | ⟨c, h⟩
  · refine ⟨fun _ => ?_, fun c2 => absurd c c2⟩
    obtain ⟨p9, q9, z9, h⟩ := h
    refine ⟨_, vwX5_play z9, ?_⟩
    rintro p8 q8 ⟨d8, d9⟩ _ _
    subst d8
    subst d9
    replace h := h.2.2
    exact vw_X12_run_J24 h
  · refine ⟨fun c2 => absurd c2 c, fun _ => ?_⟩
    exact vw_X12_run_J24 h
set_option maxRecDepth 100000 in
theorem vpX12_run {S : MS} {x1 : Int32} {x2 : Int32} {ro : Int32} {uo : MS} {P : Int32 → MS → Prop} (h : vX12_run S x1 x2 ro uo) (w : wX12_run S x1 x2 P) : P ro uo := by
  unfold vX12_run at h
  unfold wX12_run at w
  obtain ⟨p9, q9, z9, y4_, y5_, h⟩ := h
  obtain ⟨Q9, w0, w⟩ := w
  replace w := w p9 q9 (vpX5_refusal z9 w0) y4_ y5_
  rcases h with ⟨c, h⟩ | ⟨c, h⟩
  · replace w := w.1 c
    obtain ⟨p9, q9, z9, y6_, y7_, h⟩ := h
    obtain ⟨Q9, w0, w⟩ := w
    replace w := w p9 q9 (vpX5_play z9 w0) y6_ y7_
    exact vp_X12_run_J24 h w
  · replace w := w.2 c
    exact vp_X12_run_J24 h w
/-! numbers -/
theorem t_addk {a b : Int32} (h : -2147483648 ≤ a.toInt + b.toInt ∧ a.toInt + b.toInt ≤ 2147483647) : (a + b).toInt = a.toInt + b.toInt := by
  rw [Int32.toInt_add]
  apply Int.bmod_eq_of_le <;> omega
theorem t_subk {a b : Int32} (h : -2147483648 ≤ a.toInt - b.toInt ∧ a.toInt - b.toInt ≤ 2147483647) : (a - b).toInt = a.toInt - b.toInt := by
  rw [Int32.toInt_sub]
  apply Int.bmod_eq_of_le <;> omega
theorem t_mulk {a b : Int32} (h : -2147483648 ≤ a.toInt * b.toInt ∧ a.toInt * b.toInt ≤ 2147483647) : (a * b).toInt = a.toInt * b.toInt := by
  rw [Int32.toInt_mul]
  apply Int.bmod_eq_of_le <;> omega
theorem li_m4 : (-4 : Int32).toInt = -4 := by decide
theorem li_m3k : (-3 : Int32).toInt = -3 := by decide
theorem li_m2k : (-2 : Int32).toInt = -2 := by decide
theorem li_m1k : (-1 : Int32).toInt = -1 := by decide
theorem li_0k : (0 : Int32).toInt = 0 := by decide
theorem li_1k : (1 : Int32).toInt = 1 := by decide
theorem li_2k : (2 : Int32).toInt = 2 := by decide
theorem li_3k : (3 : Int32).toInt = 3 := by decide
theorem li_4k : (4 : Int32).toInt = 4 := by decide
theorem li_5k : (5 : Int32).toInt = 5 := by decide
theorem li_6k : (6 : Int32).toInt = 6 := by decide
theorem li_7k : (7 : Int32).toInt = 7 := by decide
theorem li_8k : (8 : Int32).toInt = 8 := by decide
theorem li_9k : (9 : Int32).toInt = 9 := by decide
theorem li_10k : (10 : Int32).toInt = 10 := by decide
theorem li_11k : (11 : Int32).toInt = 11 := by decide
theorem li_12k : (12 : Int32).toInt = 12 := by decide
theorem li_13k : (13 : Int32).toInt = 13 := by decide
theorem li_14k : (14 : Int32).toInt = 14 := by decide
theorem li_15k : (15 : Int32).toInt = 15 := by decide
theorem li_16k : (16 : Int32).toInt = 16 := by decide
theorem li_17k : (17 : Int32).toInt = 17 := by decide
theorem li_18k : (18 : Int32).toInt = 18 := by decide
theorem li_19 : (19 : Int32).toInt = 19 := by decide
theorem li_20k : (20 : Int32).toInt = 20 := by decide
theorem li_24k : (24 : Int32).toInt = 24 := by decide
theorem li_25k : (25 : Int32).toInt = 25 := by decide
theorem li_26k : (26 : Int32).toInt = 26 := by decide
theorem li_28k : (28 : Int32).toInt = 28 := by decide
theorem li_30 : (30 : Int32).toInt = 30 := by decide
theorem li_32k : (32 : Int32).toInt = 32 := by decide
theorem li_33k : (33 : Int32).toInt = 33 := by decide
theorem li_42k : (42 : Int32).toInt = 42 := by decide
theorem li_48k : (48 : Int32).toInt = 48 := by decide
theorem li_58k : (58 : Int32).toInt = 58 := by decide
theorem li_59k : (59 : Int32).toInt = 59 := by decide
theorem li_63k : (63 : Int32).toInt = 63 := by decide
theorem li_64 : (64 : Int32).toInt = 64 := by decide
theorem li_75k : (75 : Int32).toInt = 75 := by decide
theorem li_96 : (96 : Int32).toInt = 96 := by decide
theorem li_97k : (97 : Int32).toInt = 97 := by decide
theorem li_99 : (99 : Int32).toInt = 99 := by decide
theorem li_127 : (127 : Int32).toInt = 127 := by decide
theorem li_132k : (132 : Int32).toInt = 132 := by decide
theorem li_153k : (153 : Int32).toInt = 153 := by decide
theorem li_159k : (159 : Int32).toInt = 159 := by decide
theorem li_167k : (167 : Int32).toInt = 167 := by decide
theorem li_178k : (178 : Int32).toInt = 178 := by decide
theorem li_179k : (179 : Int32).toInt = 179 := by decide
theorem li_196 : (196 : Int32).toInt = 196 := by decide
theorem li_255k : (255 : Int32).toInt = 255 := by decide
theorem li_1200 : (1200 : Int32).toInt = 1200 := by decide
theorem li_1201 : (1201 : Int32).toInt = 1201 := by decide
theorem li_1296 : (1296 : Int32).toInt = 1296 := by decide
theorem li_20000 : (20000 : Int32).toInt = 20000 := by decide
theorem li_252645135 : (252645135 : Int32).toInt = 252645135 := by decide
theorem li_858993459 : (858993459 : Int32).toInt = 858993459 := by decide
theorem li_1431655765 : (1431655765 : Int32).toInt = 1431655765 := by decide
theorem lo_m1k : (Int32.ofInt (-1)).toInt = -1 := by decide
theorem lo_1k : (Int32.ofInt (1)).toInt = 1 := by decide
theorem lo_2k : (Int32.ofInt (2)).toInt = 2 := by decide
theorem lo_4k : (Int32.ofInt (4)).toInt = 4 := by decide
theorem lo_8k : (Int32.ofInt (8)).toInt = 8 := by decide
theorem lo_16k : (Int32.ofInt (16)).toInt = 16 := by decide
section RDS
variable {S : MS} {h i : Nat} {v : Int32} {w : Int64} {r : Option Nat}
theorem qI_wJk : qI (wJ S h i w) = qI S := rfl
theorem qI_wRk : qI (wR S h i r) = qI S := rfl
theorem qJ_wIk : qJ (wI S h i v) = qJ S := rfl
theorem qJ_wRk : qJ (wR S h i r) = qJ S := rfl
theorem qR_wIk : qR (wI S h i v) = qR S := rfl
theorem qR_wJk : qR (wJ S h i w) = qR S := rfl
theorem qT_wIk : qT (wI S h i v) = qT S := rfl
theorem qT_wJk : qT (wJ S h i w) = qT S := rfl
theorem qT_wRk : qT (wR S h i r) = qT S := rfl
theorem qN_wIk : qN (wI S h i v) = qN S := rfl
theorem qN_wJk : qN (wJ S h i w) = qN S := rfl
theorem qN_wRk : qN (wR S h i r) = qN S := rfl
theorem qn_wIk : qn (wI S h i v) = qn S := rfl
theorem qn_wJk : qn (wJ S h i w) = qn S := rfl
theorem qn_wRk : qn (wR S h i r) = qn S := rfl
end RDS
theorem c_andk {z x m : Int32} {k b : Nat} (h : z = x &&& m) (hm : m.toBitVec.toNat = 2 ^ k - 1) (hk : k ≤ 30) (hb : 2 ^ k = b) : 0 ≤ z.toInt ∧ z.toInt < b := by
  obtain ⟨j, hj, e⟩ := pk_andE x k hm
  have h2 : 2 ^ k ≤ 2 ^ 30 := Nat.pow_le_pow_right (by decide) hk
  have h3 : (2 : Nat) ^ 30 < 2 ^ 31 := by decide
  rw [h, e, nI_toInt (by omega)]
  omega
theorem c_ork {z x y : Int32} {k b : Nat} (h : z = x ||| y) (hb : 2 ^ k = b) (hk : k ≤ 30) (hx : 0 ≤ x.toInt ∧ x.toInt < b) (hy : 0 ≤ y.toInt ∧ y.toInt < b) : 0 ≤ z.toInt ∧ z.toInt < b := by
  have h2 : 2 ^ k ≤ 2 ^ 30 := Nat.pow_le_pow_right (by decide) hk
  have h3 : (2 : Nat) ^ 30 < 2 ^ 31 := by decide
  have ex : x = nI x.toInt.toNat := by
    apply Int32.toInt_inj.mp
    rw [nI_toInt (by omega)]
    omega
  have ey : y = nI y.toInt.toNat := by
    apply Int32.toInt_inj.mp
    rw [nI_toInt (by omega)]
    omega
  have hn : x.toInt.toNat ||| y.toInt.toNat < 2 ^ k := Nat.or_lt_two_pow (by omega) (by omega)
  have ez : z = nI (x.toInt.toNat ||| y.toInt.toNat) := by
    apply Int32.toBitVec_inj.mp
    apply BitVec.eq_of_toNat_eq
    rw [h, Int32.toBitVec_or, BitVec.toNat_or, pk_tn (by omega)]
    conv => lhs; rw [ex, ey]
    rw [pk_tn (by omega), pk_tn (by omega)]
  rw [ez, nI_toInt (by omega)]
  omega
theorem c_shlk {z x y : Int32} {k j b c : Nat} (h : z = x <<< (y &&& 31)) (hs : ((y &&& 31).toBitVec.smod 32).toNat = k) (hb : 2 ^ j = b) (hc : 2 ^ (j + k) = c) (hk : j + k ≤ 30) (hx : 0 ≤ x.toInt ∧ x.toInt < b) : 0 ≤ z.toInt ∧ z.toInt < c := by
  have h2 : 2 ^ (j + k) ≤ 2 ^ 30 := Nat.pow_le_pow_right (by decide) hk
  have h3 : (2 : Nat) ^ 30 < 2 ^ 31 := by decide
  have ex : x = nI x.toInt.toNat := by
    apply Int32.toInt_inj.mp
    have : (2 : Nat) ^ j ≤ 2 ^ (j + k) := Nat.pow_le_pow_right (by decide) (by omega)
    rw [nI_toInt (by omega)]
    omega
  have hm : x.toInt.toNat * 2 ^ k < 2 ^ (j + k) := by
    rw [Nat.pow_add]
    exact Nat.mul_lt_mul_of_pos_right (by omega) (Nat.two_pow_pos k)
  have ez : z = nI (x.toInt.toNat * 2 ^ k) := by
    rw [h]
    conv => lhs; rw [ex]
    exact pk_shlN _ k hs (by omega)
  rw [ez, nI_toInt (by omega)]
  omega
theorem c_and64k {a : Int64} : 0 ≤ (a &&& (4294967295 : Int64)).toInt ∧ (a &&& (4294967295 : Int64)).toInt ≤ 4294967295 := by
  have h1 : (a &&& (4294967295 : Int64)).toBitVec.toNat ≤ 4294967295 := by
    rw [Int64.toBitVec_and, BitVec.toNat_and]
    exact Nat.and_le_right
  have h2 : (a &&& (4294967295 : Int64)).toInt = ((a &&& (4294967295 : Int64)).toBitVec.toNat : Int) := by
    rw [← Int64.toInt_toBitVec]
    exact BitVec.toInt_eq_toNat_of_lt (by omega)
  omega
theorem c_cmpk {x y : Int64} : ((lg_cmp x y).toInt = 1 ∧ y.toInt < x.toInt) ∨ ((lg_cmp x y).toInt = 0 ∧ x.toInt = y.toInt) ∨ ((lg_cmp x y).toInt = -1 ∧ x.toInt < y.toInt) := by
  unfold lg_cmp
  split
  · rename_i q
    exact Or.inl ⟨by decide, Int64.lt_iff_toInt_lt.mp q⟩
  · split
    · rename_i q1 q
      exact Or.inr (Or.inl ⟨by decide, by rw [q]⟩)
    · rename_i q1 q2
      refine Or.inr (Or.inr ⟨by decide, ?_⟩)
      have h5 : x.toInt ≠ y.toInt := fun e => q2 (Int64.toInt_inj.mp e)
      have h4 : ¬ y.toInt < x.toInt := fun e => q1 (Int64.lt_iff_toInt_lt.mpr e)
      omega
theorem c_lek {x y : Int64} : (lg_cmp x y).toInt ≤ 0 ↔ x.toInt ≤ y.toInt := by
  have := c_cmpk (x := x) (y := y)
  omega
/-! Bytes -/
def p2L : List Nat := [64, 128, 256, 512, 1024, 2048, 4096, 8192, 16384, 32768, 65536, 131072]
theorem p2_dbl : ∀ l ∈ p2L, ∀ c ∈ p2L, l < c → 2 * l ≤ c ∧ 2 * l ∈ p2L := by decide
theorem p2_le : ∀ l ∈ p2L, 64 ≤ l ∧ l ≤ 131072 := by decide
theorem toI_nat {n : Nat} (h : n < 2147483648) : (Int32.ofNat n).toInt = n := nI_toInt h
/-- new cells are rows of bytes -/
def nw9 (S u : MS) : Prop := (∀ a, qT S a = 0 → qT u a = 0 ∨ qT u a = 101) ∧ ∀ a, qn S ≤ a → a < qn u → qT u a ≠ 0
theorem nw9.eq {S u : MS} (h : qT u = qT S) (n : qn u = qn S) : nw9 S u := ⟨fun a e => Or.inl (by rw [h]; exact e), fun a l1 l2 => absurd l2 (by omega)⟩
theorem nw9.tr {S u v : MS} (h : nw9 S u) (k : nw9 u v) (s : shx u v) : nw9 S v := by
  refine ⟨fun a e => ?_, fun a l1 l2 => ?_⟩
  · rcases h.1 a e with q | q
    · exact k.1 a q
    · exact Or.inr (s.T q (by decide))
  · by_cases c : a < qn u
    · have := h.2 a l1 c
      rw [(s.1 a this).1]; exact this
    · exact k.2 a (by omega) l2
theorem nw9.new {S : MS} {n k : Nat} : nw9 S (wN S 101 n k) := by
  have eT : ∀ a, qT (wN S 101 n k) a = if a = qn S then 101 else qT S a := fun _ => rfl
  have en : qn (wN S 101 n k) = qn S + 1 := rfl
  refine ⟨fun a e => ?_, fun a l1 l2 => ?_⟩
  · rw [eT]
    split
    · exact Or.inr rfl
    · exact Or.inl e
  · rw [eT, if_pos (by omega)]; decide
/-- all but the rows of bytes and the object b -/
def fb (b : Nat) (S u : MS) : Prop := shx S u ∧ (∀ a j : Nat, qT S a ≠ 0 → qT S a ≠ 101 → a ≠ b → qI u a j = qI S a j ∧ qJ u a j = qJ S a j ∧ qR u a j = qR S a j) ∧ nw9 S u
theorem fb.rf {b : Nat} {S : MS} : fb b S S := ⟨shx.rf, fun _ _ _ _ _ => ⟨rfl, rfl, rfl⟩, nw9.eq rfl rfl⟩
theorem fb.tr {b : Nat} {S u v : MS} (h : fb b S u) (k : fb b u v) : fb b S v := ⟨h.1.tr k.1, fun a j a0 a1 ab => (by
  have e := (h.1.1 a a0).1
  obtain ⟨p1, p2, p3⟩ := h.2.1 a j a0 a1 ab
  obtain ⟨q1, q2, q3⟩ := k.2.1 a j (by rw [e]; exact a0) (by rw [e]; exact a1) ab
  exact ⟨q1.trans p1, q2.trans p2, q3.trans p3⟩), h.2.2.tr k.2.2 k.1⟩
def ByI (S : MS) (b cap : Nat) : Prop := qR S b 0 = some (qO S b 0) ∧ (0 ≤ (qI S b 1).toInt ∧ (qI S b 1).toInt ≤ qN S (qO S b 0)) ∧ qN S (qO S b 0) ∈ p2L ∧ qN S (qO S b 0) ≤ cap
/-- what was made for the row of bytes: the book -/
def bkB (b : Nat) (S u : MS) : Prop := 64 * qn u + qN S (qO S b 0) ≤ 64 * qn S + qN u (qO u b 0) ∧ qu u + 2 * qN S (qO S b 0) ≤ qu S + 2 * qN u (qO u b 0)
def ByPk (b : Nat) (k : Int) (cap : Nat) (S u : MS) : Prop := ByI u b cap ∧ (qI u b 1).toInt = (qI S b 1).toInt + k ∧ fb b S u ∧ bkB b S u
theorem ByPk.tr {b cap : Nat} {k l : Int} {S u v : MS} (h : ByPk b k cap S u) (h' : ByPk b l cap u v) : ByPk b (k + l) cap S v := by
  obtain ⟨h1, h2, h3, h4, h5⟩ := h
  obtain ⟨k1, k2, k3, k4, k5⟩ := h'
  exact ⟨k1, by omega, h3.tr k3, by omega, by omega⟩
theorem sp_copyOfB {S : MS} {kd p : Nat} {x : Int32} {Q : Nat → MS → Prop} (hL : qN S p < 2147483648) (hp : p ≠ qn S) (hx : 0 ≤ x.toInt) (hr : qn S + 1 ≤ KCC ∧ qu S + x.toInt.toNat ≤ KSC) (hQ : ∀ (f : Nat → Int32) (u : MS), u = wC (wN S kd x.toInt.toNat x.toInt.toNat) (qn S) f → wfC u → Q (qn S) u) : wJ7_copyOf_9075b S kd p x Q := by
  have eL := toI_nat hL
  unfold wJ7_copyOf_9075b
  refine ⟨fun c => ?_, fun c => ?_⟩
  · rw [eL] at c
    have en : qN S p = x.toInt.toNat := by omega
    refine ⟨⟨hr.1, by rw [en]; exact hr.2⟩, fun S13 e w => ?_⟩
    refine hQ (qI S p) S13 ?_ w
    rw [e]
    unfold wKC
    rw [en]
  · refine ⟨⟨hx, hr⟩, fun S5 e5 w5 => ?_⟩
    have e1 : qN S5 p = qN S p := by rw [e5]; exact if_neg hp
    have e2 : qN S5 (qn S) = x.toInt.toNat := by rw [e5]; exact if_pos rfl
    have z : (0 : Int32).toNatClampNeg = 0 := by decide
    rw [e1, e2]
    have hm : ∃ y : Int32, y = (if x < (Int32.ofNat (qN S p)) then x else (Int32.ofNat (qN S p))) ∧ 0 ≤ y.toInt ∧ y.toInt ≤ qN S p ∧ y.toInt ≤ x.toInt := by
      by_cases cc : x < (Int32.ofNat (qN S p))
      · have c' := n_lt.mp cc
        rw [eL] at c'
        exact ⟨x, by rw [if_pos cc], hx, by omega, by omega⟩
      · have c' : ¬ x.toInt < (Int32.ofNat (qN S p)).toInt := fun q => cc (n_lt.mpr q)
        rw [eL] at c'
        exact ⟨Int32.ofNat (qN S p), by rw [if_neg cc], by rw [eL]; omega, by rw [eL]; omega, by rw [eL]; omega⟩
    obtain ⟨y, ey, y0, y1, y2⟩ := hm
    rw [← ey]
    have yn : y.toNatClampNeg = y.toInt.toNat := rfl
    refine ⟨⟨by decide, by decide, fun q => ?_, by rw [z, yn]; omega, by rw [z, yn]; omega⟩, fun S9 e9 k9 w9 => ?_⟩
    · have := n_lt.mp q
      rw [li_0k] at this
      omega
    · rw [e5] at e9
      exact hQ _ S9 e9 w9
theorem wCN_R {S : MS} {t n k a j : Nat} {f : Nat → Int32} : qR (wC (wN S t n k) (qn S) f) a j = if a = qn S then none else qR S a j := by
  show (if a = qn S then fun _ => none else qR S a) j = _
  split <;> rfl
theorem wCN_I {S : MS} {t n k a j : Nat} {f : Nat → Int32} (h : a ≠ qn S) : qI (wC (wN S t n k) (qn S) f) a j = qI S a j := by
  show (if a = qn S then f else (if a = qn S then fun _ => 0 else qI S a)) j = _
  rw [if_neg h, if_neg h]
theorem wCN_J {S : MS} {t n k a j : Nat} {f : Nat → Int32} (h : a ≠ qn S) : qJ (wC (wN S t n k) (qn S) f) a j = qJ S a j := by
  show (if a = qn S then fun _ => 0 else qJ S a) j = _
  rw [if_neg h]
theorem wCN_T {S : MS} {t n k a : Nat} {f : Nat → Int32} (h : a ≠ qn S) : qT (wC (wN S t n k) (qn S) f) a = qT S a := if_neg h
theorem wCN_N {S : MS} {t n k a : Nat} {f : Nat → Int32} (h : a ≠ qn S) : qN (wC (wN S t n k) (qn S) f) a = qN S a := if_neg h
theorem wCN_n {S : MS} {t n k : Nat} {f : Nat → Int32} : qN (wC (wN S t n k) (qn S) f) (qn S) = n := if_pos rfl
/-- a handle of a kind is no new one -/
theorem wfC.ne {S : MS} {a t : Nat} (w : wfC S) (hn : qn S < TXB) (e : qT S a = t) (h0 : t ≠ 0) : a ≠ qn S := fun q => h0 (by rw [← e, q]; exact w.nx hn)
theorem qO_of {S : MS} {a j b : Nat} (h : qR S a j = some b) : qO S a j = b := by unfold qO; rw [h]; rfl
theorem KC_TX {n : Nat} (h : n + 1 ≤ KCC) : n < TXB := by
  have e : KCC = 300000 := rfl
  have e7 : TXB = 10000000 := rfl
  omega
theorem sp_put30 {S : MS} {b cap : Nat} {x : Int32} {Q : MS → Prop} (h : ByI S b cap) (hc : (qI S b 1).toInt < qN S (qO S b 0)) (hQ : ∀ u : MS, ByPk b 1 cap S u → Q u) : w_X0_put_J30 Q S b x := by
  obtain ⟨h1, h2, h3, h4⟩ := h
  have hl := p2_le _ h3
  unfold w_X0_put_J30
  intro w k
  refine ⟨h1, ⟨h2.1, hc⟩, fun S6 e6 k6 w6 S8 e8 k8 w8 => hQ S8 ?_⟩
  have hne : b ≠ qO S b 0 := fun q => by rw [← q, k] at k6; exact absurd k6 (by decide)
  have r8 : ∀ a j, qR S8 a j = qR S a j := fun a j => by rw [e8, e6]; rfl
  have n8 : ∀ a, qN S8 a = qN S a := fun a => by rw [e8, e6]; rfl
  have o8 : qO S8 b 0 = qO S b 0 := by unfold qO; rw [r8]
  have i6 : qI S6 b 1 = qI S b 1 := by rw [e6, qI_wI, if_neg (fun q => hne q.1)]
  have i8 : (qI S8 b 1).toInt = (qI S b 1).toInt + 1 := by
    rw [e8, qI_wI, if_pos ⟨rfl, rfl⟩, i6, t_addk (by rw [li_1k]; omega), li_1k]
  have un : qu S8 = qu S := by rw [e8, e6]; rfl
  have nn : qn S8 = qn S := by rw [e8, e6]; rfl
  refine ⟨⟨by rw [r8, o8]; exact h1, ⟨by omega, by rw [o8, n8]; omega⟩, by rw [o8, n8]; exact h3, by rw [o8, n8]; exact h4⟩, i8, ⟨⟨fun a _ => by rw [e8, e6]; exact ⟨rfl, rfl⟩, by rw [nn]; exact Nat.le_refl _⟩, fun a j a0 a1 ab => ⟨?_, by rw [e8, e6]; rfl, r8 a j⟩, nw9.eq (by rw [e8, e6]; rfl) nn⟩, by rw [o8, n8, nn]; exact Nat.le_refl _, by rw [o8, n8, un]; exact Nat.le_refl _⟩
  have a6 : a ≠ qO S b 0 := fun q => a1 (by rw [q]; exact k6)
  rw [e8, qI_wI, if_neg (fun q => ab q.1), e6, qI_wI, if_neg (fun q => a6 q.1)]
/-- the room that the row of bytes may still take -/
def RmB (b cap : Nat) (S : MS) : Prop := 64 * qn S + cap ≤ 64 * KCC + qN S (qO S b 0) ∧ qu S + 2 * cap ≤ KSC + 2 * qN S (qO S b 0)
theorem RmB.mo {b cap : Nat} {S u : MS} (h : RmB b cap S) (k : bkB b S u) : RmB b cap u := ⟨by have := h.1; have := k.1; omega, by have := h.2; have := k.2; omega⟩
theorem sp_put {S : MS} {b cap : Nat} {x : Int32} {Q : MS → Prop} (w : wfC S) (hb : qT S b = 40) (h : ByI S b cap) (hcap : cap ∈ p2L) (hc : (qI S b 1).toInt < cap) (hR : RmB b cap S) (hQ : ∀ u : MS, ByPk b 1 cap S u → Q u) : wX0_put S b x Q := by
  obtain ⟨h1, h2, h3, h4⟩ := id h
  have hl := p2_le _ h3
  have eL := toI_nat (n := qN S (qO S b 0)) (by omega)
  unfold wX0_put
  refine ⟨h1, fun c => sp_put30 h (by omega) hQ, fun c => ⟨h1, h1, fun kd => ?_⟩⟩
  have hlc : qN S (qO S b 0) < cap := by omega
  obtain ⟨d1, d2⟩ := p2_dbl _ h3 _ hcap hlc
  have hr : qn S + 1 ≤ KCC ∧ qu S + 2 * qN S (qO S b 0) ≤ KSC := ⟨by have := hR.1; omega, by have := hR.2; omega⟩
  have em : ((2 : Int32) * (Int32.ofNat (qN S (qO S b 0)))).toInt = 2 * qN S (qO S b 0) := by rw [t_mulk (by rw [li_2k, eL]; omega), li_2k, eL]
  have hT := KC_TX hr.1
  have hne := w.ne hT kd (by decide)
  have hbn := w.ne hT hb (by decide)
  refine ⟨_, sp_copyOfB (by omega) hne (by omega) ⟨hr.1, by rw [em]; omega⟩ (Q := fun r u => r = qn S ∧ ∃ f, u = wC (wN S 101 (2 * qN S (qO S b 0)) (2 * qN S (qO S b 0))) (qn S) f) (fun f u e _ => ⟨rfl, f, by rw [e, em]; congr 2⟩), ?_⟩
  rintro r S17 ⟨rfl, f, e⟩ w17 s17 k17 S21 e21 k21 w21
  have r21 : ∀ a j, ¬ (a = b ∧ j = 0) → a ≠ qn S → qR S21 a j = qR S a j := fun a j q qa => by rw [e21, qR_wR, if_neg q, e, wCN_R, if_neg qa]
  have o21 : qR S21 b 0 = some (qn S) := by rw [e21, qR_wR, if_pos ⟨rfl, rfl⟩]
  have n21 : qN S21 (qn S) = 2 * qN S (qO S b 0) := by rw [e21]; show qN S17 (qn S) = _; rw [e]; exact wCN_n
  have q21 : qO S21 b 0 = qn S := qO_of o21
  have i21 : qI S21 b 1 = qI S b 1 := by rw [e21]; show qI S17 b 1 = _; rw [e]; exact wCN_I hbn
  have nn : qn S21 = qn S + 1 := by rw [e21, e]; rfl
  have un : qu S21 = qu S + 2 * qN S (qO S b 0) := by rw [e21, e]; rfl
  have g : fb b S S21 := ⟨⟨fun a a0 => by
    have han : a ≠ qn S := fun q => a0 (by rw [q]; exact w.nx hT)
    rw [e21]
    show qT S17 a = _ ∧ qN S17 a = _
    rw [e]
    exact ⟨wCN_T han, wCN_N han⟩, by omega⟩, (fun a j a0 a1 ab => by
    have han : a ≠ qn S := fun q => a0 (by rw [q]; exact w.nx hT)
    refine ⟨?_, ?_, r21 a j (fun q => ab q.1) han⟩
    · rw [e21]; show qI S17 a j = _; rw [e]; exact wCN_I han
    · rw [e21]; show qJ S17 a j = _; rw [e]; exact wCN_J han), by
    have h9 : nw9 S (wN S 101 (2 * qN S (qO S b 0)) (2 * qN S (qO S b 0))) := nw9.new
    have eT : qT S21 = qT (wN S 101 (2 * qN S (qO S b 0)) (2 * qN S (qO S b 0))) := by rw [e21, e]; rfl
    exact ⟨fun a z => by rw [eT]; exact h9.1 a z, fun a l1 l2 => by rw [eT]; exact h9.2 a l1 (by rw [nn] at l2; exact l2)⟩⟩
  refine sp_put30 (cap := cap) ⟨by rw [q21]; exact o21, ⟨by rw [i21]; exact h2.1, by rw [q21, n21, i21]; omega⟩, by rw [q21, n21]; exact d2, by rw [q21, n21]; exact d1⟩ (by rw [q21, n21, i21]; omega) (fun u hu => hQ u ?_)
  obtain ⟨u1, u2, u3, u4, u5⟩ := hu
  rw [q21, n21] at u4 u5
  exact ⟨u1, by rw [u2, i21], g.tr u3, by omega, by omega⟩
theorem fb.T {b a t : Nat} {S u : MS} (h : fb b S u) (e : qT S a = t) (h0 : t ≠ 0) : qT u a = t := h.1.T e h0
theorem sp_put2 {S : MS} {b cap : Nat} {x : Int32} {Q : MS → Prop} (w : wfC S) (hb : qT S b = 40) (h : ByI S b cap) (hcap : cap ∈ p2L) (hc : (qI S b 1).toInt + 1 < cap) (hR : RmB b cap S) (hQ : ∀ u : MS, ByPk b 2 cap S u → Q u) : wX0_put2 S b x Q := by
  unfold wX0_put2
  intro _
  refine ⟨_, sp_put w hb h hcap (by omega) hR (Q := ByPk b 1 cap S) (fun u hu => hu), ?_⟩
  intro u hu wu _ ku
  refine ⟨_, sp_put wu ku hu.1 hcap (by have := hu.2.1; omega) (hR.mo hu.2.2.2) (Q := ByPk b 1 cap u) (fun v hv => hv), ?_⟩
  intro v hv _ _
  exact hQ v (hu.tr hv)
theorem sp_put4 {S : MS} {b cap : Nat} {x : Int32} {Q : MS → Prop} (w : wfC S) (hb : qT S b = 40) (h : ByI S b cap) (hcap : cap ∈ p2L) (hc : (qI S b 1).toInt + 3 < cap) (hR : RmB b cap S) (hQ : ∀ u : MS, ByPk b 4 cap S u → Q u) : wX0_put4 S b x Q := by
  unfold wX0_put4
  intro _
  refine ⟨_, sp_put2 w hb h hcap (by omega) hR (Q := ByPk b 2 cap S) (fun u hu => hu), ?_⟩
  intro u hu wu _ ku
  refine ⟨_, sp_put2 wu ku hu.1 hcap (by have := hu.2.1; omega) (hR.mo hu.2.2.2) (Q := ByPk b 2 cap u) (fun v hv => hv), ?_⟩
  intro v hv _ _
  exact hQ v (hu.tr hv)
