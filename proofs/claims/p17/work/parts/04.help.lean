def dfX0 : List Value := [.null, .int 0]
theorem dfX0_ok : ∀ j, j < 2 → defaultValue (tyX0 j) = vp_V dfX0 j := by decide +kernel
theorem L_dfX0 : dfX0.length = 2 := by decide +kernel
def dfX1 : List Value := [.null, .null, .null, .null, .null, .int 0, .int 0, .int 0, .null, .null]
theorem dfX1_ok : ∀ j, j < 10 → defaultValue (tyX1 j) = vp_V dfX1 j := by decide +kernel
theorem L_dfX1 : dfX1.length = 10 := by decide +kernel
def dfX2 : List Value := [.null, .int 0, .int 0, .int 0, .int 0, .int 0, .int 0, .null, .int 0, .int 0, .long 0, .int 0]
theorem dfX2_ok : ∀ j, j < 12 → defaultValue (tyX2 j) = vp_V dfX2 j := by decide +kernel
theorem L_dfX2 : dfX2.length = 12 := by decide +kernel
def dfX3 : List Value := [.null, .int 0, .null, .null, .null, .null, .null, .null, .null, .null, .int 0, .null, .null, .null, .null, .null]
theorem dfX3_ok : ∀ j, j < 16 → defaultValue (tyX3 j) = vp_V dfX3 j := by decide +kernel
theorem L_dfX3 : dfX3.length = 16 := by decide +kernel
def dfX4 : List Value := [.null, .null, .null, .null, .null, .int 0, .int 0, .int 0]
theorem dfX4_ok : ∀ j, j < 8 → defaultValue (tyX4 j) = vp_V dfX4 j := by decide +kernel
theorem L_dfX4 : dfX4.length = 8 := by decide +kernel
def dfX5 : List Value := [.null, .null, .null, .int 0, .null, .int 0, .null, .int 0, .null, .null, .null, .int 0, .null, .int 0, .int 0, .int 0, .long 0, .int 0, .int 0, .int 0]
theorem dfX5_ok : ∀ j, j < 20 → defaultValue (tyX5 j) = vp_V dfX5 j := by decide +kernel
theorem L_dfX5 : dfX5.length = 20 := by decide +kernel
def dfX7 : List Value := [.null, .int 0, .int 0, .int 0, .null, .int 0, .int 0, .int 0, .int 0, .null, .null, .null, .int 0, .int 0, .int 0, .int 0, .int 0]
theorem dfX7_ok : ∀ j, j < 17 → defaultValue (tyX7 j) = vp_V dfX7 j := by decide +kernel
theorem L_dfX7 : dfX7.length = 17 := by decide +kernel
def dfX8 : List Value := [.null, .null, .int 0, .null, .int 0, .null, .null, .null, .null, .int 0, .int 0, .int 0, .null, .null, .null]
theorem dfX8_ok : ∀ j, j < 15 → defaultValue (tyX8 j) = vp_V dfX8 j := by decide +kernel
theorem L_dfX8 : dfX8.length = 15 := by decide +kernel
def dfX9 : List Value := [.null, .null, .null, .null, .null, .null]
theorem dfX9_ok : ∀ j, j < 6 → defaultValue (tyX9 j) = vp_V dfX9 j := by decide +kernel
theorem L_dfX9 : dfX9.length = 6 := by decide +kernel
def dfX10 : List Value := [.null, .int 0, .int 0, .int 0, .int 0, .null, .null, .null, .int 0, .null, .null, .null, .null, .null, .int 0, .int 0, .int 0, .int 0]
theorem dfX10_ok : ∀ j, j < 18 → defaultValue (tyX10 j) = vp_V dfX10 j := by decide +kernel
theorem L_dfX10 : dfX10.length = 18 := by decide +kernel
def dfX11 : List Value := [.null, .null, .null, .null, .null, .int 0, .int 0, .null, .int 0, .int 0, .null, .null, .null, .null, .null, .null, .null, .null]
theorem dfX11_ok : ∀ j, j < 18 → defaultValue (tyX11 j) = vp_V dfX11 j := by decide +kernel
theorem L_dfX11 : dfX11.length = 18 := by decide +kernel
def dfX12 : List Value := [.null, .null, .null, .null, .null, .null, .null, .null, .null, .null, .int 0, .int 0, .int 0, .int 0, .int 0, .int 0, .int 0, .int 0]
theorem dfX12_ok : ∀ j, j < 18 → defaultValue (tyX12 j) = vp_V dfX12 j := by decide +kernel
theorem L_dfX12 : dfX12.length = 18 := by decide +kernel
def dfX13 : List Value := [.null, .null, .int 0, .int 0, .int 0, .null, .null, .null, .null, .null, .null, .null, .null, .null, .null, .null, .null, .null, .null, .null, .null, .int 0, .null]
theorem dfX13_ok : ∀ j, j < 23 → defaultValue (tyX13 j) = vp_V dfX13 j := by decide +kernel
theorem L_dfX13 : dfX13.length = 23 := by decide +kernel
def dfX14 : List Value := [.null, .int 0, .int 0, .null, .int 0, .int 0, .null, .int 0, .int 0, .int 0, .int 0, .null, .int 0, .int 0, .int 0, .null, .null, .null, .null, .null, .int 0, .int 0, .int 0, .int 0, .null, .int 0, .null, .null, .int 0, .null, .null, .null, .null, .null, .null, .int 0, .int 0, .int 0, .null, .int 0, .null, .int 0, .null, .int 0, .null, .int 0, .int 0, .null, .null, .null, .null, .int 0, .int 0, .int 0, .int 0, .null, .int 0, .int 0, .null, .null, .null, .null, .int 0, .int 0, .int 0, .int 0, .null, .null, .null, .null, .null, .null, .null, .int 0, .int 0, .null, .null, .int 0, .int 0, .null, .null, .null, .null, .null, .null, .int 0, .int 0, .null, .int 0, .null, .null, .null, .null, .null, .null, .null, .int 0, .int 0, .int 0, .int 0, .int 0, .long 0, .int 0, .null, .null, .int 0, .int 0, .int 0, .null, .null, .int 0, .null, .null, .null, .null, .null, .null, .null, .null, .null, .null, .null, .int 0, .int 0, .null, .null, .null, .null, .null, .int 0, .null, .null, .null, .null, .null, .int 0, .null, .null, .null, .int 0, .null, .null, .null]
theorem dfX14_ok : ∀ j, j < 143 → defaultValue (tyX14 j) = vp_V dfX14 j := by decide +kernel
theorem L_dfX14 : dfX14.length = 143 := by decide +kernel
def nestL : List Cond := [Cond.methodLinkNest RX12 9 yX0_init RX12, Cond.methodLinkNest RX12 30 yX2_init RX12, Cond.methodLinkNest RX2 11 yX7_init RX12, Cond.methodLinkNest RX12 37 yX1_init RX12, Cond.methodLinkNest RX1 11 yX4_init RX12, Cond.methodLinkNest RX12 44 yX11_init RX12, Cond.methodLinkNest RX11 11 yX0_init RX12, Cond.methodLinkNest RX11 45 yX4_init RX12, Cond.methodLinkNest RX12 51 yX5_init RX12, Cond.methodLinkNest RX12 58 yX3_init RX12, Cond.methodLinkNest RX12 65 yX9_init RX12, Cond.methodLinkNest RX14 222 yX13_init RX14, Cond.fieldLinkNest RX7 97 "CodeFoundry" "MAGIC" "[I" RX12, Cond.fieldLinkNest RX11 126 "CodeFoundry" "MAGIC" "[I" RX12, Cond.declares (Bundle.init0 "java/lang/RuntimeException"), Cond.declares (Bundle.init0 "java/lang/Exception"), Cond.declares (Bundle.init0 Bundle.tN), Cond.castable RJxb5711 RJxb5711, Cond.castable "[B" "java/lang/Cloneable"]
theorem nn_X12_9 : Cond.methodLinkNest RX12 9 yX0_init RX12 ∈ nestL := List.mem_of_getElem? (i := 0) rfl
theorem nn_X12_30 : Cond.methodLinkNest RX12 30 yX2_init RX12 ∈ nestL := List.mem_of_getElem? (i := 1) rfl
theorem nn_X2_11 : Cond.methodLinkNest RX2 11 yX7_init RX12 ∈ nestL := List.mem_of_getElem? (i := 2) rfl
theorem nn_X12_37 : Cond.methodLinkNest RX12 37 yX1_init RX12 ∈ nestL := List.mem_of_getElem? (i := 3) rfl
theorem nn_X1_11 : Cond.methodLinkNest RX1 11 yX4_init RX12 ∈ nestL := List.mem_of_getElem? (i := 4) rfl
theorem nn_X12_44 : Cond.methodLinkNest RX12 44 yX11_init RX12 ∈ nestL := List.mem_of_getElem? (i := 5) rfl
theorem nn_X11_11 : Cond.methodLinkNest RX11 11 yX0_init RX12 ∈ nestL := List.mem_of_getElem? (i := 6) rfl
theorem nn_X11_45 : Cond.methodLinkNest RX11 45 yX4_init RX12 ∈ nestL := List.mem_of_getElem? (i := 7) rfl
theorem nn_X12_51 : Cond.methodLinkNest RX12 51 yX5_init RX12 ∈ nestL := List.mem_of_getElem? (i := 8) rfl
theorem nn_X12_58 : Cond.methodLinkNest RX12 58 yX3_init RX12 ∈ nestL := List.mem_of_getElem? (i := 9) rfl
theorem nn_X12_65 : Cond.methodLinkNest RX12 65 yX9_init RX12 ∈ nestL := List.mem_of_getElem? (i := 10) rfl
theorem nn_X14_222 : Cond.methodLinkNest RX14 222 yX13_init RX14 ∈ nestL := List.mem_of_getElem? (i := 11) rfl
theorem nn_X7_97 : Cond.fieldLinkNest RX7 97 "CodeFoundry" "MAGIC" "[I" RX12 ∈ nestL := List.mem_of_getElem? (i := 12) rfl
theorem nn_X11_126 : Cond.fieldLinkNest RX11 126 "CodeFoundry" "MAGIC" "[I" RX12 ∈ nestL := List.mem_of_getElem? (i := 13) rfl
theorem nn_d1 : Cond.declares (Bundle.init0 "java/lang/RuntimeException") ∈ nestL := List.mem_of_getElem? (i := 14) rfl
theorem nn_d2 : Cond.declares (Bundle.init0 "java/lang/Exception") ∈ nestL := List.mem_of_getElem? (i := 15) rfl
theorem nn_d3 : Cond.declares (Bundle.init0 Bundle.tN) ∈ nestL := List.mem_of_getElem? (i := 16) rfl
theorem nn_cast : Cond.castable RJxb5711 RJxb5711 ∈ nestL := List.mem_of_getElem? (i := 17) rfl
theorem nn_castB : Cond.castable "[B" "java/lang/Cloneable" ∈ nestL := List.mem_of_getElem? (i := 18) rfl
def aoL : List String := ["CodeFoundry$Unit", "CodeFoundry$Row", "CodeFoundryModel$File", "java/lang/String"]
theorem ao_CodeFoundry_Unit : "CodeFoundry$Unit" ∈ aoL := List.mem_of_getElem? (i := 0) rfl
theorem ao_CodeFoundry_Row : "CodeFoundry$Row" ∈ aoL := List.mem_of_getElem? (i := 1) rfl
theorem ao_CodeFoundryModel_File : "CodeFoundryModel$File" ∈ aoL := List.mem_of_getElem? (i := 2) rfl
theorem ao_java_lang_String : "java/lang/String" ∈ aoL := List.mem_of_getElem? (i := 3) rfl
abbrev fa (fs : List Value) (i : Nat) (v : Value) : Prop := fs[i]? = some v
abbrev ob (a : Nat) (ci : Nat) (fs : List Value) : Nat × va_E := (a, .inr (ci, fs))
abbrev ai (a : Nat) (c : ClassId) (n : Nat) (f : Nat → Int32) : Nat × va_E := (a, .inl (c, n, .inl f))
abbrev al (a : Nat) (c : ClassId) (n : Nat) (f : Nat → Int64) : Nat × va_E := (a, .inl (c, n, .inr (.inl f)))
/-- what the tables say beside the words: nest mates' links, arrays of references -/
def ex (U : State) : Prop := (∀ w ∈ nestL, va_Nw w U) ∧ ∀ C ∈ aoL, va_AO C U
theorem ex_same {u U : State} (h : u.vm = U.vm) (hx : ex u) : ex U := by
  refine ⟨fun w hw => ?_, fun C hC => ?_⟩
  · have h1 := hx.1 w hw
    simp only [nestL, List.mem_cons, List.not_mem_nil, or_false] at hw
    rcases hw with rfl | rfl | rfl | rfl | rfl | rfl | rfl | rfl | rfl | rfl | rfl | rfl | rfl | rfl | rfl | rfl | rfl | rfl | rfl <;> exact va_Nw.same rfl h h1
  · exact va_AO.moved (by rw [h]; exact Vm.Alike.refl _) (hx.2 C hC)
theorem ex_warm {s U : State} (hW : s.WarmedH U.vm) (hx : ex s) : ex U := by
  refine ⟨fun w hw => ?_, fun C hC => va_AO.moved hW.alike (hx.2 C hC)⟩
  have h1 := hx.1 w hw
  simp only [nestL, List.mem_cons, List.not_mem_nil, or_false] at hw
  rcases hw with rfl | rfl | rfl | rfl | rfl | rfl | rfl | rfl | rfl | rfl | rfl | rfl | rfl | rfl | rfl | rfl | rfl | rfl | rfl <;> first | exact va_Nw.warmM hW h1 | exact va_Nw.warmF hW h1 | exact va_Nw.warmD hW h1 | exact va_Nw.warmC hW h1
theorem nw_of {w : Cond} {U : State} (hw : w ∈ nestL) (hx : ex U) : va_Nw w U := hx.1 w hw
theorem ao_of {C : String} {U : State} (hC : C ∈ aoL) (hx : ex U) : va_AO C U := hx.2 C hC
def st_U (dC : Nat → ClassId) (dI : Nat → Nat → Nat) (sz : Nat) (ws : va_W) (tys : List (ClassId × FieldType)) (U : State) : Prop := U.heap.size = sz ∧ va_P (dC, dI) cl0 ws U.heap ∧ va_K (dC, dI) cl0 tys U ∧ va_D (fun _ => True) ws ∧ ex U
theorem st_blind {av : List Value} {dC : Nat → ClassId} {dI : Nat → Nat → Nat} {sz : Nat} {ws : va_W} {tys : List (ClassId × FieldType)} : FrameBlind (va_Pc av (st_U dC dI sz ws tys)) := fun a U g mk q => by
  obtain ⟨q0, q1, qP, qK, qD, qE⟩ := q
  exact ⟨q0, q1, qP, va_K.moved (u := U) (U := U.calling g mk a) (Vm.Alike.refl U.vm) qK, qD, ex_same (u := U) rfl qE⟩
theorem st_mk {av : List Value} {dC : Nat → ClassId} {dI : Nat → Nat → Nat} {ws : va_W} {tys : List (ClassId × FieldType)} {s U : State} {H : Heap} {A : Nat → Prop} (hU : U.heap = H) (hW : s.WarmedH U.vm) (hP : va_P (dC, dI) cl0 ws H) (hK : va_K (dC, dI) cl0 tys s) (hD : va_D A ws) (hex : ex s) : va_Pc av (st_U dC dI H.size ws tys) av.toArray U :=
  ⟨rfl, by rw [hU], by rw [hU]; exact hP, va_K.moved hW.alike hK, hD.weaken (fun _ _ _ _ => trivial), ex_warm hW hex⟩
theorem gd_I {y : MethodName} {c : ByteArray} {n : Nat} {r : Option FieldType} (h : Cond.code y c n r ∈ tb) : GoodIn tb (wt y c n r) := fun w hw => by
  rcases List.mem_cons.mp hw with rfl | hw
  · exact ⟨h, good_of_word (tb_good _ h)⟩
  · exact ⟨hw, good_of_word (tb_good _ hw)⟩
theorem gd_V {own C : String} {idx : Nat} {y : MethodName} {c : ByteArray} {n : Nat} {r : Option FieldType} (h1 : Cond.methodLink own idx y ∈ tb) (h2 : Cond.instanceMethod y ∈ tb) (h3 : Cond.selects C y y ∈ tb) (h4 : Cond.initialized C ∈ tb) (h : Cond.code y c n r ∈ tb) : GoodIn tb (wsV own idx C y (wt y c n r)) := fun w hw => by
  unfold wsV at hw
  rcases List.mem_append.mp hw with hw | hw
  · have : w ∈ tb := by
      simp only [List.mem_cons, List.not_mem_nil, or_false] at hw
      rcases hw with rfl | rfl | rfl | rfl <;> assumption
    exact ⟨this, good_of_word (tb_good _ this)⟩
  · exact gd_I h w hw
theorem gd_W {own C : String} {idx : Nat} {y : MethodName} {c : ByteArray} {n : Nat} {r : Option FieldType} {hh : List (Nat × Nat × Nat × Nat)} (h1 : Cond.methodLink own idx y ∈ tb) (h2 : Cond.instanceMethod y ∈ tb) (h3 : Cond.selects C y y ∈ tb) (h4 : Cond.initialized C ∈ tb) (h : Cond.codeWith y c n r hh ∈ tb) : GoodIn tb (wsV own idx C y (wtw y c n r hh)) := fun w hw => by
  have : w ∈ tb := by
    unfold wsV at hw
    rcases List.mem_append.mp hw with hw | hw
    · simp only [List.mem_cons, List.not_mem_nil, or_false] at hw
      rcases hw with rfl | rfl | rfl | rfl <;> assumption
    · rcases List.mem_cons.mp hw with rfl | hw
      · exact h
      · exact hw
  exact ⟨this, good_of_word (tb_good _ this)⟩
theorem gd_S {own : String} {idx : Nat} {y : MethodName} {c : ByteArray} {n : Nat} {r : Option FieldType} (h1 : Cond.methodLink own idx y ∈ tb) (h2 : Cond.static y ∈ tb) (h4 : Cond.initialized y.cls ∈ tb) (h : Cond.code y c n r ∈ tb) : GoodIn tb (va_wsS own idx y (wt y c n r)) := fun w hw => by
  unfold va_wsS at hw
  rcases List.mem_append.mp hw with hw | hw
  · have : w ∈ tb := by
      simp only [List.mem_cons, List.not_mem_nil, or_false] at hw
      rcases hw with rfl | rfl | rfl <;> assumption
    exact ⟨this, good_of_word (tb_good _ this)⟩
  · exact gd_I h w hw
theorem fx_len {fs fs' : List Value} {k n : Nat} {v : Value} (e : fs' = fs.set k v) (h : fs.length = n) : fs'.length = n := by rw [e, List.length_set]; exact h
theorem fx_ne {fs fs' : List Value} {k j : Nat} {v w : Value} (e : fs' = fs.set k v) (h : fs[j]? = some w) (hne : k ≠ j) : fs'[j]? = some w := by rw [e, List.getElem?_set_ne hne]; exact h
theorem fx_self {fs fs' : List Value} {k : Nat} {v : Value} (e : fs' = fs.set k v) (h : k < fs.length) : fs'[k]? = some v := by rw [e]; exact List.getElem?_set_self h
theorem vi {i : Int32} {n : Nat} (h : decide (¬ (i < 0 ∨ n ≤ i.toNatClampNeg)) = true) : vp_in i n := by unfold vp_in; exact of_decide_eq_true h
def bk (n : Int32) : Bool := decide (n < 64 ∧ ¬ (n < 0 ∨ 64 ≤ n.toNatClampNeg))
theorem bk1 {n : Int32} (h : bk n = true) : n < 64 := (of_decide_eq_true h).1
theorem bk2 {n : Int32} (h : bk n = true) : vp_in n 64 := (of_decide_eq_true h).2
def wk (n : Int32) : Bool := decide (¬ (n < 0 ∨ 16000 ≤ n.toNatClampNeg))
theorem wk2 {n : Int32} (h : wk n = true) : vp_in n 16000 := by unfold vp_in; exact of_decide_eq_true h
theorem k_ge {x : Int32} (h1 : ¬ x < 0) (h2 : ¬ 0 ≤ x) : False := h2 (Int32.not_lt.mp h1)
theorem k_gt1 {x : Int32} (h1 : ¬ x < 1) (h2 : ¬ 0 < x) : False := by
  rw [Int32.lt_iff_toInt_lt] at h1 h2
  have e1 : (1 : Int32).toInt = 1 := rfl
  have e0 : (0 : Int32).toInt = 0 := rfl
  omega
theorem k_m1 {x : Int32} (h1 : ¬ x < 0) (h2 : x < -1) : False := by
  rw [Int32.lt_iff_toInt_lt] at h1 h2
  have e1 : (-1 : Int32).toInt = -1 := rfl
  have e0 : (0 : Int32).toInt = 0 := rfl
  omega
theorem k_in {x y : Int32} {n : Nat} (hy : y.toInt = n) (h1 : ¬ x < 0) (h2 : x < y) : vp_in x n := by
  unfold vp_in
  rw [Int32.lt_iff_toInt_lt] at h1 h2
  have e0 : (0 : Int32).toInt = 0 := rfl
  rintro (h | h)
  · rw [Int32.lt_iff_toInt_lt] at h; omega
  · have : x.toNatClampNeg = x.toInt.toNat := rfl
    omega
theorem k_in12 {x : Int32} (h1 : ¬ x < 0) (h2 : x < 12) : vp_in x 12 := k_in rfl h1 h2
theorem k_in12m {x : Int32} (h1 : ¬ x < 1) (h2 : ¬ 11 < x) : vp_in x 12 := by
  unfold vp_in
  rw [Int32.lt_iff_toInt_lt] at h1 h2
  have e1 : (1 : Int32).toInt = 1 := rfl
  have e2 : (11 : Int32).toInt = 11 := rfl
  have e0 : (0 : Int32).toInt = 0 := rfl
  rintro (h | h)
  · rw [Int32.lt_iff_toInt_lt] at h; omega
  · have : x.toNatClampNeg = x.toInt.toNat := rfl
    omega
theorem k_cmp {v : Int64} (h1 : ¬ lg_cmp v 1 < 0) (h2 : ¬ 0 < lg_cmp v ((0 : Int32).toInt64)) : False := by
  have e : ((0 : Int32).toInt64) = (0 : Int64) := by decide
  rw [e] at h2
  have a : (1 : Int64) ≤ v := (lg_cmp_ge v 1).mp (Int32.not_lt.mp h1)
  have b : v > 0 := Int64.lt_of_lt_of_le (by decide : (0 : Int64) < 1) a
  apply h2
  unfold lg_cmp
  rw [if_pos b]
  decide
theorem k_inN {x : Int32} {n : Nat} (hn : n < 2 ^ 31) (h1 : ¬ x < 0) (h2 : x < Int32.ofNat n) : vp_in x n := k_in (nI_toInt hn) h1 h2
theorem k_1 {x : Int32} (h : ¬ x < 1) : ¬ x < 0 := by
  rw [Int32.lt_iff_toInt_lt] at h ⊢
  have e1 : (1 : Int32).toInt = 1 := rfl
  have e0 : (0 : Int32).toInt = 0 := rfl
  omega
theorem a_up {i b : Int32} (h : ¬ b ≤ i) : (i + 1).toInt = i.toInt + 1 := by
  rw [Int32.le_iff_toInt_le] at h
  have em : Int32.maxValue.toInt = 2147483647 := by decide
  have em2 : Int32.minValue.toInt = -2147483648 := by decide
  have hb := Int32.toInt_le b
  have hi := Int32.minValue_le_toInt i
  rw [Int32.toInt_add]
  have e1 : (1 : Int32).toInt = 1 := rfl
  rw [e1]
  apply Int.bmod_eq_of_le <;> omega
theorem lp_up {i b : Int32} (h : ¬ b ≤ i) : (b.toInt - (i + 1).toInt).toNat < (b.toInt - i.toInt).toNat := by
  rw [a_up h]
  rw [Int32.le_iff_toInt_le] at h
  omega
theorem u2e {en : Int32} (hen : ¬ en < 0) : (en - 2).toInt = en.toInt - 2 := by
  rw [Int32.lt_iff_toInt_lt] at hen
  have e0 : (0 : Int32).toInt = 0 := rfl
  have em : Int32.maxValue.toInt = 2147483647 := by decide
  have hb := Int32.toInt_le en
  rw [Int32.toInt_sub]
  have e1 : (2 : Int32).toInt = 2 := rfl
  rw [e1]
  apply Int.bmod_eq_of_le <;> omega
theorem u2a {k en : Int32} {nd : Nat} (hnd : nd < 2 ^ 31) (hen : ¬ en < 0) (h1 : ¬ k < 0) (h2 : ¬ en - 2 < k) (h3 : en ≤ Int32.ofNat nd) : vp_in k nd := by
  have e := u2e hen
  have en' : (Int32.ofNat nd).toInt = nd := nI_toInt hnd
  rw [Int32.lt_iff_toInt_lt] at h1 h2 hen
  rw [Int32.le_iff_toInt_le] at h3
  have e0 : (0 : Int32).toInt = 0 := rfl
  unfold vp_in
  rintro (h | h)
  · rw [Int32.lt_iff_toInt_lt] at h; omega
  · have : k.toNatClampNeg = k.toInt.toNat := rfl
    omega
theorem u2b {k en : Int32} {nd : Nat} (hnd : nd < 2 ^ 31) (hen : ¬ en < 0) (h1 : ¬ k < 0) (h2 : ¬ en - 2 < k) (h3 : en ≤ Int32.ofNat nd) : vp_in (k + 1) nd := by
  have e := u2e hen
  have en' : (Int32.ofNat nd).toInt = nd := nI_toInt hnd
  rw [Int32.lt_iff_toInt_lt] at h1 h2 hen
  rw [Int32.le_iff_toInt_le] at h3
  have e0 : (0 : Int32).toInt = 0 := rfl
  have em : Int32.maxValue.toInt = 2147483647 := by decide
  have hb := Int32.toInt_le k
  have hk : (k + 1).toInt = k.toInt + 1 := by
    rw [Int32.toInt_add]
    have e1 : (1 : Int32).toInt = 1 := rfl
    rw [e1]
    have hb := Int32.toInt_le en
    apply Int.bmod_eq_of_le <;> omega
  unfold vp_in
  rintro (h | h)
  · rw [Int32.lt_iff_toInt_lt] at h; omega
  · have : (k + 1).toNatClampNeg = (k + 1).toInt.toNat := rfl
    omega
theorem s4a {k en : Int32} {nd : Nat} (hnd : nd < 2 ^ 31) (hen : ¬ en < 0) (h1 : ¬ k < 0) (h2 : ¬ en - 4 < k) (h3 : en ≤ Int32.ofNat nd) : vp_in k nd ∧ vp_in (k + 1) nd ∧ vp_in (k + 2) nd ∧ vp_in (k + 3) nd := by
  have en' : (Int32.ofNat nd).toInt = nd := nI_toInt hnd
  have em : Int32.maxValue.toInt = 2147483647 := by decide
  have e0 : (0 : Int32).toInt = 0 := rfl
  have hb := Int32.toInt_le en
  have hkb := Int32.toInt_le k
  rw [Int32.lt_iff_toInt_lt] at h1 h2 hen
  rw [Int32.le_iff_toInt_le] at h3
  have e : (en - 4).toInt = en.toInt - 4 := by
    rw [Int32.toInt_sub]
    have e1 : (4 : Int32).toInt = 4 := rfl
    rw [e1]
    apply Int.bmod_eq_of_le <;> omega
  have a1 : (k + 1).toInt = k.toInt + 1 := by
    rw [Int32.toInt_add]; have e1 : (1 : Int32).toInt = 1 := rfl; rw [e1]; apply Int.bmod_eq_of_le <;> omega
  have a2 : (k + 2).toInt = k.toInt + 2 := by
    rw [Int32.toInt_add]; have e1 : (2 : Int32).toInt = 2 := rfl; rw [e1]; apply Int.bmod_eq_of_le <;> omega
  have a3 : (k + 3).toInt = k.toInt + 3 := by
    rw [Int32.toInt_add]; have e1 : (3 : Int32).toInt = 3 := rfl; rw [e1]; apply Int.bmod_eq_of_le <;> omega
  simp only [vp_in_iff]
  omega
theorem nz {r : Int32} (h : r = 0 ∨ r = 1) : narrow .boolean (.int r) = .int r := by rcases h with rfl | rfl <;> rfl
