def dfX0 : List Value := [.null, .int 0]
theorem dfX0_ok : ∀ j, j < 2 → defaultValue (tyX0 j) = vp_V dfX0 j := by decide +kernel
def dfX1 : List Value := [.null, .null, .null, .null, .null, .int 0, .int 0, .int 0, .null, .null]
theorem dfX1_ok : ∀ j, j < 10 → defaultValue (tyX1 j) = vp_V dfX1 j := by decide +kernel
def dfX2 : List Value := [.null, .int 0, .int 0, .int 0, .int 0, .int 0, .int 0, .null, .int 0, .int 0, .long 0, .int 0]
theorem dfX2_ok : ∀ j, j < 12 → defaultValue (tyX2 j) = vp_V dfX2 j := by decide +kernel
def dfX3 : List Value := [.null, .int 0, .null, .null, .null, .null, .null, .null, .null, .null, .int 0, .null, .null, .null, .null, .null]
theorem dfX3_ok : ∀ j, j < 16 → defaultValue (tyX3 j) = vp_V dfX3 j := by decide +kernel
def dfX4 : List Value := [.null, .null, .null, .null, .null, .int 0, .int 0, .int 0]
theorem dfX4_ok : ∀ j, j < 8 → defaultValue (tyX4 j) = vp_V dfX4 j := by decide +kernel
def dfX5 : List Value := [.null, .null, .null, .int 0, .null, .int 0, .null, .int 0, .null, .null, .null, .int 0, .null, .int 0, .int 0, .int 0, .long 0, .int 0, .int 0, .int 0]
theorem dfX5_ok : ∀ j, j < 20 → defaultValue (tyX5 j) = vp_V dfX5 j := by decide +kernel
def dfX7 : List Value := [.null, .int 0, .int 0, .int 0, .null, .int 0, .int 0, .int 0, .int 0, .null, .null, .null, .int 0, .int 0, .int 0, .int 0, .int 0]
theorem dfX7_ok : ∀ j, j < 17 → defaultValue (tyX7 j) = vp_V dfX7 j := by decide +kernel
def dfX8 : List Value := [.null, .null, .int 0, .null, .int 0, .null, .null, .null, .null, .int 0, .int 0, .int 0, .null, .null, .null]
theorem dfX8_ok : ∀ j, j < 15 → defaultValue (tyX8 j) = vp_V dfX8 j := by decide +kernel
def dfX9 : List Value := [.null, .null, .null, .null, .null, .null]
theorem dfX9_ok : ∀ j, j < 6 → defaultValue (tyX9 j) = vp_V dfX9 j := by decide +kernel
def dfX10 : List Value := [.null, .int 0, .int 0, .int 0, .int 0, .null, .null, .null, .int 0, .null, .null, .null, .null, .null, .int 0, .int 0, .int 0, .int 0]
theorem dfX10_ok : ∀ j, j < 18 → defaultValue (tyX10 j) = vp_V dfX10 j := by decide +kernel
def dfX11 : List Value := [.null, .null, .null, .null, .null, .int 0, .int 0, .null, .int 0, .int 0, .null, .null, .null, .null, .null, .null, .null, .null]
theorem dfX11_ok : ∀ j, j < 18 → defaultValue (tyX11 j) = vp_V dfX11 j := by decide +kernel
def dfX12 : List Value := [.null, .null, .null, .null, .null, .null, .null, .null, .null, .null, .int 0, .int 0, .int 0, .int 0, .int 0, .int 0, .int 0, .int 0]
theorem dfX12_ok : ∀ j, j < 18 → defaultValue (tyX12 j) = vp_V dfX12 j := by decide +kernel
def dfX13 : List Value := [.null, .null, .int 0, .int 0, .int 0, .null, .null, .null, .null, .null, .null, .null, .null, .null, .null, .null, .null, .null, .null, .null, .null, .int 0, .null]
theorem dfX13_ok : ∀ j, j < 23 → defaultValue (tyX13 j) = vp_V dfX13 j := by decide +kernel
def dfX14 : List Value := [.null, .int 0, .int 0, .null, .int 0, .int 0, .null, .int 0, .int 0, .int 0, .int 0, .null, .int 0, .int 0, .int 0, .null, .null, .null, .null, .null, .int 0, .int 0, .int 0, .int 0, .null, .int 0, .null, .null, .int 0, .null, .null, .null, .null, .null, .null, .int 0, .int 0, .int 0, .null, .int 0, .null, .int 0, .null, .int 0, .null, .int 0, .int 0, .null, .null, .null, .null, .int 0, .int 0, .int 0, .int 0, .null, .int 0, .int 0, .null, .null, .null, .null, .int 0, .int 0, .int 0, .int 0, .null, .null, .null, .null, .null, .null, .null, .int 0, .int 0, .null, .null, .int 0, .int 0, .null, .null, .null, .null, .null, .null, .int 0, .int 0, .null, .int 0, .null, .null, .null, .null, .null, .null, .null, .int 0, .int 0, .int 0, .int 0, .int 0, .long 0, .int 0, .null, .null, .int 0, .int 0, .int 0, .null, .null, .int 0, .null, .null, .null, .null, .null, .null, .null, .null, .null, .null, .null, .int 0, .int 0, .null, .null, .null, .null, .null, .int 0, .null, .null, .null, .null, .null, .int 0, .null, .null, .null, .int 0, .null, .null, .null]
theorem dfX14_ok : ∀ j, j < 143 → defaultValue (tyX14 j) = vp_V dfX14 j := by decide +kernel
def nestL : List Cond := [Cond.methodLinkNest RX12 9 yX0_init RX12, Cond.methodLinkNest RX12 30 yX2_init RX12, Cond.methodLinkNest RX2 11 yX7_init RX12, Cond.methodLinkNest RX12 37 yX1_init RX12, Cond.methodLinkNest RX1 11 yX4_init RX12, Cond.methodLinkNest RX12 44 yX11_init RX12, Cond.methodLinkNest RX11 11 yX0_init RX12, Cond.methodLinkNest RX11 45 yX4_init RX12, Cond.methodLinkNest RX12 51 yX5_init RX12, Cond.methodLinkNest RX12 58 yX3_init RX12, Cond.methodLinkNest RX12 65 yX9_init RX12, Cond.methodLinkNest RX14 222 yX13_init RX14, Cond.fieldLinkNest RX7 97 "CodeFoundry" "MAGIC" "[I" RX12, Cond.fieldLinkNest RX11 126 "CodeFoundry" "MAGIC" "[I" RX12, Cond.declares (Bundle.init0 "java/lang/RuntimeException"), Cond.declares (Bundle.init0 "java/lang/Exception"), Cond.declares (Bundle.init0 Bundle.tN), Cond.castable RJxb5711 RJxb5711, Cond.castable "[B" "java/lang/Cloneable"]
theorem nn_X12_9 : Cond.methodLinkNest RX12 9 yX0_init RX12 ∈ nestL := List.mem_of_getElem? (i := 0) rfl
theorem nn_X12_30 : Cond.methodLinkNest RX12 30 yX2_init RX12 ∈ nestL := List.mem_of_getElem? (i := 1) rfl
theorem nn_X2_11 : Cond.methodLinkNest RX2 11 yX7_init RX12 ∈ nestL := List.mem_of_getElem? (i := 2) rfl
theorem nn_X12_37 : Cond.methodLinkNest RX12 37 yX1_init RX12 ∈ nestL := List.mem_of_getElem? (i := 3) rfl
theorem nn_X1_11 : Cond.methodLinkNest RX1 11 yX4_init RX12 ∈ nestL := List.mem_of_getElem? (i := 4) rfl
theorem nn_X12_44 : Cond.methodLinkNest RX12 44 yX11_init RX12 ∈ nestL := List.mem_of_getElem? (i := 5) rfl
theorem nn_X11_11 : Cond.methodLinkNest RX11 11 yX0_init RX12 ∈ nestL := List.mem_of_getElem? (i := 6) rfl
theorem nn_X11_45 : Cond.methodLinkNest RX11 45 yX4_init RX12 ∈ nestL := List.mem_of_getElem? (i := 7) rfl
theorem nn_X12_51 : Cond.methodLinkNest RX12 51 yX5_init RX12 ∈ nestL := List.mem_of_getElem? (i := 8) rfl
theorem nn_X12_58 : Cond.methodLinkNest RX12 58 yX3_init RX12 ∈ nestL := List.mem_of_getElem? (i := 9) rfl
theorem nn_X12_65 : Cond.methodLinkNest RX12 65 yX9_init RX12 ∈ nestL := List.mem_of_getElem? (i := 10) rfl
theorem nn_X14_222 : Cond.methodLinkNest RX14 222 yX13_init RX14 ∈ nestL := List.mem_of_getElem? (i := 11) rfl
theorem nn_X7_97 : Cond.fieldLinkNest RX7 97 "CodeFoundry" "MAGIC" "[I" RX12 ∈ nestL := List.mem_of_getElem? (i := 12) rfl
theorem nn_X11_126 : Cond.fieldLinkNest RX11 126 "CodeFoundry" "MAGIC" "[I" RX12 ∈ nestL := List.mem_of_getElem? (i := 13) rfl
theorem nn_d1 : Cond.declares (Bundle.init0 "java/lang/RuntimeException") ∈ nestL := List.mem_of_getElem? (i := 14) rfl
theorem nn_d2 : Cond.declares (Bundle.init0 "java/lang/Exception") ∈ nestL := List.mem_of_getElem? (i := 15) rfl
theorem nn_d3 : Cond.declares (Bundle.init0 Bundle.tN) ∈ nestL := List.mem_of_getElem? (i := 16) rfl
theorem nn_cast : Cond.castable RJxb5711 RJxb5711 ∈ nestL := List.mem_of_getElem? (i := 17) rfl
theorem nn_castB : Cond.castable "[B" "java/lang/Cloneable" ∈ nestL := List.mem_of_getElem? (i := 18) rfl
def aoL : List String := ["CodeFoundry$Unit", "CodeFoundry$Row", "CodeFoundryModel$File", "java/lang/String"]
theorem ao_CodeFoundry_Unit : "CodeFoundry$Unit" ∈ aoL := List.mem_of_getElem? (i := 0) rfl
theorem ao_CodeFoundry_Row : "CodeFoundry$Row" ∈ aoL := List.mem_of_getElem? (i := 1) rfl
theorem ao_CodeFoundryModel_File : "CodeFoundryModel$File" ∈ aoL := List.mem_of_getElem? (i := 2) rfl
theorem ao_java_lang_String : "java/lang/String" ∈ aoL := List.mem_of_getElem? (i := 3) rfl
abbrev fa (fs : List Value) (i : Nat) (v : Value) : Prop := fs[i]? = some v
abbrev ob (a : Nat) (ci : Nat) (fs : List Value) : Nat × va_E := (a, .inr (ci, fs))
abbrev ai (a : Nat) (c : ClassId) (n : Nat) (f : Nat → Int32) : Nat × va_E := (a, .inl (c, n, .inl f))
abbrev al (a : Nat) (c : ClassId) (n : Nat) (f : Nat → Int64) : Nat × va_E := (a, .inl (c, n, .inr (.inl f)))
/-- what the tables say beside the words: nest mates' links, arrays of references -/
def ex (U : State) : Prop := (∀ w ∈ nestL, va_Nw w U) ∧ ∀ C ∈ aoL, va_AO C U
theorem ex_same {u U : State} (h : u.vm = U.vm) (hx : ex u) : ex U := by
  refine ⟨fun w hw => ?_, fun C hC => ?_⟩
  · have h1 := hx.1 w hw
    simp only [nestL, List.mem_cons, List.not_mem_nil, or_false] at hw
    rcases hw with rfl | rfl | rfl | rfl | rfl | rfl | rfl | rfl | rfl | rfl | rfl | rfl | rfl | rfl | rfl | rfl | rfl | rfl | rfl <;> exact va_Nw.same rfl h h1
  · exact va_AO.moved (by rw [h]; exact Vm.Alike.refl _) (hx.2 C hC)
theorem ex_warm {s U : State} (hW : s.WarmedH U.vm) (hx : ex s) : ex U := by
  refine ⟨fun w hw => ?_, fun C hC => va_AO.moved hW.alike (hx.2 C hC)⟩
  have h1 := hx.1 w hw
  simp only [nestL, List.mem_cons, List.not_mem_nil, or_false] at hw
  rcases hw with rfl | rfl | rfl | rfl | rfl | rfl | rfl | rfl | rfl | rfl | rfl | rfl | rfl | rfl | rfl | rfl | rfl | rfl | rfl <;> first | exact va_Nw.warmM hW h1 | exact va_Nw.warmF hW h1 | exact va_Nw.warmD hW h1 | exact va_Nw.warmC hW h1
theorem nw_of {w : Cond} {U : State} (hw : w ∈ nestL) (hx : ex U) : va_Nw w U := hx.1 w hw
theorem ao_of {C : String} {U : State} (hC : C ∈ aoL) (hx : ex U) : va_AO C U := hx.2 C hC
theorem gd_I {y : MethodName} {c : ByteArray} {n : Nat} {r : Option FieldType} (h : Cond.code y c n r ∈ tb) : GoodIn tb (wt y c n r) := fun w hw => by
  rcases List.mem_cons.mp hw with rfl | hw
  · exact ⟨h, good_of_word (tb_good _ h)⟩
  · exact ⟨hw, good_of_word (tb_good _ hw)⟩
theorem gd_V {own C : String} {idx : Nat} {y : MethodName} {c : ByteArray} {n : Nat} {r : Option FieldType} (h1 : Cond.methodLink own idx y ∈ tb) (h2 : Cond.instanceMethod y ∈ tb) (h3 : Cond.selects C y y ∈ tb) (h4 : Cond.initialized C ∈ tb) (h : Cond.code y c n r ∈ tb) : GoodIn tb (wsV own idx C y (wt y c n r)) := fun w hw => by
  unfold wsV at hw
  rcases List.mem_append.mp hw with hw | hw
  · have : w ∈ tb := by
      simp only [List.mem_cons, List.not_mem_nil, or_false] at hw
      rcases hw with rfl | rfl | rfl | rfl <;> assumption
    exact ⟨this, good_of_word (tb_good _ this)⟩
  · exact gd_I h w hw
theorem gd_S {own : String} {idx : Nat} {y : MethodName} {c : ByteArray} {n : Nat} {r : Option FieldType} (h1 : Cond.methodLink own idx y ∈ tb) (h2 : Cond.static y ∈ tb) (h4 : Cond.initialized y.cls ∈ tb) (h : Cond.code y c n r ∈ tb) : GoodIn tb (va_wsS own idx y (wt y c n r)) := fun w hw => by
  unfold va_wsS at hw
  rcases List.mem_append.mp hw with hw | hw
  · have : w ∈ tb := by
      simp only [List.mem_cons, List.not_mem_nil, or_false] at hw
      rcases hw with rfl | rfl | rfl <;> assumption
    exact ⟨this, good_of_word (tb_good _ this)⟩
  · exact gd_I h w hw
def bk (n : Int32) : Bool := decide (n < 64 ∧ ¬ (n < 0 ∨ 64 ≤ n.toNatClampNeg))
def wk (n : Int32) : Bool := decide (¬ (n < 0 ∨ 16000 ≤ n.toNatClampNeg))
theorem nz {r : Int32} (h : r = 0 ∨ r = 1) : narrow .boolean (.int r) = .int r := by rcases h with rfl | rfl <;> rfl
