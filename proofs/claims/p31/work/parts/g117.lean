def f_applied_J20 (S : MS) : Int32 := (0 : Int32)
def d_applied_J20 (S : MS) : Prop := True
def f_applied (S : MS) (x1 : Int32) : Int32 := (if x1.toInt < 1 then f_applied_J20 S else (if 11 < x1.toInt then f_applied_J20 S else (qI S 77 x1.toInt.toNat)))
def d_applied (S : MS) (x1 : Int32) : Prop := (if x1.toInt < 1 then d_applied_J20 S else (if 11 < x1.toInt then d_applied_J20 S else (((0 : Int) ≤ x1.toInt ∧ x1.toInt < 12) ∧ True)))
set_option maxHeartbeats 2000000 in
set_option maxRecDepth 100000 in
theorem r_applied (l : Launch) (g : Gr) (ad : Nat → Nat) (sz : Nat) (S : MS) (x1 : Int32) (hw : wfM S) (hd : d_applied S x1) : Met l yX14_applied (wt2 yX14_applied cX14_applied 2 (some .int)) ({ frames := 0, cells := 0, slots := 0, locals := 0 }) (va_Pc [.ref (ad 0), .int x1] (st_R g ad sz S)) (va_Qi (fun (r : Int32) (_ : Unit) => r = f_applied S x1) (fun (_ : Unit) (t : State) => qE g ad (va_A (Wd g ad S) sz) S t) (va_A (Wd g ad S) sz)) 0 0 (va_A (Wd g ad S) sz) := by
  refine Met.ofW (cc := cX14_applied) (maxL := 2) (ret := (some .int)) (by decide) rfl ?_
  intro p e s m args below meth c s₁ B hml hv
  obtain ⟨rfl, hsz, hP, hK, hD0, hex, hE⟩ := hv
  have hx := B.exec
  have hb := B.bytes
  have hr := B.returns
  have hts0 := atoms_spec (ws := wt2 yX14_applied cX14_applied 2 (some .int)) B.pre
  have hts : ∀ w ∈ tb2, w.before _ s = true := fun w h => hts0 w (List.mem_cons_of_mem _ h)
  have hown : s.vm.findClass RX14 = some m.cls := findClass_of_methodNamed B.named
  subst hsz
  have hD := hD0.self (sz := s.heap.size)
  generalize hAe : va_A (Wd g ad S) s.heap.size = A at hD hE ⊢
  have hA : ∀ q : Nat, s.heap.size ≤ q → A q := fun q h => by rw [← hAe]; exact Or.inr h
  have hR : Rep g ad A s S s.heap [] := ⟨hK, hP, hD, va_S.rf, hw⟩
  clear hK hP hD hD0
  have hl := lv_entry ([.ref (ad 0), .int x1]) (n := 2) (Nat.le_of_ble_eq_true rfl)
  rw [lg_entry_eq]
  generalize (lg_sl ([.ref (ad 0), .int x1]) ++ List.replicate (2 - (lg_sl ([.ref (ad 0), .int x1])).length) Slot.unset).toArray = ls at hl ⊢
  have hl : lv_has ls 2 [(0, .ref (ad 0)), (1, .int x1)] := hl
  obtain ⟨r0, hf⟩ : ∃ r0, f_applied S x1 = r0 := ⟨_, rfl⟩
  have hf0 := hf
  unfold f_applied at hf
  unfold d_applied at hd
  refine lv_iload_n hx hb dX14_applied_0 rfl (lv_at hl 1 rfl) ?_
  refine lv_iconst (v := 1) hx hb dX14_applied_1 (by decide) ?_
  have J_20 : ∀ (H : Heap) (locs : List Loc) (ls : Array Slot), d_applied_J20 S → f_applied_J20 S = r0 → Rep g ad A s S H locs → lv_has ls 2 [] → W p l e (headSpec (wt2 yX14_applied cX14_applied 2 (some .int)) ({ frames := 0, cells := 0, slots := 0, locals := 0 })).room s m ([.ref (ad 0), .int x1] : List Value).toArray below meth c H locs 0 0 (MQ below (va_Qi (fun (r : Int32) (_ : Unit) => r = f_applied S x1) (fun (_ : Unit) (t : State) => qE g ad A S t) A) ([.ref (ad 0), .int x1] : List Value).toArray s 0 0 A) (F0 m 20 ls []) := by
    intro H locs ls hd hf hR hl
    unfold d_applied_J20 at hd
    unfold f_applied_J20 at hf
    refine lv_iconst (v := 0) hx hb dX14_applied_20 (by decide) ?_
    exact W.iret (v := 0) hx hb hr (fun t9 ht9 hW9 => ⟨⟨_, (), rfl, hf.trans hf0.symm, ⟨by rw [ht9]; exact hR.P, hR.D⟩⟩, hR.sS.F ht9⟩) hR.sS.2.2 dX14_applied_21
  refine lv_icmp_lt (tgt := 20) hx hb dX14_applied_2 (by decide) (fun c1 => ?_) (fun c1 => ?_)
  · rw [if_pos (k_lt rfl (by decide) c1)] at hf
    (try rw [if_pos (k_lt rfl (by decide) c1)] at hd)
    exact J_20 _ _ ls hd hf  hR (lv_sub hl [] rfl)
  · rw [if_neg (k_nlt rfl (by decide) c1)] at hf
    (try rw [if_neg (k_nlt rfl (by decide) c1)] at hd)
    refine lv_iload_n hx hb dX14_applied_5 rfl (lv_at hl 1 rfl) ?_
    refine lv_bipush (v := 11) hx hb dX14_applied_6 (by decide) ?_
    refine lv_icmp_gt (tgt := 20) hx hb dX14_applied_8 (by decide) (fun c2 => ?_) (fun c2 => ?_)
    · rw [if_pos (k_lt (by decide) rfl c2)] at hf
      (try rw [if_pos (k_lt (by decide) rfl c2)] at hd)
      exact J_20 _ _ ls hd hf  hR (lv_sub hl [] rfl)
    · rw [if_neg (k_nlt (by decide) rfl c2)] at hf
      (try rw [if_neg (k_nlt (by decide) rfl c2)] at hd)
      refine lv_aload_n hx hb dX14_applied_11 rfl (lv_at hl 0 rfl) ?_
      refine va_get (D := rD g) (ci := 13) (v := .ref (ad 77)) (C := RX14) (T := TX14) (N := 143) hx hb hts in2X14 hown hR.K hR.P 0 (hR.at14 hR.w.1) rfl 124 (by decide) (hts _ kx_728) (fun _ h9 => h9) (congrArg (fun z => some (vf ad z)) (hR.w.2.1 _ fin_124).1) dX14_applied_12 ?_
      refine lv_iload_n hx hb dX14_applied_15 rfl (lv_at hl 1 rfl) ?_
      obtain ⟨hv3, hd⟩ := hd
      refine va_iald hx hb hR.K hR.P 77 1 (hR.atI (hR.w.2.1 _ fin_124).2.1) rfl (k_ixN (k_ix (n := 12) (x := x1) (a := x1.toInt) rfl hv3) (hR.w.2.1 _ fin_124).2.2) dX14_applied_16 ?_
      refine lv_topi (fun z4 ez4 => ?_)
      obtain rfl : z4 = (qI S 77 x1.toInt.toNat) := ez4
      refine lv_goto (tgt := 21) hx hb dX14_applied_17 (by decide) ?_
      exact W.iret (v := (qI S 77 x1.toInt.toNat)) hx hb hr (fun t9 ht9 hW9 => ⟨⟨_, (), rfl, hf.trans hf0.symm, ⟨by rw [ht9]; exact hR.P, hR.D⟩⟩, hR.sS.F ht9⟩) hR.sS.2.2 dX14_applied_21
def w_reachedBlocks_J24 (Q : Int32 → MS → Prop) (k4 : MS → Int32 → Int32 → Prop) (U24 : MS) (v24_1 : Int32) (v24_2 : Int32) : Prop := (∀ a4 : Int32, a4 = (v24_2 + Int32.ofInt 1) → k4 U24 v24_1 a4)
def w_reachedBlocks_L4 (Q : Int32 → MS → Prop) : Nat → MS → Int32 → Int32 → Prop
  | 0, _, _, _ => False
  | n4 + 1, U4, v4_1, v4_2 => (((qI U4 0 105).toInt ≤ v4_2.toInt → Q v4_1 U4) ∧ (¬ (qI U4 0 105).toInt ≤ v4_2.toInt → (((0 : Int) ≤ v4_2.toInt ∧ v4_2.toInt < 1200) ∧ (((qI U4 53 v4_2.toInt.toNat).toInt = 0 → w_reachedBlocks_J24 Q (w_reachedBlocks_L4 Q n4) U4 v4_1 v4_2) ∧ (¬ (qI U4 53 v4_2.toInt.toNat).toInt = 0 → (∀ a6 : Int32, a6 = (v4_1 + Int32.ofInt 1) → w_reachedBlocks_J24 Q (w_reachedBlocks_L4 Q n4) U4 a6 v4_2))))))
def w_reachedBlocks (S : MS) (Q : Int32 → MS → Prop) : Prop := (∃ n, w_reachedBlocks_L4 Q n S 0 0)
set_option maxHeartbeats 2000000 in
set_option maxRecDepth 100000 in
theorem r_reachedBlocks (l : Launch) (g : Gr) (ad : Nat → Nat) (sz : Nat) (S : MS) (hw : wfM S) (Q : Int32 → MS → Prop) (h : w_reachedBlocks S Q) : Met l yX14_reachedBlocks (wt2 yX14_reachedBlocks cX14_reachedBlocks 3 (some .int)) ({ frames := 0, cells := 0, slots := 0, locals := 0 }) (va_Pc [.ref (ad 0)] (st_R g ad sz S)) (va_Qi (fun (r : Int32) (u : MS) => Q r u ∧ wfM u ∧ shy S u) (fun (u : MS) (t : State) => qE g ad (va_A (Wd g ad S) sz) u t) (va_A (Wd g ad S) sz)) 0 0 (va_A (Wd g ad S) sz) := by
  refine Met.ofW (cc := cX14_reachedBlocks) (maxL := 3) (ret := (some .int)) (by decide) rfl ?_
  intro p e s m args below meth c s₁ B hml hv
  obtain ⟨rfl, hsz, hP, hK, hD0, hex, hE⟩ := hv
  have hx := B.exec
  have hb := B.bytes
  have hr := B.returns
  have hts0 := atoms_spec (ws := wt2 yX14_reachedBlocks cX14_reachedBlocks 3 (some .int)) B.pre
  have hts : ∀ w ∈ tb2, w.before _ s = true := fun w h => hts0 w (List.mem_cons_of_mem _ h)
  have hown : s.vm.findClass RX14 = some m.cls := findClass_of_methodNamed B.named
  subst hsz
  have hD := hD0.self (sz := s.heap.size)
  generalize hAe : va_A (Wd g ad S) s.heap.size = A at hD hE ⊢
  have hA : ∀ q : Nat, s.heap.size ≤ q → A q := fun q h => by rw [← hAe]; exact Or.inr h
  have hR : Rep g ad A s S s.heap [] := ⟨hK, hP, hD, va_S.rf, hw⟩
  clear hK hP hD hD0
  have hl := lv_entry ([.ref (ad 0)]) (n := 3) (Nat.le_of_ble_eq_true rfl)
  rw [lg_entry_eq]
  generalize (lg_sl ([.ref (ad 0)]) ++ List.replicate (3 - (lg_sl ([.ref (ad 0)])).length) Slot.unset).toArray = ls at hl ⊢
  have hl : lv_has ls 3 [(0, .ref (ad 0))] := hl
  have hsh : shy S S := shy.rf
  unfold w_reachedBlocks at h
  refine lv_iconst (v := 0) hx hb dX14_reachedBlocks_0 (by decide) ?_
  refine lv_istore_n (lv' := [(1, .int 0), (0, .ref (ad 0))]) hx hb dX14_reachedBlocks_1 rfl hl (by decide) rfl (fun ls hl => ?_)
  refine lv_iconst (v := 0) hx hb dX14_reachedBlocks_2 (by decide) ?_
  refine lv_istore_n (lv' := [(2, .int 0), (1, .int 0), (0, .ref (ad 0))]) hx hb dX14_reachedBlocks_3 rfl hl (by decide) rfl (fun ls hl => ?_)
  have J_4 : ∀ (n4 : Nat) (U4 : MS) (v4_1 : Int32) (v4_2 : Int32) (H : Heap) (locs : List Loc) (ls : Array Slot), w_reachedBlocks_L4 Q n4 U4 v4_1 v4_2 → shy S U4 → Rep g ad A s U4 H locs → lv_has ls 3 [(0, .ref (ad 0)), (1, .int v4_1), (2, .int v4_2)] → W p l e (headSpec (wt2 yX14_reachedBlocks cX14_reachedBlocks 3 (some .int)) ({ frames := 0, cells := 0, slots := 0, locals := 0 })).room s m ([.ref (ad 0)] : List Value).toArray below meth c H locs 0 0 (MQ below (va_Qi (fun (r : Int32) (u : MS) => Q r u ∧ wfM u ∧ shy S u) (fun (u : MS) (t : State) => qE g ad A u t) A) ([.ref (ad 0)] : List Value).toArray s 0 0 A) (F0 m 4 ls []) := by
    intro n4
    induction n4 with
    | zero => intro U4 v4_1 v4_2 H locs ls h hsh hR hl; unfold w_reachedBlocks_L4 at h; exact h.elim
    | succ n4 ih_4 =>
      intro U4 v4_1 v4_2 H locs ls h hsh hR hl
      unfold w_reachedBlocks_L4 at h
      refine lv_iload_n hx hb dX14_reachedBlocks_4 rfl (lv_at hl 2 rfl) ?_
      refine lv_aload_n hx hb dX14_reachedBlocks_5 rfl (lv_at hl 0 rfl) ?_
      refine va_get (D := rD g) (ci := 13) (v := .int (qI U4 0 105)) (C := RX14) (T := TX14) (N := 143) hx hb hts in2X14 hown hR.K hR.P 0 (hR.at14 hR.w.1) rfl 105 (by decide) (hts _ kx_670) (fun _ h9 => h9) rfl dX14_reachedBlocks_6 ?_
      refine lv_icmp_ge (tgt := 30) hx hb dX14_reachedBlocks_9 (by decide) (fun c1 => ?_) (fun c1 => ?_)
      · replace h := h.1 (k_le rfl rfl c1)
        refine lv_iload_n hx hb dX14_reachedBlocks_30 rfl (lv_at hl 1 rfl) ?_
        exact W.iret (v := v4_1) hx hb hr (fun t9 ht9 hW9 => ⟨⟨_, U4, rfl, ⟨h, hR.w, hsh⟩, ⟨by rw [ht9]; exact hR.P, hR.D⟩⟩, hR.sS.F ht9⟩) hR.sS.2.2 dX14_reachedBlocks_31
      · replace h := h.2 (k_nle rfl rfl c1)
        refine lv_aload_n hx hb dX14_reachedBlocks_12 rfl (lv_at hl 0 rfl) ?_
        refine va_get (D := rD g) (ci := 13) (v := .ref (ad 53)) (C := RX14) (T := TX14) (N := 143) hx hb hts in2X14 hown hR.K hR.P 0 (hR.at14 hR.w.1) rfl 111 (by decide) (hts _ kx_679) (fun _ h9 => h9) (congrArg (fun z => some (vf ad z)) (hR.w.2.1 _ fin_111).1) dX14_reachedBlocks_13 ?_
        refine lv_iload_n hx hb dX14_reachedBlocks_16 rfl (lv_at hl 2 rfl) ?_
        obtain ⟨hv2, h⟩ := h
        refine va_zald hx hb hR.K hR.P 53 2 (hR.atZ (hR.w.2.1 _ fin_111).2.1) rfl (k_ixN (k_ix (n := 1200) (x := v4_2) (a := v4_2.toInt) rfl hv2) (hR.w.2.1 _ fin_111).2.2) dX14_reachedBlocks_17 ?_
        refine lv_topi (fun z3 ez3 => ?_)
        obtain rfl : z3 = (qI U4 53 v4_2.toInt.toNat) := ez3
        have J_24 : ∀ (U24 : MS) (v24_1 : Int32) (v24_2 : Int32) (H : Heap) (locs : List Loc) (ls : Array Slot), w_reachedBlocks_J24 Q (w_reachedBlocks_L4 Q n4) U24 v24_1 v24_2 → shy S U24 → Rep g ad A s U24 H locs → lv_has ls 3 [(0, .ref (ad 0)), (1, .int v24_1), (2, .int v24_2)] → W p l e (headSpec (wt2 yX14_reachedBlocks cX14_reachedBlocks 3 (some .int)) ({ frames := 0, cells := 0, slots := 0, locals := 0 })).room s m ([.ref (ad 0)] : List Value).toArray below meth c H locs 0 0 (MQ below (va_Qi (fun (r : Int32) (u : MS) => Q r u ∧ wfM u ∧ shy S u) (fun (u : MS) (t : State) => qE g ad A u t) A) ([.ref (ad 0)] : List Value).toArray s 0 0 A) (F0 m 24 ls []) := by
          intro U24 v24_1 v24_2 H locs ls h hsh hR hl
          unfold w_reachedBlocks_J24 at h
          obtain ⟨a4, ea4⟩ : ∃ z, z = (v24_2 + Int32.ofInt 1) := ⟨_, rfl⟩
          replace h := h a4 ea4
          refine lv_iinc (v := a4) (lv' := [(2, .int a4), (0, .ref (ad 0)), (1, .int v24_1)]) hx hb dX14_reachedBlocks_24 hl (k := 2) rfl ea4.symm (by decide) rfl (fun ls hl => ?_)
          refine lv_goto (tgt := 4) hx hb dX14_reachedBlocks_27 (by decide) ?_
          exact ih_4 U24 v24_1 a4 _ _ ls h  hsh hR (lv_sub hl [1, 2, 0] rfl)
        refine lv_if_eq (tgt := 24) hx hb dX14_reachedBlocks_18 (by decide) (fun c5 => ?_) (fun c5 => ?_)
        · replace h := h.1 (k_eq rfl (by decide) c5)
          exact J_24 U4 v4_1 v4_2 _ _ ls h  hsh hR (lv_sub hl [0, 1, 2] rfl)
        · replace h := h.2 (k_ne rfl (by decide) c5)
          obtain ⟨a6, ea6⟩ : ∃ z, z = (v4_1 + Int32.ofInt 1) := ⟨_, rfl⟩
          replace h := h a6 ea6
          refine lv_iinc (v := a6) (lv' := [(1, .int a6), (0, .ref (ad 0)), (2, .int v4_2)]) hx hb dX14_reachedBlocks_21 hl (k := 1) rfl ea6.symm (by decide) rfl (fun ls hl => ?_)
          exact J_24 U4 a6 v4_2 _ _ ls h  hsh hR (lv_sub hl [1, 0, 2] rfl)
  obtain ⟨n9, h⟩ := h
  exact J_4 n9 S 0 0 _ _ ls h  hsh hR (lv_sub hl [2, 1, 0] rfl)
set_option maxHeartbeats 2000000 in
set_option maxRecDepth 100000 in
theorem r_init (l : Launch) (g : Gr) (ad : Nat → Nat) (H0 : Heap) (S : MS) (p0 : Nat) (hw : wfM S) (hT_p0 : qT S p0 = 11) (Q : MS → Prop) (h : w_init S p0 Q) : Met l yX13_init (wt2 yX13_init cX13_init 1 none) ({ frames := 1, cells := KC - qn S, slots := KS - qu S, locals := 12 }) (va_Pc [.ref (ad p0)] (st_RH g ad H0 S)) (va_Qv (fun (u : MS × (Nat → Nat)) => Q u.1 ∧ wfM u.1 ∧ shx S u.1 ∧ adk ad u.2 S) (fun (u : MS × (Nat → Nat)) (t : State) => qEH g (va_A (Wd g ad S) H0.size) S H0 u t) (va_A (Wd g ad S) H0.size)) (KC - qn S) (KS - qu S) (va_A (Wd g ad S) H0.size) := by
  refine Met.ofW (cc := cX13_init) (maxL := 1) (ret := none) (by decide) rfl ?_
  intro p e s m args below meth c s₁ B hml hv
  obtain ⟨rfl, hH0, hsz, hP, hK, hD0, hex, hE⟩ := hv
  have hx := B.exec
  have hb := B.bytes
  have hr := B.returns
  have hts0 := atoms_spec (ws := wt2 yX13_init cX13_init 1 none) B.pre
  have hts : ∀ w ∈ tb2, w.before _ s = true := fun w h => hts0 w (List.mem_cons_of_mem _ h)
  have hown : s.vm.findClass RX13 = some m.cls := findClass_of_methodNamed B.named
  subst hH0
  have hD := hD0.self (sz := s.heap.size)
  generalize hAe : va_A (Wd g ad S) s.heap.size = A at hD hE ⊢
  have hA : ∀ q : Nat, s.heap.size ≤ q → A q := fun q h => by rw [← hAe]; exact Or.inr h
  have hR : Rep g ad A s S s.heap [] := ⟨hK, hP, hD, va_S.rf, hw⟩
  clear hK hP hD hD0
  have hl := lv_entry ([.ref (ad p0)]) (n := 1) (Nat.le_of_ble_eq_true rfl)
  rw [lg_entry_eq]
  generalize (lg_sl ([.ref (ad p0)]) ++ List.replicate (1 - (lg_sl ([.ref (ad p0)])).length) Slot.unset).toArray = ls at hl ⊢
  have hlg : lg S S 0 0 := lg.rf
  have hak : adk ad ad S := adk.rf
  have hin9 : meth.name = "<init>" := (name_of_methodNamed B.named B.method).1
  have hl : lv_has ls 1 [(0, .ref (ad p0))] := hl
  have hsh : shx S S := shx.rf
  unfold w_init at h
  refine lv_aload_n hx hb dX13_init_0 rfl (lv_at hl 0 rfl) ?_
  refine W.objInit hx hb hown (hts _ kx_826) (hts _ kx_92) (hts _ kx_93) rfl (by rw [hml]; exact hl.1) rfl dX13_init_1 (Nat.le_of_ble_eq_true rfl) (Nat.le_of_ble_eq_true rfl) ?_
  refine W.eq (g2 := F0 m 4 ls []) rfl ?_
  refine lv_aload_n hx hb dX13_init_4 rfl (lv_at hl 0 rfl) ?_
  refine lv_bipush (v := 24) hx hb dX13_init_5 (by decide) ?_
  obtain ⟨hv1, h⟩ := h
  have e9 : KC = 300000 := rfl
  have e8 : KS = 3720000 := rfl
  have e7 : TXB = 10000000 := rfl
  have hTX : qn S < TXB := by have := hv1.1; omega
  refine va_newq (C := "java/lang/String") (N' := 24) hx hb hown (hts _ kx_827) (ao_of (by exact ao_java_lang_String) hex) hR.K hR.P hR.D hR.sS hA (by decide) (by decide) (by have := hv1.2; omega) (show 0 + 1 ≤ KC - qn S from hlg.c1 hv1.1) (show 0 + 24 ≤ KS - qu S from hlg.s1 hv1.2) dX13_init_7 (fun q2 cA9 H hK9 hP hD hS => ?_)
  obtain rfl := cls_newR2 hR.K hK9 (k := 4) rfl
  have hw8 := hR.w
  have hR := hR.new (t := 5) (n := 24) (k := 24) hTX (by decide) (fun q9 => absurd q9 (by decide)) wN_cS hP hD hS
  have hk8 : adk ad (adx ad (qn S) q2) S := adk.rf.new (Nat.le_refl _) hTX
  have hak := hak.new (q := q2) hlg.2.2.1 hTX
  have hE := hE.ad hk8
  have hlg : lg S (wN S 5 24 24) (0 + 1) (0 + 24) := hlg.new (t := 5) (n := 24) ⟨hv1.1, hv1.2⟩
  have hs8 : shx S (wN S 5 24 24) := shx.new (t := 5) (n := 24) (k := 24) shx.rf hw8 hTX
  obtain ⟨am3, eam3⟩ : ∃ z, z = adx ad (qn S) q2 := ⟨_, rfl⟩
  have eq_q2 : am3 (qn S) = q2 := by rw [eam3]; exact if_pos rfl
  rw [← eam3] at hR hk8 hak hE
  obtain ⟨S4, eS4⟩ : ∃ z, z = wN S 5 24 24 := ⟨_, rfl⟩
  rw [← eS4] at hR hlg hs8
  replace h := h S4 eS4
  have hsh := hsh.tr hs8
  have hT_b5 : qT S4 (qn S) = 5 := by rw [eS4]; exact if_pos rfl
  have ea_0 : am3 p0 = ad p0 := hk8 _ (hw8.hd hT_p0 (by decide) (by decide))
  have hT_p0 := hs8.T hT_p0 (by decide)
  have hl : lv_has ls 1 [(0, .ref (am3 p0))] := by simp only [ea_0]; exact hl
  refine W.eq (g2 := F0 m 10 ls [.ref (am3 (qn S)), .ref (am3 p0)]) (by simp only [ea_0, eq_q2]) ?_
  clear hw8 hk8 hs8 hP hD hS e9 e8 e7 hTX
  refine va_putF (D := rD g) (ci := 12) (v := .ref (am3 (qn S))) (ty := (.array (.object "java/lang/String"))) (C := RX13) (T := TX13) (N := 23) hx hb hts in2X13 tyX13 tyX13_ok nmX13 hown hR.K hR.P hR.D hR.sS p0 (hR.at13 hT_p0) rfl 5 (by decide) (hts _ kx_828) (fun _ h9 => h9) rfl hin9 rfl (by decide +kernel) rfl rfl (Nat.le_of_ble_eq_true rfl) dX13_init_10 (fun H locs hP hD hS => ?_)
  have hw9 : wfM (wR S4 p0 5 (some (qn S))) := hR.w.put (fun b q9 => by cases q9; exact (hT_b5).trans (by rw [hT_p0]; rfl)) (fun q9 => absurd ((congrArg (qT S4) q9).symm.trans hT_p0) (by rw [hR.w.1]; decide)) (by rw [hT_p0]; decide)
  have hR : Rep g am3 A s (wR S4 p0 5 (some (qn S))) H locs := hR.pR3 hT_p0 F13_s5 hw9 hP hD hS
  obtain ⟨S6, eS6⟩ : ∃ z, z = wR S4 p0 5 (some (qn S)) := ⟨_, rfl⟩
  rw [← eS6] at hR
  replace h := h S6 eS6
  have hT_p0 : qT S6 p0 = 11 := (congrArg (fun z => qT z p0) eS6).trans hT_p0
  have hsh : shx S S6 := by rw [eS6]; exact hsh
  have hlg : lg S S6 (0 + 1) (0 + 24) := by rw [eS6]; exact hlg
  refine lv_aload_n hx hb dX13_init_13 rfl (lv_at hl 0 rfl) ?_
  refine lv_bipush (v := 24) hx hb dX13_init_14 (by decide) ?_
  obtain ⟨hv7, h⟩ := h
  have e9 : KC = 300000 := rfl
  have e8 : KS = 3720000 := rfl
  have e7 : TXB = 10000000 := rfl
  have hTX : qn S6 < TXB := by have := hv7.1; omega
  refine va_newq (C := "java/lang/String") (N' := 24) hx hb hown (hts _ kx_827) (ao_of (by exact ao_java_lang_String) hex) hR.K hR.P hR.D hR.sS hA (by decide) (by decide) (by have := hv7.2; omega) (show 0 + 1 + 1 ≤ KC - qn S from hlg.c1 hv7.1) (show 0 + 24 + 24 ≤ KS - qu S from hlg.s1 hv7.2) dX13_init_16 (fun q8 cA9 H hK9 hP hD hS => ?_)
  obtain rfl := cls_newR2 hR.K hK9 (k := 4) rfl
  have hw8 := hR.w
  have hR := hR.new (t := 5) (n := 24) (k := 24) hTX (by decide) (fun q9 => absurd q9 (by decide)) wN_cS hP hD hS
  have hk8 : adk am3 (adx am3 (qn S6) q8) S6 := adk.rf.new (Nat.le_refl _) hTX
  have hak := hak.new (q := q8) hlg.2.2.1 hTX
  have hE := hE.ad hk8
  have hlg : lg S (wN S6 5 24 24) (0 + 1 + 1) (0 + 24 + 24) := hlg.new (t := 5) (n := 24) ⟨hv7.1, hv7.2⟩
  have hs8 : shx S6 (wN S6 5 24 24) := shx.new (t := 5) (n := 24) (k := 24) shx.rf hw8 hTX
  obtain ⟨am9, eam9⟩ : ∃ z, z = adx am3 (qn S6) q8 := ⟨_, rfl⟩
  have eq_q8 : am9 (qn S6) = q8 := by rw [eam9]; exact if_pos rfl
  rw [← eam9] at hR hk8 hak hE
  obtain ⟨S10, eS10⟩ : ∃ z, z = wN S6 5 24 24 := ⟨_, rfl⟩
  rw [← eS10] at hR hlg hs8
  replace h := h S10 eS10
  have hsh := hsh.tr hs8
  have hT_b11 : qT S10 (qn S6) = 5 := by rw [eS10]; exact if_pos rfl
  have ea_0 : am9 p0 = am3 p0 := hk8 _ (hw8.hd hT_p0 (by decide) (by decide))
  have hT_p0 := hs8.T hT_p0 (by decide)
  have hl : lv_has ls 1 [(0, .ref (am9 p0))] := by simp only [ea_0]; exact hl
  refine W.eq (g2 := F0 m 19 ls [.ref (am9 (qn S6)), .ref (am9 p0)]) (by simp only [ea_0, eq_q8]) ?_
  clear hw8 hk8 hs8 hP hD hS e9 e8 e7 hTX
  refine va_putF (D := rD g) (ci := 12) (v := .ref (am9 (qn S6))) (ty := (.array (.object "java/lang/String"))) (C := RX13) (T := TX13) (N := 23) hx hb hts in2X13 tyX13 tyX13_ok nmX13 hown hR.K hR.P hR.D hR.sS p0 (hR.at13 hT_p0) rfl 6 (by decide) (hts _ kx_829) (fun _ h9 => h9) rfl hin9 rfl (by decide +kernel) rfl rfl (Nat.le_of_ble_eq_true rfl) dX13_init_19 (fun H locs hP hD hS => ?_)
  have hw9 : wfM (wR S10 p0 6 (some (qn S6))) := hR.w.put (fun b q9 => by cases q9; exact (hT_b11).trans (by rw [hT_p0]; rfl)) (fun q9 => absurd ((congrArg (qT S10) q9).symm.trans hT_p0) (by rw [hR.w.1]; decide)) (by rw [hT_p0]; decide)
  have hR : Rep g am9 A s (wR S10 p0 6 (some (qn S6))) H locs := hR.pR3 hT_p0 F13_s6 hw9 hP hD hS
  obtain ⟨S12, eS12⟩ : ∃ z, z = wR S10 p0 6 (some (qn S6)) := ⟨_, rfl⟩
  rw [← eS12] at hR
  replace h := h S12 eS12
  have hT_p0 : qT S12 p0 = 11 := (congrArg (fun z => qT z p0) eS12).trans hT_p0
  have hsh : shx S S12 := by rw [eS12]; exact hsh
  have hlg : lg S S12 (0 + 1 + 1) (0 + 24 + 24) := by rw [eS12]; exact hlg
  refine lv_aload_n hx hb dX13_init_22 rfl (lv_at hl 0 rfl) ?_
  refine lv_bipush (v := 24) hx hb dX13_init_23 (by decide) ?_
  obtain ⟨hv13, h⟩ := h
  have e9 : KC = 300000 := rfl
  have e8 : KS = 3720000 := rfl
  have e7 : TXB = 10000000 := rfl
  have hTX : qn S12 < TXB := by have := hv13.1; omega
  refine va_newq (C := "java/lang/String") (N' := 24) hx hb hown (hts _ kx_827) (ao_of (by exact ao_java_lang_String) hex) hR.K hR.P hR.D hR.sS hA (by decide) (by decide) (by have := hv13.2; omega) (show 0 + 1 + 1 + 1 ≤ KC - qn S from hlg.c1 hv13.1) (show 0 + 24 + 24 + 24 ≤ KS - qu S from hlg.s1 hv13.2) dX13_init_25 (fun q14 cA9 H hK9 hP hD hS => ?_)
  obtain rfl := cls_newR2 hR.K hK9 (k := 4) rfl
  have hw8 := hR.w
  have hR := hR.new (t := 5) (n := 24) (k := 24) hTX (by decide) (fun q9 => absurd q9 (by decide)) wN_cS hP hD hS
  have hk8 : adk am9 (adx am9 (qn S12) q14) S12 := adk.rf.new (Nat.le_refl _) hTX
  have hak := hak.new (q := q14) hlg.2.2.1 hTX
  have hE := hE.ad hk8
  have hlg : lg S (wN S12 5 24 24) (0 + 1 + 1 + 1) (0 + 24 + 24 + 24) := hlg.new (t := 5) (n := 24) ⟨hv13.1, hv13.2⟩
  have hs8 : shx S12 (wN S12 5 24 24) := shx.new (t := 5) (n := 24) (k := 24) shx.rf hw8 hTX
  obtain ⟨am15, eam15⟩ : ∃ z, z = adx am9 (qn S12) q14 := ⟨_, rfl⟩
  have eq_q14 : am15 (qn S12) = q14 := by rw [eam15]; exact if_pos rfl
  rw [← eam15] at hR hk8 hak hE
  obtain ⟨S16, eS16⟩ : ∃ z, z = wN S12 5 24 24 := ⟨_, rfl⟩
  rw [← eS16] at hR hlg hs8
  replace h := h S16 eS16
  have hsh := hsh.tr hs8
  have hT_b17 : qT S16 (qn S12) = 5 := by rw [eS16]; exact if_pos rfl
  have ea_0 : am15 p0 = am9 p0 := hk8 _ (hw8.hd hT_p0 (by decide) (by decide))
  have hT_p0 := hs8.T hT_p0 (by decide)
  have hl : lv_has ls 1 [(0, .ref (am15 p0))] := by simp only [ea_0]; exact hl
  refine W.eq (g2 := F0 m 28 ls [.ref (am15 (qn S12)), .ref (am15 p0)]) (by simp only [ea_0, eq_q14]) ?_
  clear hw8 hk8 hs8 hP hD hS e9 e8 e7 hTX
  refine va_putF (D := rD g) (ci := 12) (v := .ref (am15 (qn S12))) (ty := (.array (.object "java/lang/String"))) (C := RX13) (T := TX13) (N := 23) hx hb hts in2X13 tyX13 tyX13_ok nmX13 hown hR.K hR.P hR.D hR.sS p0 (hR.at13 hT_p0) rfl 7 (by decide) (hts _ kx_830) (fun _ h9 => h9) rfl hin9 rfl (by decide +kernel) rfl rfl (Nat.le_of_ble_eq_true rfl) dX13_init_28 (fun H locs hP hD hS => ?_)
  have hw9 : wfM (wR S16 p0 7 (some (qn S12))) := hR.w.put (fun b q9 => by cases q9; exact (hT_b17).trans (by rw [hT_p0]; rfl)) (fun q9 => absurd ((congrArg (qT S16) q9).symm.trans hT_p0) (by rw [hR.w.1]; decide)) (by rw [hT_p0]; decide)
  have hR : Rep g am15 A s (wR S16 p0 7 (some (qn S12))) H locs := hR.pR3 hT_p0 F13_s7 hw9 hP hD hS
  obtain ⟨S18, eS18⟩ : ∃ z, z = wR S16 p0 7 (some (qn S12)) := ⟨_, rfl⟩
  rw [← eS18] at hR
  replace h := h S18 eS18
  have hT_p0 : qT S18 p0 = 11 := (congrArg (fun z => qT z p0) eS18).trans hT_p0
  have hsh : shx S S18 := by rw [eS18]; exact hsh
  have hlg : lg S S18 (0 + 1 + 1 + 1) (0 + 24 + 24 + 24) := by rw [eS18]; exact hlg
  refine lv_aload_n hx hb dX13_init_31 rfl (lv_at hl 0 rfl) ?_
  refine lv_bipush (v := 24) hx hb dX13_init_32 (by decide) ?_
  obtain ⟨hv19, h⟩ := h
  have e9 : KC = 300000 := rfl
  have e8 : KS = 3720000 := rfl
  have e7 : TXB = 10000000 := rfl
  have hTX : qn S18 < TXB := by have := hv19.1; omega
  refine va_newq (C := "java/lang/String") (N' := 24) hx hb hown (hts _ kx_827) (ao_of (by exact ao_java_lang_String) hex) hR.K hR.P hR.D hR.sS hA (by decide) (by decide) (by have := hv19.2; omega) (show 0 + 1 + 1 + 1 + 1 ≤ KC - qn S from hlg.c1 hv19.1) (show 0 + 24 + 24 + 24 + 24 ≤ KS - qu S from hlg.s1 hv19.2) dX13_init_34 (fun q20 cA9 H hK9 hP hD hS => ?_)
  obtain rfl := cls_newR2 hR.K hK9 (k := 4) rfl
  have hw8 := hR.w
  have hR := hR.new (t := 5) (n := 24) (k := 24) hTX (by decide) (fun q9 => absurd q9 (by decide)) wN_cS hP hD hS
  have hk8 : adk am15 (adx am15 (qn S18) q20) S18 := adk.rf.new (Nat.le_refl _) hTX
  have hak := hak.new (q := q20) hlg.2.2.1 hTX
  have hE := hE.ad hk8
  have hlg : lg S (wN S18 5 24 24) (0 + 1 + 1 + 1 + 1) (0 + 24 + 24 + 24 + 24) := hlg.new (t := 5) (n := 24) ⟨hv19.1, hv19.2⟩
  have hs8 : shx S18 (wN S18 5 24 24) := shx.new (t := 5) (n := 24) (k := 24) shx.rf hw8 hTX
  obtain ⟨am21, eam21⟩ : ∃ z, z = adx am15 (qn S18) q20 := ⟨_, rfl⟩
  have eq_q20 : am21 (qn S18) = q20 := by rw [eam21]; exact if_pos rfl
  rw [← eam21] at hR hk8 hak hE
  obtain ⟨S22, eS22⟩ : ∃ z, z = wN S18 5 24 24 := ⟨_, rfl⟩
  rw [← eS22] at hR hlg hs8
  replace h := h S22 eS22
  have hsh := hsh.tr hs8
  have hT_b23 : qT S22 (qn S18) = 5 := by rw [eS22]; exact if_pos rfl
  have ea_0 : am21 p0 = am15 p0 := hk8 _ (hw8.hd hT_p0 (by decide) (by decide))
  have hT_p0 := hs8.T hT_p0 (by decide)
  have hl : lv_has ls 1 [(0, .ref (am21 p0))] := by simp only [ea_0]; exact hl
  refine W.eq (g2 := F0 m 37 ls [.ref (am21 (qn S18)), .ref (am21 p0)]) (by simp only [ea_0, eq_q20]) ?_
  clear hw8 hk8 hs8 hP hD hS e9 e8 e7 hTX
  refine va_putF (D := rD g) (ci := 12) (v := .ref (am21 (qn S18))) (ty := (.array (.object "java/lang/String"))) (C := RX13) (T := TX13) (N := 23) hx hb hts in2X13 tyX13 tyX13_ok nmX13 hown hR.K hR.P hR.D hR.sS p0 (hR.at13 hT_p0) rfl 8 (by decide) (hts _ kx_831) (fun _ h9 => h9) rfl hin9 rfl (by decide +kernel) rfl rfl (Nat.le_of_ble_eq_true rfl) dX13_init_37 (fun H locs hP hD hS => ?_)
  have hw9 : wfM (wR S22 p0 8 (some (qn S18))) := hR.w.put (fun b q9 => by cases q9; exact (hT_b23).trans (by rw [hT_p0]; rfl)) (fun q9 => absurd ((congrArg (qT S22) q9).symm.trans hT_p0) (by rw [hR.w.1]; decide)) (by rw [hT_p0]; decide)
  have hR : Rep g am21 A s (wR S22 p0 8 (some (qn S18))) H locs := hR.pR3 hT_p0 F13_s8 hw9 hP hD hS
  obtain ⟨S24, eS24⟩ : ∃ z, z = wR S22 p0 8 (some (qn S18)) := ⟨_, rfl⟩
  rw [← eS24] at hR
  replace h := h S24 eS24
  have hT_p0 : qT S24 p0 = 11 := (congrArg (fun z => qT z p0) eS24).trans hT_p0
  have hsh : shx S S24 := by rw [eS24]; exact hsh
  have hlg : lg S S24 (0 + 1 + 1 + 1 + 1) (0 + 24 + 24 + 24 + 24) := by rw [eS24]; exact hlg
  refine lv_aload_n hx hb dX13_init_40 rfl (lv_at hl 0 rfl) ?_
  refine lv_bipush (v := 24) hx hb dX13_init_41 (by decide) ?_
  obtain ⟨hv25, h⟩ := h
  have e9 : KC = 300000 := rfl
  have e8 : KS = 3720000 := rfl
  have e7 : TXB = 10000000 := rfl
  have hTX : qn S24 < TXB := by have := hv25.1; omega
  refine va_newq (C := "java/lang/String") (N' := 24) hx hb hown (hts _ kx_827) (ao_of (by exact ao_java_lang_String) hex) hR.K hR.P hR.D hR.sS hA (by decide) (by decide) (by have := hv25.2; omega) (show 0 + 1 + 1 + 1 + 1 + 1 ≤ KC - qn S from hlg.c1 hv25.1) (show 0 + 24 + 24 + 24 + 24 + 24 ≤ KS - qu S from hlg.s1 hv25.2) dX13_init_43 (fun q26 cA9 H hK9 hP hD hS => ?_)
  obtain rfl := cls_newR2 hR.K hK9 (k := 4) rfl
  have hw8 := hR.w
  have hR := hR.new (t := 5) (n := 24) (k := 24) hTX (by decide) (fun q9 => absurd q9 (by decide)) wN_cS hP hD hS
  have hk8 : adk am21 (adx am21 (qn S24) q26) S24 := adk.rf.new (Nat.le_refl _) hTX
  have hak := hak.new (q := q26) hlg.2.2.1 hTX
  have hE := hE.ad hk8
  have hlg : lg S (wN S24 5 24 24) (0 + 1 + 1 + 1 + 1 + 1) (0 + 24 + 24 + 24 + 24 + 24) := hlg.new (t := 5) (n := 24) ⟨hv25.1, hv25.2⟩
  have hs8 : shx S24 (wN S24 5 24 24) := shx.new (t := 5) (n := 24) (k := 24) shx.rf hw8 hTX
  obtain ⟨am27, eam27⟩ : ∃ z, z = adx am21 (qn S24) q26 := ⟨_, rfl⟩
  have eq_q26 : am27 (qn S24) = q26 := by rw [eam27]; exact if_pos rfl
  rw [← eam27] at hR hk8 hak hE
  obtain ⟨S28, eS28⟩ : ∃ z, z = wN S24 5 24 24 := ⟨_, rfl⟩
  rw [← eS28] at hR hlg hs8
  replace h := h S28 eS28
  have hsh := hsh.tr hs8
  have hT_b29 : qT S28 (qn S24) = 5 := by rw [eS28]; exact if_pos rfl
  have ea_0 : am27 p0 = am21 p0 := hk8 _ (hw8.hd hT_p0 (by decide) (by decide))
  have hT_p0 := hs8.T hT_p0 (by decide)
  have hl : lv_has ls 1 [(0, .ref (am27 p0))] := by simp only [ea_0]; exact hl
  refine W.eq (g2 := F0 m 46 ls [.ref (am27 (qn S24)), .ref (am27 p0)]) (by simp only [ea_0, eq_q26]) ?_
  clear hw8 hk8 hs8 hP hD hS e9 e8 e7 hTX
  refine va_putF (D := rD g) (ci := 12) (v := .ref (am27 (qn S24))) (ty := (.array (.object "java/lang/String"))) (C := RX13) (T := TX13) (N := 23) hx hb hts in2X13 tyX13 tyX13_ok nmX13 hown hR.K hR.P hR.D hR.sS p0 (hR.at13 hT_p0) rfl 9 (by decide) (hts _ kx_832) (fun _ h9 => h9) rfl hin9 rfl (by decide +kernel) rfl rfl (Nat.le_of_ble_eq_true rfl) dX13_init_46 (fun H locs hP hD hS => ?_)
  have hw9 : wfM (wR S28 p0 9 (some (qn S24))) := hR.w.put (fun b q9 => by cases q9; exact (hT_b29).trans (by rw [hT_p0]; rfl)) (fun q9 => absurd ((congrArg (qT S28) q9).symm.trans hT_p0) (by rw [hR.w.1]; decide)) (by rw [hT_p0]; decide)
  have hR : Rep g am27 A s (wR S28 p0 9 (some (qn S24))) H locs := hR.pR3 hT_p0 F13_s9 hw9 hP hD hS
  obtain ⟨S30, eS30⟩ : ∃ z, z = wR S28 p0 9 (some (qn S24)) := ⟨_, rfl⟩
  rw [← eS30] at hR
  replace h := h S30 eS30
  have hT_p0 : qT S30 p0 = 11 := (congrArg (fun z => qT z p0) eS30).trans hT_p0
  have hsh : shx S S30 := by rw [eS30]; exact hsh
  have hlg : lg S S30 (0 + 1 + 1 + 1 + 1 + 1) (0 + 24 + 24 + 24 + 24 + 24) := by rw [eS30]; exact hlg
  refine lv_aload_n hx hb dX13_init_49 rfl (lv_at hl 0 rfl) ?_
  refine lv_bipush (v := 24) hx hb dX13_init_50 (by decide) ?_
  obtain ⟨hv31, h⟩ := h
  have e9 : KC = 300000 := rfl
  have e8 : KS = 3720000 := rfl
  have e7 : TXB = 10000000 := rfl
  have hTX : qn S30 < TXB := by have := hv31.1; omega
  refine va_newq (C := "java/lang/String") (N' := 24) hx hb hown (hts _ kx_827) (ao_of (by exact ao_java_lang_String) hex) hR.K hR.P hR.D hR.sS hA (by decide) (by decide) (by have := hv31.2; omega) (show 0 + 1 + 1 + 1 + 1 + 1 + 1 ≤ KC - qn S from hlg.c1 hv31.1) (show 0 + 24 + 24 + 24 + 24 + 24 + 24 ≤ KS - qu S from hlg.s1 hv31.2) dX13_init_52 (fun q32 cA9 H hK9 hP hD hS => ?_)
  obtain rfl := cls_newR2 hR.K hK9 (k := 4) rfl
  have hw8 := hR.w
  have hR := hR.new (t := 5) (n := 24) (k := 24) hTX (by decide) (fun q9 => absurd q9 (by decide)) wN_cS hP hD hS
  have hk8 : adk am27 (adx am27 (qn S30) q32) S30 := adk.rf.new (Nat.le_refl _) hTX
  have hak := hak.new (q := q32) hlg.2.2.1 hTX
  have hE := hE.ad hk8
  have hlg : lg S (wN S30 5 24 24) (0 + 1 + 1 + 1 + 1 + 1 + 1) (0 + 24 + 24 + 24 + 24 + 24 + 24) := hlg.new (t := 5) (n := 24) ⟨hv31.1, hv31.2⟩
  have hs8 : shx S30 (wN S30 5 24 24) := shx.new (t := 5) (n := 24) (k := 24) shx.rf hw8 hTX
  obtain ⟨am33, eam33⟩ : ∃ z, z = adx am27 (qn S30) q32 := ⟨_, rfl⟩
  have eq_q32 : am33 (qn S30) = q32 := by rw [eam33]; exact if_pos rfl
  rw [← eam33] at hR hk8 hak hE
  obtain ⟨S34, eS34⟩ : ∃ z, z = wN S30 5 24 24 := ⟨_, rfl⟩
  rw [← eS34] at hR hlg hs8
  replace h := h S34 eS34
  have hsh := hsh.tr hs8
  have hT_b35 : qT S34 (qn S30) = 5 := by rw [eS34]; exact if_pos rfl
  have ea_0 : am33 p0 = am27 p0 := hk8 _ (hw8.hd hT_p0 (by decide) (by decide))
  have hT_p0 := hs8.T hT_p0 (by decide)
  have hl : lv_has ls 1 [(0, .ref (am33 p0))] := by simp only [ea_0]; exact hl
  refine W.eq (g2 := F0 m 55 ls [.ref (am33 (qn S30)), .ref (am33 p0)]) (by simp only [ea_0, eq_q32]) ?_
  clear hw8 hk8 hs8 hP hD hS e9 e8 e7 hTX
  refine va_putF (D := rD g) (ci := 12) (v := .ref (am33 (qn S30))) (ty := (.array (.object "java/lang/String"))) (C := RX13) (T := TX13) (N := 23) hx hb hts in2X13 tyX13 tyX13_ok nmX13 hown hR.K hR.P hR.D hR.sS p0 (hR.at13 hT_p0) rfl 10 (by decide) (hts _ kx_833) (fun _ h9 => h9) rfl hin9 rfl (by decide +kernel) rfl rfl (Nat.le_of_ble_eq_true rfl) dX13_init_55 (fun H locs hP hD hS => ?_)
  have hw9 : wfM (wR S34 p0 10 (some (qn S30))) := hR.w.put (fun b q9 => by cases q9; exact (hT_b35).trans (by rw [hT_p0]; rfl)) (fun q9 => absurd ((congrArg (qT S34) q9).symm.trans hT_p0) (by rw [hR.w.1]; decide)) (by rw [hT_p0]; decide)
  have hR : Rep g am33 A s (wR S34 p0 10 (some (qn S30))) H locs := hR.pR3 hT_p0 F13_s10 hw9 hP hD hS
  obtain ⟨S36, eS36⟩ : ∃ z, z = wR S34 p0 10 (some (qn S30)) := ⟨_, rfl⟩
  rw [← eS36] at hR
  replace h := h S36 eS36
  have hT_p0 : qT S36 p0 = 11 := (congrArg (fun z => qT z p0) eS36).trans hT_p0
  have hsh : shx S S36 := by rw [eS36]; exact hsh
  have hlg : lg S S36 (0 + 1 + 1 + 1 + 1 + 1 + 1) (0 + 24 + 24 + 24 + 24 + 24 + 24) := by rw [eS36]; exact hlg
  refine lv_aload_n hx hb dX13_init_58 rfl (lv_at hl 0 rfl) ?_
  refine lv_bipush (v := 24) hx hb dX13_init_59 (by decide) ?_
  obtain ⟨hv37, h⟩ := h
  have e9 : KC = 300000 := rfl
  have e8 : KS = 3720000 := rfl
  have e7 : TXB = 10000000 := rfl
  have hTX : qn S36 < TXB := by have := hv37.1; omega
  refine va_newq (C := "java/lang/String") (N' := 24) hx hb hown (hts _ kx_827) (ao_of (by exact ao_java_lang_String) hex) hR.K hR.P hR.D hR.sS hA (by decide) (by decide) (by have := hv37.2; omega) (show 0 + 1 + 1 + 1 + 1 + 1 + 1 + 1 ≤ KC - qn S from hlg.c1 hv37.1) (show 0 + 24 + 24 + 24 + 24 + 24 + 24 + 24 ≤ KS - qu S from hlg.s1 hv37.2) dX13_init_61 (fun q38 cA9 H hK9 hP hD hS => ?_)
  obtain rfl := cls_newR2 hR.K hK9 (k := 4) rfl
  have hw8 := hR.w
  have hR := hR.new (t := 5) (n := 24) (k := 24) hTX (by decide) (fun q9 => absurd q9 (by decide)) wN_cS hP hD hS
  have hk8 : adk am33 (adx am33 (qn S36) q38) S36 := adk.rf.new (Nat.le_refl _) hTX
  have hak := hak.new (q := q38) hlg.2.2.1 hTX
  have hE := hE.ad hk8
  have hlg : lg S (wN S36 5 24 24) (0 + 1 + 1 + 1 + 1 + 1 + 1 + 1) (0 + 24 + 24 + 24 + 24 + 24 + 24 + 24) := hlg.new (t := 5) (n := 24) ⟨hv37.1, hv37.2⟩
  have hs8 : shx S36 (wN S36 5 24 24) := shx.new (t := 5) (n := 24) (k := 24) shx.rf hw8 hTX
  obtain ⟨am39, eam39⟩ : ∃ z, z = adx am33 (qn S36) q38 := ⟨_, rfl⟩
  have eq_q38 : am39 (qn S36) = q38 := by rw [eam39]; exact if_pos rfl
  rw [← eam39] at hR hk8 hak hE
  obtain ⟨S40, eS40⟩ : ∃ z, z = wN S36 5 24 24 := ⟨_, rfl⟩
  rw [← eS40] at hR hlg hs8
  replace h := h S40 eS40
  have hsh := hsh.tr hs8
  have hT_b41 : qT S40 (qn S36) = 5 := by rw [eS40]; exact if_pos rfl
  have ea_0 : am39 p0 = am33 p0 := hk8 _ (hw8.hd hT_p0 (by decide) (by decide))
  have hT_p0 := hs8.T hT_p0 (by decide)
  have hl : lv_has ls 1 [(0, .ref (am39 p0))] := by simp only [ea_0]; exact hl
  refine W.eq (g2 := F0 m 64 ls [.ref (am39 (qn S36)), .ref (am39 p0)]) (by simp only [ea_0, eq_q38]) ?_
  clear hw8 hk8 hs8 hP hD hS e9 e8 e7 hTX
  refine va_putF (D := rD g) (ci := 12) (v := .ref (am39 (qn S36))) (ty := (.array (.object "java/lang/String"))) (C := RX13) (T := TX13) (N := 23) hx hb hts in2X13 tyX13 tyX13_ok nmX13 hown hR.K hR.P hR.D hR.sS p0 (hR.at13 hT_p0) rfl 11 (by decide) (hts _ kx_834) (fun _ h9 => h9) rfl hin9 rfl (by decide +kernel) rfl rfl (Nat.le_of_ble_eq_true rfl) dX13_init_64 (fun H locs hP hD hS => ?_)
  have hw9 : wfM (wR S40 p0 11 (some (qn S36))) := hR.w.put (fun b q9 => by cases q9; exact (hT_b41).trans (by rw [hT_p0]; rfl)) (fun q9 => absurd ((congrArg (qT S40) q9).symm.trans hT_p0) (by rw [hR.w.1]; decide)) (by rw [hT_p0]; decide)
  have hR : Rep g am39 A s (wR S40 p0 11 (some (qn S36))) H locs := hR.pR3 hT_p0 F13_s11 hw9 hP hD hS
  obtain ⟨S42, eS42⟩ : ∃ z, z = wR S40 p0 11 (some (qn S36)) := ⟨_, rfl⟩
  rw [← eS42] at hR
  replace h := h S42 eS42
  have hT_p0 : qT S42 p0 = 11 := (congrArg (fun z => qT z p0) eS42).trans hT_p0
  have hsh : shx S S42 := by rw [eS42]; exact hsh
  have hlg : lg S S42 (0 + 1 + 1 + 1 + 1 + 1 + 1 + 1) (0 + 24 + 24 + 24 + 24 + 24 + 24 + 24) := by rw [eS42]; exact hlg
  refine lv_aload_n hx hb dX13_init_67 rfl (lv_at hl 0 rfl) ?_
  refine lv_bipush (v := 24) hx hb dX13_init_68 (by decide) ?_
  obtain ⟨hv43, h⟩ := h
  have e9 : KC = 300000 := rfl
  have e8 : KS = 3720000 := rfl
  have e7 : TXB = 10000000 := rfl
  have hTX : qn S42 < TXB := by have := hv43.1; omega
  refine va_newa (atype := .int) (ty := .int) (a0 := (24, .inl (fun _ => 0))) (N' := 24) hx hb (hts (.arrayClass .int) kx_346) rfl hR.K hR.P hR.D hR.sS hA (fun _ => rfl) (by decide) (by decide) (by show 24 * 4 ≤ 536870912; have := hv43.2; omega) (show 0 + 1 + 1 + 1 + 1 + 1 + 1 + 1 + 1 ≤ KC - qn S from hlg.c1 hv43.1) (show 0 + 24 + 24 + 24 + 24 + 24 + 24 + 24 + 24 ≤ KS - qu S from hlg.s1 hv43.2) dX13_init_70 (fun q44 cA9 H hK9 hP hD hS => ?_)
  obtain rfl := cls_new2 hR.K hK9 (k := 1) rfl (fun _ h => by cases h)
  have hw8 := hR.w
  have hR := hR.new (t := 2) (n := 24) (k := 24) hTX (by decide) (fun q9 => absurd q9 (by decide)) wN_cI hP hD hS
  have hk8 : adk am39 (adx am39 (qn S42) q44) S42 := adk.rf.new (Nat.le_refl _) hTX
  have hak := hak.new (q := q44) hlg.2.2.1 hTX
  have hE := hE.ad hk8
  have hlg : lg S (wN S42 2 24 24) (0 + 1 + 1 + 1 + 1 + 1 + 1 + 1 + 1) (0 + 24 + 24 + 24 + 24 + 24 + 24 + 24 + 24) := hlg.new (t := 2) (n := 24) ⟨hv43.1, hv43.2⟩
  have hs8 : shx S42 (wN S42 2 24 24) := shx.new (t := 2) (n := 24) (k := 24) shx.rf hw8 hTX
  obtain ⟨am45, eam45⟩ : ∃ z, z = adx am39 (qn S42) q44 := ⟨_, rfl⟩
  have eq_q44 : am45 (qn S42) = q44 := by rw [eam45]; exact if_pos rfl
  rw [← eam45] at hR hk8 hak hE
  obtain ⟨S46, eS46⟩ : ∃ z, z = wN S42 2 24 24 := ⟨_, rfl⟩
  rw [← eS46] at hR hlg hs8
  replace h := h S46 eS46
  have hsh := hsh.tr hs8
  have hT_b47 : qT S46 (qn S42) = 2 := by rw [eS46]; exact if_pos rfl
  have ea_0 : am45 p0 = am39 p0 := hk8 _ (hw8.hd hT_p0 (by decide) (by decide))
  have hT_p0 := hs8.T hT_p0 (by decide)
  have hl : lv_has ls 1 [(0, .ref (am45 p0))] := by simp only [ea_0]; exact hl
  refine W.eq (g2 := F0 m 72 ls [.ref (am45 (qn S42)), .ref (am45 p0)]) (by simp only [ea_0, eq_q44]) ?_
  clear hw8 hk8 hs8 hP hD hS e9 e8 e7 hTX
  refine va_putF (D := rD g) (ci := 12) (v := .ref (am45 (qn S42))) (ty := (.array .int)) (C := RX13) (T := TX13) (N := 23) hx hb hts in2X13 tyX13 tyX13_ok nmX13 hown hR.K hR.P hR.D hR.sS p0 (hR.at13 hT_p0) rfl 12 (by decide) (hts _ kx_835) (fun _ h9 => h9) rfl hin9 rfl (by decide +kernel) rfl rfl (Nat.le_of_ble_eq_true rfl) dX13_init_72 (fun H locs hP hD hS => ?_)
  have hw9 : wfM (wR S46 p0 12 (some (qn S42))) := hR.w.put (fun b q9 => by cases q9; exact (hT_b47).trans (by rw [hT_p0]; rfl)) (fun q9 => absurd ((congrArg (qT S46) q9).symm.trans hT_p0) (by rw [hR.w.1]; decide)) (by rw [hT_p0]; decide)
  have hR : Rep g am45 A s (wR S46 p0 12 (some (qn S42))) H locs := hR.pR3 hT_p0 F13_s12 hw9 hP hD hS
  obtain ⟨S48, eS48⟩ : ∃ z, z = wR S46 p0 12 (some (qn S42)) := ⟨_, rfl⟩
  rw [← eS48] at hR
  replace h := h S48 eS48
  have hT_p0 : qT S48 p0 = 11 := (congrArg (fun z => qT z p0) eS48).trans hT_p0
  have hsh : shx S S48 := by rw [eS48]; exact hsh
  have hlg : lg S S48 (0 + 1 + 1 + 1 + 1 + 1 + 1 + 1 + 1) (0 + 24 + 24 + 24 + 24 + 24 + 24 + 24 + 24) := by rw [eS48]; exact hlg
  refine lv_aload_n hx hb dX13_init_75 rfl (lv_at hl 0 rfl) ?_
  refine lv_bipush (v := 24) hx hb dX13_init_76 (by decide) ?_
  obtain ⟨hv49, h⟩ := h
  have e9 : KC = 300000 := rfl
  have e8 : KS = 3720000 := rfl
  have e7 : TXB = 10000000 := rfl
  have hTX : qn S48 < TXB := by have := hv49.1; omega
  refine va_newa (atype := .int) (ty := .int) (a0 := (24, .inl (fun _ => 0))) (N' := 24) hx hb (hts (.arrayClass .int) kx_346) rfl hR.K hR.P hR.D hR.sS hA (fun _ => rfl) (by decide) (by decide) (by show 24 * 4 ≤ 536870912; have := hv49.2; omega) (show 0 + 1 + 1 + 1 + 1 + 1 + 1 + 1 + 1 + 1 ≤ KC - qn S from hlg.c1 hv49.1) (show 0 + 24 + 24 + 24 + 24 + 24 + 24 + 24 + 24 + 24 ≤ KS - qu S from hlg.s1 hv49.2) dX13_init_78 (fun q50 cA9 H hK9 hP hD hS => ?_)
  obtain rfl := cls_new2 hR.K hK9 (k := 1) rfl (fun _ h => by cases h)
  have hw8 := hR.w
  have hR := hR.new (t := 2) (n := 24) (k := 24) hTX (by decide) (fun q9 => absurd q9 (by decide)) wN_cI hP hD hS
  have hk8 : adk am45 (adx am45 (qn S48) q50) S48 := adk.rf.new (Nat.le_refl _) hTX
  have hak := hak.new (q := q50) hlg.2.2.1 hTX
  have hE := hE.ad hk8
  have hlg : lg S (wN S48 2 24 24) (0 + 1 + 1 + 1 + 1 + 1 + 1 + 1 + 1 + 1) (0 + 24 + 24 + 24 + 24 + 24 + 24 + 24 + 24 + 24) := hlg.new (t := 2) (n := 24) ⟨hv49.1, hv49.2⟩
  have hs8 : shx S48 (wN S48 2 24 24) := shx.new (t := 2) (n := 24) (k := 24) shx.rf hw8 hTX
  obtain ⟨am51, eam51⟩ : ∃ z, z = adx am45 (qn S48) q50 := ⟨_, rfl⟩
  have eq_q50 : am51 (qn S48) = q50 := by rw [eam51]; exact if_pos rfl
  rw [← eam51] at hR hk8 hak hE
  obtain ⟨S52, eS52⟩ : ∃ z, z = wN S48 2 24 24 := ⟨_, rfl⟩
  rw [← eS52] at hR hlg hs8
  replace h := h S52 eS52
  have hsh := hsh.tr hs8
  have hT_b53 : qT S52 (qn S48) = 2 := by rw [eS52]; exact if_pos rfl
  have ea_0 : am51 p0 = am45 p0 := hk8 _ (hw8.hd hT_p0 (by decide) (by decide))
  have hT_p0 := hs8.T hT_p0 (by decide)
  have hl : lv_has ls 1 [(0, .ref (am51 p0))] := by simp only [ea_0]; exact hl
  refine W.eq (g2 := F0 m 80 ls [.ref (am51 (qn S48)), .ref (am51 p0)]) (by simp only [ea_0, eq_q50]) ?_
  clear hw8 hk8 hs8 hP hD hS e9 e8 e7 hTX
  refine va_putF (D := rD g) (ci := 12) (v := .ref (am51 (qn S48))) (ty := (.array .int)) (C := RX13) (T := TX13) (N := 23) hx hb hts in2X13 tyX13 tyX13_ok nmX13 hown hR.K hR.P hR.D hR.sS p0 (hR.at13 hT_p0) rfl 13 (by decide) (hts _ kx_836) (fun _ h9 => h9) rfl hin9 rfl (by decide +kernel) rfl rfl (Nat.le_of_ble_eq_true rfl) dX13_init_80 (fun H locs hP hD hS => ?_)
  have hw9 : wfM (wR S52 p0 13 (some (qn S48))) := hR.w.put (fun b q9 => by cases q9; exact (hT_b53).trans (by rw [hT_p0]; rfl)) (fun q9 => absurd ((congrArg (qT S52) q9).symm.trans hT_p0) (by rw [hR.w.1]; decide)) (by rw [hT_p0]; decide)
  have hR : Rep g am51 A s (wR S52 p0 13 (some (qn S48))) H locs := hR.pR3 hT_p0 F13_s13 hw9 hP hD hS
  obtain ⟨S54, eS54⟩ : ∃ z, z = wR S52 p0 13 (some (qn S48)) := ⟨_, rfl⟩
  rw [← eS54] at hR
  replace h := h S54 eS54
  have hT_p0 : qT S54 p0 = 11 := (congrArg (fun z => qT z p0) eS54).trans hT_p0
  have hsh : shx S S54 := by rw [eS54]; exact hsh
  have hlg : lg S S54 (0 + 1 + 1 + 1 + 1 + 1 + 1 + 1 + 1 + 1) (0 + 24 + 24 + 24 + 24 + 24 + 24 + 24 + 24 + 24) := by rw [eS54]; exact hlg
  refine lv_aload_n hx hb dX13_init_83 rfl (lv_at hl 0 rfl) ?_
  refine lv_bipush (v := 24) hx hb dX13_init_84 (by decide) ?_
  obtain ⟨hv55, h⟩ := h
  have e9 : KC = 300000 := rfl
  have e8 : KS = 3720000 := rfl
  have e7 : TXB = 10000000 := rfl
  have hTX : qn S54 < TXB := by have := hv55.1; omega
  refine va_newa (atype := .int) (ty := .int) (a0 := (24, .inl (fun _ => 0))) (N' := 24) hx hb (hts (.arrayClass .int) kx_346) rfl hR.K hR.P hR.D hR.sS hA (fun _ => rfl) (by decide) (by decide) (by show 24 * 4 ≤ 536870912; have := hv55.2; omega) (show 0 + 1 + 1 + 1 + 1 + 1 + 1 + 1 + 1 + 1 + 1 ≤ KC - qn S from hlg.c1 hv55.1) (show 0 + 24 + 24 + 24 + 24 + 24 + 24 + 24 + 24 + 24 + 24 ≤ KS - qu S from hlg.s1 hv55.2) dX13_init_86 (fun q56 cA9 H hK9 hP hD hS => ?_)
  obtain rfl := cls_new2 hR.K hK9 (k := 1) rfl (fun _ h => by cases h)
  have hw8 := hR.w
  have hR := hR.new (t := 2) (n := 24) (k := 24) hTX (by decide) (fun q9 => absurd q9 (by decide)) wN_cI hP hD hS
  have hk8 : adk am51 (adx am51 (qn S54) q56) S54 := adk.rf.new (Nat.le_refl _) hTX
  have hak := hak.new (q := q56) hlg.2.2.1 hTX
  have hE := hE.ad hk8
  have hlg : lg S (wN S54 2 24 24) (0 + 1 + 1 + 1 + 1 + 1 + 1 + 1 + 1 + 1 + 1) (0 + 24 + 24 + 24 + 24 + 24 + 24 + 24 + 24 + 24 + 24) := hlg.new (t := 2) (n := 24) ⟨hv55.1, hv55.2⟩
  have hs8 : shx S54 (wN S54 2 24 24) := shx.new (t := 2) (n := 24) (k := 24) shx.rf hw8 hTX
  obtain ⟨am57, eam57⟩ : ∃ z, z = adx am51 (qn S54) q56 := ⟨_, rfl⟩
  have eq_q56 : am57 (qn S54) = q56 := by rw [eam57]; exact if_pos rfl
  rw [← eam57] at hR hk8 hak hE
  obtain ⟨S58, eS58⟩ : ∃ z, z = wN S54 2 24 24 := ⟨_, rfl⟩
  rw [← eS58] at hR hlg hs8
  replace h := h S58 eS58
  have hsh := hsh.tr hs8
  have hT_b59 : qT S58 (qn S54) = 2 := by rw [eS58]; exact if_pos rfl
  have ea_0 : am57 p0 = am51 p0 := hk8 _ (hw8.hd hT_p0 (by decide) (by decide))
  have hT_p0 := hs8.T hT_p0 (by decide)
  have hl : lv_has ls 1 [(0, .ref (am57 p0))] := by simp only [ea_0]; exact hl
  refine W.eq (g2 := F0 m 88 ls [.ref (am57 (qn S54)), .ref (am57 p0)]) (by simp only [ea_0, eq_q56]) ?_
  clear hw8 hk8 hs8 hP hD hS e9 e8 e7 hTX
  refine va_putF (D := rD g) (ci := 12) (v := .ref (am57 (qn S54))) (ty := (.array .int)) (C := RX13) (T := TX13) (N := 23) hx hb hts in2X13 tyX13 tyX13_ok nmX13 hown hR.K hR.P hR.D hR.sS p0 (hR.at13 hT_p0) rfl 14 (by decide) (hts _ kx_837) (fun _ h9 => h9) rfl hin9 rfl (by decide +kernel) rfl rfl (Nat.le_of_ble_eq_true rfl) dX13_init_88 (fun H locs hP hD hS => ?_)
  have hw9 : wfM (wR S58 p0 14 (some (qn S54))) := hR.w.put (fun b q9 => by cases q9; exact (hT_b59).trans (by rw [hT_p0]; rfl)) (fun q9 => absurd ((congrArg (qT S58) q9).symm.trans hT_p0) (by rw [hR.w.1]; decide)) (by rw [hT_p0]; decide)
  have hR : Rep g am57 A s (wR S58 p0 14 (some (qn S54))) H locs := hR.pR3 hT_p0 F13_s14 hw9 hP hD hS
  obtain ⟨S60, eS60⟩ : ∃ z, z = wR S58 p0 14 (some (qn S54)) := ⟨_, rfl⟩
  rw [← eS60] at hR
  replace h := h S60 eS60
  have hT_p0 : qT S60 p0 = 11 := (congrArg (fun z => qT z p0) eS60).trans hT_p0
  have hsh : shx S S60 := by rw [eS60]; exact hsh
  have hlg : lg S S60 (0 + 1 + 1 + 1 + 1 + 1 + 1 + 1 + 1 + 1 + 1) (0 + 24 + 24 + 24 + 24 + 24 + 24 + 24 + 24 + 24 + 24) := by rw [eS60]; exact hlg
  refine lv_aload_n hx hb dX13_init_91 rfl (lv_at hl 0 rfl) ?_
  refine lv_bipush (v := 24) hx hb dX13_init_92 (by decide) ?_
  obtain ⟨hv61, h⟩ := h
  have e9 : KC = 300000 := rfl
  have e8 : KS = 3720000 := rfl
  have e7 : TXB = 10000000 := rfl
  have hTX : qn S60 < TXB := by have := hv61.1; omega
  refine va_newa (atype := .int) (ty := .int) (a0 := (24, .inl (fun _ => 0))) (N' := 24) hx hb (hts (.arrayClass .int) kx_346) rfl hR.K hR.P hR.D hR.sS hA (fun _ => rfl) (by decide) (by decide) (by show 24 * 4 ≤ 536870912; have := hv61.2; omega) (show 0 + 1 + 1 + 1 + 1 + 1 + 1 + 1 + 1 + 1 + 1 + 1 ≤ KC - qn S from hlg.c1 hv61.1) (show 0 + 24 + 24 + 24 + 24 + 24 + 24 + 24 + 24 + 24 + 24 + 24 ≤ KS - qu S from hlg.s1 hv61.2) dX13_init_94 (fun q62 cA9 H hK9 hP hD hS => ?_)
  obtain rfl := cls_new2 hR.K hK9 (k := 1) rfl (fun _ h => by cases h)
  have hw8 := hR.w
  have hR := hR.new (t := 2) (n := 24) (k := 24) hTX (by decide) (fun q9 => absurd q9 (by decide)) wN_cI hP hD hS
  have hk8 : adk am57 (adx am57 (qn S60) q62) S60 := adk.rf.new (Nat.le_refl _) hTX
  have hak := hak.new (q := q62) hlg.2.2.1 hTX
  have hE := hE.ad hk8
  have hlg : lg S (wN S60 2 24 24) (0 + 1 + 1 + 1 + 1 + 1 + 1 + 1 + 1 + 1 + 1 + 1) (0 + 24 + 24 + 24 + 24 + 24 + 24 + 24 + 24 + 24 + 24 + 24) := hlg.new (t := 2) (n := 24) ⟨hv61.1, hv61.2⟩
  have hs8 : shx S60 (wN S60 2 24 24) := shx.new (t := 2) (n := 24) (k := 24) shx.rf hw8 hTX
  obtain ⟨am63, eam63⟩ : ∃ z, z = adx am57 (qn S60) q62 := ⟨_, rfl⟩
  have eq_q62 : am63 (qn S60) = q62 := by rw [eam63]; exact if_pos rfl
  rw [← eam63] at hR hk8 hak hE
  obtain ⟨S64, eS64⟩ : ∃ z, z = wN S60 2 24 24 := ⟨_, rfl⟩
  rw [← eS64] at hR hlg hs8
  replace h := h S64 eS64
  have hsh := hsh.tr hs8
  have hT_b65 : qT S64 (qn S60) = 2 := by rw [eS64]; exact if_pos rfl
  have ea_0 : am63 p0 = am57 p0 := hk8 _ (hw8.hd hT_p0 (by decide) (by decide))
  have hT_p0 := hs8.T hT_p0 (by decide)
  have hl : lv_has ls 1 [(0, .ref (am63 p0))] := by simp only [ea_0]; exact hl
  refine W.eq (g2 := F0 m 96 ls [.ref (am63 (qn S60)), .ref (am63 p0)]) (by simp only [ea_0, eq_q62]) ?_
  clear hw8 hk8 hs8 hP hD hS e9 e8 e7 hTX
  refine va_putF (D := rD g) (ci := 12) (v := .ref (am63 (qn S60))) (ty := (.array .int)) (C := RX13) (T := TX13) (N := 23) hx hb hts in2X13 tyX13 tyX13_ok nmX13 hown hR.K hR.P hR.D hR.sS p0 (hR.at13 hT_p0) rfl 15 (by decide) (hts _ kx_838) (fun _ h9 => h9) rfl hin9 rfl (by decide +kernel) rfl rfl (Nat.le_of_ble_eq_true rfl) dX13_init_96 (fun H locs hP hD hS => ?_)
  have hw9 : wfM (wR S64 p0 15 (some (qn S60))) := hR.w.put (fun b q9 => by cases q9; exact (hT_b65).trans (by rw [hT_p0]; rfl)) (fun q9 => absurd ((congrArg (qT S64) q9).symm.trans hT_p0) (by rw [hR.w.1]; decide)) (by rw [hT_p0]; decide)
  have hR : Rep g am63 A s (wR S64 p0 15 (some (qn S60))) H locs := hR.pR3 hT_p0 F13_s15 hw9 hP hD hS
  obtain ⟨S66, eS66⟩ : ∃ z, z = wR S64 p0 15 (some (qn S60)) := ⟨_, rfl⟩
  rw [← eS66] at hR
  replace h := h S66 eS66
  have hT_p0 : qT S66 p0 = 11 := (congrArg (fun z => qT z p0) eS66).trans hT_p0
  have hsh : shx S S66 := by rw [eS66]; exact hsh
  have hlg : lg S S66 (0 + 1 + 1 + 1 + 1 + 1 + 1 + 1 + 1 + 1 + 1 + 1) (0 + 24 + 24 + 24 + 24 + 24 + 24 + 24 + 24 + 24 + 24 + 24) := by rw [eS66]; exact hlg
  refine lv_aload_n hx hb dX13_init_99 rfl (lv_at hl 0 rfl) ?_
  refine lv_bipush (v := 24) hx hb dX13_init_100 (by decide) ?_
  obtain ⟨hv67, h⟩ := h
  have e9 : KC = 300000 := rfl
  have e8 : KS = 3720000 := rfl
  have e7 : TXB = 10000000 := rfl
  have hTX : qn S66 < TXB := by have := hv67.1; omega
  refine va_newa (atype := .int) (ty := .int) (a0 := (24, .inl (fun _ => 0))) (N' := 24) hx hb (hts (.arrayClass .int) kx_346) rfl hR.K hR.P hR.D hR.sS hA (fun _ => rfl) (by decide) (by decide) (by show 24 * 4 ≤ 536870912; have := hv67.2; omega) (show 0 + 1 + 1 + 1 + 1 + 1 + 1 + 1 + 1 + 1 + 1 + 1 + 1 ≤ KC - qn S from hlg.c1 hv67.1) (show 0 + 24 + 24 + 24 + 24 + 24 + 24 + 24 + 24 + 24 + 24 + 24 + 24 ≤ KS - qu S from hlg.s1 hv67.2) dX13_init_102 (fun q68 cA9 H hK9 hP hD hS => ?_)
  obtain rfl := cls_new2 hR.K hK9 (k := 1) rfl (fun _ h => by cases h)
  have hw8 := hR.w
  have hR := hR.new (t := 2) (n := 24) (k := 24) hTX (by decide) (fun q9 => absurd q9 (by decide)) wN_cI hP hD hS
  have hk8 : adk am63 (adx am63 (qn S66) q68) S66 := adk.rf.new (Nat.le_refl _) hTX
  have hak := hak.new (q := q68) hlg.2.2.1 hTX
  have hE := hE.ad hk8
  have hlg : lg S (wN S66 2 24 24) (0 + 1 + 1 + 1 + 1 + 1 + 1 + 1 + 1 + 1 + 1 + 1 + 1) (0 + 24 + 24 + 24 + 24 + 24 + 24 + 24 + 24 + 24 + 24 + 24 + 24) := hlg.new (t := 2) (n := 24) ⟨hv67.1, hv67.2⟩
  have hs8 : shx S66 (wN S66 2 24 24) := shx.new (t := 2) (n := 24) (k := 24) shx.rf hw8 hTX
  obtain ⟨am69, eam69⟩ : ∃ z, z = adx am63 (qn S66) q68 := ⟨_, rfl⟩
  have eq_q68 : am69 (qn S66) = q68 := by rw [eam69]; exact if_pos rfl
  rw [← eam69] at hR hk8 hak hE
  obtain ⟨S70, eS70⟩ : ∃ z, z = wN S66 2 24 24 := ⟨_, rfl⟩
  rw [← eS70] at hR hlg hs8
  replace h := h S70 eS70
  have hsh := hsh.tr hs8
  have hT_b71 : qT S70 (qn S66) = 2 := by rw [eS70]; exact if_pos rfl
  have ea_0 : am69 p0 = am63 p0 := hk8 _ (hw8.hd hT_p0 (by decide) (by decide))
  have hT_p0 := hs8.T hT_p0 (by decide)
  have hl : lv_has ls 1 [(0, .ref (am69 p0))] := by simp only [ea_0]; exact hl
  refine W.eq (g2 := F0 m 104 ls [.ref (am69 (qn S66)), .ref (am69 p0)]) (by simp only [ea_0, eq_q68]) ?_
  clear hw8 hk8 hs8 hP hD hS e9 e8 e7 hTX
  refine va_putF (D := rD g) (ci := 12) (v := .ref (am69 (qn S66))) (ty := (.array .int)) (C := RX13) (T := TX13) (N := 23) hx hb hts in2X13 tyX13 tyX13_ok nmX13 hown hR.K hR.P hR.D hR.sS p0 (hR.at13 hT_p0) rfl 16 (by decide) (hts _ kx_839) (fun _ h9 => h9) rfl hin9 rfl (by decide +kernel) rfl rfl (Nat.le_of_ble_eq_true rfl) dX13_init_104 (fun H locs hP hD hS => ?_)
  have hw9 : wfM (wR S70 p0 16 (some (qn S66))) := hR.w.put (fun b q9 => by cases q9; exact (hT_b71).trans (by rw [hT_p0]; rfl)) (fun q9 => absurd ((congrArg (qT S70) q9).symm.trans hT_p0) (by rw [hR.w.1]; decide)) (by rw [hT_p0]; decide)
  have hR : Rep g am69 A s (wR S70 p0 16 (some (qn S66))) H locs := hR.pR3 hT_p0 F13_s16 hw9 hP hD hS
  obtain ⟨S72, eS72⟩ : ∃ z, z = wR S70 p0 16 (some (qn S66)) := ⟨_, rfl⟩
  rw [← eS72] at hR
  replace h := h S72 eS72
  have hT_p0 : qT S72 p0 = 11 := (congrArg (fun z => qT z p0) eS72).trans hT_p0
  have hsh : shx S S72 := by rw [eS72]; exact hsh
  have hlg : lg S S72 (0 + 1 + 1 + 1 + 1 + 1 + 1 + 1 + 1 + 1 + 1 + 1 + 1) (0 + 24 + 24 + 24 + 24 + 24 + 24 + 24 + 24 + 24 + 24 + 24 + 24) := by rw [eS72]; exact hlg
  refine lv_aload_n hx hb dX13_init_107 rfl (lv_at hl 0 rfl) ?_
  refine lv_bipush (v := 24) hx hb dX13_init_108 (by decide) ?_
  obtain ⟨hv73, h⟩ := h
  have e9 : KC = 300000 := rfl
  have e8 : KS = 3720000 := rfl
  have e7 : TXB = 10000000 := rfl
  have hTX : qn S72 < TXB := by have := hv73.1; omega
  refine va_newa (atype := .int) (ty := .int) (a0 := (24, .inl (fun _ => 0))) (N' := 24) hx hb (hts (.arrayClass .int) kx_346) rfl hR.K hR.P hR.D hR.sS hA (fun _ => rfl) (by decide) (by decide) (by show 24 * 4 ≤ 536870912; have := hv73.2; omega) (show 0 + 1 + 1 + 1 + 1 + 1 + 1 + 1 + 1 + 1 + 1 + 1 + 1 + 1 ≤ KC - qn S from hlg.c1 hv73.1) (show 0 + 24 + 24 + 24 + 24 + 24 + 24 + 24 + 24 + 24 + 24 + 24 + 24 + 24 ≤ KS - qu S from hlg.s1 hv73.2) dX13_init_110 (fun q74 cA9 H hK9 hP hD hS => ?_)
  obtain rfl := cls_new2 hR.K hK9 (k := 1) rfl (fun _ h => by cases h)
  have hw8 := hR.w
  have hR := hR.new (t := 2) (n := 24) (k := 24) hTX (by decide) (fun q9 => absurd q9 (by decide)) wN_cI hP hD hS
  have hk8 : adk am69 (adx am69 (qn S72) q74) S72 := adk.rf.new (Nat.le_refl _) hTX
  have hak := hak.new (q := q74) hlg.2.2.1 hTX
  have hE := hE.ad hk8
  have hlg : lg S (wN S72 2 24 24) (0 + 1 + 1 + 1 + 1 + 1 + 1 + 1 + 1 + 1 + 1 + 1 + 1 + 1) (0 + 24 + 24 + 24 + 24 + 24 + 24 + 24 + 24 + 24 + 24 + 24 + 24 + 24) := hlg.new (t := 2) (n := 24) ⟨hv73.1, hv73.2⟩
  have hs8 : shx S72 (wN S72 2 24 24) := shx.new (t := 2) (n := 24) (k := 24) shx.rf hw8 hTX
  obtain ⟨am75, eam75⟩ : ∃ z, z = adx am69 (qn S72) q74 := ⟨_, rfl⟩
  have eq_q74 : am75 (qn S72) = q74 := by rw [eam75]; exact if_pos rfl
  rw [← eam75] at hR hk8 hak hE
  obtain ⟨S76, eS76⟩ : ∃ z, z = wN S72 2 24 24 := ⟨_, rfl⟩
  rw [← eS76] at hR hlg hs8
  replace h := h S76 eS76
  have hsh := hsh.tr hs8
  have hT_b77 : qT S76 (qn S72) = 2 := by rw [eS76]; exact if_pos rfl
  have ea_0 : am75 p0 = am69 p0 := hk8 _ (hw8.hd hT_p0 (by decide) (by decide))
  have hT_p0 := hs8.T hT_p0 (by decide)
  have hl : lv_has ls 1 [(0, .ref (am75 p0))] := by simp only [ea_0]; exact hl
  refine W.eq (g2 := F0 m 112 ls [.ref (am75 (qn S72)), .ref (am75 p0)]) (by simp only [ea_0, eq_q74]) ?_
  clear hw8 hk8 hs8 hP hD hS e9 e8 e7 hTX
  refine va_putF (D := rD g) (ci := 12) (v := .ref (am75 (qn S72))) (ty := (.array .int)) (C := RX13) (T := TX13) (N := 23) hx hb hts in2X13 tyX13 tyX13_ok nmX13 hown hR.K hR.P hR.D hR.sS p0 (hR.at13 hT_p0) rfl 17 (by decide) (hts _ kx_840) (fun _ h9 => h9) rfl hin9 rfl (by decide +kernel) rfl rfl (Nat.le_of_ble_eq_true rfl) dX13_init_112 (fun H locs hP hD hS => ?_)
  have hw9 : wfM (wR S76 p0 17 (some (qn S72))) := hR.w.put (fun b q9 => by cases q9; exact (hT_b77).trans (by rw [hT_p0]; rfl)) (fun q9 => absurd ((congrArg (qT S76) q9).symm.trans hT_p0) (by rw [hR.w.1]; decide)) (by rw [hT_p0]; decide)
  have hR : Rep g am75 A s (wR S76 p0 17 (some (qn S72))) H locs := hR.pR3 hT_p0 F13_s17 hw9 hP hD hS
  obtain ⟨S78, eS78⟩ : ∃ z, z = wR S76 p0 17 (some (qn S72)) := ⟨_, rfl⟩
  rw [← eS78] at hR
  replace h := h S78 eS78
  have hT_p0 : qT S78 p0 = 11 := (congrArg (fun z => qT z p0) eS78).trans hT_p0
  have hsh : shx S S78 := by rw [eS78]; exact hsh
  have hlg : lg S S78 (0 + 1 + 1 + 1 + 1 + 1 + 1 + 1 + 1 + 1 + 1 + 1 + 1 + 1) (0 + 24 + 24 + 24 + 24 + 24 + 24 + 24 + 24 + 24 + 24 + 24 + 24 + 24) := by rw [eS78]; exact hlg
  refine W_led2 (fun hLd => ?_)
  refine W.widen (k := KC - qn S) (n := KS - qu S) hlg.c hlg.s ?_
  exact W.vret hx hb hr (fun t9 ht9 hW9 => ⟨⟨(S78, am75), rfl, ⟨h, hR.w, hsh, hak⟩, ⟨⟨by rw [ht9]; exact hR.P, hR.D⟩, _, _, by rw [ht9]; exact hLd, hlg⟩⟩, hR.sS.F ht9⟩) hR.sS.2.2 dX13_init_115
def w_feed (S : MS) (x1 : Int32) (x2 : Int32) (x3 : Int32) (x4 : Int32) (x5 : Int32) (Q : Int32 → MS → Prop) : Prop := ((16000 < ((qI S 0 4) + (20 : Int32)).toInt → Q (-1 : Int32) S) ∧ (¬ 16000 < ((qI S 0 4) + (20 : Int32)).toInt → ((((qI S 0 5) + (20 : Int32)).toInt ≤ 65536 → (∃ Q5, w_word S x1 Q5 ∧ ∀ S6, Q5 S6 → (∃ Q8, w_word S6 x2 Q8 ∧ ∀ S9, Q8 S9 → (∃ Q11, w_word S9 x3 Q11 ∧ ∀ S12, Q11 S12 → (∃ Q14, w_word S12 x4 Q14 ∧ ∀ S15, Q14 S15 → (∃ Q17, w_word S15 x5 Q17 ∧ ∀ S18, Q17 S18 → (∀ S21, S21 = wI S18 0 5 ((qI S18 0 5) + (20 : Int32)) → Q (qI S21 0 4) S21))))))) ∧ (¬ ((qI S 0 5) + (20 : Int32)).toInt ≤ 65536 → Q (-1 : Int32) S))))
set_option maxHeartbeats 2000000 in
set_option maxRecDepth 100000 in
theorem r_feed (l : Launch) (g : Gr) (ad : Nat → Nat) (sz : Nat) (S : MS) (x1 : Int32) (x2 : Int32) (x3 : Int32) (x4 : Int32) (x5 : Int32) (hw : wfM S) (Q : Int32 → MS → Prop) (h : w_feed S x1 x2 x3 x4 x5 Q) : Met l yX14_feed (wt2 yX14_feed cX14_feed 6 (some .int)) ({ frames := 1, cells := 0, slots := 0, locals := 22 }) (va_Pc [.ref (ad 0), .int x1, .int x2, .int x3, .int x4, .int x5] (st_R g ad sz S)) (va_Qi (fun (r : Int32) (u : MS) => Q r u ∧ wfM u ∧ shy S u) (fun (u : MS) (t : State) => qE g ad (va_A (Wd g ad S) sz) u t) (va_A (Wd g ad S) sz)) 0 0 (va_A (Wd g ad S) sz) := by
  refine Met.ofW (cc := cX14_feed) (maxL := 6) (ret := (some .int)) (by decide) rfl ?_
  intro p e s m args below meth c s₁ B hml hv
  obtain ⟨rfl, hsz, hP, hK, hD0, hex, hE⟩ := hv
  have hx := B.exec
  have hb := B.bytes
  have hr := B.returns
  have hts0 := atoms_spec (ws := wt2 yX14_feed cX14_feed 6 (some .int)) B.pre
  have hts : ∀ w ∈ tb2, w.before _ s = true := fun w h => hts0 w (List.mem_cons_of_mem _ h)
  have hown : s.vm.findClass RX14 = some m.cls := findClass_of_methodNamed B.named
  subst hsz
  have hD := hD0.self (sz := s.heap.size)
  generalize hAe : va_A (Wd g ad S) s.heap.size = A at hD hE ⊢
  have hA : ∀ q : Nat, s.heap.size ≤ q → A q := fun q h => by rw [← hAe]; exact Or.inr h
  have hR : Rep g ad A s S s.heap [] := ⟨hK, hP, hD, va_S.rf, hw⟩
  clear hK hP hD hD0
  have hl := lv_entry ([.ref (ad 0), .int x1, .int x2, .int x3, .int x4, .int x5]) (n := 6) (Nat.le_of_ble_eq_true rfl)
  rw [lg_entry_eq]
  generalize (lg_sl ([.ref (ad 0), .int x1, .int x2, .int x3, .int x4, .int x5]) ++ List.replicate (6 - (lg_sl ([.ref (ad 0), .int x1, .int x2, .int x3, .int x4, .int x5])).length) Slot.unset).toArray = ls at hl ⊢
  have hl : lv_has ls 6 [(0, .ref (ad 0)), (1, .int x1), (2, .int x2), (3, .int x3), (4, .int x4), (5, .int x5)] := hl
  have hsh : shy S S := shy.rf
  unfold w_feed at h
  refine lv_aload_n hx hb dX14_feed_0 rfl (lv_at hl 0 rfl) ?_
  refine va_get (D := rD g) (ci := 13) (v := .int (qI S 0 4)) (C := RX14) (T := TX14) (N := 143) hx hb hts in2X14 hown hR.K hR.P 0 (hR.at14 hR.w.1) rfl 4 (by decide) (hts _ kx_167) (fun _ h9 => h9) rfl dX14_feed_1 ?_
  refine lv_bipush (v := 20) hx hb dX14_feed_4 (by decide) ?_
  refine lv_iadd hx hb dX14_feed_6 ?_
  refine lv_topi (fun z1 ez1 => ?_)
  obtain rfl : z1 = ((qI S 0 4) + (20 : Int32)) := ez1
  refine lv_sipush (v := 16000) hx hb dX14_feed_7 (by decide) ?_
  refine lv_icmp_gt (tgt := 26) hx hb dX14_feed_10 (by decide) (fun c2 => ?_) (fun c2 => ?_)
  · replace h := h.1 (k_lt (by decide) rfl c2)
    refine lv_iconst (v := (-1)) hx hb dX14_feed_26 (by decide) ?_
    exact W.iret (v := (-1)) hx hb hr (fun t9 ht9 hW9 => ⟨⟨_, S, rfl, ⟨h, hR.w, hsh⟩, ⟨by rw [ht9]; exact hR.P, hR.D⟩⟩, hR.sS.F ht9⟩) hR.sS.2.2 dX14_feed_27
  · replace h := h.2 (k_nlt (by decide) rfl c2)
    refine lv_aload_n hx hb dX14_feed_13 rfl (lv_at hl 0 rfl) ?_
    refine va_get (D := rD g) (ci := 13) (v := .int (qI S 0 5)) (C := RX14) (T := TX14) (N := 143) hx hb hts in2X14 hown hR.K hR.P 0 (hR.at14 hR.w.1) rfl 5 (by decide) (hts _ kx_168) (fun _ h9 => h9) rfl dX14_feed_14 ?_
    refine lv_bipush (v := 20) hx hb dX14_feed_17 (by decide) ?_
    refine lv_iadd hx hb dX14_feed_19 ?_
    refine lv_topi (fun z3 ez3 => ?_)
    obtain rfl : z3 = ((qI S 0 5) + (20 : Int32)) := ez3
    refine lv_ldcw hx hb hown (hts _ kx_169) dX14_feed_20 ?_
    refine lv_icmp_le (tgt := 28) hx hb dX14_feed_23 (by decide) (fun c4 => ?_) (fun c4 => ?_)
    · replace h := h.1 (k_le rfl (by decide) c4)
      refine lv_aload_n hx hb dX14_feed_28 rfl (lv_at hl 0 rfl) ?_
      refine lv_iload_n hx hb dX14_feed_29 rfl (lv_at hl 1 rfl) ?_
      obtain ⟨Q5, h0, h⟩ := h
      have hFc := rfree hR hA
      refine va_callv (va_runV (As := [.int x1]) (rest := []) ⟨hx, hb, hml, hown, hts⟩ (r_word l g ad s.heap.size S x1 hR.w  Q5 h0) (cwV 1 hts (gd2_V kx_841 kx_842 kx_843 kx_177 kx_844) rfl rfl rfl (by decide +kernel) ⟨Nat.le_of_ble_eq_true rfl, Nat.le_of_ble_eq_true rfl⟩) ⟨rblind, va_recv hR.K hR.P (ci := 13) (q0 := 0) rfl (hR.at14 hR.w.1), fun U hU hW9 => rmk hU hW9 hR hex hE hFc⟩ rfl rfl hl.1 rfl (lv_room (Nat.le_of_ble_eq_true rfl)) dX14_feed_30 ⟨Nat.le_of_ble_eq_true rfl, Nat.le_of_ble_eq_true rfl⟩) hR.sS (fun q _ h => hFc q h) hFc (fun  S6 t9 H1 locs ht9 hvm9 hw9 hB9 hz9 hk9 hS => ?_)
      obtain ⟨hq7, hw9, hs9⟩ := hw9
      have hR : Rep g ad A s S6 H1 locs := hR.call ht9 hB9 hw9 hS hFc
      have hsh := hsh.tr hs9
      replace h := h  S6 hq7
      clear hB9 hz9 hk9 hvm9 ht9 hw9 hs9 hS
      generalize H1 = H at hR ⊢
      refine lv_aload_n hx hb dX14_feed_33 rfl (lv_at hl 0 rfl) ?_
      refine lv_iload_n hx hb dX14_feed_34 rfl (lv_at hl 2 rfl) ?_
      obtain ⟨Q8, h0, h⟩ := h
      have hFc := rfree hR hA
      refine va_callv (va_runV (As := [.int x2]) (rest := []) ⟨hx, hb, hml, hown, hts⟩ (r_word l g ad H.size S6 x2 hR.w  Q8 h0) (cwV 1 hts (gd2_V kx_841 kx_842 kx_843 kx_177 kx_844) rfl rfl rfl (by decide +kernel) ⟨Nat.le_of_ble_eq_true rfl, Nat.le_of_ble_eq_true rfl⟩) ⟨rblind, va_recv hR.K hR.P (ci := 13) (q0 := 0) rfl (hR.at14 hR.w.1), fun U hU hW9 => rmk hU hW9 hR hex hE hFc⟩ rfl rfl hl.1 rfl (lv_room (Nat.le_of_ble_eq_true rfl)) dX14_feed_35 ⟨Nat.le_of_ble_eq_true rfl, Nat.le_of_ble_eq_true rfl⟩) hR.sS (fun q _ h => hFc q h) hFc (fun  S9 t9 H1 locs ht9 hvm9 hw9 hB9 hz9 hk9 hS => ?_)
      obtain ⟨hq10, hw9, hs9⟩ := hw9
      have hR : Rep g ad A s S9 H1 locs := hR.call ht9 hB9 hw9 hS hFc
      have hsh := hsh.tr hs9
      replace h := h  S9 hq10
      clear hB9 hz9 hk9 hvm9 ht9 hw9 hs9 hS
      generalize H1 = H at hR ⊢
      refine lv_aload_n hx hb dX14_feed_38 rfl (lv_at hl 0 rfl) ?_
      refine lv_iload_n hx hb dX14_feed_39 rfl (lv_at hl 3 rfl) ?_
      obtain ⟨Q11, h0, h⟩ := h
      have hFc := rfree hR hA
      refine va_callv (va_runV (As := [.int x3]) (rest := []) ⟨hx, hb, hml, hown, hts⟩ (r_word l g ad H.size S9 x3 hR.w  Q11 h0) (cwV 1 hts (gd2_V kx_841 kx_842 kx_843 kx_177 kx_844) rfl rfl rfl (by decide +kernel) ⟨Nat.le_of_ble_eq_true rfl, Nat.le_of_ble_eq_true rfl⟩) ⟨rblind, va_recv hR.K hR.P (ci := 13) (q0 := 0) rfl (hR.at14 hR.w.1), fun U hU hW9 => rmk hU hW9 hR hex hE hFc⟩ rfl rfl hl.1 rfl (lv_room (Nat.le_of_ble_eq_true rfl)) dX14_feed_40 ⟨Nat.le_of_ble_eq_true rfl, Nat.le_of_ble_eq_true rfl⟩) hR.sS (fun q _ h => hFc q h) hFc (fun  S12 t9 H1 locs ht9 hvm9 hw9 hB9 hz9 hk9 hS => ?_)
      obtain ⟨hq13, hw9, hs9⟩ := hw9
      have hR : Rep g ad A s S12 H1 locs := hR.call ht9 hB9 hw9 hS hFc
      have hsh := hsh.tr hs9
      replace h := h  S12 hq13
      clear hB9 hz9 hk9 hvm9 ht9 hw9 hs9 hS
      generalize H1 = H at hR ⊢
      refine lv_aload_n hx hb dX14_feed_43 rfl (lv_at hl 0 rfl) ?_
      refine lv_iload hx hb dX14_feed_44 (lv_at hl 4 rfl) ?_
      obtain ⟨Q14, h0, h⟩ := h
      have hFc := rfree hR hA
      refine va_callv (va_runV (As := [.int x4]) (rest := []) ⟨hx, hb, hml, hown, hts⟩ (r_word l g ad H.size S12 x4 hR.w  Q14 h0) (cwV 1 hts (gd2_V kx_841 kx_842 kx_843 kx_177 kx_844) rfl rfl rfl (by decide +kernel) ⟨Nat.le_of_ble_eq_true rfl, Nat.le_of_ble_eq_true rfl⟩) ⟨rblind, va_recv hR.K hR.P (ci := 13) (q0 := 0) rfl (hR.at14 hR.w.1), fun U hU hW9 => rmk hU hW9 hR hex hE hFc⟩ rfl rfl hl.1 rfl (lv_room (Nat.le_of_ble_eq_true rfl)) dX14_feed_46 ⟨Nat.le_of_ble_eq_true rfl, Nat.le_of_ble_eq_true rfl⟩) hR.sS (fun q _ h => hFc q h) hFc (fun  S15 t9 H1 locs ht9 hvm9 hw9 hB9 hz9 hk9 hS => ?_)
      obtain ⟨hq16, hw9, hs9⟩ := hw9
      have hR : Rep g ad A s S15 H1 locs := hR.call ht9 hB9 hw9 hS hFc
      have hsh := hsh.tr hs9
      replace h := h  S15 hq16
      clear hB9 hz9 hk9 hvm9 ht9 hw9 hs9 hS
      generalize H1 = H at hR ⊢
      refine lv_aload_n hx hb dX14_feed_49 rfl (lv_at hl 0 rfl) ?_
      refine lv_iload hx hb dX14_feed_50 (lv_at hl 5 rfl) ?_
      obtain ⟨Q17, h0, h⟩ := h
      have hFc := rfree hR hA
      refine va_callv (va_runV (As := [.int x5]) (rest := []) ⟨hx, hb, hml, hown, hts⟩ (r_word l g ad H.size S15 x5 hR.w  Q17 h0) (cwV 1 hts (gd2_V kx_841 kx_842 kx_843 kx_177 kx_844) rfl rfl rfl (by decide +kernel) ⟨Nat.le_of_ble_eq_true rfl, Nat.le_of_ble_eq_true rfl⟩) ⟨rblind, va_recv hR.K hR.P (ci := 13) (q0 := 0) rfl (hR.at14 hR.w.1), fun U hU hW9 => rmk hU hW9 hR hex hE hFc⟩ rfl rfl hl.1 rfl (lv_room (Nat.le_of_ble_eq_true rfl)) dX14_feed_52 ⟨Nat.le_of_ble_eq_true rfl, Nat.le_of_ble_eq_true rfl⟩) hR.sS (fun q _ h => hFc q h) hFc (fun  S18 t9 H1 locs ht9 hvm9 hw9 hB9 hz9 hk9 hS => ?_)
      obtain ⟨hq19, hw9, hs9⟩ := hw9
      have hR : Rep g ad A s S18 H1 locs := hR.call ht9 hB9 hw9 hS hFc
      have hsh := hsh.tr hs9
      replace h := h  S18 hq19
      clear hB9 hz9 hk9 hvm9 ht9 hw9 hs9 hS
      generalize H1 = H at hR ⊢
      refine lv_aload_n hx hb dX14_feed_55 rfl (lv_at hl 0 rfl) ?_
      refine lv_dup hx hb dX14_feed_56 rfl ?_
      refine va_get (D := rD g) (ci := 13) (v := .int (qI S18 0 5)) (C := RX14) (T := TX14) (N := 143) hx hb hts in2X14 hown hR.K hR.P 0 (hR.at14 hR.w.1) rfl 5 (by decide) (hts _ kx_168) (fun _ h9 => h9) rfl dX14_feed_57 ?_
      refine lv_bipush (v := 20) hx hb dX14_feed_60 (by decide) ?_
      refine lv_iadd hx hb dX14_feed_62 ?_
      refine lv_topi (fun z20 ez20 => ?_)
      obtain rfl : z20 = ((qI S18 0 5) + (20 : Int32)) := ez20
      refine va_put (D := rD g) (ci := 13) (v := .int ((qI S18 0 5) + (20 : Int32))) (ty := .int) (C := RX14) (T := TX14) (N := 143) hx hb hts in2X14 tyX14 tyX14_ok nmX14 hown hR.K hR.P hR.D hR.sS 0 (hR.at14 hR.w.1) rfl 5 (by decide) (hts _ kx_168) (fun _ h9 => h9) rfl (by decide +kernel) rfl rfl (Nat.le_of_ble_eq_true rfl) dX14_feed_63 (fun H locs hP hD hS => ?_)
      have hR : Rep g ad A s (wI S18 0 5 ((qI S18 0 5) + (20 : Int32))) H locs := hR.pI hR.w.1 F14_s5 hP hD hS
      obtain ⟨S21, eS21⟩ : ∃ z, z = wI S18 0 5 ((qI S18 0 5) + (20 : Int32)) := ⟨_, rfl⟩
      rw [← eS21] at hR
      replace h := h S21 eS21
      have hsh : shy S S21 := by rw [eS21]; exact hsh
      refine lv_aload_n hx hb dX14_feed_66 rfl (lv_at hl 0 rfl) ?_
      refine va_get (D := rD g) (ci := 13) (v := .int (qI S21 0 4)) (C := RX14) (T := TX14) (N := 143) hx hb hts in2X14 hown hR.K hR.P 0 (hR.at14 hR.w.1) rfl 4 (by decide) (hts _ kx_167) (fun _ h9 => h9) rfl dX14_feed_67 ?_
      exact W.iret (v := (qI S21 0 4)) hx hb hr (fun t9 ht9 hW9 => ⟨⟨_, S21, rfl, ⟨h, hR.w, hsh⟩, ⟨by rw [ht9]; exact hR.P, hR.D⟩⟩, hR.sS.F ht9⟩) hR.sS.2.2 dX14_feed_70
    · replace h := h.2 (k_nle rfl (by decide) c4)
      refine lv_iconst (v := (-1)) hx hb dX14_feed_26 (by decide) ?_
      exact W.iret (v := (-1)) hx hb hr (fun t9 ht9 hW9 => ⟨⟨_, S, rfl, ⟨h, hR.w, hsh⟩, ⟨by rw [ht9]; exact hR.P, hR.D⟩⟩, hR.sS.F ht9⟩) hR.sS.2.2 dX14_feed_27
def w_entry_J220 (Q : MS → Prop) (E : MS → Prop) (U220 : MS) (v220_1 : Int32) (v220_3 : Int32) : Prop := (((0 : Int) ≤ v220_1.toInt ∧ v220_1.toInt < 502) ∧ (∀ S12, S12 = wI U220 4 v220_1.toInt.toNat v220_3 → Q S12))
def w_entry (S : MS) (x1 : Int32) (Q : MS → Prop) (E : MS → Prop) : Prop := (∃ Q1 EQ1, w_over S 1 Q1 EQ1 ∧ (∀ r2 S3, Q1 r2 S3 → (((0 : Int) ≤ x1.toInt ∧ x1.toInt < 502) ∧ (∀ S6, S6 = wI S3 5 x1.toInt.toNat r2 → (d_octet S6 r2 ∧ (∀ a10 : Int32, a10 = (f_octet S6 r2) → ((a10.toInt = 1 → (∃ Q13 EQ13, w_nameEntry S6 x1 r2 Q13 EQ13 ∧ (∀ S14, Q13 S14 → w_entry_J220 Q E S14 x1 a10) ∧ (∀ u9, EQ13 u9 → E u9))) ∧ (¬ a10.toInt = 1 → ((a10.toInt = 2 → (∃ Q16, w_broken S6 (3 : Int32) r2 Q16 ∧ ∀ b20 S18, Q16 b20 S18 → E S18)) ∧ (¬ a10.toInt = 2 → ((a10.toInt = 3 → (∃ Q21 EQ21, w_over S6 (4 : Int64) Q21 EQ21 ∧ (∀ r22 S23, Q21 r22 S23 → (d_four S23 r22 ∧ (((0 : Int) ≤ x1.toInt ∧ x1.toInt < 502) ∧ (∀ S29, S29 = wJ S23 8 x1.toInt.toNat ((f_four S23 r22).toInt64) → w_entry_J220 Q E S29 x1 a10)))) ∧ (∀ u9, EQ21 u9 → E u9))) ∧ (¬ a10.toInt = 3 → ((a10.toInt = 4 → (∃ Q30, w_broken S6 (3 : Int32) r2 Q30 ∧ ∀ b34 S32, Q30 b34 S32 → E S32)) ∧ (¬ a10.toInt = 4 → ((a10.toInt = 5 → (∃ Q35 EQ35, w_over S6 (8 : Int64) Q35 EQ35 ∧ (∀ r36 S37, Q35 r36 S37 → (d_four S37 r36 ∧ (d_four S37 (r36 + (4 : Int32)) ∧ (((0 : Int) ≤ x1.toInt ∧ x1.toInt < 502) ∧ (∀ S49, S49 = wJ S37 8 x1.toInt.toNat ((((f_four S37 r36).toInt64) <<< ((32 : Int32).toInt64 &&& 63)) ||| (((f_four S37 (r36 + (4 : Int32))).toInt64) &&& (4294967295 : Int64))) → w_entry_J220 Q E S49 x1 a10))))) ∧ (∀ u9, EQ35 u9 → E u9))) ∧ (¬ a10.toInt = 5 → ((a10.toInt = 6 → (∃ Q50, w_broken S6 (3 : Int32) r2 Q50 ∧ ∀ b54 S52, Q50 b54 S52 → E S52)) ∧ (¬ a10.toInt = 6 → ((a10.toInt = 7 → (∃ Q55 EQ55, w_over S6 (2 : Int64) Q55 EQ55 ∧ (∀ r56 S57, Q55 r56 S57 → (d_two S57 r56 ∧ (((0 : Int) ≤ x1.toInt ∧ x1.toInt < 502) ∧ (∀ S63, S63 = wI S57 6 x1.toInt.toNat (f_two S57 r56) → w_entry_J220 Q E S63 x1 a10)))) ∧ (∀ u9, EQ55 u9 → E u9))) ∧ (¬ a10.toInt = 7 → ((a10.toInt = 8 → (∃ Q64, w_broken S6 (3 : Int32) r2 Q64 ∧ ∀ b68 S66, Q64 b68 S66 → E S66)) ∧ (¬ a10.toInt = 8 → ((a10.toInt = 9 → (∃ Q69 EQ69, w_over S6 (2 : Int64) Q69 EQ69 ∧ (∀ r70 S71, Q69 r70 S71 → (d_two S71 r70 ∧ (((0 : Int) ≤ x1.toInt ∧ x1.toInt < 502) ∧ (∀ S77, S77 = wI S71 6 x1.toInt.toNat (f_two S71 r70) → (∃ Q78 EQ78, w_over S77 (2 : Int64) Q78 EQ78 ∧ (∀ r79 S80, Q78 r79 S80 → (d_two S80 r79 ∧ (((0 : Int) ≤ x1.toInt ∧ x1.toInt < 502) ∧ (∀ S86, S86 = wI S80 7 x1.toInt.toNat (f_two S80 r79) → w_entry_J220 Q E S86 x1 a10)))) ∧ (∀ u9, EQ78 u9 → E u9)))))) ∧ (∀ u9, EQ69 u9 → E u9))) ∧ (¬ a10.toInt = 9 → ((a10.toInt = 10 → (∃ Q87 EQ87, w_over S6 (2 : Int64) Q87 EQ87 ∧ (∀ r88 S89, Q87 r88 S89 → (d_two S89 r88 ∧ (((0 : Int) ≤ x1.toInt ∧ x1.toInt < 502) ∧ (∀ S95, S95 = wI S89 6 x1.toInt.toNat (f_two S89 r88) → (∃ Q96 EQ96, w_over S95 (2 : Int64) Q96 EQ96 ∧ (∀ r97 S98, Q96 r97 S98 → (d_two S98 r97 ∧ (((0 : Int) ≤ x1.toInt ∧ x1.toInt < 502) ∧ (∀ S104, S104 = wI S98 7 x1.toInt.toNat (f_two S98 r97) → w_entry_J220 Q E S104 x1 a10)))) ∧ (∀ u9, EQ96 u9 → E u9)))))) ∧ (∀ u9, EQ87 u9 → E u9))) ∧ (¬ a10.toInt = 10 → ((a10.toInt = 11 → (∃ Q105, w_broken S6 (3 : Int32) r2 Q105 ∧ ∀ b109 S107, Q105 b109 S107 → E S107)) ∧ (¬ a10.toInt = 11 → ((a10.toInt = 12 → (∃ Q110 EQ110, w_over S6 (2 : Int64) Q110 EQ110 ∧ (∀ r111 S112, Q110 r111 S112 → (d_two S112 r111 ∧ (((0 : Int) ≤ x1.toInt ∧ x1.toInt < 502) ∧ (∀ S118, S118 = wI S112 6 x1.toInt.toNat (f_two S112 r111) → (∃ Q119 EQ119, w_over S118 (2 : Int64) Q119 EQ119 ∧ (∀ r120 S121, Q119 r120 S121 → (d_two S121 r120 ∧ (((0 : Int) ≤ x1.toInt ∧ x1.toInt < 502) ∧ (∀ S127, S127 = wI S121 7 x1.toInt.toNat (f_two S121 r120) → w_entry_J220 Q E S127 x1 a10)))) ∧ (∀ u9, EQ119 u9 → E u9)))))) ∧ (∀ u9, EQ110 u9 → E u9))) ∧ (¬ a10.toInt = 12 → (∃ Q128, w_broken S6 (3 : Int32) r2 Q128 ∧ ∀ b132 S130, Q128 b132 S130 → E S130)))))))))))))))))))))))))))))) ∧ (∀ u9, EQ1 u9 → E u9))
set_option maxHeartbeats 2000000 in
set_option maxRecDepth 100000 in
theorem r_entry (l : Launch) (g : Gr) (ad : Nat → Nat) (sz : Nat) (S : MS) (x1 : Int32) (hw : wfM S) (Q : MS → Prop) (E : MS → Prop) (h : w_entry S x1 Q E) : vx_Met l yX14_entry (wt2 yX14_entry cX14_entry 5 none) ({ frames := 3, cells := 0, slots := 0, locals := 70 }) (va_Pc [.ref (ad 0), .int x1] (st_R g ad sz S)) (va_Qv (fun (u : MS) => Q u ∧ wfM u ∧ shy S u) (fun (u : MS) (t : State) => qE g ad (va_A (Wd g ad S) sz) u t) (va_A (Wd g ad S) sz)) (vx_X (fun (u : MS) => E u ∧ wfM u ∧ shy S u) (fun (n9 : String) (u : MS) (t : State) => n9 = RJxb5711 ∧ qE g ad (va_A (Wd g ad S) sz) u t) (va_A (Wd g ad S) sz)) 0 0 (va_A (Wd g ad S) sz) := by
  refine vx_ofW (cc := cX14_entry) (maxL := 5) (ret := none) (by decide) rfl ?_
  intro p e s m args below meth c s₁ B hml hnt hv
  obtain ⟨rfl, hsz, hP, hK, hD0, hex, hE⟩ := hv
  have hx := B.exec
  have hb := B.bytes
  have hr := B.returns
  have hlocks := B.notSynchronized
  have hts0 := atoms_spec (ws := wt2 yX14_entry cX14_entry 5 none) B.pre
  have hts : ∀ w ∈ tb2, w.before _ s = true := fun w h => hts0 w (List.mem_cons_of_mem _ h)
  have hown : s.vm.findClass RX14 = some m.cls := findClass_of_methodNamed B.named
  subst hsz
  have hD := hD0.self (sz := s.heap.size)
  generalize hAe : va_A (Wd g ad S) s.heap.size = A at hD hE ⊢
  have hA : ∀ q : Nat, s.heap.size ≤ q → A q := fun q h => by rw [← hAe]; exact Or.inr h
  have hR : Rep g ad A s S s.heap [] := ⟨hK, hP, hD, va_S.rf, hw⟩
  clear hK hP hD hD0
  have hl := lv_entry ([.ref (ad 0), .int x1]) (n := 5) (Nat.le_of_ble_eq_true rfl)
  rw [lg_entry_eq]
  generalize (lg_sl ([.ref (ad 0), .int x1]) ++ List.replicate (5 - (lg_sl ([.ref (ad 0), .int x1])).length) Slot.unset).toArray = ls at hl ⊢
  have hl : lv_has ls 5 [(0, .ref (ad 0)), (1, .int x1)] := hl
  have hsh : shy S S := shy.rf
  unfold w_entry at h
  refine lv_aload_n hx hb dX14_entry_0 rfl (lv_at hl 0 rfl) ?_
  refine lv_lconst (v := 1) hx hb dX14_entry_1 (by decide) ?_
  obtain ⟨Q1, EQ1, h0, h⟩ := h
  have hFc := rfree hR hA
  refine vx_calli (vx_runV (As := [.long 1]) (rest := []) ⟨hx, hb, hml, hown, hts⟩ (r_over l g ad s.heap.size S 1 hR.w  Q1 EQ1 h0) (cwV 1 hts (gd2_V kx_193 kx_194 kx_195 kx_177 kx_196) rfl rfl rfl (by decide +kernel) ⟨Nat.le_of_ble_eq_true rfl, Nat.le_of_ble_eq_true rfl⟩) ⟨rblind, va_recv hR.K hR.P (ci := 13) (q0 := 0) rfl (hR.at14 hR.w.1), fun U hU hW9 => rmk hU hW9 hR hex hE hFc⟩ rfl rfl hl.1 rfl (lv_room (Nat.le_of_ble_eq_true rfl)) dX14_entry_2 ⟨Nat.le_of_ble_eq_true rfl, Nat.le_of_ble_eq_true rfl⟩) hR.sS (fun q _ h => hFc q h) hFc (fun q _ h => hFc q h) (fun E9 ce9 q9 u9 t9 H1 locs ht9 hvm9 hp9 hB9 hz9 hk9 hS hce9 hcv9 hcl9 => ?_) (fun r2 S3 t9 H1 locs ht9 hvm9 hw9 hB9 hz9 hk9 hS => ?_)
  · obtain ⟨hp9, hwx, hsx⟩ := hp9
    obtain ⟨rfl, hBx⟩ := hB9
    replace h := h.2 u9 hp9
    have hR : Rep g ad A s u9 H1 locs := hR.call ht9 hBx hwx hS hFc
    have hsh := hsh.tr hsx
    exact vx_out (E := RJxb5711) (q := q9) (fun x h9 => (hnt x h9).elim) hlocks hce9 hcv9 hcl9 (fun t9 ht9 ha9 => ⟨u9, ⟨h, hR.w, hsh⟩, ⟨rfl, by rw [ht9]; exact hR.P, hR.D⟩, hR.sS.F ht9⟩) hR.sS.2.2 (Nat.le_of_ble_eq_true rfl) (Nat.le_of_ble_eq_true rfl)
  · obtain ⟨hq4, hw9, hs9⟩ := hw9
    have hR : Rep g ad A s S3 H1 locs := hR.call ht9 hB9 hw9 hS hFc
    have hsh := hsh.tr hs9
    replace h := h.1 r2 S3 hq4
    clear hB9 hz9 hk9 hvm9 ht9 hw9 hs9 hS
    generalize H1 = H at hR ⊢
    refine lv_istore_n (lv' := [(2, .int r2), (0, .ref (ad 0)), (1, .int x1)]) hx hb dX14_entry_5 rfl hl (by decide) rfl (fun ls hl => ?_)
    refine lv_aload_n hx hb dX14_entry_6 rfl (lv_at hl 1 rfl) ?_
    refine va_get (D := rD g) (ci := 13) (v := .ref (ad 5)) (C := RX14) (T := TX14) (N := 143) hx hb hts in2X14 hown hR.K hR.P 0 (hR.at14 hR.w.1) rfl 16 (by decide) (hts _ kx_207) (fun _ h9 => h9) (congrArg (fun z => some (vf ad z)) (hR.w.2.1 _ fin_16).1) dX14_entry_7 ?_
    refine lv_iload_n hx hb dX14_entry_10 rfl (lv_at hl 2 rfl) ?_
    refine lv_iload_n hx hb dX14_entry_11 rfl (lv_at hl 0 rfl) ?_
    obtain ⟨hv5, h⟩ := h
    refine va_iast hx hb hR.K hR.P hR.D hR.sS 5 1 (hR.atI (hR.w.2.1 _ fin_16).2.1) rfl (k_ixN (k_ix (n := 502) (x := x1) (a := x1.toInt) rfl hv5) (hR.w.2.1 _ fin_16).2.2) dX14_entry_12 (fun H locs hP hD hS => ?_)
    have hR : Rep g ad A s (wI S3 5 x1.toInt.toNat r2) H locs := hR.aI (hR.w.2.1 _ fin_16).2.1 hP hD hS
    obtain ⟨S6, eS6⟩ : ∃ z, z = wI S3 5 x1.toInt.toNat r2 := ⟨_, rfl⟩
    rw [← eS6] at hR
    replace h := h S6 eS6
    have hsh : shy S S6 := by rw [eS6]; exact hsh
    refine lv_aload_n hx hb dX14_entry_13 rfl (lv_at hl 1 rfl) ?_
    refine lv_iload_n hx hb dX14_entry_14 rfl (lv_at hl 0 rfl) ?_
    obtain ⟨hv7, h⟩ := h
    have hFc := rfree hR hA
    refine va_calli (va_runV (As := [.int r2]) (rest := []) ⟨hx, hb, hml, hown, hts⟩ (r_octet l g ad H.size S6 r2 hR.w  hv7) (cwV 1 hts (gd2_V kx_182 kx_183 kx_184 kx_177 kx_185) rfl rfl rfl (by decide +kernel) ⟨Nat.le_of_ble_eq_true rfl, Nat.le_of_ble_eq_true rfl⟩) ⟨rblind, va_recv hR.K hR.P (ci := 13) (q0 := 0) rfl (hR.at14 hR.w.1), fun U hU hW9 => rmk hU hW9 hR hex hE hFc⟩ rfl rfl hl.1 rfl (lv_room (Nat.le_of_ble_eq_true rfl)) dX14_entry_15 ⟨Nat.le_of_ble_eq_true rfl, Nat.le_of_ble_eq_true rfl⟩) hR.sS (fun q _ h => hFc q h) hFc (fun r8 u9 t9 H1 locs ht9 hvm9 hw9 hB9 hz9 hk9 hS => ?_)
    have hR : Rep g ad A s S6 H1 locs := hR.call ht9 hB9 hR.w hS hFc
    obtain rfl : r8 = (f_octet S6 r2) := hw9
    clear hB9 hz9 hk9 hvm9 ht9 hS
    generalize H1 = H at hR ⊢
    obtain ⟨a10, ea10⟩ : ∃ z, z = (f_octet S6 r2) := ⟨_, rfl⟩
    rw [← ea10]
    replace h := h a10 ea10
    refine lv_istore_n (lv' := [(3, .int a10), (2, .int r2), (0, .ref (ad 0)), (1, .int x1)]) hx hb dX14_entry_18 rfl hl (by decide) rfl (fun ls hl => ?_)
    refine lv_iload_n hx hb dX14_entry_19 rfl (lv_at hl 0 rfl) ?_
    have J_220 : ∀ (U220 : MS) (v220_1 : Int32) (v220_3 : Int32) (H : Heap) (locs : List Loc) (ls : Array Slot), w_entry_J220 Q E U220 v220_1 v220_3 → shy S U220 → Rep g ad A s U220 H locs → lv_has ls 5 [(0, .ref (ad 0)), (1, .int v220_1), (3, .int v220_3)] → W p l e (headSpec (wt2 yX14_entry cX14_entry 5 none) ({ frames := 3, cells := 0, slots := 0, locals := 70 })).room s m ([.ref (ad 0), .int x1] : List Value).toArray below meth c H locs 0 0 (vx_MQ below (va_Qv (fun (u : MS) => Q u ∧ wfM u ∧ shy S u) (fun (u : MS) (t : State) => qE g ad A u t) A) ((vx_X (fun (u : MS) => E u ∧ wfM u ∧ shy S u) (fun (n9 : String) (u : MS) (t : State) => n9 = RJxb5711 ∧ qE g ad A u t) A)) ([.ref (ad 0), .int x1] : List Value).toArray s 0 0 A) (F0 m 220 ls []) := by
      intro U220 v220_1 v220_3 H locs ls h hsh hR hl
      unfold w_entry_J220 at h
      refine lv_aload_n hx hb dX14_entry_220 rfl (lv_at hl 0 rfl) ?_
      refine va_get (D := rD g) (ci := 13) (v := .ref (ad 4)) (C := RX14) (T := TX14) (N := 143) hx hb hts in2X14 hown hR.K hR.P 0 (hR.at14 hR.w.1) rfl 15 (by decide) (hts _ kx_202) (fun _ h9 => h9) (congrArg (fun z => some (vf ad z)) (hR.w.2.1 _ fin_15).1) dX14_entry_221 ?_
      refine lv_iload_n hx hb dX14_entry_224 rfl (lv_at hl 1 rfl) ?_
      refine lv_iload_n hx hb dX14_entry_225 rfl (lv_at hl 2 rfl) ?_
      obtain ⟨hv11, h⟩ := h
      refine va_iast hx hb hR.K hR.P hR.D hR.sS 4 1 (hR.atI (hR.w.2.1 _ fin_15).2.1) rfl (k_ixN (k_ix (n := 502) (x := v220_1) (a := v220_1.toInt) rfl hv11) (hR.w.2.1 _ fin_15).2.2) dX14_entry_226 (fun H locs hP hD hS => ?_)
      have hR : Rep g ad A s (wI U220 4 v220_1.toInt.toNat v220_3) H locs := hR.aI (hR.w.2.1 _ fin_15).2.1 hP hD hS
      obtain ⟨S12, eS12⟩ : ∃ z, z = wI U220 4 v220_1.toInt.toNat v220_3 := ⟨_, rfl⟩
      rw [← eS12] at hR
      replace h := h S12 eS12
      have hsh : shy S S12 := by rw [eS12]; exact hsh
      exact vx_ret (W.vret hx hb hr (fun t9 ht9 hW9 => ⟨⟨S12, rfl, ⟨h, hR.w, hsh⟩, ⟨by rw [ht9]; exact hR.P, hR.D⟩⟩, hR.sS.F ht9⟩) hR.sS.2.2 dX14_entry_227)
    by_cases c9_1 : a10.toInt = 1
    · refine lv_tableIn (off := 64) (tgt := 84) hx hb dX14_entry_20 (by rw [c9_1]; decide) (by rw [c9_1]; decide) (by rw [c9_1]; rfl) (by decide) ?_
      replace h := h.1 (c9_1)
      refine lv_aload_n hx hb dX14_entry_84 rfl (lv_at hl 2 rfl) ?_
      refine lv_iload_n hx hb dX14_entry_85 rfl (lv_at hl 3 rfl) ?_
      refine lv_iload_n hx hb dX14_entry_86 rfl (lv_at hl 1 rfl) ?_
      obtain ⟨Q13, EQ13, h0, h⟩ := h
      have hFc := rfree hR hA
      refine vx_callv (vx_runV (As := [.int x1, .int r2]) (rest := []) ⟨hx, hb, hml, hown, hts⟩ (r_nameEntry l g ad H.size S6 x1 r2 hR.w  Q13 EQ13 h0) (cwV 2 hts (gd2_V kx_845 kx_846 kx_847 kx_177 kx_848) rfl rfl rfl (by decide +kernel) ⟨Nat.le_of_ble_eq_true rfl, Nat.le_of_ble_eq_true rfl⟩) ⟨rblind, va_recv hR.K hR.P (ci := 13) (q0 := 0) rfl (hR.at14 hR.w.1), fun U hU hW9 => rmk hU hW9 hR hex hE hFc⟩ rfl rfl hl.1 rfl (lv_room (Nat.le_of_ble_eq_true rfl)) dX14_entry_87 ⟨Nat.le_of_ble_eq_true rfl, Nat.le_of_ble_eq_true rfl⟩) hR.sS (fun q _ h => hFc q h) hFc (fun q _ h => hFc q h) (fun E9 ce9 q9 u9 t9 H1 locs ht9 hvm9 hp9 hB9 hz9 hk9 hS hce9 hcv9 hcl9 => ?_) (fun  S14 t9 H1 locs ht9 hvm9 hw9 hB9 hz9 hk9 hS => ?_)
      · obtain ⟨hp9, hwx, hsx⟩ := hp9
        obtain ⟨rfl, hBx⟩ := hB9
        replace h := h.2 u9 hp9
        have hR : Rep g ad A s u9 H1 locs := hR.call ht9 hBx hwx hS hFc
        have hsh := hsh.tr hsx
        exact vx_out (E := RJxb5711) (q := q9) (fun x h9 => (hnt x h9).elim) hlocks hce9 hcv9 hcl9 (fun t9 ht9 ha9 => ⟨u9, ⟨h, hR.w, hsh⟩, ⟨rfl, by rw [ht9]; exact hR.P, hR.D⟩, hR.sS.F ht9⟩) hR.sS.2.2 (Nat.le_of_ble_eq_true rfl) (Nat.le_of_ble_eq_true rfl)
      · obtain ⟨hq15, hw9, hs9⟩ := hw9
        have hR : Rep g ad A s S14 H1 locs := hR.call ht9 hB9 hw9 hS hFc
        have hsh := hsh.tr hs9
        replace h := h.1  S14 hq15
        clear hB9 hz9 hk9 hvm9 ht9 hw9 hs9 hS
        generalize H1 = H at hR ⊢
        refine lv_goto (tgt := 220) hx hb dX14_entry_90 (by decide) ?_
        exact J_220 S14 x1 a10 _ _ ls h  hsh hR (lv_sub hl [2, 3, 0] rfl)
    replace h := h.2 c9_1
    by_cases c9_2 : a10.toInt = 2
    · refine lv_tableIn (off := 193) (tgt := 213) hx hb dX14_entry_20 (by rw [c9_2]; decide) (by rw [c9_2]; decide) (by rw [c9_2]; rfl) (by decide) ?_
      replace h := h.1 (c9_2)
      refine lv_aload_n hx hb dX14_entry_213 rfl (lv_at hl 2 rfl) ?_
      refine lv_iconst (v := 3) hx hb dX14_entry_214 (by decide) ?_
      refine lv_iload_n hx hb dX14_entry_215 rfl (lv_at hl 1 rfl) ?_
      obtain ⟨Q16, h0, h⟩ := h
      have hFc := rfree hR hA
      refine va_callq (va_runV (As := [.int 3, .int r2]) (rest := []) ⟨hx, hb, hml, hown, hts⟩ (r_broken l g ad H.size S6 (3 : Int32) r2 hR.w  Q16 h0) (cwV 2 hts (gd2_V kx_174 kx_175 kx_176 kx_177 kx_178) rfl rfl rfl (by decide +kernel) ⟨Nat.le_of_ble_eq_true rfl, Nat.le_of_ble_eq_true rfl⟩) ⟨rblind, va_recv hR.K hR.P (ci := 13) (q0 := 0) rfl (hR.at14 hR.w.1), fun U hU hW9 => rmk hU hW9 hR hex hE hFc⟩ rfl rfl hl.1 rfl (lv_room (Nat.le_of_ble_eq_true rfl)) dX14_entry_216 ⟨Nat.le_of_ble_eq_true rfl, Nat.le_of_ble_eq_true rfl⟩) hR.sS (fun q _ h => hFc q h) hFc (fun r17 S18 t9 H1 locs ht9 hvm9 hw9 hB9 hz9 hk9 hS => ?_)
      obtain ⟨b20, rfl, hq19, hw9, hs9, hT_b20⟩ := hw9
      have hR : Rep g ad A s S18 H1 locs := hR.call ht9 hB9 hw9 hS hFc
      have hsh := hsh.tr hs9
      replace h := h b20 S18 hq19
      clear hB9 hz9 hk9 hvm9 ht9 hw9 hs9 hS
      generalize H1 = H at hR ⊢
      obtain ⟨ce9, hce9, hcv9, hcl9⟩ := sx_cell hR.K hR.P (q0 := b20) (ci := 14) rfl (hR.atX hT_b20)
      refine sx_athrow hx hb dX14_entry_219 ?_
      exact vx_out (E := RJxb5711) (q := (ad b20)) (fun x h9 => (hnt x h9).elim) hlocks hce9 hcv9 hcl9 (fun t9 ht9 ha9 => ⟨S18, ⟨h, hR.w, hsh⟩, ⟨rfl, by rw [ht9]; exact hR.P, hR.D⟩, hR.sS.F ht9⟩) hR.sS.2.2 (Nat.le_of_ble_eq_true rfl) (Nat.le_of_ble_eq_true rfl)
    replace h := h.2 c9_2
    by_cases c9_3 : a10.toInt = 3
    · refine lv_tableIn (off := 73) (tgt := 93) hx hb dX14_entry_20 (by rw [c9_3]; decide) (by rw [c9_3]; decide) (by rw [c9_3]; rfl) (by decide) ?_
      replace h := h.1 (c9_3)
      refine lv_aload_n hx hb dX14_entry_93 rfl (lv_at hl 2 rfl) ?_
      refine va_get (D := rD g) (ci := 13) (v := .ref (ad 8)) (C := RX14) (T := TX14) (N := 143) hx hb hts in2X14 hown hR.K hR.P 0 (hR.at14 hR.w.1) rfl 19 (by decide) (hts _ kx_311) (fun _ h9 => h9) (congrArg (fun z => some (vf ad z)) (hR.w.2.1 _ fin_19).1) dX14_entry_94 ?_
      refine lv_iload_n hx hb dX14_entry_97 rfl (lv_at hl 3 rfl) ?_
      refine lv_aload_n hx hb dX14_entry_98 rfl (lv_at hl 2 rfl) ?_
      refine lv_aload_n hx hb dX14_entry_99 rfl (lv_at hl 2 rfl) ?_
      refine lv_ldc2 hx hb hown (hts _ kx_211) dX14_entry_100 ?_
      obtain ⟨Q21, EQ21, h0, h⟩ := h
      have hFc := rfree hR hA
      refine vx_calli (vx_runV (As := [.long (4 : Int64)]) (rest := [.ref (ad 0), .int x1, .ref (ad 8)]) ⟨hx, hb, hml, hown, hts⟩ (r_over l g ad H.size S6 (4 : Int64) hR.w  Q21 EQ21 h0) (cwV 1 hts (gd2_V kx_193 kx_194 kx_195 kx_177 kx_196) rfl rfl rfl (by decide +kernel) ⟨Nat.le_of_ble_eq_true rfl, Nat.le_of_ble_eq_true rfl⟩) ⟨rblind, va_recv hR.K hR.P (ci := 13) (q0 := 0) rfl (hR.at14 hR.w.1), fun U hU hW9 => rmk hU hW9 hR hex hE hFc⟩ rfl rfl hl.1 rfl (lv_room (Nat.le_of_ble_eq_true rfl)) dX14_entry_103 ⟨Nat.le_of_ble_eq_true rfl, Nat.le_of_ble_eq_true rfl⟩) hR.sS (fun q _ h => hFc q h) hFc (fun q _ h => hFc q h) (fun E9 ce9 q9 u9 t9 H1 locs ht9 hvm9 hp9 hB9 hz9 hk9 hS hce9 hcv9 hcl9 => ?_) (fun r22 S23 t9 H1 locs ht9 hvm9 hw9 hB9 hz9 hk9 hS => ?_)
      · obtain ⟨hp9, hwx, hsx⟩ := hp9
        obtain ⟨rfl, hBx⟩ := hB9
        replace h := h.2 u9 hp9
        have hR : Rep g ad A s u9 H1 locs := hR.call ht9 hBx hwx hS hFc
        have hsh := hsh.tr hsx
        exact vx_out (E := RJxb5711) (q := q9) (fun x h9 => (hnt x h9).elim) hlocks hce9 hcv9 hcl9 (fun t9 ht9 ha9 => ⟨u9, ⟨h, hR.w, hsh⟩, ⟨rfl, by rw [ht9]; exact hR.P, hR.D⟩, hR.sS.F ht9⟩) hR.sS.2.2 (Nat.le_of_ble_eq_true rfl) (Nat.le_of_ble_eq_true rfl)
      · obtain ⟨hq24, hw9, hs9⟩ := hw9
        have hR : Rep g ad A s S23 H1 locs := hR.call ht9 hB9 hw9 hS hFc
        have hsh := hsh.tr hs9
        replace h := h.1 r22 S23 hq24
        clear hB9 hz9 hk9 hvm9 ht9 hw9 hs9 hS
        generalize H1 = H at hR ⊢
        obtain ⟨hv25, h⟩ := h
        have hFc := rfree hR hA
        refine va_calli (va_runV (As := [.int r22]) (rest := [.int x1, .ref (ad 8)]) ⟨hx, hb, hml, hown, hts⟩ (r_four l g ad H.size S23 r22 hR.w  hv25) (cwV 1 hts (gd2_V kx_212 kx_213 kx_214 kx_177 kx_215) rfl rfl rfl (by decide +kernel) ⟨Nat.le_of_ble_eq_true rfl, Nat.le_of_ble_eq_true rfl⟩) ⟨rblind, va_recv hR.K hR.P (ci := 13) (q0 := 0) rfl (hR.at14 hR.w.1), fun U hU hW9 => rmk hU hW9 hR hex hE hFc⟩ rfl rfl hl.1 rfl (lv_room (Nat.le_of_ble_eq_true rfl)) dX14_entry_106 ⟨Nat.le_of_ble_eq_true rfl, Nat.le_of_ble_eq_true rfl⟩) hR.sS (fun q _ h => hFc q h) hFc (fun r26 u9 t9 H1 locs ht9 hvm9 hw9 hB9 hz9 hk9 hS => ?_)
        have hR : Rep g ad A s S23 H1 locs := hR.call ht9 hB9 hR.w hS hFc
        obtain rfl : r26 = (f_four S23 r22) := hw9
        clear hB9 hz9 hk9 hvm9 ht9 hS
        generalize H1 = H at hR ⊢
        refine lv_i2l (v := ((f_four S23 r22).toInt64)) hx hb dX14_entry_109 rfl ?_
        obtain ⟨hv28, h⟩ := h
        refine va_last hx hb hR.K hR.P hR.D hR.sS 8 3 (hR.atL (hR.w.2.1 _ fin_19).2.1) rfl (k_ixN (k_ix (n := 502) (x := x1) (a := x1.toInt) rfl hv28) (hR.w.2.1 _ fin_19).2.2) dX14_entry_110 (fun H locs hP hD hS => ?_)
        have hR : Rep g ad A s (wJ S23 8 x1.toInt.toNat ((f_four S23 r22).toInt64)) H locs := hR.aL (hR.w.2.1 _ fin_19).2.1 hP hD hS
        obtain ⟨S29, eS29⟩ : ∃ z, z = wJ S23 8 x1.toInt.toNat ((f_four S23 r22).toInt64) := ⟨_, rfl⟩
        rw [← eS29] at hR
        replace h := h S29 eS29
        have hsh : shy S S29 := by rw [eS29]; exact hsh
        refine lv_goto (tgt := 220) hx hb dX14_entry_111 (by decide) ?_
        exact J_220 S29 x1 a10 _ _ ls h  hsh hR (lv_sub hl [2, 3, 0] rfl)
    replace h := h.2 c9_3
    by_cases c9_4 : a10.toInt = 4
    · refine lv_tableIn (off := 193) (tgt := 213) hx hb dX14_entry_20 (by rw [c9_4]; decide) (by rw [c9_4]; decide) (by rw [c9_4]; rfl) (by decide) ?_
      replace h := h.1 (c9_4)
      refine lv_aload_n hx hb dX14_entry_213 rfl (lv_at hl 2 rfl) ?_
      refine lv_iconst (v := 3) hx hb dX14_entry_214 (by decide) ?_
      refine lv_iload_n hx hb dX14_entry_215 rfl (lv_at hl 1 rfl) ?_
      obtain ⟨Q30, h0, h⟩ := h
      have hFc := rfree hR hA
      refine va_callq (va_runV (As := [.int 3, .int r2]) (rest := []) ⟨hx, hb, hml, hown, hts⟩ (r_broken l g ad H.size S6 (3 : Int32) r2 hR.w  Q30 h0) (cwV 2 hts (gd2_V kx_174 kx_175 kx_176 kx_177 kx_178) rfl rfl rfl (by decide +kernel) ⟨Nat.le_of_ble_eq_true rfl, Nat.le_of_ble_eq_true rfl⟩) ⟨rblind, va_recv hR.K hR.P (ci := 13) (q0 := 0) rfl (hR.at14 hR.w.1), fun U hU hW9 => rmk hU hW9 hR hex hE hFc⟩ rfl rfl hl.1 rfl (lv_room (Nat.le_of_ble_eq_true rfl)) dX14_entry_216 ⟨Nat.le_of_ble_eq_true rfl, Nat.le_of_ble_eq_true rfl⟩) hR.sS (fun q _ h => hFc q h) hFc (fun r31 S32 t9 H1 locs ht9 hvm9 hw9 hB9 hz9 hk9 hS => ?_)
      obtain ⟨b34, rfl, hq33, hw9, hs9, hT_b34⟩ := hw9
      have hR : Rep g ad A s S32 H1 locs := hR.call ht9 hB9 hw9 hS hFc
      have hsh := hsh.tr hs9
      replace h := h b34 S32 hq33
      clear hB9 hz9 hk9 hvm9 ht9 hw9 hs9 hS
      generalize H1 = H at hR ⊢
      obtain ⟨ce9, hce9, hcv9, hcl9⟩ := sx_cell hR.K hR.P (q0 := b34) (ci := 14) rfl (hR.atX hT_b34)
      refine sx_athrow hx hb dX14_entry_219 ?_
      exact vx_out (E := RJxb5711) (q := (ad b34)) (fun x h9 => (hnt x h9).elim) hlocks hce9 hcv9 hcl9 (fun t9 ht9 ha9 => ⟨S32, ⟨h, hR.w, hsh⟩, ⟨rfl, by rw [ht9]; exact hR.P, hR.D⟩, hR.sS.F ht9⟩) hR.sS.2.2 (Nat.le_of_ble_eq_true rfl) (Nat.le_of_ble_eq_true rfl)
    replace h := h.2 c9_4
    by_cases c9_5 : a10.toInt = 5
    · refine lv_tableIn (off := 94) (tgt := 114) hx hb dX14_entry_20 (by rw [c9_5]; decide) (by rw [c9_5]; decide) (by rw [c9_5]; rfl) (by decide) ?_
      replace h := h.1 (c9_5)
      refine lv_aload_n hx hb dX14_entry_114 rfl (lv_at hl 2 rfl) ?_
      refine lv_ldc2 hx hb hown (hts _ kx_272) dX14_entry_115 ?_
      obtain ⟨Q35, EQ35, h0, h⟩ := h
      have hFc := rfree hR hA
      refine vx_calli (vx_runV (As := [.long (8 : Int64)]) (rest := []) ⟨hx, hb, hml, hown, hts⟩ (r_over l g ad H.size S6 (8 : Int64) hR.w  Q35 EQ35 h0) (cwV 1 hts (gd2_V kx_193 kx_194 kx_195 kx_177 kx_196) rfl rfl rfl (by decide +kernel) ⟨Nat.le_of_ble_eq_true rfl, Nat.le_of_ble_eq_true rfl⟩) ⟨rblind, va_recv hR.K hR.P (ci := 13) (q0 := 0) rfl (hR.at14 hR.w.1), fun U hU hW9 => rmk hU hW9 hR hex hE hFc⟩ rfl rfl hl.1 rfl (lv_room (Nat.le_of_ble_eq_true rfl)) dX14_entry_118 ⟨Nat.le_of_ble_eq_true rfl, Nat.le_of_ble_eq_true rfl⟩) hR.sS (fun q _ h => hFc q h) hFc (fun q _ h => hFc q h) (fun E9 ce9 q9 u9 t9 H1 locs ht9 hvm9 hp9 hB9 hz9 hk9 hS hce9 hcv9 hcl9 => ?_) (fun r36 S37 t9 H1 locs ht9 hvm9 hw9 hB9 hz9 hk9 hS => ?_)
      · obtain ⟨hp9, hwx, hsx⟩ := hp9
        obtain ⟨rfl, hBx⟩ := hB9
        replace h := h.2 u9 hp9
        have hR : Rep g ad A s u9 H1 locs := hR.call ht9 hBx hwx hS hFc
        have hsh := hsh.tr hsx
        exact vx_out (E := RJxb5711) (q := q9) (fun x h9 => (hnt x h9).elim) hlocks hce9 hcv9 hcl9 (fun t9 ht9 ha9 => ⟨u9, ⟨h, hR.w, hsh⟩, ⟨rfl, by rw [ht9]; exact hR.P, hR.D⟩, hR.sS.F ht9⟩) hR.sS.2.2 (Nat.le_of_ble_eq_true rfl) (Nat.le_of_ble_eq_true rfl)
      · obtain ⟨hq38, hw9, hs9⟩ := hw9
        have hR : Rep g ad A s S37 H1 locs := hR.call ht9 hB9 hw9 hS hFc
        have hsh := hsh.tr hs9
        replace h := h.1 r36 S37 hq38
        clear hB9 hz9 hk9 hvm9 ht9 hw9 hs9 hS
        generalize H1 = H at hR ⊢
        refine lv_istore (lv' := [(4, .int r36), (3, .int a10), (2, .int r2), (0, .ref (ad 0)), (1, .int x1)]) hx hb dX14_entry_121 hl (by decide) rfl (fun ls hl => ?_)
        refine lv_aload_n hx hb dX14_entry_123 rfl (lv_at hl 3 rfl) ?_
        refine va_get (D := rD g) (ci := 13) (v := .ref (ad 8)) (C := RX14) (T := TX14) (N := 143) hx hb hts in2X14 hown hR.K hR.P 0 (hR.at14 hR.w.1) rfl 19 (by decide) (hts _ kx_311) (fun _ h9 => h9) (congrArg (fun z => some (vf ad z)) (hR.w.2.1 _ fin_19).1) dX14_entry_124 ?_
        refine lv_iload_n hx hb dX14_entry_127 rfl (lv_at hl 4 rfl) ?_
        refine lv_aload_n hx hb dX14_entry_128 rfl (lv_at hl 3 rfl) ?_
        refine lv_iload hx hb dX14_entry_129 (lv_at hl 0 rfl) ?_
        obtain ⟨hv39, h⟩ := h
        have hFc := rfree hR hA
        refine va_calli (va_runV (As := [.int r36]) (rest := [.int x1, .ref (ad 8)]) ⟨hx, hb, hml, hown, hts⟩ (r_four l g ad H.size S37 r36 hR.w  hv39) (cwV 1 hts (gd2_V kx_212 kx_213 kx_214 kx_177 kx_215) rfl rfl rfl (by decide +kernel) ⟨Nat.le_of_ble_eq_true rfl, Nat.le_of_ble_eq_true rfl⟩) ⟨rblind, va_recv hR.K hR.P (ci := 13) (q0 := 0) rfl (hR.at14 hR.w.1), fun U hU hW9 => rmk hU hW9 hR hex hE hFc⟩ rfl rfl hl.1 rfl (lv_room (Nat.le_of_ble_eq_true rfl)) dX14_entry_131 ⟨Nat.le_of_ble_eq_true rfl, Nat.le_of_ble_eq_true rfl⟩) hR.sS (fun q _ h => hFc q h) hFc (fun r40 u9 t9 H1 locs ht9 hvm9 hw9 hB9 hz9 hk9 hS => ?_)
        have hR : Rep g ad A s S37 H1 locs := hR.call ht9 hB9 hR.w hS hFc
        obtain rfl : r40 = (f_four S37 r36) := hw9
        clear hB9 hz9 hk9 hvm9 ht9 hS
        generalize H1 = H at hR ⊢
        refine lv_i2l (v := ((f_four S37 r36).toInt64)) hx hb dX14_entry_134 rfl ?_
        refine lv_bipush (v := 32) hx hb dX14_entry_135 (by decide) ?_
        refine lv_lshl (v := (((f_four S37 r36).toInt64) <<< ((32 : Int32).toInt64 &&& 63))) hx hb dX14_entry_137 rfl ?_
        refine lv_aload_n hx hb dX14_entry_138 rfl (lv_at hl 3 rfl) ?_
        refine lv_iload hx hb dX14_entry_139 (lv_at hl 0 rfl) ?_
        refine lv_iconst (v := 4) hx hb dX14_entry_141 (by decide) ?_
        refine lv_iadd hx hb dX14_entry_142 ?_
        refine lv_topi (fun z42 ez42 => ?_)
        obtain rfl : z42 = (r36 + (4 : Int32)) := ez42
        obtain ⟨hv43, h⟩ := h
        have hFc := rfree hR hA
        refine va_calli (va_runV (As := [.int (r36 + (4 : Int32))]) (rest := [.long (((f_four S37 r36).toInt64) <<< ((32 : Int32).toInt64 &&& 63)), .int x1, .ref (ad 8)]) ⟨hx, hb, hml, hown, hts⟩ (r_four l g ad H.size S37 (r36 + (4 : Int32)) hR.w  hv43) (cwV 1 hts (gd2_V kx_212 kx_213 kx_214 kx_177 kx_215) rfl rfl rfl (by decide +kernel) ⟨Nat.le_of_ble_eq_true rfl, Nat.le_of_ble_eq_true rfl⟩) ⟨rblind, va_recv hR.K hR.P (ci := 13) (q0 := 0) rfl (hR.at14 hR.w.1), fun U hU hW9 => rmk hU hW9 hR hex hE hFc⟩ rfl rfl hl.1 rfl (lv_room (Nat.le_of_ble_eq_true rfl)) dX14_entry_143 ⟨Nat.le_of_ble_eq_true rfl, Nat.le_of_ble_eq_true rfl⟩) hR.sS (fun q _ h => hFc q h) hFc (fun r44 u9 t9 H1 locs ht9 hvm9 hw9 hB9 hz9 hk9 hS => ?_)
        have hR : Rep g ad A s S37 H1 locs := hR.call ht9 hB9 hR.w hS hFc
        obtain rfl : r44 = (f_four S37 (r36 + (4 : Int32))) := hw9
        clear hB9 hz9 hk9 hvm9 ht9 hS
        generalize H1 = H at hR ⊢
        refine lv_i2l (v := ((f_four S37 (r36 + (4 : Int32))).toInt64)) hx hb dX14_entry_146 rfl ?_
        refine lv_ldc2 hx hb hown (hts _ kx_216) dX14_entry_147 ?_
        refine lv_land hx hb dX14_entry_150 ?_
        refine lv_topl (fun z46 ez46 => ?_)
        obtain rfl : z46 = (((f_four S37 (r36 + (4 : Int32))).toInt64) &&& (4294967295 : Int64)) := ez46
        refine lv_lor hx hb dX14_entry_151 ?_
        refine lv_topl (fun z47 ez47 => ?_)
        obtain rfl : z47 = ((((f_four S37 r36).toInt64) <<< ((32 : Int32).toInt64 &&& 63)) ||| (((f_four S37 (r36 + (4 : Int32))).toInt64) &&& (4294967295 : Int64))) := ez47
        obtain ⟨hv48, h⟩ := h
        refine va_last hx hb hR.K hR.P hR.D hR.sS 8 3 (hR.atL (hR.w.2.1 _ fin_19).2.1) rfl (k_ixN (k_ix (n := 502) (x := x1) (a := x1.toInt) rfl hv48) (hR.w.2.1 _ fin_19).2.2) dX14_entry_152 (fun H locs hP hD hS => ?_)
        have hR : Rep g ad A s (wJ S37 8 x1.toInt.toNat ((((f_four S37 r36).toInt64) <<< ((32 : Int32).toInt64 &&& 63)) ||| (((f_four S37 (r36 + (4 : Int32))).toInt64) &&& (4294967295 : Int64)))) H locs := hR.aL (hR.w.2.1 _ fin_19).2.1 hP hD hS
        obtain ⟨S49, eS49⟩ : ∃ z, z = wJ S37 8 x1.toInt.toNat ((((f_four S37 r36).toInt64) <<< ((32 : Int32).toInt64 &&& 63)) ||| (((f_four S37 (r36 + (4 : Int32))).toInt64) &&& (4294967295 : Int64))) := ⟨_, rfl⟩
        rw [← eS49] at hR
        replace h := h S49 eS49
        have hsh : shy S S49 := by rw [eS49]; exact hsh
        refine lv_goto (tgt := 220) hx hb dX14_entry_153 (by decide) ?_
        exact J_220 S49 x1 a10 _ _ ls h  hsh hR (lv_sub hl [3, 4, 1] rfl)
    replace h := h.2 c9_5
    by_cases c9_6 : a10.toInt = 6
    · refine lv_tableIn (off := 193) (tgt := 213) hx hb dX14_entry_20 (by rw [c9_6]; decide) (by rw [c9_6]; decide) (by rw [c9_6]; rfl) (by decide) ?_
      replace h := h.1 (c9_6)
      refine lv_aload_n hx hb dX14_entry_213 rfl (lv_at hl 2 rfl) ?_
      refine lv_iconst (v := 3) hx hb dX14_entry_214 (by decide) ?_
      refine lv_iload_n hx hb dX14_entry_215 rfl (lv_at hl 1 rfl) ?_
      obtain ⟨Q50, h0, h⟩ := h
      have hFc := rfree hR hA
      refine va_callq (va_runV (As := [.int 3, .int r2]) (rest := []) ⟨hx, hb, hml, hown, hts⟩ (r_broken l g ad H.size S6 (3 : Int32) r2 hR.w  Q50 h0) (cwV 2 hts (gd2_V kx_174 kx_175 kx_176 kx_177 kx_178) rfl rfl rfl (by decide +kernel) ⟨Nat.le_of_ble_eq_true rfl, Nat.le_of_ble_eq_true rfl⟩) ⟨rblind, va_recv hR.K hR.P (ci := 13) (q0 := 0) rfl (hR.at14 hR.w.1), fun U hU hW9 => rmk hU hW9 hR hex hE hFc⟩ rfl rfl hl.1 rfl (lv_room (Nat.le_of_ble_eq_true rfl)) dX14_entry_216 ⟨Nat.le_of_ble_eq_true rfl, Nat.le_of_ble_eq_true rfl⟩) hR.sS (fun q _ h => hFc q h) hFc (fun r51 S52 t9 H1 locs ht9 hvm9 hw9 hB9 hz9 hk9 hS => ?_)
      obtain ⟨b54, rfl, hq53, hw9, hs9, hT_b54⟩ := hw9
      have hR : Rep g ad A s S52 H1 locs := hR.call ht9 hB9 hw9 hS hFc
      have hsh := hsh.tr hs9
      replace h := h b54 S52 hq53
      clear hB9 hz9 hk9 hvm9 ht9 hw9 hs9 hS
      generalize H1 = H at hR ⊢
      obtain ⟨ce9, hce9, hcv9, hcl9⟩ := sx_cell hR.K hR.P (q0 := b54) (ci := 14) rfl (hR.atX hT_b54)
      refine sx_athrow hx hb dX14_entry_219 ?_
      exact vx_out (E := RJxb5711) (q := (ad b54)) (fun x h9 => (hnt x h9).elim) hlocks hce9 hcv9 hcl9 (fun t9 ht9 ha9 => ⟨S52, ⟨h, hR.w, hsh⟩, ⟨rfl, by rw [ht9]; exact hR.P, hR.D⟩, hR.sS.F ht9⟩) hR.sS.2.2 (Nat.le_of_ble_eq_true rfl) (Nat.le_of_ble_eq_true rfl)
    replace h := h.2 c9_6
    by_cases c9_7 : a10.toInt = 7
    · refine lv_tableIn (off := 136) (tgt := 156) hx hb dX14_entry_20 (by rw [c9_7]; decide) (by rw [c9_7]; decide) (by rw [c9_7]; rfl) (by decide) ?_
      replace h := h.1 (c9_7)
      refine lv_aload_n hx hb dX14_entry_156 rfl (lv_at hl 2 rfl) ?_
      refine va_get (D := rD g) (ci := 13) (v := .ref (ad 6)) (C := RX14) (T := TX14) (N := 143) hx hb hts in2X14 hown hR.K hR.P 0 (hR.at14 hR.w.1) rfl 17 (by decide) (hts _ kx_208) (fun _ h9 => h9) (congrArg (fun z => some (vf ad z)) (hR.w.2.1 _ fin_17).1) dX14_entry_157 ?_
      refine lv_iload_n hx hb dX14_entry_160 rfl (lv_at hl 3 rfl) ?_
      refine lv_aload_n hx hb dX14_entry_161 rfl (lv_at hl 2 rfl) ?_
      refine lv_aload_n hx hb dX14_entry_162 rfl (lv_at hl 2 rfl) ?_
      refine lv_ldc2 hx hb hown (hts _ kx_192) dX14_entry_163 ?_
      obtain ⟨Q55, EQ55, h0, h⟩ := h
      have hFc := rfree hR hA
      refine vx_calli (vx_runV (As := [.long (2 : Int64)]) (rest := [.ref (ad 0), .int x1, .ref (ad 6)]) ⟨hx, hb, hml, hown, hts⟩ (r_over l g ad H.size S6 (2 : Int64) hR.w  Q55 EQ55 h0) (cwV 1 hts (gd2_V kx_193 kx_194 kx_195 kx_177 kx_196) rfl rfl rfl (by decide +kernel) ⟨Nat.le_of_ble_eq_true rfl, Nat.le_of_ble_eq_true rfl⟩) ⟨rblind, va_recv hR.K hR.P (ci := 13) (q0 := 0) rfl (hR.at14 hR.w.1), fun U hU hW9 => rmk hU hW9 hR hex hE hFc⟩ rfl rfl hl.1 rfl (lv_room (Nat.le_of_ble_eq_true rfl)) dX14_entry_166 ⟨Nat.le_of_ble_eq_true rfl, Nat.le_of_ble_eq_true rfl⟩) hR.sS (fun q _ h => hFc q h) hFc (fun q _ h => hFc q h) (fun E9 ce9 q9 u9 t9 H1 locs ht9 hvm9 hp9 hB9 hz9 hk9 hS hce9 hcv9 hcl9 => ?_) (fun r56 S57 t9 H1 locs ht9 hvm9 hw9 hB9 hz9 hk9 hS => ?_)
      · obtain ⟨hp9, hwx, hsx⟩ := hp9
        obtain ⟨rfl, hBx⟩ := hB9
        replace h := h.2 u9 hp9
        have hR : Rep g ad A s u9 H1 locs := hR.call ht9 hBx hwx hS hFc
        have hsh := hsh.tr hsx
        exact vx_out (E := RJxb5711) (q := q9) (fun x h9 => (hnt x h9).elim) hlocks hce9 hcv9 hcl9 (fun t9 ht9 ha9 => ⟨u9, ⟨h, hR.w, hsh⟩, ⟨rfl, by rw [ht9]; exact hR.P, hR.D⟩, hR.sS.F ht9⟩) hR.sS.2.2 (Nat.le_of_ble_eq_true rfl) (Nat.le_of_ble_eq_true rfl)
      · obtain ⟨hq58, hw9, hs9⟩ := hw9
        have hR : Rep g ad A s S57 H1 locs := hR.call ht9 hB9 hw9 hS hFc
        have hsh := hsh.tr hs9
        replace h := h.1 r56 S57 hq58
        clear hB9 hz9 hk9 hvm9 ht9 hw9 hs9 hS
        generalize H1 = H at hR ⊢
        obtain ⟨hv59, h⟩ := h
        have hFc := rfree hR hA
        refine va_calli (va_runV (As := [.int r56]) (rest := [.int x1, .ref (ad 6)]) ⟨hx, hb, hml, hown, hts⟩ (r_two l g ad H.size S57 r56 hR.w  hv59) (cwV 1 hts (gd2_V kx_186 kx_187 kx_188 kx_177 kx_189) rfl rfl rfl (by decide +kernel) ⟨Nat.le_of_ble_eq_true rfl, Nat.le_of_ble_eq_true rfl⟩) ⟨rblind, va_recv hR.K hR.P (ci := 13) (q0 := 0) rfl (hR.at14 hR.w.1), fun U hU hW9 => rmk hU hW9 hR hex hE hFc⟩ rfl rfl hl.1 rfl (lv_room (Nat.le_of_ble_eq_true rfl)) dX14_entry_169 ⟨Nat.le_of_ble_eq_true rfl, Nat.le_of_ble_eq_true rfl⟩) hR.sS (fun q _ h => hFc q h) hFc (fun r60 u9 t9 H1 locs ht9 hvm9 hw9 hB9 hz9 hk9 hS => ?_)
        have hR : Rep g ad A s S57 H1 locs := hR.call ht9 hB9 hR.w hS hFc
        obtain rfl : r60 = (f_two S57 r56) := hw9
        clear hB9 hz9 hk9 hvm9 ht9 hS
        generalize H1 = H at hR ⊢
        obtain ⟨hv62, h⟩ := h
        refine va_iast hx hb hR.K hR.P hR.D hR.sS 6 1 (hR.atI (hR.w.2.1 _ fin_17).2.1) rfl (k_ixN (k_ix (n := 502) (x := x1) (a := x1.toInt) rfl hv62) (hR.w.2.1 _ fin_17).2.2) dX14_entry_172 (fun H locs hP hD hS => ?_)
        have hR : Rep g ad A s (wI S57 6 x1.toInt.toNat (f_two S57 r56)) H locs := hR.aI (hR.w.2.1 _ fin_17).2.1 hP hD hS
        obtain ⟨S63, eS63⟩ : ∃ z, z = wI S57 6 x1.toInt.toNat (f_two S57 r56) := ⟨_, rfl⟩
        rw [← eS63] at hR
        replace h := h S63 eS63
        have hsh : shy S S63 := by rw [eS63]; exact hsh
        refine lv_goto (tgt := 220) hx hb dX14_entry_173 (by decide) ?_
        exact J_220 S63 x1 a10 _ _ ls h  hsh hR (lv_sub hl [2, 3, 0] rfl)
    replace h := h.2 c9_7
    by_cases c9_8 : a10.toInt = 8
    · refine lv_tableIn (off := 193) (tgt := 213) hx hb dX14_entry_20 (by rw [c9_8]; decide) (by rw [c9_8]; decide) (by rw [c9_8]; rfl) (by decide) ?_
      replace h := h.1 (c9_8)
      refine lv_aload_n hx hb dX14_entry_213 rfl (lv_at hl 2 rfl) ?_
      refine lv_iconst (v := 3) hx hb dX14_entry_214 (by decide) ?_
      refine lv_iload_n hx hb dX14_entry_215 rfl (lv_at hl 1 rfl) ?_
      obtain ⟨Q64, h0, h⟩ := h
      have hFc := rfree hR hA
      refine va_callq (va_runV (As := [.int 3, .int r2]) (rest := []) ⟨hx, hb, hml, hown, hts⟩ (r_broken l g ad H.size S6 (3 : Int32) r2 hR.w  Q64 h0) (cwV 2 hts (gd2_V kx_174 kx_175 kx_176 kx_177 kx_178) rfl rfl rfl (by decide +kernel) ⟨Nat.le_of_ble_eq_true rfl, Nat.le_of_ble_eq_true rfl⟩) ⟨rblind, va_recv hR.K hR.P (ci := 13) (q0 := 0) rfl (hR.at14 hR.w.1), fun U hU hW9 => rmk hU hW9 hR hex hE hFc⟩ rfl rfl hl.1 rfl (lv_room (Nat.le_of_ble_eq_true rfl)) dX14_entry_216 ⟨Nat.le_of_ble_eq_true rfl, Nat.le_of_ble_eq_true rfl⟩) hR.sS (fun q _ h => hFc q h) hFc (fun r65 S66 t9 H1 locs ht9 hvm9 hw9 hB9 hz9 hk9 hS => ?_)
      obtain ⟨b68, rfl, hq67, hw9, hs9, hT_b68⟩ := hw9
      have hR : Rep g ad A s S66 H1 locs := hR.call ht9 hB9 hw9 hS hFc
      have hsh := hsh.tr hs9
      replace h := h b68 S66 hq67
      clear hB9 hz9 hk9 hvm9 ht9 hw9 hs9 hS
      generalize H1 = H at hR ⊢
      obtain ⟨ce9, hce9, hcv9, hcl9⟩ := sx_cell hR.K hR.P (q0 := b68) (ci := 14) rfl (hR.atX hT_b68)
      refine sx_athrow hx hb dX14_entry_219 ?_
      exact vx_out (E := RJxb5711) (q := (ad b68)) (fun x h9 => (hnt x h9).elim) hlocks hce9 hcv9 hcl9 (fun t9 ht9 ha9 => ⟨S66, ⟨h, hR.w, hsh⟩, ⟨rfl, by rw [ht9]; exact hR.P, hR.D⟩, hR.sS.F ht9⟩) hR.sS.2.2 (Nat.le_of_ble_eq_true rfl) (Nat.le_of_ble_eq_true rfl)
    replace h := h.2 c9_8
    by_cases c9_9 : a10.toInt = 9
    · refine lv_tableIn (off := 156) (tgt := 176) hx hb dX14_entry_20 (by rw [c9_9]; decide) (by rw [c9_9]; decide) (by rw [c9_9]; rfl) (by decide) ?_
      replace h := h.1 (c9_9)
      refine lv_aload_n hx hb dX14_entry_176 rfl (lv_at hl 2 rfl) ?_
      refine va_get (D := rD g) (ci := 13) (v := .ref (ad 6)) (C := RX14) (T := TX14) (N := 143) hx hb hts in2X14 hown hR.K hR.P 0 (hR.at14 hR.w.1) rfl 17 (by decide) (hts _ kx_208) (fun _ h9 => h9) (congrArg (fun z => some (vf ad z)) (hR.w.2.1 _ fin_17).1) dX14_entry_177 ?_
      refine lv_iload_n hx hb dX14_entry_180 rfl (lv_at hl 3 rfl) ?_
      refine lv_aload_n hx hb dX14_entry_181 rfl (lv_at hl 2 rfl) ?_
      refine lv_aload_n hx hb dX14_entry_182 rfl (lv_at hl 2 rfl) ?_
      refine lv_ldc2 hx hb hown (hts _ kx_192) dX14_entry_183 ?_
      obtain ⟨Q69, EQ69, h0, h⟩ := h
      have hFc := rfree hR hA
      refine vx_calli (vx_runV (As := [.long (2 : Int64)]) (rest := [.ref (ad 0), .int x1, .ref (ad 6)]) ⟨hx, hb, hml, hown, hts⟩ (r_over l g ad H.size S6 (2 : Int64) hR.w  Q69 EQ69 h0) (cwV 1 hts (gd2_V kx_193 kx_194 kx_195 kx_177 kx_196) rfl rfl rfl (by decide +kernel) ⟨Nat.le_of_ble_eq_true rfl, Nat.le_of_ble_eq_true rfl⟩) ⟨rblind, va_recv hR.K hR.P (ci := 13) (q0 := 0) rfl (hR.at14 hR.w.1), fun U hU hW9 => rmk hU hW9 hR hex hE hFc⟩ rfl rfl hl.1 rfl (lv_room (Nat.le_of_ble_eq_true rfl)) dX14_entry_186 ⟨Nat.le_of_ble_eq_true rfl, Nat.le_of_ble_eq_true rfl⟩) hR.sS (fun q _ h => hFc q h) hFc (fun q _ h => hFc q h) (fun E9 ce9 q9 u9 t9 H1 locs ht9 hvm9 hp9 hB9 hz9 hk9 hS hce9 hcv9 hcl9 => ?_) (fun r70 S71 t9 H1 locs ht9 hvm9 hw9 hB9 hz9 hk9 hS => ?_)
      · obtain ⟨hp9, hwx, hsx⟩ := hp9
        obtain ⟨rfl, hBx⟩ := hB9
        replace h := h.2 u9 hp9
        have hR : Rep g ad A s u9 H1 locs := hR.call ht9 hBx hwx hS hFc
        have hsh := hsh.tr hsx
        exact vx_out (E := RJxb5711) (q := q9) (fun x h9 => (hnt x h9).elim) hlocks hce9 hcv9 hcl9 (fun t9 ht9 ha9 => ⟨u9, ⟨h, hR.w, hsh⟩, ⟨rfl, by rw [ht9]; exact hR.P, hR.D⟩, hR.sS.F ht9⟩) hR.sS.2.2 (Nat.le_of_ble_eq_true rfl) (Nat.le_of_ble_eq_true rfl)
      · obtain ⟨hq72, hw9, hs9⟩ := hw9
        have hR : Rep g ad A s S71 H1 locs := hR.call ht9 hB9 hw9 hS hFc
        have hsh := hsh.tr hs9
        replace h := h.1 r70 S71 hq72
        clear hB9 hz9 hk9 hvm9 ht9 hw9 hs9 hS
        generalize H1 = H at hR ⊢
        obtain ⟨hv73, h⟩ := h
        have hFc := rfree hR hA
        refine va_calli (va_runV (As := [.int r70]) (rest := [.int x1, .ref (ad 6)]) ⟨hx, hb, hml, hown, hts⟩ (r_two l g ad H.size S71 r70 hR.w  hv73) (cwV 1 hts (gd2_V kx_186 kx_187 kx_188 kx_177 kx_189) rfl rfl rfl (by decide +kernel) ⟨Nat.le_of_ble_eq_true rfl, Nat.le_of_ble_eq_true rfl⟩) ⟨rblind, va_recv hR.K hR.P (ci := 13) (q0 := 0) rfl (hR.at14 hR.w.1), fun U hU hW9 => rmk hU hW9 hR hex hE hFc⟩ rfl rfl hl.1 rfl (lv_room (Nat.le_of_ble_eq_true rfl)) dX14_entry_189 ⟨Nat.le_of_ble_eq_true rfl, Nat.le_of_ble_eq_true rfl⟩) hR.sS (fun q _ h => hFc q h) hFc (fun r74 u9 t9 H1 locs ht9 hvm9 hw9 hB9 hz9 hk9 hS => ?_)
        have hR : Rep g ad A s S71 H1 locs := hR.call ht9 hB9 hR.w hS hFc
        obtain rfl : r74 = (f_two S71 r70) := hw9
        clear hB9 hz9 hk9 hvm9 ht9 hS
        generalize H1 = H at hR ⊢
        obtain ⟨hv76, h⟩ := h
        refine va_iast hx hb hR.K hR.P hR.D hR.sS 6 1 (hR.atI (hR.w.2.1 _ fin_17).2.1) rfl (k_ixN (k_ix (n := 502) (x := x1) (a := x1.toInt) rfl hv76) (hR.w.2.1 _ fin_17).2.2) dX14_entry_192 (fun H locs hP hD hS => ?_)
        have hR : Rep g ad A s (wI S71 6 x1.toInt.toNat (f_two S71 r70)) H locs := hR.aI (hR.w.2.1 _ fin_17).2.1 hP hD hS
        obtain ⟨S77, eS77⟩ : ∃ z, z = wI S71 6 x1.toInt.toNat (f_two S71 r70) := ⟨_, rfl⟩
        rw [← eS77] at hR
        replace h := h S77 eS77
        have hsh : shy S S77 := by rw [eS77]; exact hsh
        refine lv_aload_n hx hb dX14_entry_193 rfl (lv_at hl 2 rfl) ?_
        refine va_get (D := rD g) (ci := 13) (v := .ref (ad 7)) (C := RX14) (T := TX14) (N := 143) hx hb hts in2X14 hown hR.K hR.P 0 (hR.at14 hR.w.1) rfl 18 (by decide) (hts _ kx_209) (fun _ h9 => h9) (congrArg (fun z => some (vf ad z)) (hR.w.2.1 _ fin_18).1) dX14_entry_194 ?_
        refine lv_iload_n hx hb dX14_entry_197 rfl (lv_at hl 3 rfl) ?_
        refine lv_aload_n hx hb dX14_entry_198 rfl (lv_at hl 2 rfl) ?_
        refine lv_aload_n hx hb dX14_entry_199 rfl (lv_at hl 2 rfl) ?_
        refine lv_ldc2 hx hb hown (hts _ kx_192) dX14_entry_200 ?_
        obtain ⟨Q78, EQ78, h0, h⟩ := h
        have hFc := rfree hR hA
        refine vx_calli (vx_runV (As := [.long (2 : Int64)]) (rest := [.ref (ad 0), .int x1, .ref (ad 7)]) ⟨hx, hb, hml, hown, hts⟩ (r_over l g ad H.size S77 (2 : Int64) hR.w  Q78 EQ78 h0) (cwV 1 hts (gd2_V kx_193 kx_194 kx_195 kx_177 kx_196) rfl rfl rfl (by decide +kernel) ⟨Nat.le_of_ble_eq_true rfl, Nat.le_of_ble_eq_true rfl⟩) ⟨rblind, va_recv hR.K hR.P (ci := 13) (q0 := 0) rfl (hR.at14 hR.w.1), fun U hU hW9 => rmk hU hW9 hR hex hE hFc⟩ rfl rfl hl.1 rfl (lv_room (Nat.le_of_ble_eq_true rfl)) dX14_entry_203 ⟨Nat.le_of_ble_eq_true rfl, Nat.le_of_ble_eq_true rfl⟩) hR.sS (fun q _ h => hFc q h) hFc (fun q _ h => hFc q h) (fun E9 ce9 q9 u9 t9 H1 locs ht9 hvm9 hp9 hB9 hz9 hk9 hS hce9 hcv9 hcl9 => ?_) (fun r79 S80 t9 H1 locs ht9 hvm9 hw9 hB9 hz9 hk9 hS => ?_)
        · obtain ⟨hp9, hwx, hsx⟩ := hp9
          obtain ⟨rfl, hBx⟩ := hB9
          replace h := h.2 u9 hp9
          have hR : Rep g ad A s u9 H1 locs := hR.call ht9 hBx hwx hS hFc
          have hsh := hsh.tr hsx
          exact vx_out (E := RJxb5711) (q := q9) (fun x h9 => (hnt x h9).elim) hlocks hce9 hcv9 hcl9 (fun t9 ht9 ha9 => ⟨u9, ⟨h, hR.w, hsh⟩, ⟨rfl, by rw [ht9]; exact hR.P, hR.D⟩, hR.sS.F ht9⟩) hR.sS.2.2 (Nat.le_of_ble_eq_true rfl) (Nat.le_of_ble_eq_true rfl)
        · obtain ⟨hq81, hw9, hs9⟩ := hw9
          have hR : Rep g ad A s S80 H1 locs := hR.call ht9 hB9 hw9 hS hFc
          have hsh := hsh.tr hs9
          replace h := h.1 r79 S80 hq81
          clear hB9 hz9 hk9 hvm9 ht9 hw9 hs9 hS
          generalize H1 = H at hR ⊢
          obtain ⟨hv82, h⟩ := h
          have hFc := rfree hR hA
          refine va_calli (va_runV (As := [.int r79]) (rest := [.int x1, .ref (ad 7)]) ⟨hx, hb, hml, hown, hts⟩ (r_two l g ad H.size S80 r79 hR.w  hv82) (cwV 1 hts (gd2_V kx_186 kx_187 kx_188 kx_177 kx_189) rfl rfl rfl (by decide +kernel) ⟨Nat.le_of_ble_eq_true rfl, Nat.le_of_ble_eq_true rfl⟩) ⟨rblind, va_recv hR.K hR.P (ci := 13) (q0 := 0) rfl (hR.at14 hR.w.1), fun U hU hW9 => rmk hU hW9 hR hex hE hFc⟩ rfl rfl hl.1 rfl (lv_room (Nat.le_of_ble_eq_true rfl)) dX14_entry_206 ⟨Nat.le_of_ble_eq_true rfl, Nat.le_of_ble_eq_true rfl⟩) hR.sS (fun q _ h => hFc q h) hFc (fun r83 u9 t9 H1 locs ht9 hvm9 hw9 hB9 hz9 hk9 hS => ?_)
          have hR : Rep g ad A s S80 H1 locs := hR.call ht9 hB9 hR.w hS hFc
          obtain rfl : r83 = (f_two S80 r79) := hw9
          clear hB9 hz9 hk9 hvm9 ht9 hS
          generalize H1 = H at hR ⊢
          obtain ⟨hv85, h⟩ := h
          refine va_iast hx hb hR.K hR.P hR.D hR.sS 7 1 (hR.atI (hR.w.2.1 _ fin_18).2.1) rfl (k_ixN (k_ix (n := 502) (x := x1) (a := x1.toInt) rfl hv85) (hR.w.2.1 _ fin_18).2.2) dX14_entry_209 (fun H locs hP hD hS => ?_)
          have hR : Rep g ad A s (wI S80 7 x1.toInt.toNat (f_two S80 r79)) H locs := hR.aI (hR.w.2.1 _ fin_18).2.1 hP hD hS
          obtain ⟨S86, eS86⟩ : ∃ z, z = wI S80 7 x1.toInt.toNat (f_two S80 r79) := ⟨_, rfl⟩
          rw [← eS86] at hR
          replace h := h S86 eS86
          have hsh : shy S S86 := by rw [eS86]; exact hsh
          refine lv_goto (tgt := 220) hx hb dX14_entry_210 (by decide) ?_
          exact J_220 S86 x1 a10 _ _ ls h  hsh hR (lv_sub hl [2, 3, 0] rfl)
    replace h := h.2 c9_9
    by_cases c9_10 : a10.toInt = 10
    · refine lv_tableIn (off := 156) (tgt := 176) hx hb dX14_entry_20 (by rw [c9_10]; decide) (by rw [c9_10]; decide) (by rw [c9_10]; rfl) (by decide) ?_
      replace h := h.1 (c9_10)
      refine lv_aload_n hx hb dX14_entry_176 rfl (lv_at hl 2 rfl) ?_
      refine va_get (D := rD g) (ci := 13) (v := .ref (ad 6)) (C := RX14) (T := TX14) (N := 143) hx hb hts in2X14 hown hR.K hR.P 0 (hR.at14 hR.w.1) rfl 17 (by decide) (hts _ kx_208) (fun _ h9 => h9) (congrArg (fun z => some (vf ad z)) (hR.w.2.1 _ fin_17).1) dX14_entry_177 ?_
      refine lv_iload_n hx hb dX14_entry_180 rfl (lv_at hl 3 rfl) ?_
      refine lv_aload_n hx hb dX14_entry_181 rfl (lv_at hl 2 rfl) ?_
      refine lv_aload_n hx hb dX14_entry_182 rfl (lv_at hl 2 rfl) ?_
      refine lv_ldc2 hx hb hown (hts _ kx_192) dX14_entry_183 ?_
      obtain ⟨Q87, EQ87, h0, h⟩ := h
      have hFc := rfree hR hA
      refine vx_calli (vx_runV (As := [.long (2 : Int64)]) (rest := [.ref (ad 0), .int x1, .ref (ad 6)]) ⟨hx, hb, hml, hown, hts⟩ (r_over l g ad H.size S6 (2 : Int64) hR.w  Q87 EQ87 h0) (cwV 1 hts (gd2_V kx_193 kx_194 kx_195 kx_177 kx_196) rfl rfl rfl (by decide +kernel) ⟨Nat.le_of_ble_eq_true rfl, Nat.le_of_ble_eq_true rfl⟩) ⟨rblind, va_recv hR.K hR.P (ci := 13) (q0 := 0) rfl (hR.at14 hR.w.1), fun U hU hW9 => rmk hU hW9 hR hex hE hFc⟩ rfl rfl hl.1 rfl (lv_room (Nat.le_of_ble_eq_true rfl)) dX14_entry_186 ⟨Nat.le_of_ble_eq_true rfl, Nat.le_of_ble_eq_true rfl⟩) hR.sS (fun q _ h => hFc q h) hFc (fun q _ h => hFc q h) (fun E9 ce9 q9 u9 t9 H1 locs ht9 hvm9 hp9 hB9 hz9 hk9 hS hce9 hcv9 hcl9 => ?_) (fun r88 S89 t9 H1 locs ht9 hvm9 hw9 hB9 hz9 hk9 hS => ?_)
      · obtain ⟨hp9, hwx, hsx⟩ := hp9
        obtain ⟨rfl, hBx⟩ := hB9
        replace h := h.2 u9 hp9
        have hR : Rep g ad A s u9 H1 locs := hR.call ht9 hBx hwx hS hFc
        have hsh := hsh.tr hsx
        exact vx_out (E := RJxb5711) (q := q9) (fun x h9 => (hnt x h9).elim) hlocks hce9 hcv9 hcl9 (fun t9 ht9 ha9 => ⟨u9, ⟨h, hR.w, hsh⟩, ⟨rfl, by rw [ht9]; exact hR.P, hR.D⟩, hR.sS.F ht9⟩) hR.sS.2.2 (Nat.le_of_ble_eq_true rfl) (Nat.le_of_ble_eq_true rfl)
      · obtain ⟨hq90, hw9, hs9⟩ := hw9
        have hR : Rep g ad A s S89 H1 locs := hR.call ht9 hB9 hw9 hS hFc
        have hsh := hsh.tr hs9
        replace h := h.1 r88 S89 hq90
        clear hB9 hz9 hk9 hvm9 ht9 hw9 hs9 hS
        generalize H1 = H at hR ⊢
        obtain ⟨hv91, h⟩ := h
        have hFc := rfree hR hA
        refine va_calli (va_runV (As := [.int r88]) (rest := [.int x1, .ref (ad 6)]) ⟨hx, hb, hml, hown, hts⟩ (r_two l g ad H.size S89 r88 hR.w  hv91) (cwV 1 hts (gd2_V kx_186 kx_187 kx_188 kx_177 kx_189) rfl rfl rfl (by decide +kernel) ⟨Nat.le_of_ble_eq_true rfl, Nat.le_of_ble_eq_true rfl⟩) ⟨rblind, va_recv hR.K hR.P (ci := 13) (q0 := 0) rfl (hR.at14 hR.w.1), fun U hU hW9 => rmk hU hW9 hR hex hE hFc⟩ rfl rfl hl.1 rfl (lv_room (Nat.le_of_ble_eq_true rfl)) dX14_entry_189 ⟨Nat.le_of_ble_eq_true rfl, Nat.le_of_ble_eq_true rfl⟩) hR.sS (fun q _ h => hFc q h) hFc (fun r92 u9 t9 H1 locs ht9 hvm9 hw9 hB9 hz9 hk9 hS => ?_)
        have hR : Rep g ad A s S89 H1 locs := hR.call ht9 hB9 hR.w hS hFc
        obtain rfl : r92 = (f_two S89 r88) := hw9
        clear hB9 hz9 hk9 hvm9 ht9 hS
        generalize H1 = H at hR ⊢
        obtain ⟨hv94, h⟩ := h
        refine va_iast hx hb hR.K hR.P hR.D hR.sS 6 1 (hR.atI (hR.w.2.1 _ fin_17).2.1) rfl (k_ixN (k_ix (n := 502) (x := x1) (a := x1.toInt) rfl hv94) (hR.w.2.1 _ fin_17).2.2) dX14_entry_192 (fun H locs hP hD hS => ?_)
        have hR : Rep g ad A s (wI S89 6 x1.toInt.toNat (f_two S89 r88)) H locs := hR.aI (hR.w.2.1 _ fin_17).2.1 hP hD hS
        obtain ⟨S95, eS95⟩ : ∃ z, z = wI S89 6 x1.toInt.toNat (f_two S89 r88) := ⟨_, rfl⟩
        rw [← eS95] at hR
        replace h := h S95 eS95
        have hsh : shy S S95 := by rw [eS95]; exact hsh
        refine lv_aload_n hx hb dX14_entry_193 rfl (lv_at hl 2 rfl) ?_
        refine va_get (D := rD g) (ci := 13) (v := .ref (ad 7)) (C := RX14) (T := TX14) (N := 143) hx hb hts in2X14 hown hR.K hR.P 0 (hR.at14 hR.w.1) rfl 18 (by decide) (hts _ kx_209) (fun _ h9 => h9) (congrArg (fun z => some (vf ad z)) (hR.w.2.1 _ fin_18).1) dX14_entry_194 ?_
        refine lv_iload_n hx hb dX14_entry_197 rfl (lv_at hl 3 rfl) ?_
        refine lv_aload_n hx hb dX14_entry_198 rfl (lv_at hl 2 rfl) ?_
        refine lv_aload_n hx hb dX14_entry_199 rfl (lv_at hl 2 rfl) ?_
        refine lv_ldc2 hx hb hown (hts _ kx_192) dX14_entry_200 ?_
        obtain ⟨Q96, EQ96, h0, h⟩ := h
        have hFc := rfree hR hA
        refine vx_calli (vx_runV (As := [.long (2 : Int64)]) (rest := [.ref (ad 0), .int x1, .ref (ad 7)]) ⟨hx, hb, hml, hown, hts⟩ (r_over l g ad H.size S95 (2 : Int64) hR.w  Q96 EQ96 h0) (cwV 1 hts (gd2_V kx_193 kx_194 kx_195 kx_177 kx_196) rfl rfl rfl (by decide +kernel) ⟨Nat.le_of_ble_eq_true rfl, Nat.le_of_ble_eq_true rfl⟩) ⟨rblind, va_recv hR.K hR.P (ci := 13) (q0 := 0) rfl (hR.at14 hR.w.1), fun U hU hW9 => rmk hU hW9 hR hex hE hFc⟩ rfl rfl hl.1 rfl (lv_room (Nat.le_of_ble_eq_true rfl)) dX14_entry_203 ⟨Nat.le_of_ble_eq_true rfl, Nat.le_of_ble_eq_true rfl⟩) hR.sS (fun q _ h => hFc q h) hFc (fun q _ h => hFc q h) (fun E9 ce9 q9 u9 t9 H1 locs ht9 hvm9 hp9 hB9 hz9 hk9 hS hce9 hcv9 hcl9 => ?_) (fun r97 S98 t9 H1 locs ht9 hvm9 hw9 hB9 hz9 hk9 hS => ?_)
        · obtain ⟨hp9, hwx, hsx⟩ := hp9
          obtain ⟨rfl, hBx⟩ := hB9
          replace h := h.2 u9 hp9
          have hR : Rep g ad A s u9 H1 locs := hR.call ht9 hBx hwx hS hFc
          have hsh := hsh.tr hsx
          exact vx_out (E := RJxb5711) (q := q9) (fun x h9 => (hnt x h9).elim) hlocks hce9 hcv9 hcl9 (fun t9 ht9 ha9 => ⟨u9, ⟨h, hR.w, hsh⟩, ⟨rfl, by rw [ht9]; exact hR.P, hR.D⟩, hR.sS.F ht9⟩) hR.sS.2.2 (Nat.le_of_ble_eq_true rfl) (Nat.le_of_ble_eq_true rfl)
        · obtain ⟨hq99, hw9, hs9⟩ := hw9
          have hR : Rep g ad A s S98 H1 locs := hR.call ht9 hB9 hw9 hS hFc
          have hsh := hsh.tr hs9
          replace h := h.1 r97 S98 hq99
          clear hB9 hz9 hk9 hvm9 ht9 hw9 hs9 hS
          generalize H1 = H at hR ⊢
          obtain ⟨hv100, h⟩ := h
          have hFc := rfree hR hA
          refine va_calli (va_runV (As := [.int r97]) (rest := [.int x1, .ref (ad 7)]) ⟨hx, hb, hml, hown, hts⟩ (r_two l g ad H.size S98 r97 hR.w  hv100) (cwV 1 hts (gd2_V kx_186 kx_187 kx_188 kx_177 kx_189) rfl rfl rfl (by decide +kernel) ⟨Nat.le_of_ble_eq_true rfl, Nat.le_of_ble_eq_true rfl⟩) ⟨rblind, va_recv hR.K hR.P (ci := 13) (q0 := 0) rfl (hR.at14 hR.w.1), fun U hU hW9 => rmk hU hW9 hR hex hE hFc⟩ rfl rfl hl.1 rfl (lv_room (Nat.le_of_ble_eq_true rfl)) dX14_entry_206 ⟨Nat.le_of_ble_eq_true rfl, Nat.le_of_ble_eq_true rfl⟩) hR.sS (fun q _ h => hFc q h) hFc (fun r101 u9 t9 H1 locs ht9 hvm9 hw9 hB9 hz9 hk9 hS => ?_)
          have hR : Rep g ad A s S98 H1 locs := hR.call ht9 hB9 hR.w hS hFc
          obtain rfl : r101 = (f_two S98 r97) := hw9
          clear hB9 hz9 hk9 hvm9 ht9 hS
          generalize H1 = H at hR ⊢
          obtain ⟨hv103, h⟩ := h
          refine va_iast hx hb hR.K hR.P hR.D hR.sS 7 1 (hR.atI (hR.w.2.1 _ fin_18).2.1) rfl (k_ixN (k_ix (n := 502) (x := x1) (a := x1.toInt) rfl hv103) (hR.w.2.1 _ fin_18).2.2) dX14_entry_209 (fun H locs hP hD hS => ?_)
          have hR : Rep g ad A s (wI S98 7 x1.toInt.toNat (f_two S98 r97)) H locs := hR.aI (hR.w.2.1 _ fin_18).2.1 hP hD hS
          obtain ⟨S104, eS104⟩ : ∃ z, z = wI S98 7 x1.toInt.toNat (f_two S98 r97) := ⟨_, rfl⟩
          rw [← eS104] at hR
          replace h := h S104 eS104
          have hsh : shy S S104 := by rw [eS104]; exact hsh
          refine lv_goto (tgt := 220) hx hb dX14_entry_210 (by decide) ?_
          exact J_220 S104 x1 a10 _ _ ls h  hsh hR (lv_sub hl [2, 3, 0] rfl)
    replace h := h.2 c9_10
    by_cases c9_11 : a10.toInt = 11
    · refine lv_tableIn (off := 193) (tgt := 213) hx hb dX14_entry_20 (by rw [c9_11]; decide) (by rw [c9_11]; decide) (by rw [c9_11]; rfl) (by decide) ?_
      replace h := h.1 (c9_11)
      refine lv_aload_n hx hb dX14_entry_213 rfl (lv_at hl 2 rfl) ?_
      refine lv_iconst (v := 3) hx hb dX14_entry_214 (by decide) ?_
      refine lv_iload_n hx hb dX14_entry_215 rfl (lv_at hl 1 rfl) ?_
      obtain ⟨Q105, h0, h⟩ := h
      have hFc := rfree hR hA
      refine va_callq (va_runV (As := [.int 3, .int r2]) (rest := []) ⟨hx, hb, hml, hown, hts⟩ (r_broken l g ad H.size S6 (3 : Int32) r2 hR.w  Q105 h0) (cwV 2 hts (gd2_V kx_174 kx_175 kx_176 kx_177 kx_178) rfl rfl rfl (by decide +kernel) ⟨Nat.le_of_ble_eq_true rfl, Nat.le_of_ble_eq_true rfl⟩) ⟨rblind, va_recv hR.K hR.P (ci := 13) (q0 := 0) rfl (hR.at14 hR.w.1), fun U hU hW9 => rmk hU hW9 hR hex hE hFc⟩ rfl rfl hl.1 rfl (lv_room (Nat.le_of_ble_eq_true rfl)) dX14_entry_216 ⟨Nat.le_of_ble_eq_true rfl, Nat.le_of_ble_eq_true rfl⟩) hR.sS (fun q _ h => hFc q h) hFc (fun r106 S107 t9 H1 locs ht9 hvm9 hw9 hB9 hz9 hk9 hS => ?_)
      obtain ⟨b109, rfl, hq108, hw9, hs9, hT_b109⟩ := hw9
      have hR : Rep g ad A s S107 H1 locs := hR.call ht9 hB9 hw9 hS hFc
      have hsh := hsh.tr hs9
      replace h := h b109 S107 hq108
      clear hB9 hz9 hk9 hvm9 ht9 hw9 hs9 hS
      generalize H1 = H at hR ⊢
      obtain ⟨ce9, hce9, hcv9, hcl9⟩ := sx_cell hR.K hR.P (q0 := b109) (ci := 14) rfl (hR.atX hT_b109)
      refine sx_athrow hx hb dX14_entry_219 ?_
      exact vx_out (E := RJxb5711) (q := (ad b109)) (fun x h9 => (hnt x h9).elim) hlocks hce9 hcv9 hcl9 (fun t9 ht9 ha9 => ⟨S107, ⟨h, hR.w, hsh⟩, ⟨rfl, by rw [ht9]; exact hR.P, hR.D⟩, hR.sS.F ht9⟩) hR.sS.2.2 (Nat.le_of_ble_eq_true rfl) (Nat.le_of_ble_eq_true rfl)
    replace h := h.2 c9_11
    by_cases c9_12 : a10.toInt = 12
    · refine lv_tableIn (off := 156) (tgt := 176) hx hb dX14_entry_20 (by rw [c9_12]; decide) (by rw [c9_12]; decide) (by rw [c9_12]; rfl) (by decide) ?_
      replace h := h.1 (c9_12)
      refine lv_aload_n hx hb dX14_entry_176 rfl (lv_at hl 2 rfl) ?_
      refine va_get (D := rD g) (ci := 13) (v := .ref (ad 6)) (C := RX14) (T := TX14) (N := 143) hx hb hts in2X14 hown hR.K hR.P 0 (hR.at14 hR.w.1) rfl 17 (by decide) (hts _ kx_208) (fun _ h9 => h9) (congrArg (fun z => some (vf ad z)) (hR.w.2.1 _ fin_17).1) dX14_entry_177 ?_
      refine lv_iload_n hx hb dX14_entry_180 rfl (lv_at hl 3 rfl) ?_
      refine lv_aload_n hx hb dX14_entry_181 rfl (lv_at hl 2 rfl) ?_
      refine lv_aload_n hx hb dX14_entry_182 rfl (lv_at hl 2 rfl) ?_
      refine lv_ldc2 hx hb hown (hts _ kx_192) dX14_entry_183 ?_
      obtain ⟨Q110, EQ110, h0, h⟩ := h
      have hFc := rfree hR hA
      refine vx_calli (vx_runV (As := [.long (2 : Int64)]) (rest := [.ref (ad 0), .int x1, .ref (ad 6)]) ⟨hx, hb, hml, hown, hts⟩ (r_over l g ad H.size S6 (2 : Int64) hR.w  Q110 EQ110 h0) (cwV 1 hts (gd2_V kx_193 kx_194 kx_195 kx_177 kx_196) rfl rfl rfl (by decide +kernel) ⟨Nat.le_of_ble_eq_true rfl, Nat.le_of_ble_eq_true rfl⟩) ⟨rblind, va_recv hR.K hR.P (ci := 13) (q0 := 0) rfl (hR.at14 hR.w.1), fun U hU hW9 => rmk hU hW9 hR hex hE hFc⟩ rfl rfl hl.1 rfl (lv_room (Nat.le_of_ble_eq_true rfl)) dX14_entry_186 ⟨Nat.le_of_ble_eq_true rfl, Nat.le_of_ble_eq_true rfl⟩) hR.sS (fun q _ h => hFc q h) hFc (fun q _ h => hFc q h) (fun E9 ce9 q9 u9 t9 H1 locs ht9 hvm9 hp9 hB9 hz9 hk9 hS hce9 hcv9 hcl9 => ?_) (fun r111 S112 t9 H1 locs ht9 hvm9 hw9 hB9 hz9 hk9 hS => ?_)
      · obtain ⟨hp9, hwx, hsx⟩ := hp9
        obtain ⟨rfl, hBx⟩ := hB9
        replace h := h.2 u9 hp9
        have hR : Rep g ad A s u9 H1 locs := hR.call ht9 hBx hwx hS hFc
        have hsh := hsh.tr hsx
        exact vx_out (E := RJxb5711) (q := q9) (fun x h9 => (hnt x h9).elim) hlocks hce9 hcv9 hcl9 (fun t9 ht9 ha9 => ⟨u9, ⟨h, hR.w, hsh⟩, ⟨rfl, by rw [ht9]; exact hR.P, hR.D⟩, hR.sS.F ht9⟩) hR.sS.2.2 (Nat.le_of_ble_eq_true rfl) (Nat.le_of_ble_eq_true rfl)
      · obtain ⟨hq113, hw9, hs9⟩ := hw9
        have hR : Rep g ad A s S112 H1 locs := hR.call ht9 hB9 hw9 hS hFc
        have hsh := hsh.tr hs9
        replace h := h.1 r111 S112 hq113
        clear hB9 hz9 hk9 hvm9 ht9 hw9 hs9 hS
        generalize H1 = H at hR ⊢
        obtain ⟨hv114, h⟩ := h
        have hFc := rfree hR hA
        refine va_calli (va_runV (As := [.int r111]) (rest := [.int x1, .ref (ad 6)]) ⟨hx, hb, hml, hown, hts⟩ (r_two l g ad H.size S112 r111 hR.w  hv114) (cwV 1 hts (gd2_V kx_186 kx_187 kx_188 kx_177 kx_189) rfl rfl rfl (by decide +kernel) ⟨Nat.le_of_ble_eq_true rfl, Nat.le_of_ble_eq_true rfl⟩) ⟨rblind, va_recv hR.K hR.P (ci := 13) (q0 := 0) rfl (hR.at14 hR.w.1), fun U hU hW9 => rmk hU hW9 hR hex hE hFc⟩ rfl rfl hl.1 rfl (lv_room (Nat.le_of_ble_eq_true rfl)) dX14_entry_189 ⟨Nat.le_of_ble_eq_true rfl, Nat.le_of_ble_eq_true rfl⟩) hR.sS (fun q _ h => hFc q h) hFc (fun r115 u9 t9 H1 locs ht9 hvm9 hw9 hB9 hz9 hk9 hS => ?_)
        have hR : Rep g ad A s S112 H1 locs := hR.call ht9 hB9 hR.w hS hFc
        obtain rfl : r115 = (f_two S112 r111) := hw9
        clear hB9 hz9 hk9 hvm9 ht9 hS
        generalize H1 = H at hR ⊢
        obtain ⟨hv117, h⟩ := h
        refine va_iast hx hb hR.K hR.P hR.D hR.sS 6 1 (hR.atI (hR.w.2.1 _ fin_17).2.1) rfl (k_ixN (k_ix (n := 502) (x := x1) (a := x1.toInt) rfl hv117) (hR.w.2.1 _ fin_17).2.2) dX14_entry_192 (fun H locs hP hD hS => ?_)
        have hR : Rep g ad A s (wI S112 6 x1.toInt.toNat (f_two S112 r111)) H locs := hR.aI (hR.w.2.1 _ fin_17).2.1 hP hD hS
        obtain ⟨S118, eS118⟩ : ∃ z, z = wI S112 6 x1.toInt.toNat (f_two S112 r111) := ⟨_, rfl⟩
        rw [← eS118] at hR
        replace h := h S118 eS118
        have hsh : shy S S118 := by rw [eS118]; exact hsh
        refine lv_aload_n hx hb dX14_entry_193 rfl (lv_at hl 2 rfl) ?_
        refine va_get (D := rD g) (ci := 13) (v := .ref (ad 7)) (C := RX14) (T := TX14) (N := 143) hx hb hts in2X14 hown hR.K hR.P 0 (hR.at14 hR.w.1) rfl 18 (by decide) (hts _ kx_209) (fun _ h9 => h9) (congrArg (fun z => some (vf ad z)) (hR.w.2.1 _ fin_18).1) dX14_entry_194 ?_
        refine lv_iload_n hx hb dX14_entry_197 rfl (lv_at hl 3 rfl) ?_
        refine lv_aload_n hx hb dX14_entry_198 rfl (lv_at hl 2 rfl) ?_
        refine lv_aload_n hx hb dX14_entry_199 rfl (lv_at hl 2 rfl) ?_
        refine lv_ldc2 hx hb hown (hts _ kx_192) dX14_entry_200 ?_
        obtain ⟨Q119, EQ119, h0, h⟩ := h
        have hFc := rfree hR hA
        refine vx_calli (vx_runV (As := [.long (2 : Int64)]) (rest := [.ref (ad 0), .int x1, .ref (ad 7)]) ⟨hx, hb, hml, hown, hts⟩ (r_over l g ad H.size S118 (2 : Int64) hR.w  Q119 EQ119 h0) (cwV 1 hts (gd2_V kx_193 kx_194 kx_195 kx_177 kx_196) rfl rfl rfl (by decide +kernel) ⟨Nat.le_of_ble_eq_true rfl, Nat.le_of_ble_eq_true rfl⟩) ⟨rblind, va_recv hR.K hR.P (ci := 13) (q0 := 0) rfl (hR.at14 hR.w.1), fun U hU hW9 => rmk hU hW9 hR hex hE hFc⟩ rfl rfl hl.1 rfl (lv_room (Nat.le_of_ble_eq_true rfl)) dX14_entry_203 ⟨Nat.le_of_ble_eq_true rfl, Nat.le_of_ble_eq_true rfl⟩) hR.sS (fun q _ h => hFc q h) hFc (fun q _ h => hFc q h) (fun E9 ce9 q9 u9 t9 H1 locs ht9 hvm9 hp9 hB9 hz9 hk9 hS hce9 hcv9 hcl9 => ?_) (fun r120 S121 t9 H1 locs ht9 hvm9 hw9 hB9 hz9 hk9 hS => ?_)
        · obtain ⟨hp9, hwx, hsx⟩ := hp9
          obtain ⟨rfl, hBx⟩ := hB9
          replace h := h.2 u9 hp9
          have hR : Rep g ad A s u9 H1 locs := hR.call ht9 hBx hwx hS hFc
          have hsh := hsh.tr hsx
          exact vx_out (E := RJxb5711) (q := q9) (fun x h9 => (hnt x h9).elim) hlocks hce9 hcv9 hcl9 (fun t9 ht9 ha9 => ⟨u9, ⟨h, hR.w, hsh⟩, ⟨rfl, by rw [ht9]; exact hR.P, hR.D⟩, hR.sS.F ht9⟩) hR.sS.2.2 (Nat.le_of_ble_eq_true rfl) (Nat.le_of_ble_eq_true rfl)
        · obtain ⟨hq122, hw9, hs9⟩ := hw9
          have hR : Rep g ad A s S121 H1 locs := hR.call ht9 hB9 hw9 hS hFc
          have hsh := hsh.tr hs9
          replace h := h.1 r120 S121 hq122
          clear hB9 hz9 hk9 hvm9 ht9 hw9 hs9 hS
          generalize H1 = H at hR ⊢
          obtain ⟨hv123, h⟩ := h
          have hFc := rfree hR hA
          refine va_calli (va_runV (As := [.int r120]) (rest := [.int x1, .ref (ad 7)]) ⟨hx, hb, hml, hown, hts⟩ (r_two l g ad H.size S121 r120 hR.w  hv123) (cwV 1 hts (gd2_V kx_186 kx_187 kx_188 kx_177 kx_189) rfl rfl rfl (by decide +kernel) ⟨Nat.le_of_ble_eq_true rfl, Nat.le_of_ble_eq_true rfl⟩) ⟨rblind, va_recv hR.K hR.P (ci := 13) (q0 := 0) rfl (hR.at14 hR.w.1), fun U hU hW9 => rmk hU hW9 hR hex hE hFc⟩ rfl rfl hl.1 rfl (lv_room (Nat.le_of_ble_eq_true rfl)) dX14_entry_206 ⟨Nat.le_of_ble_eq_true rfl, Nat.le_of_ble_eq_true rfl⟩) hR.sS (fun q _ h => hFc q h) hFc (fun r124 u9 t9 H1 locs ht9 hvm9 hw9 hB9 hz9 hk9 hS => ?_)
          have hR : Rep g ad A s S121 H1 locs := hR.call ht9 hB9 hR.w hS hFc
          obtain rfl : r124 = (f_two S121 r120) := hw9
          clear hB9 hz9 hk9 hvm9 ht9 hS
          generalize H1 = H at hR ⊢
          obtain ⟨hv126, h⟩ := h
          refine va_iast hx hb hR.K hR.P hR.D hR.sS 7 1 (hR.atI (hR.w.2.1 _ fin_18).2.1) rfl (k_ixN (k_ix (n := 502) (x := x1) (a := x1.toInt) rfl hv126) (hR.w.2.1 _ fin_18).2.2) dX14_entry_209 (fun H locs hP hD hS => ?_)
          have hR : Rep g ad A s (wI S121 7 x1.toInt.toNat (f_two S121 r120)) H locs := hR.aI (hR.w.2.1 _ fin_18).2.1 hP hD hS
          obtain ⟨S127, eS127⟩ : ∃ z, z = wI S121 7 x1.toInt.toNat (f_two S121 r120) := ⟨_, rfl⟩
          rw [← eS127] at hR
          replace h := h S127 eS127
          have hsh : shy S S127 := by rw [eS127]; exact hsh
          refine lv_goto (tgt := 220) hx hb dX14_entry_210 (by decide) ?_
          exact J_220 S127 x1 a10 _ _ ls h  hsh hR (lv_sub hl [2, 3, 0] rfl)
    replace h := h.2 c9_12
    refine lv_tableOut (tgt := 213) hx hb dX14_entry_20 (by omega) (by decide) ?_
    refine lv_aload_n hx hb dX14_entry_213 rfl (lv_at hl 2 rfl) ?_
    refine lv_iconst (v := 3) hx hb dX14_entry_214 (by decide) ?_
    refine lv_iload_n hx hb dX14_entry_215 rfl (lv_at hl 1 rfl) ?_
    obtain ⟨Q128, h0, h⟩ := h
    have hFc := rfree hR hA
    refine va_callq (va_runV (As := [.int 3, .int r2]) (rest := []) ⟨hx, hb, hml, hown, hts⟩ (r_broken l g ad H.size S6 (3 : Int32) r2 hR.w  Q128 h0) (cwV 2 hts (gd2_V kx_174 kx_175 kx_176 kx_177 kx_178) rfl rfl rfl (by decide +kernel) ⟨Nat.le_of_ble_eq_true rfl, Nat.le_of_ble_eq_true rfl⟩) ⟨rblind, va_recv hR.K hR.P (ci := 13) (q0 := 0) rfl (hR.at14 hR.w.1), fun U hU hW9 => rmk hU hW9 hR hex hE hFc⟩ rfl rfl hl.1 rfl (lv_room (Nat.le_of_ble_eq_true rfl)) dX14_entry_216 ⟨Nat.le_of_ble_eq_true rfl, Nat.le_of_ble_eq_true rfl⟩) hR.sS (fun q _ h => hFc q h) hFc (fun r129 S130 t9 H1 locs ht9 hvm9 hw9 hB9 hz9 hk9 hS => ?_)
    obtain ⟨b132, rfl, hq131, hw9, hs9, hT_b132⟩ := hw9
    have hR : Rep g ad A s S130 H1 locs := hR.call ht9 hB9 hw9 hS hFc
    have hsh := hsh.tr hs9
    replace h := h b132 S130 hq131
    clear hB9 hz9 hk9 hvm9 ht9 hw9 hs9 hS
    generalize H1 = H at hR ⊢
    obtain ⟨ce9, hce9, hcv9, hcl9⟩ := sx_cell hR.K hR.P (q0 := b132) (ci := 14) rfl (hR.atX hT_b132)
    refine sx_athrow hx hb dX14_entry_219 ?_
    exact vx_out (E := RJxb5711) (q := (ad b132)) (fun x h9 => (hnt x h9).elim) hlocks hce9 hcv9 hcl9 (fun t9 ht9 ha9 => ⟨S130, ⟨h, hR.w, hsh⟩, ⟨rfl, by rw [ht9]; exact hR.P, hR.D⟩, hR.sS.F ht9⟩) hR.sS.2.2 (Nat.le_of_ble_eq_true rfl) (Nat.le_of_ble_eq_true rfl)
def w_members_L33 (Q : MS → Prop) (E : MS → Prop) : Nat → MS → Int32 → Int32 → Prop
  | 0, _, _, _ => False
  | n33 + 1, U33, v33_2, v33_3 => ((v33_2.toInt ≤ v33_3.toInt → Q U33) ∧ (¬ v33_2.toInt ≤ v33_3.toInt → (∃ Q13 EQ13, w_over U33 (2 : Int64) Q13 EQ13 ∧ (∀ r14 S15, Q13 r14 S15 → (((0 : Int) ≤ (qI U33 0 21).toInt ∧ (qI U33 0 21).toInt < 48) ∧ (∀ S18, S18 = wI S15 9 (((qI U33 0 21).toInt).toNat) r14 → (∃ Q19 EQ19, w_over S18 (4 : Int64) Q19 EQ19 ∧ (∀ r20 S21, Q19 r20 S21 → (∃ Q23 EQ23, w_attributesOf S21 (qI S21 0 21) Q23 EQ23 ∧ (∀ S24, Q23 S24 → (∀ S27, S27 = wI S24 0 21 ((qI S24 0 21) + (1 : Int32)) → (∀ a28 : Int32, a28 = (v33_3 + Int32.ofInt 1) → (w_members_L33 Q E n33) S27 v33_2 a28))) ∧ (∀ u9, EQ23 u9 → E u9))) ∧ (∀ u9, EQ19 u9 → E u9))))) ∧ (∀ u9, EQ13 u9 → E u9))))
def w_members_J26 (Q : MS → Prop) (E : MS → Prop) (U26 : MS) (t26_0 : Int32) (v26_1 : Int32) (v26_2 : Int32) : Prop := (∃ Q9 EQ9, w_must U26 t26_0 (5 : Int32) v26_1 Q9 EQ9 ∧ (∀ S10, Q9 S10 → (∃ n, w_members_L33 Q E n S10 v26_2 0)) ∧ (∀ u9, EQ9 u9 → E u9))
def w_members (S : MS) (Q : MS → Prop) (E : MS → Prop) : Prop := (∃ Q1 EQ1, w_over S (2 : Int64) Q1 EQ1 ∧ (∀ r2 S3, Q1 r2 S3 → (d_two S3 r2 ∧ (∀ a8 : Int32, a8 = (f_two S3 r2) → ((24 < a8.toInt → w_members_J26 Q E S3 0 r2 a8) ∧ (¬ 24 < a8.toInt → w_members_J26 Q E S3 1 r2 a8))))) ∧ (∀ u9, EQ1 u9 → E u9))
set_option maxHeartbeats 2000000 in
set_option maxRecDepth 100000 in
theorem r_members (l : Launch) (g : Gr) (ad : Nat → Nat) (sz : Nat) (S : MS) (hw : wfM S) (Q : MS → Prop) (E : MS → Prop) (h : w_members S Q E) : vx_Met l yX14_members (wt2 yX14_members cX14_members 4 none) ({ frames := 4, cells := 0, slots := 0, locals := 88 }) (va_Pc [.ref (ad 0)] (st_R g ad sz S)) (va_Qv (fun (u : MS) => Q u ∧ wfM u ∧ shy S u) (fun (u : MS) (t : State) => qE g ad (va_A (Wd g ad S) sz) u t) (va_A (Wd g ad S) sz)) (vx_X (fun (u : MS) => E u ∧ wfM u ∧ shy S u) (fun (n9 : String) (u : MS) (t : State) => n9 = RJxb5711 ∧ qE g ad (va_A (Wd g ad S) sz) u t) (va_A (Wd g ad S) sz)) 0 0 (va_A (Wd g ad S) sz) := by
  refine vx_ofW (cc := cX14_members) (maxL := 4) (ret := none) (by decide) rfl ?_
  intro p e s m args below meth c s₁ B hml hnt hv
  obtain ⟨rfl, hsz, hP, hK, hD0, hex, hE⟩ := hv
  have hx := B.exec
  have hb := B.bytes
  have hr := B.returns
  have hlocks := B.notSynchronized
  have hts0 := atoms_spec (ws := wt2 yX14_members cX14_members 4 none) B.pre
  have hts : ∀ w ∈ tb2, w.before _ s = true := fun w h => hts0 w (List.mem_cons_of_mem _ h)
  have hown : s.vm.findClass RX14 = some m.cls := findClass_of_methodNamed B.named
  subst hsz
  have hD := hD0.self (sz := s.heap.size)
  generalize hAe : va_A (Wd g ad S) s.heap.size = A at hD hE ⊢
  have hA : ∀ q : Nat, s.heap.size ≤ q → A q := fun q h => by rw [← hAe]; exact Or.inr h
  have hR : Rep g ad A s S s.heap [] := ⟨hK, hP, hD, va_S.rf, hw⟩
  clear hK hP hD hD0
  have hl := lv_entry ([.ref (ad 0)]) (n := 4) (Nat.le_of_ble_eq_true rfl)
  rw [lg_entry_eq]
  generalize (lg_sl ([.ref (ad 0)]) ++ List.replicate (4 - (lg_sl ([.ref (ad 0)])).length) Slot.unset).toArray = ls at hl ⊢
  have hl : lv_has ls 4 [(0, .ref (ad 0))] := hl
  have hsh : shy S S := shy.rf
  unfold w_members at h
  refine lv_aload_n hx hb dX14_members_0 rfl (lv_at hl 0 rfl) ?_
  refine lv_ldc2 hx hb hown (hts _ kx_192) dX14_members_1 ?_
  obtain ⟨Q1, EQ1, h0, h⟩ := h
  have hFc := rfree hR hA
  refine vx_calli (vx_runV (As := [.long (2 : Int64)]) (rest := []) ⟨hx, hb, hml, hown, hts⟩ (r_over l g ad s.heap.size S (2 : Int64) hR.w  Q1 EQ1 h0) (cwV 1 hts (gd2_V kx_193 kx_194 kx_195 kx_177 kx_196) rfl rfl rfl (by decide +kernel) ⟨Nat.le_of_ble_eq_true rfl, Nat.le_of_ble_eq_true rfl⟩) ⟨rblind, va_recv hR.K hR.P (ci := 13) (q0 := 0) rfl (hR.at14 hR.w.1), fun U hU hW9 => rmk hU hW9 hR hex hE hFc⟩ rfl rfl hl.1 rfl (lv_room (Nat.le_of_ble_eq_true rfl)) dX14_members_4 ⟨Nat.le_of_ble_eq_true rfl, Nat.le_of_ble_eq_true rfl⟩) hR.sS (fun q _ h => hFc q h) hFc (fun q _ h => hFc q h) (fun E9 ce9 q9 u9 t9 H1 locs ht9 hvm9 hp9 hB9 hz9 hk9 hS hce9 hcv9 hcl9 => ?_) (fun r2 S3 t9 H1 locs ht9 hvm9 hw9 hB9 hz9 hk9 hS => ?_)
  · obtain ⟨hp9, hwx, hsx⟩ := hp9
    obtain ⟨rfl, hBx⟩ := hB9
    replace h := h.2 u9 hp9
    have hR : Rep g ad A s u9 H1 locs := hR.call ht9 hBx hwx hS hFc
    have hsh := hsh.tr hsx
    exact vx_out (E := RJxb5711) (q := q9) (fun x h9 => (hnt x h9).elim) hlocks hce9 hcv9 hcl9 (fun t9 ht9 ha9 => ⟨u9, ⟨h, hR.w, hsh⟩, ⟨rfl, by rw [ht9]; exact hR.P, hR.D⟩, hR.sS.F ht9⟩) hR.sS.2.2 (Nat.le_of_ble_eq_true rfl) (Nat.le_of_ble_eq_true rfl)
  · obtain ⟨hq4, hw9, hs9⟩ := hw9
    have hR : Rep g ad A s S3 H1 locs := hR.call ht9 hB9 hw9 hS hFc
    have hsh := hsh.tr hs9
    replace h := h.1 r2 S3 hq4
    clear hB9 hz9 hk9 hvm9 ht9 hw9 hs9 hS
    generalize H1 = H at hR ⊢
    refine lv_istore_n (lv' := [(1, .int r2), (0, .ref (ad 0))]) hx hb dX14_members_7 rfl hl (by decide) rfl (fun ls hl => ?_)
    refine lv_aload_n hx hb dX14_members_8 rfl (lv_at hl 1 rfl) ?_
    refine lv_iload_n hx hb dX14_members_9 rfl (lv_at hl 0 rfl) ?_
    obtain ⟨hv5, h⟩ := h
    have hFc := rfree hR hA
    refine va_calli (va_runV (As := [.int r2]) (rest := []) ⟨hx, hb, hml, hown, hts⟩ (r_two l g ad H.size S3 r2 hR.w  hv5) (cwV 1 hts (gd2_V kx_186 kx_187 kx_188 kx_177 kx_189) rfl rfl rfl (by decide +kernel) ⟨Nat.le_of_ble_eq_true rfl, Nat.le_of_ble_eq_true rfl⟩) ⟨rblind, va_recv hR.K hR.P (ci := 13) (q0 := 0) rfl (hR.at14 hR.w.1), fun U hU hW9 => rmk hU hW9 hR hex hE hFc⟩ rfl rfl hl.1 rfl (lv_room (Nat.le_of_ble_eq_true rfl)) dX14_members_10 ⟨Nat.le_of_ble_eq_true rfl, Nat.le_of_ble_eq_true rfl⟩) hR.sS (fun q _ h => hFc q h) hFc (fun r6 u9 t9 H1 locs ht9 hvm9 hw9 hB9 hz9 hk9 hS => ?_)
    have hR : Rep g ad A s S3 H1 locs := hR.call ht9 hB9 hR.w hS hFc
    obtain rfl : r6 = (f_two S3 r2) := hw9
    clear hB9 hz9 hk9 hvm9 ht9 hS
    generalize H1 = H at hR ⊢
    obtain ⟨a8, ea8⟩ : ∃ z, z = (f_two S3 r2) := ⟨_, rfl⟩
    rw [← ea8]
    replace h := h a8 ea8
    refine lv_istore_n (lv' := [(2, .int a8), (1, .int r2), (0, .ref (ad 0))]) hx hb dX14_members_13 rfl hl (by decide) rfl (fun ls hl => ?_)
    refine lv_aload_n hx hb dX14_members_14 rfl (lv_at hl 2 rfl) ?_
    refine lv_iload_n hx hb dX14_members_15 rfl (lv_at hl 0 rfl) ?_
    refine lv_bipush (v := 24) hx hb dX14_members_16 (by decide) ?_
    have J_26 : ∀ (U26 : MS) (t26_0 : Int32) (v26_1 : Int32) (v26_2 : Int32) (H : Heap) (locs : List Loc) (ls : Array Slot), w_members_J26 Q E U26 t26_0 v26_1 v26_2 → (t26_0 = 0 ∨ t26_0 = 1) → shy S U26 → Rep g ad A s U26 H locs → lv_has ls 4 [(0, .ref (ad 0)), (1, .int v26_1), (2, .int v26_2)] → W p l e (headSpec (wt2 yX14_members cX14_members 4 none) ({ frames := 4, cells := 0, slots := 0, locals := 88 })).room s m ([.ref (ad 0)] : List Value).toArray below meth c H locs 0 0 (vx_MQ below (va_Qv (fun (u : MS) => Q u ∧ wfM u ∧ shy S u) (fun (u : MS) (t : State) => qE g ad A u t) A) ((vx_X (fun (u : MS) => E u ∧ wfM u ∧ shy S u) (fun (n9 : String) (u : MS) (t : State) => n9 = RJxb5711 ∧ qE g ad A u t) A)) ([.ref (ad 0)] : List Value).toArray s 0 0 A) (F0 m 26 ls [.int t26_0, .ref (ad 0)]) := by
      intro U26 t26_0 v26_1 v26_2 H locs ls h hz_t26_0 hsh hR hl
      unfold w_members_J26 at h
      refine lv_iconst (v := 5) hx hb dX14_members_26 (by decide) ?_
      refine lv_iload_n hx hb dX14_members_27 rfl (lv_at hl 1 rfl) ?_
      obtain ⟨Q9, EQ9, h0, h⟩ := h
      have hFc := rfree hR hA
      refine vx_callv (vx_runV (As := [.int t26_0, .int 5, .int v26_1]) (rest := []) ⟨hx, hb, hml, hown, hts⟩ (r_must l g ad H.size U26 t26_0 (5 : Int32) v26_1 hR.w hz_t26_0 Q9 EQ9 h0) (cwV 3 hts (gd2_V kx_198 kx_199 kx_200 kx_177 kx_201) rfl rfl rfl (by decide +kernel) ⟨Nat.le_of_ble_eq_true rfl, Nat.le_of_ble_eq_true rfl⟩) ⟨rblind, va_recv hR.K hR.P (ci := 13) (q0 := 0) rfl (hR.at14 hR.w.1), fun U hU hW9 => rmk hU hW9 hR hex hE hFc⟩ rfl rfl hl.1 rfl (lv_room (Nat.le_of_ble_eq_true rfl)) dX14_members_28 ⟨Nat.le_of_ble_eq_true rfl, Nat.le_of_ble_eq_true rfl⟩) hR.sS (fun q _ h => hFc q h) hFc (fun q _ h => hFc q h) (fun E9 ce9 q9 u9 t9 H1 locs ht9 hvm9 hp9 hB9 hz9 hk9 hS hce9 hcv9 hcl9 => ?_) (fun  S10 t9 H1 locs ht9 hvm9 hw9 hB9 hz9 hk9 hS => ?_)
      · obtain ⟨hp9, hwx, hsx⟩ := hp9
        obtain ⟨rfl, hBx⟩ := hB9
        replace h := h.2 u9 hp9
        have hR : Rep g ad A s u9 H1 locs := hR.call ht9 hBx hwx hS hFc
        have hsh := hsh.tr hsx
        exact vx_out (E := RJxb5711) (q := q9) (fun x h9 => (hnt x h9).elim) hlocks hce9 hcv9 hcl9 (fun t9 ht9 ha9 => ⟨u9, ⟨h, hR.w, hsh⟩, ⟨rfl, by rw [ht9]; exact hR.P, hR.D⟩, hR.sS.F ht9⟩) hR.sS.2.2 (Nat.le_of_ble_eq_true rfl) (Nat.le_of_ble_eq_true rfl)
      · obtain ⟨hq11, hw9, hs9⟩ := hw9
        have hR : Rep g ad A s S10 H1 locs := hR.call ht9 hB9 hw9 hS hFc
        have hsh := hsh.tr hs9
        replace h := h.1  S10 hq11
        clear hB9 hz9 hk9 hvm9 ht9 hw9 hs9 hS
        generalize H1 = H at hR ⊢
        refine lv_iconst (v := 0) hx hb dX14_members_31 (by decide) ?_
        refine lv_istore_n (lv' := [(3, .int 0), (0, .ref (ad 0)), (1, .int v26_1), (2, .int v26_2)]) hx hb dX14_members_32 rfl hl (by decide) rfl (fun ls hl => ?_)
        have J_33 : ∀ (n33 : Nat) (U33 : MS) (v33_2 : Int32) (v33_3 : Int32) (H : Heap) (locs : List Loc) (ls : Array Slot), w_members_L33 Q E n33 U33 v33_2 v33_3 → shy S U33 → Rep g ad A s U33 H locs → lv_has ls 4 [(0, .ref (ad 0)), (2, .int v33_2), (3, .int v33_3)] → W p l e (headSpec (wt2 yX14_members cX14_members 4 none) ({ frames := 4, cells := 0, slots := 0, locals := 88 })).room s m ([.ref (ad 0)] : List Value).toArray below meth c H locs 0 0 (vx_MQ below (va_Qv (fun (u : MS) => Q u ∧ wfM u ∧ shy S u) (fun (u : MS) (t : State) => qE g ad A u t) A) ((vx_X (fun (u : MS) => E u ∧ wfM u ∧ shy S u) (fun (n9 : String) (u : MS) (t : State) => n9 = RJxb5711 ∧ qE g ad A u t) A)) ([.ref (ad 0)] : List Value).toArray s 0 0 A) (F0 m 33 ls []) := by
          intro n33
          induction n33 with
          | zero => intro U33 v33_2 v33_3 H locs ls h hsh hR hl; unfold w_members_L33 at h; exact h.elim
          | succ n33 ih_33 =>
            intro U33 v33_2 v33_3 H locs ls h hsh hR hl
            unfold w_members_L33 at h
            refine lv_iload_n hx hb dX14_members_33 rfl (lv_at hl 2 rfl) ?_
            refine lv_iload_n hx hb dX14_members_34 rfl (lv_at hl 1 rfl) ?_
            refine lv_icmp_ge (tgt := 86) hx hb dX14_members_35 (by decide) (fun c12 => ?_) (fun c12 => ?_)
            · replace h := h.1 (k_le rfl rfl c12)
              exact vx_ret (W.vret hx hb hr (fun t9 ht9 hW9 => ⟨⟨U33, rfl, ⟨h, hR.w, hsh⟩, ⟨by rw [ht9]; exact hR.P, hR.D⟩⟩, hR.sS.F ht9⟩) hR.sS.2.2 dX14_members_86)
            · replace h := h.2 (k_nle rfl rfl c12)
              refine lv_aload_n hx hb dX14_members_38 rfl (lv_at hl 0 rfl) ?_
              refine va_get (D := rD g) (ci := 13) (v := .ref (ad 9)) (C := RX14) (T := TX14) (N := 143) hx hb hts in2X14 hown hR.K hR.P 0 (hR.at14 hR.w.1) rfl 24 (by decide) (hts _ kx_210) (fun _ h9 => h9) (congrArg (fun z => some (vf ad z)) (hR.w.2.1 _ fin_24).1) dX14_members_39 ?_
              refine lv_aload_n hx hb dX14_members_42 rfl (lv_at hl 0 rfl) ?_
              refine va_get (D := rD g) (ci := 13) (v := .int (qI U33 0 21)) (C := RX14) (T := TX14) (N := 143) hx hb hts in2X14 hown hR.K hR.P 0 (hR.at14 hR.w.1) rfl 21 (by decide) (hts _ kx_205) (fun _ h9 => h9) rfl dX14_members_43 ?_
              refine lv_aload_n hx hb dX14_members_46 rfl (lv_at hl 0 rfl) ?_
              refine lv_ldc2 hx hb hown (hts _ kx_192) dX14_members_47 ?_
              obtain ⟨Q13, EQ13, h0, h⟩ := h
              have hFc := rfree hR hA
              refine vx_calli (vx_runV (As := [.long (2 : Int64)]) (rest := [.int (qI U33 0 21), .ref (ad 9)]) ⟨hx, hb, hml, hown, hts⟩ (r_over l g ad H.size U33 (2 : Int64) hR.w  Q13 EQ13 h0) (cwV 1 hts (gd2_V kx_193 kx_194 kx_195 kx_177 kx_196) rfl rfl rfl (by decide +kernel) ⟨Nat.le_of_ble_eq_true rfl, Nat.le_of_ble_eq_true rfl⟩) ⟨rblind, va_recv hR.K hR.P (ci := 13) (q0 := 0) rfl (hR.at14 hR.w.1), fun U hU hW9 => rmk hU hW9 hR hex hE hFc⟩ rfl rfl hl.1 rfl (lv_room (Nat.le_of_ble_eq_true rfl)) dX14_members_50 ⟨Nat.le_of_ble_eq_true rfl, Nat.le_of_ble_eq_true rfl⟩) hR.sS (fun q _ h => hFc q h) hFc (fun q _ h => hFc q h) (fun E9 ce9 q9 u9 t9 H1 locs ht9 hvm9 hp9 hB9 hz9 hk9 hS hce9 hcv9 hcl9 => ?_) (fun r14 S15 t9 H1 locs ht9 hvm9 hw9 hB9 hz9 hk9 hS => ?_)
              · obtain ⟨hp9, hwx, hsx⟩ := hp9
                obtain ⟨rfl, hBx⟩ := hB9
                replace h := h.2 u9 hp9
                have hR : Rep g ad A s u9 H1 locs := hR.call ht9 hBx hwx hS hFc
                have hsh := hsh.tr hsx
                exact vx_out (E := RJxb5711) (q := q9) (fun x h9 => (hnt x h9).elim) hlocks hce9 hcv9 hcl9 (fun t9 ht9 ha9 => ⟨u9, ⟨h, hR.w, hsh⟩, ⟨rfl, by rw [ht9]; exact hR.P, hR.D⟩, hR.sS.F ht9⟩) hR.sS.2.2 (Nat.le_of_ble_eq_true rfl) (Nat.le_of_ble_eq_true rfl)
              · obtain ⟨hq16, hw9, hs9⟩ := hw9
                have hR : Rep g ad A s S15 H1 locs := hR.call ht9 hB9 hw9 hS hFc
                have hsh := hsh.tr hs9
                replace h := h.1 r14 S15 hq16
                clear hB9 hz9 hk9 hvm9 ht9 hw9 hs9 hS
                generalize H1 = H at hR ⊢
                obtain ⟨hv17, h⟩ := h
                refine va_iast hx hb hR.K hR.P hR.D hR.sS 9 1 (hR.atI (hR.w.2.1 _ fin_24).2.1) rfl (k_ixN (k_ix (n := 48) (x := (qI U33 0 21)) (a := (qI U33 0 21).toInt) rfl hv17) (hR.w.2.1 _ fin_24).2.2) dX14_members_53 (fun H locs hP hD hS => ?_)
                have hR : Rep g ad A s (wI S15 9 (((qI U33 0 21).toInt).toNat) r14) H locs := hR.aI (hR.w.2.1 _ fin_24).2.1 hP hD hS
                obtain ⟨S18, eS18⟩ : ∃ z, z = wI S15 9 (((qI U33 0 21).toInt).toNat) r14 := ⟨_, rfl⟩
                rw [← eS18] at hR
                replace h := h S18 eS18
                have hsh : shy S S18 := by rw [eS18]; exact hsh
                refine lv_aload_n hx hb dX14_members_54 rfl (lv_at hl 0 rfl) ?_
                refine lv_ldc2 hx hb hown (hts _ kx_211) dX14_members_55 ?_
                obtain ⟨Q19, EQ19, h0, h⟩ := h
                have hFc := rfree hR hA
                refine vx_calli (vx_runV (As := [.long (4 : Int64)]) (rest := []) ⟨hx, hb, hml, hown, hts⟩ (r_over l g ad H.size S18 (4 : Int64) hR.w  Q19 EQ19 h0) (cwV 1 hts (gd2_V kx_193 kx_194 kx_195 kx_177 kx_196) rfl rfl rfl (by decide +kernel) ⟨Nat.le_of_ble_eq_true rfl, Nat.le_of_ble_eq_true rfl⟩) ⟨rblind, va_recv hR.K hR.P (ci := 13) (q0 := 0) rfl (hR.at14 hR.w.1), fun U hU hW9 => rmk hU hW9 hR hex hE hFc⟩ rfl rfl hl.1 rfl (lv_room (Nat.le_of_ble_eq_true rfl)) dX14_members_58 ⟨Nat.le_of_ble_eq_true rfl, Nat.le_of_ble_eq_true rfl⟩) hR.sS (fun q _ h => hFc q h) hFc (fun q _ h => hFc q h) (fun E9 ce9 q9 u9 t9 H1 locs ht9 hvm9 hp9 hB9 hz9 hk9 hS hce9 hcv9 hcl9 => ?_) (fun r20 S21 t9 H1 locs ht9 hvm9 hw9 hB9 hz9 hk9 hS => ?_)
                · obtain ⟨hp9, hwx, hsx⟩ := hp9
                  obtain ⟨rfl, hBx⟩ := hB9
                  replace h := h.2 u9 hp9
                  have hR : Rep g ad A s u9 H1 locs := hR.call ht9 hBx hwx hS hFc
                  have hsh := hsh.tr hsx
                  exact vx_out (E := RJxb5711) (q := q9) (fun x h9 => (hnt x h9).elim) hlocks hce9 hcv9 hcl9 (fun t9 ht9 ha9 => ⟨u9, ⟨h, hR.w, hsh⟩, ⟨rfl, by rw [ht9]; exact hR.P, hR.D⟩, hR.sS.F ht9⟩) hR.sS.2.2 (Nat.le_of_ble_eq_true rfl) (Nat.le_of_ble_eq_true rfl)
                · obtain ⟨hq22, hw9, hs9⟩ := hw9
                  have hR : Rep g ad A s S21 H1 locs := hR.call ht9 hB9 hw9 hS hFc
                  have hsh := hsh.tr hs9
                  replace h := h.1 r20 S21 hq22
                  clear hB9 hz9 hk9 hvm9 ht9 hw9 hs9 hS
                  generalize H1 = H at hR ⊢
                  refine lv_pop hx hb dX14_members_61 rfl ?_
                  refine lv_aload_n hx hb dX14_members_62 rfl (lv_at hl 0 rfl) ?_
                  refine lv_aload_n hx hb dX14_members_63 rfl (lv_at hl 0 rfl) ?_
                  refine va_get (D := rD g) (ci := 13) (v := .int (qI S21 0 21)) (C := RX14) (T := TX14) (N := 143) hx hb hts in2X14 hown hR.K hR.P 0 (hR.at14 hR.w.1) rfl 21 (by decide) (hts _ kx_205) (fun _ h9 => h9) rfl dX14_members_64 ?_
                  obtain ⟨Q23, EQ23, h0, h⟩ := h
                  have hFc := rfree hR hA
                  refine vx_callv (vx_runV (As := [.int (qI S21 0 21)]) (rest := []) ⟨hx, hb, hml, hown, hts⟩ (r_attributesOf l g ad H.size S21 (qI S21 0 21) hR.w  Q23 EQ23 h0) (cwV 1 hts (gd2_V kx_849 kx_850 kx_851 kx_177 kx_852) rfl rfl rfl (by decide +kernel) ⟨Nat.le_of_ble_eq_true rfl, Nat.le_of_ble_eq_true rfl⟩) ⟨rblind, va_recv hR.K hR.P (ci := 13) (q0 := 0) rfl (hR.at14 hR.w.1), fun U hU hW9 => rmk hU hW9 hR hex hE hFc⟩ rfl rfl hl.1 rfl (lv_room (Nat.le_of_ble_eq_true rfl)) dX14_members_67 ⟨Nat.le_of_ble_eq_true rfl, Nat.le_of_ble_eq_true rfl⟩) hR.sS (fun q _ h => hFc q h) hFc (fun q _ h => hFc q h) (fun E9 ce9 q9 u9 t9 H1 locs ht9 hvm9 hp9 hB9 hz9 hk9 hS hce9 hcv9 hcl9 => ?_) (fun  S24 t9 H1 locs ht9 hvm9 hw9 hB9 hz9 hk9 hS => ?_)
                  · obtain ⟨hp9, hwx, hsx⟩ := hp9
                    obtain ⟨rfl, hBx⟩ := hB9
                    replace h := h.2 u9 hp9
                    have hR : Rep g ad A s u9 H1 locs := hR.call ht9 hBx hwx hS hFc
                    have hsh := hsh.tr hsx
                    exact vx_out (E := RJxb5711) (q := q9) (fun x h9 => (hnt x h9).elim) hlocks hce9 hcv9 hcl9 (fun t9 ht9 ha9 => ⟨u9, ⟨h, hR.w, hsh⟩, ⟨rfl, by rw [ht9]; exact hR.P, hR.D⟩, hR.sS.F ht9⟩) hR.sS.2.2 (Nat.le_of_ble_eq_true rfl) (Nat.le_of_ble_eq_true rfl)
                  · obtain ⟨hq25, hw9, hs9⟩ := hw9
                    have hR : Rep g ad A s S24 H1 locs := hR.call ht9 hB9 hw9 hS hFc
                    have hsh := hsh.tr hs9
                    replace h := h.1  S24 hq25
                    clear hB9 hz9 hk9 hvm9 ht9 hw9 hs9 hS
                    generalize H1 = H at hR ⊢
                    refine lv_aload_n hx hb dX14_members_70 rfl (lv_at hl 0 rfl) ?_
                    refine lv_dup hx hb dX14_members_71 rfl ?_
                    refine va_get (D := rD g) (ci := 13) (v := .int (qI S24 0 21)) (C := RX14) (T := TX14) (N := 143) hx hb hts in2X14 hown hR.K hR.P 0 (hR.at14 hR.w.1) rfl 21 (by decide) (hts _ kx_205) (fun _ h9 => h9) rfl dX14_members_72 ?_
                    refine lv_iconst (v := 1) hx hb dX14_members_75 (by decide) ?_
                    refine lv_iadd hx hb dX14_members_76 ?_
                    refine lv_topi (fun z26 ez26 => ?_)
                    obtain rfl : z26 = ((qI S24 0 21) + (1 : Int32)) := ez26
                    refine va_put (D := rD g) (ci := 13) (v := .int ((qI S24 0 21) + (1 : Int32))) (ty := .int) (C := RX14) (T := TX14) (N := 143) hx hb hts in2X14 tyX14 tyX14_ok nmX14 hown hR.K hR.P hR.D hR.sS 0 (hR.at14 hR.w.1) rfl 21 (by decide) (hts _ kx_205) (fun _ h9 => h9) rfl (by decide +kernel) rfl rfl (Nat.le_of_ble_eq_true rfl) dX14_members_77 (fun H locs hP hD hS => ?_)
                    have hR : Rep g ad A s (wI S24 0 21 ((qI S24 0 21) + (1 : Int32))) H locs := hR.pI hR.w.1 F14_s21 hP hD hS
                    obtain ⟨S27, eS27⟩ : ∃ z, z = wI S24 0 21 ((qI S24 0 21) + (1 : Int32)) := ⟨_, rfl⟩
                    rw [← eS27] at hR
                    replace h := h S27 eS27
                    have hsh : shy S S27 := by rw [eS27]; exact hsh
                    obtain ⟨a28, ea28⟩ : ∃ z, z = (v33_3 + Int32.ofInt 1) := ⟨_, rfl⟩
                    replace h := h a28 ea28
                    refine lv_iinc (v := a28) (lv' := [(3, .int a28), (0, .ref (ad 0)), (2, .int v33_2)]) hx hb dX14_members_80 hl (k := 2) rfl ea28.symm (by decide) rfl (fun ls hl => ?_)
                    refine lv_goto (tgt := 33) hx hb dX14_members_83 (by decide) ?_
                    exact ih_33 S27 v33_2 a28 _ _ ls h  hsh hR (lv_sub hl [1, 2, 0] rfl)
        obtain ⟨n9, h⟩ := h
        exact J_33 n9 S10 v26_2 0 _ _ ls h  hsh hR (lv_sub hl [1, 3, 0] rfl)
    refine lv_icmp_gt (tgt := 25) hx hb dX14_members_18 (by decide) (fun c29 => ?_) (fun c29 => ?_)
    · replace h := h.1 (k_lt (by decide) rfl c29)
      refine lv_iconst (v := 0) hx hb dX14_members_25 (by decide) ?_
      exact J_26 S3 0 r2 a8 _ _ ls h (Or.inl rfl) hsh hR (lv_sub hl [2, 1, 0] rfl)
    · replace h := h.2 (k_nlt (by decide) rfl c29)
      refine lv_iconst (v := 1) hx hb dX14_members_21 (by decide) ?_
      refine lv_goto (tgt := 26) hx hb dX14_members_22 (by decide) ?_
      exact J_26 S3 1 r2 a8 _ _ ls h (Or.inr rfl) hsh hR (lv_sub hl [2, 1, 0] rfl)
