def fJ13_compare_74951 (S : MS) (y0 : Int64) (y2 : Int64) : Int32 := (if 0 ≤ (lg_cmp y0 y2).toInt then (if (lg_cmp y0 y2).toInt = 0 then (0 : Int32) else (1 : Int32)) else (-1 : Int32))
def d_J13_compare_74951 (S : MS) (y0 : Int64) (y2 : Int64) : Prop := True
set_option maxHeartbeats 2000000 in
set_option maxRecDepth 100000 in
theorem rJ13_compare_74951 (l : Launch) (g : Gr) (ad : Nat → Nat) (sz : Nat) (S : MS) (y0 : Int64) (y2 : Int64) (hw : wfC S) (hd : d_J13_compare_74951 S y0 y2) : Met l yJ13_compare_74951 (wt yJ13_compare_74951 cJ13_compare_74951 4 (some .int)) ({ frames := 0, cells := 0, slots := 0, locals := 0 }) (va_Pc [.long y0, .long y2] (st_C g ad sz S)) (va_Qi (fun (r : Int32) (_ : Unit) => r = fJ13_compare_74951 S y0 y2) (fun (_ : Unit) (t : State) => qEC g ad (va_A (WdC g ad S) sz) S t) (va_A (WdC g ad S) sz)) 0 0 (va_A (WdC g ad S) sz) := by
  refine Met.ofW (cc := cJ13_compare_74951) (maxL := 4) (ret := (some .int)) (by decide) rfl ?_
  intro p e s m args below meth c s₁ B hml hv
  obtain ⟨rfl, hsz, hP, hK, hD0, hex, hE⟩ := hv
  have hx := B.exec
  have hb := B.bytes
  have hr := B.returns
  have hts0 := atoms_spec (ws := wt yJ13_compare_74951 cJ13_compare_74951 4 (some .int)) B.pre
  have hts : ∀ w ∈ tb, w.before _ s = true := fun w h => hts0 w (List.mem_cons_of_mem _ h)
  have hown : s.vm.findClass RJ13 = some m.cls := findClass_of_methodNamed B.named
  subst hsz
  have hD := hD0.self (sz := s.heap.size)
  generalize hAe : va_A (WdC g ad S) s.heap.size = A at hD hE ⊢
  have hA : ∀ q : Nat, s.heap.size ≤ q → A q := fun q h => by rw [← hAe]; exact Or.inr h
  have hR : RepC g ad A s S s.heap [] := ⟨hK, hP, hD, va_S.rf, hw⟩
  clear hK hP hD hD0
  have hl := lv_entry ([.long y0, .long y2]) (n := 4) (Nat.le_of_ble_eq_true rfl)
  rw [lg_entry_eq]
  generalize (lg_sl ([.long y0, .long y2]) ++ List.replicate (4 - (lg_sl ([.long y0, .long y2])).length) Slot.unset).toArray = ls at hl ⊢
  have hl : lv_has ls 4 [(0, .long y0), (2, .long y2)] := hl
  obtain ⟨r0, hf⟩ : ∃ r0, fJ13_compare_74951 S y0 y2 = r0 := ⟨_, rfl⟩
  have hf0 := hf
  unfold fJ13_compare_74951 at hf
  unfold d_J13_compare_74951 at hd
  refine lv_lload_n hx hb dJ13_compare_74951_0 rfl (lv_at hl 0 rfl) ?_
  refine lv_lload_n hx hb dJ13_compare_74951_1 rfl (lv_at hl 1 rfl) ?_
  refine W.lcmp hx hb dJ13_compare_74951_2 ?_
  refine lv_topi (fun z1 ez1 => ?_)
  obtain rfl : z1 = (lg_cmp y0 y2) := ez1
  refine lv_if_ge (tgt := 10) hx hb dJ13_compare_74951_3 (by decide) (fun c2 => ?_) (fun c2 => ?_)
  · rw [if_pos (k_le (by decide) rfl c2)] at hf
    (try rw [if_pos (k_le (by decide) rfl c2)] at hd)
    refine lv_lload_n hx hb dJ13_compare_74951_10 rfl (lv_at hl 0 rfl) ?_
    refine lv_lload_n hx hb dJ13_compare_74951_11 rfl (lv_at hl 1 rfl) ?_
    refine W.lcmp hx hb dJ13_compare_74951_12 ?_
    refine lv_topi (fun z3 ez3 => ?_)
    obtain rfl : z3 = (lg_cmp y0 y2) := ez3
    refine lv_if_ne (tgt := 20) hx hb dJ13_compare_74951_13 (by decide) (fun c4 => ?_) (fun c4 => ?_)
    · rw [if_neg (k_ne rfl (by decide) c4)] at hf
      (try rw [if_neg (k_ne rfl (by decide) c4)] at hd)
      refine lv_iconst (v := 1) hx hb dJ13_compare_74951_20 (by decide) ?_
      exact W.iret (v := 1) hx hb hr (fun t9 ht9 hW9 => ⟨⟨_, (), rfl, hf.trans hf0.symm, ⟨by rw [ht9]; exact hR.P, hR.D⟩⟩, hR.sS.F ht9⟩) hR.sS.2.2 dJ13_compare_74951_21
    · rw [if_pos (k_eq rfl (by decide) c4)] at hf
      (try rw [if_pos (k_eq rfl (by decide) c4)] at hd)
      refine lv_iconst (v := 0) hx hb dJ13_compare_74951_16 (by decide) ?_
      refine lv_goto (tgt := 21) hx hb dJ13_compare_74951_17 (by decide) ?_
      exact W.iret (v := 0) hx hb hr (fun t9 ht9 hW9 => ⟨⟨_, (), rfl, hf.trans hf0.symm, ⟨by rw [ht9]; exact hR.P, hR.D⟩⟩, hR.sS.F ht9⟩) hR.sS.2.2 dJ13_compare_74951_21
  · rw [if_neg (k_nle (by decide) rfl c2)] at hf
    (try rw [if_neg (k_nle (by decide) rfl c2)] at hd)
    refine lv_iconst (v := (-1)) hx hb dJ13_compare_74951_6 (by decide) ?_
    refine lv_goto (tgt := 21) hx hb dJ13_compare_74951_7 (by decide) ?_
    exact W.iret (v := (-1)) hx hb hr (fun t9 ht9 hW9 => ⟨⟨_, (), rfl, hf.trans hf0.symm, ⟨by rw [ht9]; exact hR.P, hR.D⟩⟩, hR.sS.F ht9⟩) hR.sS.2.2 dJ13_compare_74951_21
def w_J7_fill_53178_L5 (Q : MS → Prop) : Nat → MS → Nat → Int32 → Int32 → Int32 → Prop
  | 0, _, _, _, _, _ => False
  | n5 + 1, U5, v5_0, v5_1, v5_2, v5_3 => (wfC U5 → ((v5_3.toInt ≤ v5_2.toInt → Q U5) ∧ (¬ v5_3.toInt ≤ v5_2.toInt → (((0 : Int) ≤ v5_2.toInt ∧ v5_2.toInt < (qN U5 v5_0 : Int)) ∧ (∀ S4, S4 = wI U5 v5_0 v5_2.toInt.toNat v5_1 → wfC S4 → (∀ a5 : Int32, a5 = (v5_2 + Int32.ofInt 1) → (w_J7_fill_53178_L5 Q n5) S4 v5_0 v5_1 a5 v5_3))))))
def wJ7_fill_53178 (S : MS) (p0 : Nat) (x1 : Int32) (Q : MS → Prop) : Prop := (∀ a1 : Int32, a1 = (Int32.ofNat (qN S p0)) → (∃ n, w_J7_fill_53178_L5 Q n S p0 x1 0 a1))
set_option maxHeartbeats 2000000 in
set_option maxRecDepth 100000 in
theorem rJ7_fill_53178 (l : Launch) (g : Gr) (ad : Nat → Nat) (sz : Nat) (S : MS) (p0 : Nat) (x1 : Int32) (hw : wfC S) {kd0 : Nat} (hk_kd0 : 200 < kd0 ∧ kd0 < 300) (hT_p0 : qT S p0 = kd0) (Q : MS → Prop) (h : wJ7_fill_53178 S p0 x1 Q) : Met l yJ7_fill_53178 (wt yJ7_fill_53178 cJ7_fill_53178 4 none) ({ frames := 0, cells := 0, slots := 0, locals := 0 }) (va_Pc [.ref (ad p0), .int x1] (st_C g ad sz S)) (va_Qv (fun (u : MS) => Q u ∧ wfC u ∧ shy S u) (fun (u : MS) (t : State) => qEC g ad (va_A (WdC g ad S) sz) u t) (va_A (WdC g ad S) sz)) 0 0 (va_A (WdC g ad S) sz) := by
  refine Met.ofW (cc := cJ7_fill_53178) (maxL := 4) (ret := none) (by decide) rfl ?_
  intro p e s m args below meth c s₁ B hml hv
  obtain ⟨rfl, hsz, hP, hK, hD0, hex, hE⟩ := hv
  have hx := B.exec
  have hb := B.bytes
  have hr := B.returns
  have hts0 := atoms_spec (ws := wt yJ7_fill_53178 cJ7_fill_53178 4 none) B.pre
  have hts : ∀ w ∈ tb, w.before _ s = true := fun w h => hts0 w (List.mem_cons_of_mem _ h)
  have hown : s.vm.findClass RJ7 = some m.cls := findClass_of_methodNamed B.named
  subst hsz
  have hD := hD0.self (sz := s.heap.size)
  generalize hAe : va_A (WdC g ad S) s.heap.size = A at hD hE ⊢
  have hA : ∀ q : Nat, s.heap.size ≤ q → A q := fun q h => by rw [← hAe]; exact Or.inr h
  have hR : RepC g ad A s S s.heap [] := ⟨hK, hP, hD, va_S.rf, hw⟩
  clear hK hP hD hD0
  have hl := lv_entry ([.ref (ad p0), .int x1]) (n := 4) (Nat.le_of_ble_eq_true rfl)
  rw [lg_entry_eq]
  generalize (lg_sl ([.ref (ad p0), .int x1]) ++ List.replicate (4 - (lg_sl ([.ref (ad p0), .int x1])).length) Slot.unset).toArray = ls at hl ⊢
  have hl : lv_has ls 4 [(0, .ref (ad p0)), (1, .int x1)] := hl
  have hsh : shy S S := shy.rf
  unfold wJ7_fill_53178 at h
  refine lv_iconst (v := 0) hx hb dJ7_fill_53178_0 (by decide) ?_
  refine lv_istore_n (lv' := [(2, .int 0), (0, .ref (ad p0)), (1, .int x1)]) hx hb dJ7_fill_53178_1 rfl hl (by decide) rfl (fun ls hl => ?_)
  refine lv_aload_n hx hb dJ7_fill_53178_2 rfl (lv_at hl 1 rfl) ?_
  refine va_alen (v := (Int32.ofNat (qN S p0))) hx hb hR.K hR.P p0 1 (hR.atI hT_p0 hk_kd0) rfl rfl dJ7_fill_53178_3 ?_
  obtain ⟨a1, ea1⟩ : ∃ z, z = (Int32.ofNat (qN S p0)) := ⟨_, rfl⟩
  rw [← ea1]
  replace h := h a1 ea1
  refine lv_istore_n (lv' := [(3, .int a1), (2, .int 0), (0, .ref (ad p0)), (1, .int x1)]) hx hb dJ7_fill_53178_4 rfl hl (by decide) rfl (fun ls hl => ?_)
  have J_5 : ∀ (n5 : Nat) (U5 : MS) (v5_0 : Nat) (v5_1 : Int32) (v5_2 : Int32) (v5_3 : Int32) (H : Heap) (locs : List Loc) (ls : Array Slot), w_J7_fill_53178_L5 Q n5 U5 v5_0 v5_1 v5_2 v5_3 → qT U5 v5_0 = kd0 → shy S U5 → RepC g ad A s U5 H locs → lv_has ls 4 [(0, .ref (ad v5_0)), (1, .int v5_1), (2, .int v5_2), (3, .int v5_3)] → W p l e (headSpec (wt yJ7_fill_53178 cJ7_fill_53178 4 none) ({ frames := 0, cells := 0, slots := 0, locals := 0 })).room s m ([.ref (ad p0), .int x1] : List Value).toArray below meth c H locs 0 0 (MQ below (va_Qv (fun (u : MS) => Q u ∧ wfC u ∧ shy S u) (fun (u : MS) (t : State) => qEC g ad A u t) A) ([.ref (ad p0), .int x1] : List Value).toArray s 0 0 A) (F0 m 5 ls []) := by
    intro n5
    induction n5 with
    | zero => intro U5 v5_0 v5_1 v5_2 v5_3 H locs ls h hT_v5_0 hsh hR hl; unfold w_J7_fill_53178_L5 at h; exact h.elim
    | succ n5 ih_5 =>
      intro U5 v5_0 v5_1 v5_2 v5_3 H locs ls h hT_v5_0 hsh hR hl
      unfold w_J7_fill_53178_L5 at h
      replace h := h hR.w
      refine lv_iload_n hx hb dJ7_fill_53178_5 rfl (lv_at hl 2 rfl) ?_
      refine lv_iload_n hx hb dJ7_fill_53178_6 rfl (lv_at hl 3 rfl) ?_
      refine lv_icmp_ge (tgt := 20) hx hb dJ7_fill_53178_7 (by decide) (fun c2 => ?_) (fun c2 => ?_)
      · replace h := h.1 (k_le rfl rfl c2)
        exact W.vret hx hb hr (fun t9 ht9 hW9 => ⟨⟨U5, rfl, ⟨h, hR.w, hsh⟩, ⟨by rw [ht9]; exact hR.P, hR.D⟩⟩, hR.sS.F ht9⟩) hR.sS.2.2 dJ7_fill_53178_20
      · replace h := h.2 (k_nle rfl rfl c2)
        refine lv_aload_n hx hb dJ7_fill_53178_10 rfl (lv_at hl 0 rfl) ?_
        refine lv_iload_n hx hb dJ7_fill_53178_11 rfl (lv_at hl 2 rfl) ?_
        refine lv_iload_n hx hb dJ7_fill_53178_12 rfl (lv_at hl 1 rfl) ?_
        obtain ⟨hv3, h⟩ := h
        refine va_iast hx hb hR.K hR.P hR.D hR.sS v5_0 1 (hR.atI hT_v5_0 hk_kd0) rfl (k_ix (x := v5_2) (a := v5_2.toInt) rfl hv3) dJ7_fill_53178_13 (fun H locs hP hD hS => ?_)
        have hTk9 : qT U5 v5_0 = kd0 := hT_v5_0
        have hR : RepC g ad A s (wI U5 v5_0 v5_2.toInt.toNat v5_1) H locs := hR.aI hT_v5_0 hk_kd0 hP hD hS
        obtain ⟨S4, eS4⟩ : ∃ z, z = wI U5 v5_0 v5_2.toInt.toNat v5_1 := ⟨_, rfl⟩
        rw [← eS4] at hR
        replace h := h S4 eS4 hR.w
        have hT_v5_0 : qT S4 v5_0 = kd0 := (congrArg (fun z => qT z v5_0) eS4).trans hT_v5_0
        have hsh : shy S S4 := by rw [eS4]; exact hsh
        obtain ⟨a5, ea5⟩ : ∃ z, z = (v5_2 + Int32.ofInt 1) := ⟨_, rfl⟩
        replace h := h a5 ea5
        refine lv_iinc (v := a5) (lv' := [(2, .int a5), (0, .ref (ad v5_0)), (1, .int v5_1), (3, .int v5_3)]) hx hb dJ7_fill_53178_14 hl (k := 2) rfl ea5.symm (by decide) rfl (fun ls hl => ?_)
        refine lv_goto (tgt := 5) hx hb dJ7_fill_53178_17 (by decide) ?_
        exact ih_5 S4 v5_0 v5_1 a5 v5_3 _ _ ls h hT_v5_0 hsh hR (lv_sub hl [1, 2, 0, 3] rfl)
  obtain ⟨n9, h⟩ := h
  exact J_5 n9 S p0 x1 0 a1 _ _ ls h hT_p0 hsh hR (lv_sub hl [2, 3, 1, 0] rfl)
def w_J7_fill_d0a16_L6 (Q : MS → Prop) : Nat → MS → Nat → Int64 → Int32 → Int32 → Prop
  | 0, _, _, _, _, _ => False
  | n6 + 1, U6, v6_0, v6_1, v6_3, v6_4 => (wfC U6 → ((v6_4.toInt ≤ v6_3.toInt → Q U6) ∧ (¬ v6_4.toInt ≤ v6_3.toInt → (((0 : Int) ≤ v6_3.toInt ∧ v6_3.toInt < (qN U6 v6_0 : Int)) ∧ (∀ S4, S4 = wJ U6 v6_0 v6_3.toInt.toNat v6_1 → wfC S4 → (∀ a5 : Int32, a5 = (v6_3 + Int32.ofInt 1) → (w_J7_fill_d0a16_L6 Q n6) S4 v6_0 v6_1 a5 v6_4))))))
def wJ7_fill_d0a16 (S : MS) (p0 : Nat) (y1 : Int64) (Q : MS → Prop) : Prop := (∀ a1 : Int32, a1 = (Int32.ofNat (qN S p0)) → (∃ n, w_J7_fill_d0a16_L6 Q n S p0 y1 0 a1))
set_option maxHeartbeats 2000000 in
set_option maxRecDepth 100000 in
theorem rJ7_fill_d0a16 (l : Launch) (g : Gr) (ad : Nat → Nat) (sz : Nat) (S : MS) (p0 : Nat) (y1 : Int64) (hw : wfC S) {kd0 : Nat} (hk_kd0 : 400 < kd0 ∧ kd0 < 500) (hT_p0 : qT S p0 = kd0) (Q : MS → Prop) (h : wJ7_fill_d0a16 S p0 y1 Q) : Met l yJ7_fill_d0a16 (wt yJ7_fill_d0a16 cJ7_fill_d0a16 5 none) ({ frames := 0, cells := 0, slots := 0, locals := 0 }) (va_Pc [.ref (ad p0), .long y1] (st_C g ad sz S)) (va_Qv (fun (u : MS) => Q u ∧ wfC u ∧ shy S u) (fun (u : MS) (t : State) => qEC g ad (va_A (WdC g ad S) sz) u t) (va_A (WdC g ad S) sz)) 0 0 (va_A (WdC g ad S) sz) := by
  refine Met.ofW (cc := cJ7_fill_d0a16) (maxL := 5) (ret := none) (by decide) rfl ?_
  intro p e s m args below meth c s₁ B hml hv
  obtain ⟨rfl, hsz, hP, hK, hD0, hex, hE⟩ := hv
  have hx := B.exec
  have hb := B.bytes
  have hr := B.returns
  have hts0 := atoms_spec (ws := wt yJ7_fill_d0a16 cJ7_fill_d0a16 5 none) B.pre
  have hts : ∀ w ∈ tb, w.before _ s = true := fun w h => hts0 w (List.mem_cons_of_mem _ h)
  have hown : s.vm.findClass RJ7 = some m.cls := findClass_of_methodNamed B.named
  subst hsz
  have hD := hD0.self (sz := s.heap.size)
  generalize hAe : va_A (WdC g ad S) s.heap.size = A at hD hE ⊢
  have hA : ∀ q : Nat, s.heap.size ≤ q → A q := fun q h => by rw [← hAe]; exact Or.inr h
  have hR : RepC g ad A s S s.heap [] := ⟨hK, hP, hD, va_S.rf, hw⟩
  clear hK hP hD hD0
  have hl := lv_entry ([.ref (ad p0), .long y1]) (n := 5) (Nat.le_of_ble_eq_true rfl)
  rw [lg_entry_eq]
  generalize (lg_sl ([.ref (ad p0), .long y1]) ++ List.replicate (5 - (lg_sl ([.ref (ad p0), .long y1])).length) Slot.unset).toArray = ls at hl ⊢
  have hl : lv_has ls 5 [(0, .ref (ad p0)), (1, .long y1)] := hl
  have hsh : shy S S := shy.rf
  unfold wJ7_fill_d0a16 at h
  refine lv_iconst (v := 0) hx hb dJ7_fill_d0a16_0 (by decide) ?_
  refine lv_istore_n (lv' := [(3, .int 0), (0, .ref (ad p0)), (1, .long y1)]) hx hb dJ7_fill_d0a16_1 rfl hl (by decide) rfl (fun ls hl => ?_)
  refine lv_aload_n hx hb dJ7_fill_d0a16_2 rfl (lv_at hl 1 rfl) ?_
  refine va_alen (v := (Int32.ofNat (qN S p0))) hx hb hR.K hR.P p0 3 (hR.atL hT_p0 hk_kd0) rfl rfl dJ7_fill_d0a16_3 ?_
  obtain ⟨a1, ea1⟩ : ∃ z, z = (Int32.ofNat (qN S p0)) := ⟨_, rfl⟩
  rw [← ea1]
  replace h := h a1 ea1
  refine lv_istore (lv' := [(4, .int a1), (3, .int 0), (0, .ref (ad p0)), (1, .long y1)]) hx hb dJ7_fill_d0a16_4 hl (by decide) rfl (fun ls hl => ?_)
  have J_6 : ∀ (n6 : Nat) (U6 : MS) (v6_0 : Nat) (v6_1 : Int64) (v6_3 : Int32) (v6_4 : Int32) (H : Heap) (locs : List Loc) (ls : Array Slot), w_J7_fill_d0a16_L6 Q n6 U6 v6_0 v6_1 v6_3 v6_4 → qT U6 v6_0 = kd0 → shy S U6 → RepC g ad A s U6 H locs → lv_has ls 5 [(0, .ref (ad v6_0)), (1, .long v6_1), (3, .int v6_3), (4, .int v6_4)] → W p l e (headSpec (wt yJ7_fill_d0a16 cJ7_fill_d0a16 5 none) ({ frames := 0, cells := 0, slots := 0, locals := 0 })).room s m ([.ref (ad p0), .long y1] : List Value).toArray below meth c H locs 0 0 (MQ below (va_Qv (fun (u : MS) => Q u ∧ wfC u ∧ shy S u) (fun (u : MS) (t : State) => qEC g ad A u t) A) ([.ref (ad p0), .long y1] : List Value).toArray s 0 0 A) (F0 m 6 ls []) := by
    intro n6
    induction n6 with
    | zero => intro U6 v6_0 v6_1 v6_3 v6_4 H locs ls h hT_v6_0 hsh hR hl; unfold w_J7_fill_d0a16_L6 at h; exact h.elim
    | succ n6 ih_6 =>
      intro U6 v6_0 v6_1 v6_3 v6_4 H locs ls h hT_v6_0 hsh hR hl
      unfold w_J7_fill_d0a16_L6 at h
      replace h := h hR.w
      refine lv_iload_n hx hb dJ7_fill_d0a16_6 rfl (lv_at hl 2 rfl) ?_
      refine lv_iload hx hb dJ7_fill_d0a16_7 (lv_at hl 3 rfl) ?_
      refine lv_icmp_ge (tgt := 22) hx hb dJ7_fill_d0a16_9 (by decide) (fun c2 => ?_) (fun c2 => ?_)
      · replace h := h.1 (k_le rfl rfl c2)
        exact W.vret hx hb hr (fun t9 ht9 hW9 => ⟨⟨U6, rfl, ⟨h, hR.w, hsh⟩, ⟨by rw [ht9]; exact hR.P, hR.D⟩⟩, hR.sS.F ht9⟩) hR.sS.2.2 dJ7_fill_d0a16_22
      · replace h := h.2 (k_nle rfl rfl c2)
        refine lv_aload_n hx hb dJ7_fill_d0a16_12 rfl (lv_at hl 0 rfl) ?_
        refine lv_iload_n hx hb dJ7_fill_d0a16_13 rfl (lv_at hl 2 rfl) ?_
        refine lv_lload_n hx hb dJ7_fill_d0a16_14 rfl (lv_at hl 1 rfl) ?_
        obtain ⟨hv3, h⟩ := h
        refine va_last hx hb hR.K hR.P hR.D hR.sS v6_0 3 (hR.atL hT_v6_0 hk_kd0) rfl (k_ix (x := v6_3) (a := v6_3.toInt) rfl hv3) dJ7_fill_d0a16_15 (fun H locs hP hD hS => ?_)
        have hTk9 : qT U6 v6_0 = kd0 := hT_v6_0
        have hR : RepC g ad A s (wJ U6 v6_0 v6_3.toInt.toNat v6_1) H locs := hR.aL hT_v6_0 hk_kd0 hP hD hS
        obtain ⟨S4, eS4⟩ : ∃ z, z = wJ U6 v6_0 v6_3.toInt.toNat v6_1 := ⟨_, rfl⟩
        rw [← eS4] at hR
        replace h := h S4 eS4 hR.w
        have hT_v6_0 : qT S4 v6_0 = kd0 := (congrArg (fun z => qT z v6_0) eS4).trans hT_v6_0
        have hsh : shy S S4 := by rw [eS4]; exact hsh
        obtain ⟨a5, ea5⟩ : ∃ z, z = (v6_3 + Int32.ofInt 1) := ⟨_, rfl⟩
        replace h := h a5 ea5
        refine lv_iinc (v := a5) (lv' := [(3, .int a5), (0, .ref (ad v6_0)), (1, .long v6_1), (4, .int v6_4)]) hx hb dJ7_fill_d0a16_16 hl (k := 2) rfl ea5.symm (by decide) rfl (fun ls hl => ?_)
        refine lv_goto (tgt := 6) hx hb dJ7_fill_d0a16_19 (by decide) ?_
        exact ih_6 S4 v6_0 v6_1 a5 v6_4 _ _ ls h hT_v6_0 hsh hR (lv_sub hl [1, 2, 0, 3] rfl)
  obtain ⟨n9, h⟩ := h
  exact J_6 n9 S p0 y1 0 a1 _ _ ls h hT_p0 hsh hR (lv_sub hl [2, 3, 1, 0] rfl)
def fJ6_bitCount_0f7a4 (S : MS) (x0 : Int32) : Int32 := ((((((((x0 - (((x0.toUInt32 >>> ((1 : Int32).toUInt32 &&& Int32.toUInt32 31)).toInt32) &&& (1431655765 : Int32))) &&& (858993459 : Int32)) + ((((x0 - (((x0.toUInt32 >>> ((1 : Int32).toUInt32 &&& Int32.toUInt32 31)).toInt32) &&& (1431655765 : Int32))).toUInt32 >>> ((2 : Int32).toUInt32 &&& Int32.toUInt32 31)).toInt32) &&& (858993459 : Int32))) + (((((x0 - (((x0.toUInt32 >>> ((1 : Int32).toUInt32 &&& Int32.toUInt32 31)).toInt32) &&& (1431655765 : Int32))) &&& (858993459 : Int32)) + ((((x0 - (((x0.toUInt32 >>> ((1 : Int32).toUInt32 &&& Int32.toUInt32 31)).toInt32) &&& (1431655765 : Int32))).toUInt32 >>> ((2 : Int32).toUInt32 &&& Int32.toUInt32 31)).toInt32) &&& (858993459 : Int32))).toUInt32 >>> ((4 : Int32).toUInt32 &&& Int32.toUInt32 31)).toInt32)) &&& (252645135 : Int32)) + (((((((x0 - (((x0.toUInt32 >>> ((1 : Int32).toUInt32 &&& Int32.toUInt32 31)).toInt32) &&& (1431655765 : Int32))) &&& (858993459 : Int32)) + ((((x0 - (((x0.toUInt32 >>> ((1 : Int32).toUInt32 &&& Int32.toUInt32 31)).toInt32) &&& (1431655765 : Int32))).toUInt32 >>> ((2 : Int32).toUInt32 &&& Int32.toUInt32 31)).toInt32) &&& (858993459 : Int32))) + (((((x0 - (((x0.toUInt32 >>> ((1 : Int32).toUInt32 &&& Int32.toUInt32 31)).toInt32) &&& (1431655765 : Int32))) &&& (858993459 : Int32)) + ((((x0 - (((x0.toUInt32 >>> ((1 : Int32).toUInt32 &&& Int32.toUInt32 31)).toInt32) &&& (1431655765 : Int32))).toUInt32 >>> ((2 : Int32).toUInt32 &&& Int32.toUInt32 31)).toInt32) &&& (858993459 : Int32))).toUInt32 >>> ((4 : Int32).toUInt32 &&& Int32.toUInt32 31)).toInt32)) &&& (252645135 : Int32)).toUInt32 >>> ((8 : Int32).toUInt32 &&& Int32.toUInt32 31)).toInt32)) + ((((((((x0 - (((x0.toUInt32 >>> ((1 : Int32).toUInt32 &&& Int32.toUInt32 31)).toInt32) &&& (1431655765 : Int32))) &&& (858993459 : Int32)) + ((((x0 - (((x0.toUInt32 >>> ((1 : Int32).toUInt32 &&& Int32.toUInt32 31)).toInt32) &&& (1431655765 : Int32))).toUInt32 >>> ((2 : Int32).toUInt32 &&& Int32.toUInt32 31)).toInt32) &&& (858993459 : Int32))) + (((((x0 - (((x0.toUInt32 >>> ((1 : Int32).toUInt32 &&& Int32.toUInt32 31)).toInt32) &&& (1431655765 : Int32))) &&& (858993459 : Int32)) + ((((x0 - (((x0.toUInt32 >>> ((1 : Int32).toUInt32 &&& Int32.toUInt32 31)).toInt32) &&& (1431655765 : Int32))).toUInt32 >>> ((2 : Int32).toUInt32 &&& Int32.toUInt32 31)).toInt32) &&& (858993459 : Int32))).toUInt32 >>> ((4 : Int32).toUInt32 &&& Int32.toUInt32 31)).toInt32)) &&& (252645135 : Int32)) + (((((((x0 - (((x0.toUInt32 >>> ((1 : Int32).toUInt32 &&& Int32.toUInt32 31)).toInt32) &&& (1431655765 : Int32))) &&& (858993459 : Int32)) + ((((x0 - (((x0.toUInt32 >>> ((1 : Int32).toUInt32 &&& Int32.toUInt32 31)).toInt32) &&& (1431655765 : Int32))).toUInt32 >>> ((2 : Int32).toUInt32 &&& Int32.toUInt32 31)).toInt32) &&& (858993459 : Int32))) + (((((x0 - (((x0.toUInt32 >>> ((1 : Int32).toUInt32 &&& Int32.toUInt32 31)).toInt32) &&& (1431655765 : Int32))) &&& (858993459 : Int32)) + ((((x0 - (((x0.toUInt32 >>> ((1 : Int32).toUInt32 &&& Int32.toUInt32 31)).toInt32) &&& (1431655765 : Int32))).toUInt32 >>> ((2 : Int32).toUInt32 &&& Int32.toUInt32 31)).toInt32) &&& (858993459 : Int32))).toUInt32 >>> ((4 : Int32).toUInt32 &&& Int32.toUInt32 31)).toInt32)) &&& (252645135 : Int32)).toUInt32 >>> ((8 : Int32).toUInt32 &&& Int32.toUInt32 31)).toInt32)).toUInt32 >>> ((16 : Int32).toUInt32 &&& Int32.toUInt32 31)).toInt32)) &&& (63 : Int32))
def d_J6_bitCount_0f7a4 (S : MS) (x0 : Int32) : Prop := True
set_option maxHeartbeats 2000000 in
set_option maxRecDepth 100000 in
theorem rJ6_bitCount_0f7a4 (l : Launch) (g : Gr) (ad : Nat → Nat) (sz : Nat) (S : MS) (x0 : Int32) (hw : wfC S) (hd : d_J6_bitCount_0f7a4 S x0) : Met l yJ6_bitCount_0f7a4 (wt yJ6_bitCount_0f7a4 cJ6_bitCount_0f7a4 1 (some .int)) ({ frames := 0, cells := 0, slots := 0, locals := 0 }) (va_Pc [.int x0] (st_C g ad sz S)) (va_Qi (fun (r : Int32) (_ : Unit) => r = fJ6_bitCount_0f7a4 S x0) (fun (_ : Unit) (t : State) => qEC g ad (va_A (WdC g ad S) sz) S t) (va_A (WdC g ad S) sz)) 0 0 (va_A (WdC g ad S) sz) := by
  refine Met.ofW (cc := cJ6_bitCount_0f7a4) (maxL := 1) (ret := (some .int)) (by decide) rfl ?_
  intro p e s m args below meth c s₁ B hml hv
  obtain ⟨rfl, hsz, hP, hK, hD0, hex, hE⟩ := hv
  have hx := B.exec
  have hb := B.bytes
  have hr := B.returns
  have hts0 := atoms_spec (ws := wt yJ6_bitCount_0f7a4 cJ6_bitCount_0f7a4 1 (some .int)) B.pre
  have hts : ∀ w ∈ tb, w.before _ s = true := fun w h => hts0 w (List.mem_cons_of_mem _ h)
  have hown : s.vm.findClass RJ6 = some m.cls := findClass_of_methodNamed B.named
  subst hsz
  have hD := hD0.self (sz := s.heap.size)
  generalize hAe : va_A (WdC g ad S) s.heap.size = A at hD hE ⊢
  have hA : ∀ q : Nat, s.heap.size ≤ q → A q := fun q h => by rw [← hAe]; exact Or.inr h
  have hR : RepC g ad A s S s.heap [] := ⟨hK, hP, hD, va_S.rf, hw⟩
  clear hK hP hD hD0
  have hl := lv_entry ([.int x0]) (n := 1) (Nat.le_of_ble_eq_true rfl)
  rw [lg_entry_eq]
  generalize (lg_sl ([.int x0]) ++ List.replicate (1 - (lg_sl ([.int x0])).length) Slot.unset).toArray = ls at hl ⊢
  have hl : lv_has ls 1 [(0, .int x0)] := hl
  obtain ⟨r0, hf⟩ : ∃ r0, fJ6_bitCount_0f7a4 S x0 = r0 := ⟨_, rfl⟩
  have hf0 := hf
  unfold fJ6_bitCount_0f7a4 at hf
  unfold d_J6_bitCount_0f7a4 at hd
  refine lv_iload_n hx hb dJ6_bitCount_0f7a4_0 rfl (lv_at hl 0 rfl) ?_
  refine lv_iload_n hx hb dJ6_bitCount_0f7a4_1 rfl (lv_at hl 0 rfl) ?_
  refine lv_iconst (v := 1) hx hb dJ6_bitCount_0f7a4_2 (by decide) ?_
  refine lv_iushr hx hb dJ6_bitCount_0f7a4_3 rfl ?_
  refine lv_topi (fun z1 ez1 => ?_)
  obtain rfl : z1 = ((x0.toUInt32 >>> ((1 : Int32).toUInt32 &&& Int32.toUInt32 31)).toInt32) := ez1
  refine lv_ldcw hx hb hown (hts _ kw_1729) dJ6_bitCount_0f7a4_4 ?_
  refine lv_iand hx hb dJ6_bitCount_0f7a4_7 ?_
  refine lv_topi (fun z2 ez2 => ?_)
  obtain rfl : z2 = (((x0.toUInt32 >>> ((1 : Int32).toUInt32 &&& Int32.toUInt32 31)).toInt32) &&& (1431655765 : Int32)) := ez2
  refine lv_isub hx hb dJ6_bitCount_0f7a4_8 ?_
  refine lv_topi (fun z3 ez3 => ?_)
  obtain rfl : z3 = (x0 - (((x0.toUInt32 >>> ((1 : Int32).toUInt32 &&& Int32.toUInt32 31)).toInt32) &&& (1431655765 : Int32))) := ez3
  refine lv_istore_n (lv' := [(0, .int (x0 - (((x0.toUInt32 >>> ((1 : Int32).toUInt32 &&& Int32.toUInt32 31)).toInt32) &&& (1431655765 : Int32))))]) hx hb dJ6_bitCount_0f7a4_9 rfl hl (by decide) rfl (fun ls hl => ?_)
  refine lv_iload_n hx hb dJ6_bitCount_0f7a4_10 rfl (lv_at hl 0 rfl) ?_
  refine lv_ldcw hx hb hown (hts _ kw_1730) dJ6_bitCount_0f7a4_11 ?_
  refine lv_iand hx hb dJ6_bitCount_0f7a4_14 ?_
  refine lv_topi (fun z4 ez4 => ?_)
  obtain rfl : z4 = ((x0 - (((x0.toUInt32 >>> ((1 : Int32).toUInt32 &&& Int32.toUInt32 31)).toInt32) &&& (1431655765 : Int32))) &&& (858993459 : Int32)) := ez4
  refine lv_iload_n hx hb dJ6_bitCount_0f7a4_15 rfl (lv_at hl 0 rfl) ?_
  refine lv_iconst (v := 2) hx hb dJ6_bitCount_0f7a4_16 (by decide) ?_
  refine lv_iushr hx hb dJ6_bitCount_0f7a4_17 rfl ?_
  refine lv_topi (fun z5 ez5 => ?_)
  obtain rfl : z5 = (((x0 - (((x0.toUInt32 >>> ((1 : Int32).toUInt32 &&& Int32.toUInt32 31)).toInt32) &&& (1431655765 : Int32))).toUInt32 >>> ((2 : Int32).toUInt32 &&& Int32.toUInt32 31)).toInt32) := ez5
  refine lv_ldcw hx hb hown (hts _ kw_1730) dJ6_bitCount_0f7a4_18 ?_
  refine lv_iand hx hb dJ6_bitCount_0f7a4_21 ?_
  refine lv_topi (fun z6 ez6 => ?_)
  obtain rfl : z6 = ((((x0 - (((x0.toUInt32 >>> ((1 : Int32).toUInt32 &&& Int32.toUInt32 31)).toInt32) &&& (1431655765 : Int32))).toUInt32 >>> ((2 : Int32).toUInt32 &&& Int32.toUInt32 31)).toInt32) &&& (858993459 : Int32)) := ez6
  refine lv_iadd hx hb dJ6_bitCount_0f7a4_22 ?_
  refine lv_topi (fun z7 ez7 => ?_)
  obtain rfl : z7 = (((x0 - (((x0.toUInt32 >>> ((1 : Int32).toUInt32 &&& Int32.toUInt32 31)).toInt32) &&& (1431655765 : Int32))) &&& (858993459 : Int32)) + ((((x0 - (((x0.toUInt32 >>> ((1 : Int32).toUInt32 &&& Int32.toUInt32 31)).toInt32) &&& (1431655765 : Int32))).toUInt32 >>> ((2 : Int32).toUInt32 &&& Int32.toUInt32 31)).toInt32) &&& (858993459 : Int32))) := ez7
  refine lv_istore_n (lv' := [(0, .int (((x0 - (((x0.toUInt32 >>> ((1 : Int32).toUInt32 &&& Int32.toUInt32 31)).toInt32) &&& (1431655765 : Int32))) &&& (858993459 : Int32)) + ((((x0 - (((x0.toUInt32 >>> ((1 : Int32).toUInt32 &&& Int32.toUInt32 31)).toInt32) &&& (1431655765 : Int32))).toUInt32 >>> ((2 : Int32).toUInt32 &&& Int32.toUInt32 31)).toInt32) &&& (858993459 : Int32))))]) hx hb dJ6_bitCount_0f7a4_23 rfl hl (by decide) rfl (fun ls hl => ?_)
  refine lv_iload_n hx hb dJ6_bitCount_0f7a4_24 rfl (lv_at hl 0 rfl) ?_
  refine lv_iload_n hx hb dJ6_bitCount_0f7a4_25 rfl (lv_at hl 0 rfl) ?_
  refine lv_iconst (v := 4) hx hb dJ6_bitCount_0f7a4_26 (by decide) ?_
  refine lv_iushr hx hb dJ6_bitCount_0f7a4_27 rfl ?_
  refine lv_topi (fun z8 ez8 => ?_)
  obtain rfl : z8 = (((((x0 - (((x0.toUInt32 >>> ((1 : Int32).toUInt32 &&& Int32.toUInt32 31)).toInt32) &&& (1431655765 : Int32))) &&& (858993459 : Int32)) + ((((x0 - (((x0.toUInt32 >>> ((1 : Int32).toUInt32 &&& Int32.toUInt32 31)).toInt32) &&& (1431655765 : Int32))).toUInt32 >>> ((2 : Int32).toUInt32 &&& Int32.toUInt32 31)).toInt32) &&& (858993459 : Int32))).toUInt32 >>> ((4 : Int32).toUInt32 &&& Int32.toUInt32 31)).toInt32) := ez8
  refine lv_iadd hx hb dJ6_bitCount_0f7a4_28 ?_
  refine lv_topi (fun z9 ez9 => ?_)
  obtain rfl : z9 = ((((x0 - (((x0.toUInt32 >>> ((1 : Int32).toUInt32 &&& Int32.toUInt32 31)).toInt32) &&& (1431655765 : Int32))) &&& (858993459 : Int32)) + ((((x0 - (((x0.toUInt32 >>> ((1 : Int32).toUInt32 &&& Int32.toUInt32 31)).toInt32) &&& (1431655765 : Int32))).toUInt32 >>> ((2 : Int32).toUInt32 &&& Int32.toUInt32 31)).toInt32) &&& (858993459 : Int32))) + (((((x0 - (((x0.toUInt32 >>> ((1 : Int32).toUInt32 &&& Int32.toUInt32 31)).toInt32) &&& (1431655765 : Int32))) &&& (858993459 : Int32)) + ((((x0 - (((x0.toUInt32 >>> ((1 : Int32).toUInt32 &&& Int32.toUInt32 31)).toInt32) &&& (1431655765 : Int32))).toUInt32 >>> ((2 : Int32).toUInt32 &&& Int32.toUInt32 31)).toInt32) &&& (858993459 : Int32))).toUInt32 >>> ((4 : Int32).toUInt32 &&& Int32.toUInt32 31)).toInt32)) := ez9
  refine lv_ldcw hx hb hown (hts _ kw_1731) dJ6_bitCount_0f7a4_29 ?_
  refine lv_iand hx hb dJ6_bitCount_0f7a4_32 ?_
  refine lv_topi (fun z10 ez10 => ?_)
  obtain rfl : z10 = (((((x0 - (((x0.toUInt32 >>> ((1 : Int32).toUInt32 &&& Int32.toUInt32 31)).toInt32) &&& (1431655765 : Int32))) &&& (858993459 : Int32)) + ((((x0 - (((x0.toUInt32 >>> ((1 : Int32).toUInt32 &&& Int32.toUInt32 31)).toInt32) &&& (1431655765 : Int32))).toUInt32 >>> ((2 : Int32).toUInt32 &&& Int32.toUInt32 31)).toInt32) &&& (858993459 : Int32))) + (((((x0 - (((x0.toUInt32 >>> ((1 : Int32).toUInt32 &&& Int32.toUInt32 31)).toInt32) &&& (1431655765 : Int32))) &&& (858993459 : Int32)) + ((((x0 - (((x0.toUInt32 >>> ((1 : Int32).toUInt32 &&& Int32.toUInt32 31)).toInt32) &&& (1431655765 : Int32))).toUInt32 >>> ((2 : Int32).toUInt32 &&& Int32.toUInt32 31)).toInt32) &&& (858993459 : Int32))).toUInt32 >>> ((4 : Int32).toUInt32 &&& Int32.toUInt32 31)).toInt32)) &&& (252645135 : Int32)) := ez10
  refine lv_istore_n (lv' := [(0, .int (((((x0 - (((x0.toUInt32 >>> ((1 : Int32).toUInt32 &&& Int32.toUInt32 31)).toInt32) &&& (1431655765 : Int32))) &&& (858993459 : Int32)) + ((((x0 - (((x0.toUInt32 >>> ((1 : Int32).toUInt32 &&& Int32.toUInt32 31)).toInt32) &&& (1431655765 : Int32))).toUInt32 >>> ((2 : Int32).toUInt32 &&& Int32.toUInt32 31)).toInt32) &&& (858993459 : Int32))) + (((((x0 - (((x0.toUInt32 >>> ((1 : Int32).toUInt32 &&& Int32.toUInt32 31)).toInt32) &&& (1431655765 : Int32))) &&& (858993459 : Int32)) + ((((x0 - (((x0.toUInt32 >>> ((1 : Int32).toUInt32 &&& Int32.toUInt32 31)).toInt32) &&& (1431655765 : Int32))).toUInt32 >>> ((2 : Int32).toUInt32 &&& Int32.toUInt32 31)).toInt32) &&& (858993459 : Int32))).toUInt32 >>> ((4 : Int32).toUInt32 &&& Int32.toUInt32 31)).toInt32)) &&& (252645135 : Int32)))]) hx hb dJ6_bitCount_0f7a4_33 rfl hl (by decide) rfl (fun ls hl => ?_)
  refine lv_iload_n hx hb dJ6_bitCount_0f7a4_34 rfl (lv_at hl 0 rfl) ?_
  refine lv_iload_n hx hb dJ6_bitCount_0f7a4_35 rfl (lv_at hl 0 rfl) ?_
  refine lv_bipush (v := 8) hx hb dJ6_bitCount_0f7a4_36 (by decide) ?_
  refine lv_iushr hx hb dJ6_bitCount_0f7a4_38 rfl ?_
  refine lv_topi (fun z11 ez11 => ?_)
  obtain rfl : z11 = (((((((x0 - (((x0.toUInt32 >>> ((1 : Int32).toUInt32 &&& Int32.toUInt32 31)).toInt32) &&& (1431655765 : Int32))) &&& (858993459 : Int32)) + ((((x0 - (((x0.toUInt32 >>> ((1 : Int32).toUInt32 &&& Int32.toUInt32 31)).toInt32) &&& (1431655765 : Int32))).toUInt32 >>> ((2 : Int32).toUInt32 &&& Int32.toUInt32 31)).toInt32) &&& (858993459 : Int32))) + (((((x0 - (((x0.toUInt32 >>> ((1 : Int32).toUInt32 &&& Int32.toUInt32 31)).toInt32) &&& (1431655765 : Int32))) &&& (858993459 : Int32)) + ((((x0 - (((x0.toUInt32 >>> ((1 : Int32).toUInt32 &&& Int32.toUInt32 31)).toInt32) &&& (1431655765 : Int32))).toUInt32 >>> ((2 : Int32).toUInt32 &&& Int32.toUInt32 31)).toInt32) &&& (858993459 : Int32))).toUInt32 >>> ((4 : Int32).toUInt32 &&& Int32.toUInt32 31)).toInt32)) &&& (252645135 : Int32)).toUInt32 >>> ((8 : Int32).toUInt32 &&& Int32.toUInt32 31)).toInt32) := ez11
  refine lv_iadd hx hb dJ6_bitCount_0f7a4_39 ?_
  refine lv_topi (fun z12 ez12 => ?_)
  obtain rfl : z12 = ((((((x0 - (((x0.toUInt32 >>> ((1 : Int32).toUInt32 &&& Int32.toUInt32 31)).toInt32) &&& (1431655765 : Int32))) &&& (858993459 : Int32)) + ((((x0 - (((x0.toUInt32 >>> ((1 : Int32).toUInt32 &&& Int32.toUInt32 31)).toInt32) &&& (1431655765 : Int32))).toUInt32 >>> ((2 : Int32).toUInt32 &&& Int32.toUInt32 31)).toInt32) &&& (858993459 : Int32))) + (((((x0 - (((x0.toUInt32 >>> ((1 : Int32).toUInt32 &&& Int32.toUInt32 31)).toInt32) &&& (1431655765 : Int32))) &&& (858993459 : Int32)) + ((((x0 - (((x0.toUInt32 >>> ((1 : Int32).toUInt32 &&& Int32.toUInt32 31)).toInt32) &&& (1431655765 : Int32))).toUInt32 >>> ((2 : Int32).toUInt32 &&& Int32.toUInt32 31)).toInt32) &&& (858993459 : Int32))).toUInt32 >>> ((4 : Int32).toUInt32 &&& Int32.toUInt32 31)).toInt32)) &&& (252645135 : Int32)) + (((((((x0 - (((x0.toUInt32 >>> ((1 : Int32).toUInt32 &&& Int32.toUInt32 31)).toInt32) &&& (1431655765 : Int32))) &&& (858993459 : Int32)) + ((((x0 - (((x0.toUInt32 >>> ((1 : Int32).toUInt32 &&& Int32.toUInt32 31)).toInt32) &&& (1431655765 : Int32))).toUInt32 >>> ((2 : Int32).toUInt32 &&& Int32.toUInt32 31)).toInt32) &&& (858993459 : Int32))) + (((((x0 - (((x0.toUInt32 >>> ((1 : Int32).toUInt32 &&& Int32.toUInt32 31)).toInt32) &&& (1431655765 : Int32))) &&& (858993459 : Int32)) + ((((x0 - (((x0.toUInt32 >>> ((1 : Int32).toUInt32 &&& Int32.toUInt32 31)).toInt32) &&& (1431655765 : Int32))).toUInt32 >>> ((2 : Int32).toUInt32 &&& Int32.toUInt32 31)).toInt32) &&& (858993459 : Int32))).toUInt32 >>> ((4 : Int32).toUInt32 &&& Int32.toUInt32 31)).toInt32)) &&& (252645135 : Int32)).toUInt32 >>> ((8 : Int32).toUInt32 &&& Int32.toUInt32 31)).toInt32)) := ez12
  refine lv_istore_n (lv' := [(0, .int ((((((x0 - (((x0.toUInt32 >>> ((1 : Int32).toUInt32 &&& Int32.toUInt32 31)).toInt32) &&& (1431655765 : Int32))) &&& (858993459 : Int32)) + ((((x0 - (((x0.toUInt32 >>> ((1 : Int32).toUInt32 &&& Int32.toUInt32 31)).toInt32) &&& (1431655765 : Int32))).toUInt32 >>> ((2 : Int32).toUInt32 &&& Int32.toUInt32 31)).toInt32) &&& (858993459 : Int32))) + (((((x0 - (((x0.toUInt32 >>> ((1 : Int32).toUInt32 &&& Int32.toUInt32 31)).toInt32) &&& (1431655765 : Int32))) &&& (858993459 : Int32)) + ((((x0 - (((x0.toUInt32 >>> ((1 : Int32).toUInt32 &&& Int32.toUInt32 31)).toInt32) &&& (1431655765 : Int32))).toUInt32 >>> ((2 : Int32).toUInt32 &&& Int32.toUInt32 31)).toInt32) &&& (858993459 : Int32))).toUInt32 >>> ((4 : Int32).toUInt32 &&& Int32.toUInt32 31)).toInt32)) &&& (252645135 : Int32)) + (((((((x0 - (((x0.toUInt32 >>> ((1 : Int32).toUInt32 &&& Int32.toUInt32 31)).toInt32) &&& (1431655765 : Int32))) &&& (858993459 : Int32)) + ((((x0 - (((x0.toUInt32 >>> ((1 : Int32).toUInt32 &&& Int32.toUInt32 31)).toInt32) &&& (1431655765 : Int32))).toUInt32 >>> ((2 : Int32).toUInt32 &&& Int32.toUInt32 31)).toInt32) &&& (858993459 : Int32))) + (((((x0 - (((x0.toUInt32 >>> ((1 : Int32).toUInt32 &&& Int32.toUInt32 31)).toInt32) &&& (1431655765 : Int32))) &&& (858993459 : Int32)) + ((((x0 - (((x0.toUInt32 >>> ((1 : Int32).toUInt32 &&& Int32.toUInt32 31)).toInt32) &&& (1431655765 : Int32))).toUInt32 >>> ((2 : Int32).toUInt32 &&& Int32.toUInt32 31)).toInt32) &&& (858993459 : Int32))).toUInt32 >>> ((4 : Int32).toUInt32 &&& Int32.toUInt32 31)).toInt32)) &&& (252645135 : Int32)).toUInt32 >>> ((8 : Int32).toUInt32 &&& Int32.toUInt32 31)).toInt32)))]) hx hb dJ6_bitCount_0f7a4_40 rfl hl (by decide) rfl (fun ls hl => ?_)
  refine lv_iload_n hx hb dJ6_bitCount_0f7a4_41 rfl (lv_at hl 0 rfl) ?_
  refine lv_iload_n hx hb dJ6_bitCount_0f7a4_42 rfl (lv_at hl 0 rfl) ?_
  refine lv_bipush (v := 16) hx hb dJ6_bitCount_0f7a4_43 (by decide) ?_
  refine lv_iushr hx hb dJ6_bitCount_0f7a4_45 rfl ?_
  refine lv_topi (fun z13 ez13 => ?_)
  obtain rfl : z13 = ((((((((x0 - (((x0.toUInt32 >>> ((1 : Int32).toUInt32 &&& Int32.toUInt32 31)).toInt32) &&& (1431655765 : Int32))) &&& (858993459 : Int32)) + ((((x0 - (((x0.toUInt32 >>> ((1 : Int32).toUInt32 &&& Int32.toUInt32 31)).toInt32) &&& (1431655765 : Int32))).toUInt32 >>> ((2 : Int32).toUInt32 &&& Int32.toUInt32 31)).toInt32) &&& (858993459 : Int32))) + (((((x0 - (((x0.toUInt32 >>> ((1 : Int32).toUInt32 &&& Int32.toUInt32 31)).toInt32) &&& (1431655765 : Int32))) &&& (858993459 : Int32)) + ((((x0 - (((x0.toUInt32 >>> ((1 : Int32).toUInt32 &&& Int32.toUInt32 31)).toInt32) &&& (1431655765 : Int32))).toUInt32 >>> ((2 : Int32).toUInt32 &&& Int32.toUInt32 31)).toInt32) &&& (858993459 : Int32))).toUInt32 >>> ((4 : Int32).toUInt32 &&& Int32.toUInt32 31)).toInt32)) &&& (252645135 : Int32)) + (((((((x0 - (((x0.toUInt32 >>> ((1 : Int32).toUInt32 &&& Int32.toUInt32 31)).toInt32) &&& (1431655765 : Int32))) &&& (858993459 : Int32)) + ((((x0 - (((x0.toUInt32 >>> ((1 : Int32).toUInt32 &&& Int32.toUInt32 31)).toInt32) &&& (1431655765 : Int32))).toUInt32 >>> ((2 : Int32).toUInt32 &&& Int32.toUInt32 31)).toInt32) &&& (858993459 : Int32))) + (((((x0 - (((x0.toUInt32 >>> ((1 : Int32).toUInt32 &&& Int32.toUInt32 31)).toInt32) &&& (1431655765 : Int32))) &&& (858993459 : Int32)) + ((((x0 - (((x0.toUInt32 >>> ((1 : Int32).toUInt32 &&& Int32.toUInt32 31)).toInt32) &&& (1431655765 : Int32))).toUInt32 >>> ((2 : Int32).toUInt32 &&& Int32.toUInt32 31)).toInt32) &&& (858993459 : Int32))).toUInt32 >>> ((4 : Int32).toUInt32 &&& Int32.toUInt32 31)).toInt32)) &&& (252645135 : Int32)).toUInt32 >>> ((8 : Int32).toUInt32 &&& Int32.toUInt32 31)).toInt32)).toUInt32 >>> ((16 : Int32).toUInt32 &&& Int32.toUInt32 31)).toInt32) := ez13
  refine lv_iadd hx hb dJ6_bitCount_0f7a4_46 ?_
  refine lv_topi (fun z14 ez14 => ?_)
  obtain rfl : z14 = (((((((x0 - (((x0.toUInt32 >>> ((1 : Int32).toUInt32 &&& Int32.toUInt32 31)).toInt32) &&& (1431655765 : Int32))) &&& (858993459 : Int32)) + ((((x0 - (((x0.toUInt32 >>> ((1 : Int32).toUInt32 &&& Int32.toUInt32 31)).toInt32) &&& (1431655765 : Int32))).toUInt32 >>> ((2 : Int32).toUInt32 &&& Int32.toUInt32 31)).toInt32) &&& (858993459 : Int32))) + (((((x0 - (((x0.toUInt32 >>> ((1 : Int32).toUInt32 &&& Int32.toUInt32 31)).toInt32) &&& (1431655765 : Int32))) &&& (858993459 : Int32)) + ((((x0 - (((x0.toUInt32 >>> ((1 : Int32).toUInt32 &&& Int32.toUInt32 31)).toInt32) &&& (1431655765 : Int32))).toUInt32 >>> ((2 : Int32).toUInt32 &&& Int32.toUInt32 31)).toInt32) &&& (858993459 : Int32))).toUInt32 >>> ((4 : Int32).toUInt32 &&& Int32.toUInt32 31)).toInt32)) &&& (252645135 : Int32)) + (((((((x0 - (((x0.toUInt32 >>> ((1 : Int32).toUInt32 &&& Int32.toUInt32 31)).toInt32) &&& (1431655765 : Int32))) &&& (858993459 : Int32)) + ((((x0 - (((x0.toUInt32 >>> ((1 : Int32).toUInt32 &&& Int32.toUInt32 31)).toInt32) &&& (1431655765 : Int32))).toUInt32 >>> ((2 : Int32).toUInt32 &&& Int32.toUInt32 31)).toInt32) &&& (858993459 : Int32))) + (((((x0 - (((x0.toUInt32 >>> ((1 : Int32).toUInt32 &&& Int32.toUInt32 31)).toInt32) &&& (1431655765 : Int32))) &&& (858993459 : Int32)) + ((((x0 - (((x0.toUInt32 >>> ((1 : Int32).toUInt32 &&& Int32.toUInt32 31)).toInt32) &&& (1431655765 : Int32))).toUInt32 >>> ((2 : Int32).toUInt32 &&& Int32.toUInt32 31)).toInt32) &&& (858993459 : Int32))).toUInt32 >>> ((4 : Int32).toUInt32 &&& Int32.toUInt32 31)).toInt32)) &&& (252645135 : Int32)).toUInt32 >>> ((8 : Int32).toUInt32 &&& Int32.toUInt32 31)).toInt32)) + ((((((((x0 - (((x0.toUInt32 >>> ((1 : Int32).toUInt32 &&& Int32.toUInt32 31)).toInt32) &&& (1431655765 : Int32))) &&& (858993459 : Int32)) + ((((x0 - (((x0.toUInt32 >>> ((1 : Int32).toUInt32 &&& Int32.toUInt32 31)).toInt32) &&& (1431655765 : Int32))).toUInt32 >>> ((2 : Int32).toUInt32 &&& Int32.toUInt32 31)).toInt32) &&& (858993459 : Int32))) + (((((x0 - (((x0.toUInt32 >>> ((1 : Int32).toUInt32 &&& Int32.toUInt32 31)).toInt32) &&& (1431655765 : Int32))) &&& (858993459 : Int32)) + ((((x0 - (((x0.toUInt32 >>> ((1 : Int32).toUInt32 &&& Int32.toUInt32 31)).toInt32) &&& (1431655765 : Int32))).toUInt32 >>> ((2 : Int32).toUInt32 &&& Int32.toUInt32 31)).toInt32) &&& (858993459 : Int32))).toUInt32 >>> ((4 : Int32).toUInt32 &&& Int32.toUInt32 31)).toInt32)) &&& (252645135 : Int32)) + (((((((x0 - (((x0.toUInt32 >>> ((1 : Int32).toUInt32 &&& Int32.toUInt32 31)).toInt32) &&& (1431655765 : Int32))) &&& (858993459 : Int32)) + ((((x0 - (((x0.toUInt32 >>> ((1 : Int32).toUInt32 &&& Int32.toUInt32 31)).toInt32) &&& (1431655765 : Int32))).toUInt32 >>> ((2 : Int32).toUInt32 &&& Int32.toUInt32 31)).toInt32) &&& (858993459 : Int32))) + (((((x0 - (((x0.toUInt32 >>> ((1 : Int32).toUInt32 &&& Int32.toUInt32 31)).toInt32) &&& (1431655765 : Int32))) &&& (858993459 : Int32)) + ((((x0 - (((x0.toUInt32 >>> ((1 : Int32).toUInt32 &&& Int32.toUInt32 31)).toInt32) &&& (1431655765 : Int32))).toUInt32 >>> ((2 : Int32).toUInt32 &&& Int32.toUInt32 31)).toInt32) &&& (858993459 : Int32))).toUInt32 >>> ((4 : Int32).toUInt32 &&& Int32.toUInt32 31)).toInt32)) &&& (252645135 : Int32)).toUInt32 >>> ((8 : Int32).toUInt32 &&& Int32.toUInt32 31)).toInt32)).toUInt32 >>> ((16 : Int32).toUInt32 &&& Int32.toUInt32 31)).toInt32)) := ez14
  refine lv_istore_n (lv' := [(0, .int (((((((x0 - (((x0.toUInt32 >>> ((1 : Int32).toUInt32 &&& Int32.toUInt32 31)).toInt32) &&& (1431655765 : Int32))) &&& (858993459 : Int32)) + ((((x0 - (((x0.toUInt32 >>> ((1 : Int32).toUInt32 &&& Int32.toUInt32 31)).toInt32) &&& (1431655765 : Int32))).toUInt32 >>> ((2 : Int32).toUInt32 &&& Int32.toUInt32 31)).toInt32) &&& (858993459 : Int32))) + (((((x0 - (((x0.toUInt32 >>> ((1 : Int32).toUInt32 &&& Int32.toUInt32 31)).toInt32) &&& (1431655765 : Int32))) &&& (858993459 : Int32)) + ((((x0 - (((x0.toUInt32 >>> ((1 : Int32).toUInt32 &&& Int32.toUInt32 31)).toInt32) &&& (1431655765 : Int32))).toUInt32 >>> ((2 : Int32).toUInt32 &&& Int32.toUInt32 31)).toInt32) &&& (858993459 : Int32))).toUInt32 >>> ((4 : Int32).toUInt32 &&& Int32.toUInt32 31)).toInt32)) &&& (252645135 : Int32)) + (((((((x0 - (((x0.toUInt32 >>> ((1 : Int32).toUInt32 &&& Int32.toUInt32 31)).toInt32) &&& (1431655765 : Int32))) &&& (858993459 : Int32)) + ((((x0 - (((x0.toUInt32 >>> ((1 : Int32).toUInt32 &&& Int32.toUInt32 31)).toInt32) &&& (1431655765 : Int32))).toUInt32 >>> ((2 : Int32).toUInt32 &&& Int32.toUInt32 31)).toInt32) &&& (858993459 : Int32))) + (((((x0 - (((x0.toUInt32 >>> ((1 : Int32).toUInt32 &&& Int32.toUInt32 31)).toInt32) &&& (1431655765 : Int32))) &&& (858993459 : Int32)) + ((((x0 - (((x0.toUInt32 >>> ((1 : Int32).toUInt32 &&& Int32.toUInt32 31)).toInt32) &&& (1431655765 : Int32))).toUInt32 >>> ((2 : Int32).toUInt32 &&& Int32.toUInt32 31)).toInt32) &&& (858993459 : Int32))).toUInt32 >>> ((4 : Int32).toUInt32 &&& Int32.toUInt32 31)).toInt32)) &&& (252645135 : Int32)).toUInt32 >>> ((8 : Int32).toUInt32 &&& Int32.toUInt32 31)).toInt32)) + ((((((((x0 - (((x0.toUInt32 >>> ((1 : Int32).toUInt32 &&& Int32.toUInt32 31)).toInt32) &&& (1431655765 : Int32))) &&& (858993459 : Int32)) + ((((x0 - (((x0.toUInt32 >>> ((1 : Int32).toUInt32 &&& Int32.toUInt32 31)).toInt32) &&& (1431655765 : Int32))).toUInt32 >>> ((2 : Int32).toUInt32 &&& Int32.toUInt32 31)).toInt32) &&& (858993459 : Int32))) + (((((x0 - (((x0.toUInt32 >>> ((1 : Int32).toUInt32 &&& Int32.toUInt32 31)).toInt32) &&& (1431655765 : Int32))) &&& (858993459 : Int32)) + ((((x0 - (((x0.toUInt32 >>> ((1 : Int32).toUInt32 &&& Int32.toUInt32 31)).toInt32) &&& (1431655765 : Int32))).toUInt32 >>> ((2 : Int32).toUInt32 &&& Int32.toUInt32 31)).toInt32) &&& (858993459 : Int32))).toUInt32 >>> ((4 : Int32).toUInt32 &&& Int32.toUInt32 31)).toInt32)) &&& (252645135 : Int32)) + (((((((x0 - (((x0.toUInt32 >>> ((1 : Int32).toUInt32 &&& Int32.toUInt32 31)).toInt32) &&& (1431655765 : Int32))) &&& (858993459 : Int32)) + ((((x0 - (((x0.toUInt32 >>> ((1 : Int32).toUInt32 &&& Int32.toUInt32 31)).toInt32) &&& (1431655765 : Int32))).toUInt32 >>> ((2 : Int32).toUInt32 &&& Int32.toUInt32 31)).toInt32) &&& (858993459 : Int32))) + (((((x0 - (((x0.toUInt32 >>> ((1 : Int32).toUInt32 &&& Int32.toUInt32 31)).toInt32) &&& (1431655765 : Int32))) &&& (858993459 : Int32)) + ((((x0 - (((x0.toUInt32 >>> ((1 : Int32).toUInt32 &&& Int32.toUInt32 31)).toInt32) &&& (1431655765 : Int32))).toUInt32 >>> ((2 : Int32).toUInt32 &&& Int32.toUInt32 31)).toInt32) &&& (858993459 : Int32))).toUInt32 >>> ((4 : Int32).toUInt32 &&& Int32.toUInt32 31)).toInt32)) &&& (252645135 : Int32)).toUInt32 >>> ((8 : Int32).toUInt32 &&& Int32.toUInt32 31)).toInt32)).toUInt32 >>> ((16 : Int32).toUInt32 &&& Int32.toUInt32 31)).toInt32)))]) hx hb dJ6_bitCount_0f7a4_47 rfl hl (by decide) rfl (fun ls hl => ?_)
  refine lv_iload_n hx hb dJ6_bitCount_0f7a4_48 rfl (lv_at hl 0 rfl) ?_
  refine lv_bipush (v := 63) hx hb dJ6_bitCount_0f7a4_49 (by decide) ?_
  refine lv_iand hx hb dJ6_bitCount_0f7a4_51 ?_
  refine lv_topi (fun z15 ez15 => ?_)
  obtain rfl : z15 = ((((((((x0 - (((x0.toUInt32 >>> ((1 : Int32).toUInt32 &&& Int32.toUInt32 31)).toInt32) &&& (1431655765 : Int32))) &&& (858993459 : Int32)) + ((((x0 - (((x0.toUInt32 >>> ((1 : Int32).toUInt32 &&& Int32.toUInt32 31)).toInt32) &&& (1431655765 : Int32))).toUInt32 >>> ((2 : Int32).toUInt32 &&& Int32.toUInt32 31)).toInt32) &&& (858993459 : Int32))) + (((((x0 - (((x0.toUInt32 >>> ((1 : Int32).toUInt32 &&& Int32.toUInt32 31)).toInt32) &&& (1431655765 : Int32))) &&& (858993459 : Int32)) + ((((x0 - (((x0.toUInt32 >>> ((1 : Int32).toUInt32 &&& Int32.toUInt32 31)).toInt32) &&& (1431655765 : Int32))).toUInt32 >>> ((2 : Int32).toUInt32 &&& Int32.toUInt32 31)).toInt32) &&& (858993459 : Int32))).toUInt32 >>> ((4 : Int32).toUInt32 &&& Int32.toUInt32 31)).toInt32)) &&& (252645135 : Int32)) + (((((((x0 - (((x0.toUInt32 >>> ((1 : Int32).toUInt32 &&& Int32.toUInt32 31)).toInt32) &&& (1431655765 : Int32))) &&& (858993459 : Int32)) + ((((x0 - (((x0.toUInt32 >>> ((1 : Int32).toUInt32 &&& Int32.toUInt32 31)).toInt32) &&& (1431655765 : Int32))).toUInt32 >>> ((2 : Int32).toUInt32 &&& Int32.toUInt32 31)).toInt32) &&& (858993459 : Int32))) + (((((x0 - (((x0.toUInt32 >>> ((1 : Int32).toUInt32 &&& Int32.toUInt32 31)).toInt32) &&& (1431655765 : Int32))) &&& (858993459 : Int32)) + ((((x0 - (((x0.toUInt32 >>> ((1 : Int32).toUInt32 &&& Int32.toUInt32 31)).toInt32) &&& (1431655765 : Int32))).toUInt32 >>> ((2 : Int32).toUInt32 &&& Int32.toUInt32 31)).toInt32) &&& (858993459 : Int32))).toUInt32 >>> ((4 : Int32).toUInt32 &&& Int32.toUInt32 31)).toInt32)) &&& (252645135 : Int32)).toUInt32 >>> ((8 : Int32).toUInt32 &&& Int32.toUInt32 31)).toInt32)) + ((((((((x0 - (((x0.toUInt32 >>> ((1 : Int32).toUInt32 &&& Int32.toUInt32 31)).toInt32) &&& (1431655765 : Int32))) &&& (858993459 : Int32)) + ((((x0 - (((x0.toUInt32 >>> ((1 : Int32).toUInt32 &&& Int32.toUInt32 31)).toInt32) &&& (1431655765 : Int32))).toUInt32 >>> ((2 : Int32).toUInt32 &&& Int32.toUInt32 31)).toInt32) &&& (858993459 : Int32))) + (((((x0 - (((x0.toUInt32 >>> ((1 : Int32).toUInt32 &&& Int32.toUInt32 31)).toInt32) &&& (1431655765 : Int32))) &&& (858993459 : Int32)) + ((((x0 - (((x0.toUInt32 >>> ((1 : Int32).toUInt32 &&& Int32.toUInt32 31)).toInt32) &&& (1431655765 : Int32))).toUInt32 >>> ((2 : Int32).toUInt32 &&& Int32.toUInt32 31)).toInt32) &&& (858993459 : Int32))).toUInt32 >>> ((4 : Int32).toUInt32 &&& Int32.toUInt32 31)).toInt32)) &&& (252645135 : Int32)) + (((((((x0 - (((x0.toUInt32 >>> ((1 : Int32).toUInt32 &&& Int32.toUInt32 31)).toInt32) &&& (1431655765 : Int32))) &&& (858993459 : Int32)) + ((((x0 - (((x0.toUInt32 >>> ((1 : Int32).toUInt32 &&& Int32.toUInt32 31)).toInt32) &&& (1431655765 : Int32))).toUInt32 >>> ((2 : Int32).toUInt32 &&& Int32.toUInt32 31)).toInt32) &&& (858993459 : Int32))) + (((((x0 - (((x0.toUInt32 >>> ((1 : Int32).toUInt32 &&& Int32.toUInt32 31)).toInt32) &&& (1431655765 : Int32))) &&& (858993459 : Int32)) + ((((x0 - (((x0.toUInt32 >>> ((1 : Int32).toUInt32 &&& Int32.toUInt32 31)).toInt32) &&& (1431655765 : Int32))).toUInt32 >>> ((2 : Int32).toUInt32 &&& Int32.toUInt32 31)).toInt32) &&& (858993459 : Int32))).toUInt32 >>> ((4 : Int32).toUInt32 &&& Int32.toUInt32 31)).toInt32)) &&& (252645135 : Int32)).toUInt32 >>> ((8 : Int32).toUInt32 &&& Int32.toUInt32 31)).toInt32)).toUInt32 >>> ((16 : Int32).toUInt32 &&& Int32.toUInt32 31)).toInt32)) &&& (63 : Int32)) := ez15
  exact W.iret (v := ((((((((x0 - (((x0.toUInt32 >>> ((1 : Int32).toUInt32 &&& Int32.toUInt32 31)).toInt32) &&& (1431655765 : Int32))) &&& (858993459 : Int32)) + ((((x0 - (((x0.toUInt32 >>> ((1 : Int32).toUInt32 &&& Int32.toUInt32 31)).toInt32) &&& (1431655765 : Int32))).toUInt32 >>> ((2 : Int32).toUInt32 &&& Int32.toUInt32 31)).toInt32) &&& (858993459 : Int32))) + (((((x0 - (((x0.toUInt32 >>> ((1 : Int32).toUInt32 &&& Int32.toUInt32 31)).toInt32) &&& (1431655765 : Int32))) &&& (858993459 : Int32)) + ((((x0 - (((x0.toUInt32 >>> ((1 : Int32).toUInt32 &&& Int32.toUInt32 31)).toInt32) &&& (1431655765 : Int32))).toUInt32 >>> ((2 : Int32).toUInt32 &&& Int32.toUInt32 31)).toInt32) &&& (858993459 : Int32))).toUInt32 >>> ((4 : Int32).toUInt32 &&& Int32.toUInt32 31)).toInt32)) &&& (252645135 : Int32)) + (((((((x0 - (((x0.toUInt32 >>> ((1 : Int32).toUInt32 &&& Int32.toUInt32 31)).toInt32) &&& (1431655765 : Int32))) &&& (858993459 : Int32)) + ((((x0 - (((x0.toUInt32 >>> ((1 : Int32).toUInt32 &&& Int32.toUInt32 31)).toInt32) &&& (1431655765 : Int32))).toUInt32 >>> ((2 : Int32).toUInt32 &&& Int32.toUInt32 31)).toInt32) &&& (858993459 : Int32))) + (((((x0 - (((x0.toUInt32 >>> ((1 : Int32).toUInt32 &&& Int32.toUInt32 31)).toInt32) &&& (1431655765 : Int32))) &&& (858993459 : Int32)) + ((((x0 - (((x0.toUInt32 >>> ((1 : Int32).toUInt32 &&& Int32.toUInt32 31)).toInt32) &&& (1431655765 : Int32))).toUInt32 >>> ((2 : Int32).toUInt32 &&& Int32.toUInt32 31)).toInt32) &&& (858993459 : Int32))).toUInt32 >>> ((4 : Int32).toUInt32 &&& Int32.toUInt32 31)).toInt32)) &&& (252645135 : Int32)).toUInt32 >>> ((8 : Int32).toUInt32 &&& Int32.toUInt32 31)).toInt32)) + ((((((((x0 - (((x0.toUInt32 >>> ((1 : Int32).toUInt32 &&& Int32.toUInt32 31)).toInt32) &&& (1431655765 : Int32))) &&& (858993459 : Int32)) + ((((x0 - (((x0.toUInt32 >>> ((1 : Int32).toUInt32 &&& Int32.toUInt32 31)).toInt32) &&& (1431655765 : Int32))).toUInt32 >>> ((2 : Int32).toUInt32 &&& Int32.toUInt32 31)).toInt32) &&& (858993459 : Int32))) + (((((x0 - (((x0.toUInt32 >>> ((1 : Int32).toUInt32 &&& Int32.toUInt32 31)).toInt32) &&& (1431655765 : Int32))) &&& (858993459 : Int32)) + ((((x0 - (((x0.toUInt32 >>> ((1 : Int32).toUInt32 &&& Int32.toUInt32 31)).toInt32) &&& (1431655765 : Int32))).toUInt32 >>> ((2 : Int32).toUInt32 &&& Int32.toUInt32 31)).toInt32) &&& (858993459 : Int32))).toUInt32 >>> ((4 : Int32).toUInt32 &&& Int32.toUInt32 31)).toInt32)) &&& (252645135 : Int32)) + (((((((x0 - (((x0.toUInt32 >>> ((1 : Int32).toUInt32 &&& Int32.toUInt32 31)).toInt32) &&& (1431655765 : Int32))) &&& (858993459 : Int32)) + ((((x0 - (((x0.toUInt32 >>> ((1 : Int32).toUInt32 &&& Int32.toUInt32 31)).toInt32) &&& (1431655765 : Int32))).toUInt32 >>> ((2 : Int32).toUInt32 &&& Int32.toUInt32 31)).toInt32) &&& (858993459 : Int32))) + (((((x0 - (((x0.toUInt32 >>> ((1 : Int32).toUInt32 &&& Int32.toUInt32 31)).toInt32) &&& (1431655765 : Int32))) &&& (858993459 : Int32)) + ((((x0 - (((x0.toUInt32 >>> ((1 : Int32).toUInt32 &&& Int32.toUInt32 31)).toInt32) &&& (1431655765 : Int32))).toUInt32 >>> ((2 : Int32).toUInt32 &&& Int32.toUInt32 31)).toInt32) &&& (858993459 : Int32))).toUInt32 >>> ((4 : Int32).toUInt32 &&& Int32.toUInt32 31)).toInt32)) &&& (252645135 : Int32)).toUInt32 >>> ((8 : Int32).toUInt32 &&& Int32.toUInt32 31)).toInt32)).toUInt32 >>> ((16 : Int32).toUInt32 &&& Int32.toUInt32 31)).toInt32)) &&& (63 : Int32))) hx hb hr (fun t9 ht9 hW9 => ⟨⟨_, (), rfl, hf.trans hf0.symm, ⟨by rw [ht9]; exact hR.P, hR.D⟩⟩, hR.sS.F ht9⟩) hR.sS.2.2 dJ6_bitCount_0f7a4_52
def fJ13_bitCount_95d88 (S : MS) (y0 : Int64) : Int32 := ((((((((((y0 - (((y0.toUInt64 >>> ((1 : Int32).toInt64.toUInt64 &&& Int64.toUInt64 63)).toInt64) &&& (6148914691236517205 : Int64))) &&& (3689348814741910323 : Int64)) + ((((y0 - (((y0.toUInt64 >>> ((1 : Int32).toInt64.toUInt64 &&& Int64.toUInt64 63)).toInt64) &&& (6148914691236517205 : Int64))).toUInt64 >>> ((2 : Int32).toInt64.toUInt64 &&& Int64.toUInt64 63)).toInt64) &&& (3689348814741910323 : Int64))) + (((((y0 - (((y0.toUInt64 >>> ((1 : Int32).toInt64.toUInt64 &&& Int64.toUInt64 63)).toInt64) &&& (6148914691236517205 : Int64))) &&& (3689348814741910323 : Int64)) + ((((y0 - (((y0.toUInt64 >>> ((1 : Int32).toInt64.toUInt64 &&& Int64.toUInt64 63)).toInt64) &&& (6148914691236517205 : Int64))).toUInt64 >>> ((2 : Int32).toInt64.toUInt64 &&& Int64.toUInt64 63)).toInt64) &&& (3689348814741910323 : Int64))).toUInt64 >>> ((4 : Int32).toInt64.toUInt64 &&& Int64.toUInt64 63)).toInt64)) &&& (1085102592571150095 : Int64)) + (((((((y0 - (((y0.toUInt64 >>> ((1 : Int32).toInt64.toUInt64 &&& Int64.toUInt64 63)).toInt64) &&& (6148914691236517205 : Int64))) &&& (3689348814741910323 : Int64)) + ((((y0 - (((y0.toUInt64 >>> ((1 : Int32).toInt64.toUInt64 &&& Int64.toUInt64 63)).toInt64) &&& (6148914691236517205 : Int64))).toUInt64 >>> ((2 : Int32).toInt64.toUInt64 &&& Int64.toUInt64 63)).toInt64) &&& (3689348814741910323 : Int64))) + (((((y0 - (((y0.toUInt64 >>> ((1 : Int32).toInt64.toUInt64 &&& Int64.toUInt64 63)).toInt64) &&& (6148914691236517205 : Int64))) &&& (3689348814741910323 : Int64)) + ((((y0 - (((y0.toUInt64 >>> ((1 : Int32).toInt64.toUInt64 &&& Int64.toUInt64 63)).toInt64) &&& (6148914691236517205 : Int64))).toUInt64 >>> ((2 : Int32).toInt64.toUInt64 &&& Int64.toUInt64 63)).toInt64) &&& (3689348814741910323 : Int64))).toUInt64 >>> ((4 : Int32).toInt64.toUInt64 &&& Int64.toUInt64 63)).toInt64)) &&& (1085102592571150095 : Int64)).toUInt64 >>> ((8 : Int32).toInt64.toUInt64 &&& Int64.toUInt64 63)).toInt64)) + ((((((((y0 - (((y0.toUInt64 >>> ((1 : Int32).toInt64.toUInt64 &&& Int64.toUInt64 63)).toInt64) &&& (6148914691236517205 : Int64))) &&& (3689348814741910323 : Int64)) + ((((y0 - (((y0.toUInt64 >>> ((1 : Int32).toInt64.toUInt64 &&& Int64.toUInt64 63)).toInt64) &&& (6148914691236517205 : Int64))).toUInt64 >>> ((2 : Int32).toInt64.toUInt64 &&& Int64.toUInt64 63)).toInt64) &&& (3689348814741910323 : Int64))) + (((((y0 - (((y0.toUInt64 >>> ((1 : Int32).toInt64.toUInt64 &&& Int64.toUInt64 63)).toInt64) &&& (6148914691236517205 : Int64))) &&& (3689348814741910323 : Int64)) + ((((y0 - (((y0.toUInt64 >>> ((1 : Int32).toInt64.toUInt64 &&& Int64.toUInt64 63)).toInt64) &&& (6148914691236517205 : Int64))).toUInt64 >>> ((2 : Int32).toInt64.toUInt64 &&& Int64.toUInt64 63)).toInt64) &&& (3689348814741910323 : Int64))).toUInt64 >>> ((4 : Int32).toInt64.toUInt64 &&& Int64.toUInt64 63)).toInt64)) &&& (1085102592571150095 : Int64)) + (((((((y0 - (((y0.toUInt64 >>> ((1 : Int32).toInt64.toUInt64 &&& Int64.toUInt64 63)).toInt64) &&& (6148914691236517205 : Int64))) &&& (3689348814741910323 : Int64)) + ((((y0 - (((y0.toUInt64 >>> ((1 : Int32).toInt64.toUInt64 &&& Int64.toUInt64 63)).toInt64) &&& (6148914691236517205 : Int64))).toUInt64 >>> ((2 : Int32).toInt64.toUInt64 &&& Int64.toUInt64 63)).toInt64) &&& (3689348814741910323 : Int64))) + (((((y0 - (((y0.toUInt64 >>> ((1 : Int32).toInt64.toUInt64 &&& Int64.toUInt64 63)).toInt64) &&& (6148914691236517205 : Int64))) &&& (3689348814741910323 : Int64)) + ((((y0 - (((y0.toUInt64 >>> ((1 : Int32).toInt64.toUInt64 &&& Int64.toUInt64 63)).toInt64) &&& (6148914691236517205 : Int64))).toUInt64 >>> ((2 : Int32).toInt64.toUInt64 &&& Int64.toUInt64 63)).toInt64) &&& (3689348814741910323 : Int64))).toUInt64 >>> ((4 : Int32).toInt64.toUInt64 &&& Int64.toUInt64 63)).toInt64)) &&& (1085102592571150095 : Int64)).toUInt64 >>> ((8 : Int32).toInt64.toUInt64 &&& Int64.toUInt64 63)).toInt64)).toUInt64 >>> ((16 : Int32).toInt64.toUInt64 &&& Int64.toUInt64 63)).toInt64)) + (((((((((y0 - (((y0.toUInt64 >>> ((1 : Int32).toInt64.toUInt64 &&& Int64.toUInt64 63)).toInt64) &&& (6148914691236517205 : Int64))) &&& (3689348814741910323 : Int64)) + ((((y0 - (((y0.toUInt64 >>> ((1 : Int32).toInt64.toUInt64 &&& Int64.toUInt64 63)).toInt64) &&& (6148914691236517205 : Int64))).toUInt64 >>> ((2 : Int32).toInt64.toUInt64 &&& Int64.toUInt64 63)).toInt64) &&& (3689348814741910323 : Int64))) + (((((y0 - (((y0.toUInt64 >>> ((1 : Int32).toInt64.toUInt64 &&& Int64.toUInt64 63)).toInt64) &&& (6148914691236517205 : Int64))) &&& (3689348814741910323 : Int64)) + ((((y0 - (((y0.toUInt64 >>> ((1 : Int32).toInt64.toUInt64 &&& Int64.toUInt64 63)).toInt64) &&& (6148914691236517205 : Int64))).toUInt64 >>> ((2 : Int32).toInt64.toUInt64 &&& Int64.toUInt64 63)).toInt64) &&& (3689348814741910323 : Int64))).toUInt64 >>> ((4 : Int32).toInt64.toUInt64 &&& Int64.toUInt64 63)).toInt64)) &&& (1085102592571150095 : Int64)) + (((((((y0 - (((y0.toUInt64 >>> ((1 : Int32).toInt64.toUInt64 &&& Int64.toUInt64 63)).toInt64) &&& (6148914691236517205 : Int64))) &&& (3689348814741910323 : Int64)) + ((((y0 - (((y0.toUInt64 >>> ((1 : Int32).toInt64.toUInt64 &&& Int64.toUInt64 63)).toInt64) &&& (6148914691236517205 : Int64))).toUInt64 >>> ((2 : Int32).toInt64.toUInt64 &&& Int64.toUInt64 63)).toInt64) &&& (3689348814741910323 : Int64))) + (((((y0 - (((y0.toUInt64 >>> ((1 : Int32).toInt64.toUInt64 &&& Int64.toUInt64 63)).toInt64) &&& (6148914691236517205 : Int64))) &&& (3689348814741910323 : Int64)) + ((((y0 - (((y0.toUInt64 >>> ((1 : Int32).toInt64.toUInt64 &&& Int64.toUInt64 63)).toInt64) &&& (6148914691236517205 : Int64))).toUInt64 >>> ((2 : Int32).toInt64.toUInt64 &&& Int64.toUInt64 63)).toInt64) &&& (3689348814741910323 : Int64))).toUInt64 >>> ((4 : Int32).toInt64.toUInt64 &&& Int64.toUInt64 63)).toInt64)) &&& (1085102592571150095 : Int64)).toUInt64 >>> ((8 : Int32).toInt64.toUInt64 &&& Int64.toUInt64 63)).toInt64)) + ((((((((y0 - (((y0.toUInt64 >>> ((1 : Int32).toInt64.toUInt64 &&& Int64.toUInt64 63)).toInt64) &&& (6148914691236517205 : Int64))) &&& (3689348814741910323 : Int64)) + ((((y0 - (((y0.toUInt64 >>> ((1 : Int32).toInt64.toUInt64 &&& Int64.toUInt64 63)).toInt64) &&& (6148914691236517205 : Int64))).toUInt64 >>> ((2 : Int32).toInt64.toUInt64 &&& Int64.toUInt64 63)).toInt64) &&& (3689348814741910323 : Int64))) + (((((y0 - (((y0.toUInt64 >>> ((1 : Int32).toInt64.toUInt64 &&& Int64.toUInt64 63)).toInt64) &&& (6148914691236517205 : Int64))) &&& (3689348814741910323 : Int64)) + ((((y0 - (((y0.toUInt64 >>> ((1 : Int32).toInt64.toUInt64 &&& Int64.toUInt64 63)).toInt64) &&& (6148914691236517205 : Int64))).toUInt64 >>> ((2 : Int32).toInt64.toUInt64 &&& Int64.toUInt64 63)).toInt64) &&& (3689348814741910323 : Int64))).toUInt64 >>> ((4 : Int32).toInt64.toUInt64 &&& Int64.toUInt64 63)).toInt64)) &&& (1085102592571150095 : Int64)) + (((((((y0 - (((y0.toUInt64 >>> ((1 : Int32).toInt64.toUInt64 &&& Int64.toUInt64 63)).toInt64) &&& (6148914691236517205 : Int64))) &&& (3689348814741910323 : Int64)) + ((((y0 - (((y0.toUInt64 >>> ((1 : Int32).toInt64.toUInt64 &&& Int64.toUInt64 63)).toInt64) &&& (6148914691236517205 : Int64))).toUInt64 >>> ((2 : Int32).toInt64.toUInt64 &&& Int64.toUInt64 63)).toInt64) &&& (3689348814741910323 : Int64))) + (((((y0 - (((y0.toUInt64 >>> ((1 : Int32).toInt64.toUInt64 &&& Int64.toUInt64 63)).toInt64) &&& (6148914691236517205 : Int64))) &&& (3689348814741910323 : Int64)) + ((((y0 - (((y0.toUInt64 >>> ((1 : Int32).toInt64.toUInt64 &&& Int64.toUInt64 63)).toInt64) &&& (6148914691236517205 : Int64))).toUInt64 >>> ((2 : Int32).toInt64.toUInt64 &&& Int64.toUInt64 63)).toInt64) &&& (3689348814741910323 : Int64))).toUInt64 >>> ((4 : Int32).toInt64.toUInt64 &&& Int64.toUInt64 63)).toInt64)) &&& (1085102592571150095 : Int64)).toUInt64 >>> ((8 : Int32).toInt64.toUInt64 &&& Int64.toUInt64 63)).toInt64)).toUInt64 >>> ((16 : Int32).toInt64.toUInt64 &&& Int64.toUInt64 63)).toInt64)).toUInt64 >>> ((32 : Int32).toInt64.toUInt64 &&& Int64.toUInt64 63)).toInt64)).toInt32) &&& (127 : Int32))
def d_J13_bitCount_95d88 (S : MS) (y0 : Int64) : Prop := True
set_option maxHeartbeats 2000000 in
set_option maxRecDepth 100000 in
theorem rJ13_bitCount_95d88 (l : Launch) (g : Gr) (ad : Nat → Nat) (sz : Nat) (S : MS) (y0 : Int64) (hw : wfC S) (hd : d_J13_bitCount_95d88 S y0) : Met l yJ13_bitCount_95d88 (wt yJ13_bitCount_95d88 cJ13_bitCount_95d88 2 (some .int)) ({ frames := 0, cells := 0, slots := 0, locals := 0 }) (va_Pc [.long y0] (st_C g ad sz S)) (va_Qi (fun (r : Int32) (_ : Unit) => r = fJ13_bitCount_95d88 S y0) (fun (_ : Unit) (t : State) => qEC g ad (va_A (WdC g ad S) sz) S t) (va_A (WdC g ad S) sz)) 0 0 (va_A (WdC g ad S) sz) := by
  refine Met.ofW (cc := cJ13_bitCount_95d88) (maxL := 2) (ret := (some .int)) (by decide) rfl ?_
  intro p e s m args below meth c s₁ B hml hv
  obtain ⟨rfl, hsz, hP, hK, hD0, hex, hE⟩ := hv
  have hx := B.exec
  have hb := B.bytes
  have hr := B.returns
  have hts0 := atoms_spec (ws := wt yJ13_bitCount_95d88 cJ13_bitCount_95d88 2 (some .int)) B.pre
  have hts : ∀ w ∈ tb, w.before _ s = true := fun w h => hts0 w (List.mem_cons_of_mem _ h)
  have hown : s.vm.findClass RJ13 = some m.cls := findClass_of_methodNamed B.named
  subst hsz
  have hD := hD0.self (sz := s.heap.size)
  generalize hAe : va_A (WdC g ad S) s.heap.size = A at hD hE ⊢
  have hA : ∀ q : Nat, s.heap.size ≤ q → A q := fun q h => by rw [← hAe]; exact Or.inr h
  have hR : RepC g ad A s S s.heap [] := ⟨hK, hP, hD, va_S.rf, hw⟩
  clear hK hP hD hD0
  have hl := lv_entry ([.long y0]) (n := 2) (Nat.le_of_ble_eq_true rfl)
  rw [lg_entry_eq]
  generalize (lg_sl ([.long y0]) ++ List.replicate (2 - (lg_sl ([.long y0])).length) Slot.unset).toArray = ls at hl ⊢
  have hl : lv_has ls 2 [(0, .long y0)] := hl
  obtain ⟨r0, hf⟩ : ∃ r0, fJ13_bitCount_95d88 S y0 = r0 := ⟨_, rfl⟩
  have hf0 := hf
  unfold fJ13_bitCount_95d88 at hf
  unfold d_J13_bitCount_95d88 at hd
  refine lv_lload_n hx hb dJ13_bitCount_95d88_0 rfl (lv_at hl 0 rfl) ?_
  refine lv_lload_n hx hb dJ13_bitCount_95d88_1 rfl (lv_at hl 0 rfl) ?_
  refine lv_iconst (v := 1) hx hb dJ13_bitCount_95d88_2 (by decide) ?_
  refine lv_lushr (v := ((y0.toUInt64 >>> ((1 : Int32).toInt64.toUInt64 &&& Int64.toUInt64 63)).toInt64)) hx hb dJ13_bitCount_95d88_3 rfl ?_
  refine lv_ldc2 hx hb hown (hts _ kw_1734) dJ13_bitCount_95d88_4 ?_
  refine lv_land hx hb dJ13_bitCount_95d88_7 ?_
  refine lv_topl (fun z1 ez1 => ?_)
  obtain rfl : z1 = (((y0.toUInt64 >>> ((1 : Int32).toInt64.toUInt64 &&& Int64.toUInt64 63)).toInt64) &&& (6148914691236517205 : Int64)) := ez1
  refine lv_lsub hx hb dJ13_bitCount_95d88_8 ?_
  refine lv_topl (fun z2 ez2 => ?_)
  obtain rfl : z2 = (y0 - (((y0.toUInt64 >>> ((1 : Int32).toInt64.toUInt64 &&& Int64.toUInt64 63)).toInt64) &&& (6148914691236517205 : Int64))) := ez2
  refine lv_lstore_n (lv' := [(0, .long (y0 - (((y0.toUInt64 >>> ((1 : Int32).toInt64.toUInt64 &&& Int64.toUInt64 63)).toInt64) &&& (6148914691236517205 : Int64))))]) hx hb dJ13_bitCount_95d88_9 rfl hl (by decide) rfl (fun ls hl => ?_)
  refine lv_lload_n hx hb dJ13_bitCount_95d88_10 rfl (lv_at hl 0 rfl) ?_
  refine lv_ldc2 hx hb hown (hts _ kw_1735) dJ13_bitCount_95d88_11 ?_
  refine lv_land hx hb dJ13_bitCount_95d88_14 ?_
  refine lv_topl (fun z3 ez3 => ?_)
  obtain rfl : z3 = ((y0 - (((y0.toUInt64 >>> ((1 : Int32).toInt64.toUInt64 &&& Int64.toUInt64 63)).toInt64) &&& (6148914691236517205 : Int64))) &&& (3689348814741910323 : Int64)) := ez3
  refine lv_lload_n hx hb dJ13_bitCount_95d88_15 rfl (lv_at hl 0 rfl) ?_
  refine lv_iconst (v := 2) hx hb dJ13_bitCount_95d88_16 (by decide) ?_
  refine lv_lushr (v := (((y0 - (((y0.toUInt64 >>> ((1 : Int32).toInt64.toUInt64 &&& Int64.toUInt64 63)).toInt64) &&& (6148914691236517205 : Int64))).toUInt64 >>> ((2 : Int32).toInt64.toUInt64 &&& Int64.toUInt64 63)).toInt64)) hx hb dJ13_bitCount_95d88_17 rfl ?_
  refine lv_ldc2 hx hb hown (hts _ kw_1735) dJ13_bitCount_95d88_18 ?_
  refine lv_land hx hb dJ13_bitCount_95d88_21 ?_
  refine lv_topl (fun z4 ez4 => ?_)
  obtain rfl : z4 = ((((y0 - (((y0.toUInt64 >>> ((1 : Int32).toInt64.toUInt64 &&& Int64.toUInt64 63)).toInt64) &&& (6148914691236517205 : Int64))).toUInt64 >>> ((2 : Int32).toInt64.toUInt64 &&& Int64.toUInt64 63)).toInt64) &&& (3689348814741910323 : Int64)) := ez4
  refine lv_ladd hx hb dJ13_bitCount_95d88_22 ?_
  refine lv_topl (fun z5 ez5 => ?_)
  obtain rfl : z5 = (((y0 - (((y0.toUInt64 >>> ((1 : Int32).toInt64.toUInt64 &&& Int64.toUInt64 63)).toInt64) &&& (6148914691236517205 : Int64))) &&& (3689348814741910323 : Int64)) + ((((y0 - (((y0.toUInt64 >>> ((1 : Int32).toInt64.toUInt64 &&& Int64.toUInt64 63)).toInt64) &&& (6148914691236517205 : Int64))).toUInt64 >>> ((2 : Int32).toInt64.toUInt64 &&& Int64.toUInt64 63)).toInt64) &&& (3689348814741910323 : Int64))) := ez5
  refine lv_lstore_n (lv' := [(0, .long (((y0 - (((y0.toUInt64 >>> ((1 : Int32).toInt64.toUInt64 &&& Int64.toUInt64 63)).toInt64) &&& (6148914691236517205 : Int64))) &&& (3689348814741910323 : Int64)) + ((((y0 - (((y0.toUInt64 >>> ((1 : Int32).toInt64.toUInt64 &&& Int64.toUInt64 63)).toInt64) &&& (6148914691236517205 : Int64))).toUInt64 >>> ((2 : Int32).toInt64.toUInt64 &&& Int64.toUInt64 63)).toInt64) &&& (3689348814741910323 : Int64))))]) hx hb dJ13_bitCount_95d88_23 rfl hl (by decide) rfl (fun ls hl => ?_)
  refine lv_lload_n hx hb dJ13_bitCount_95d88_24 rfl (lv_at hl 0 rfl) ?_
  refine lv_lload_n hx hb dJ13_bitCount_95d88_25 rfl (lv_at hl 0 rfl) ?_
  refine lv_iconst (v := 4) hx hb dJ13_bitCount_95d88_26 (by decide) ?_
  refine lv_lushr (v := (((((y0 - (((y0.toUInt64 >>> ((1 : Int32).toInt64.toUInt64 &&& Int64.toUInt64 63)).toInt64) &&& (6148914691236517205 : Int64))) &&& (3689348814741910323 : Int64)) + ((((y0 - (((y0.toUInt64 >>> ((1 : Int32).toInt64.toUInt64 &&& Int64.toUInt64 63)).toInt64) &&& (6148914691236517205 : Int64))).toUInt64 >>> ((2 : Int32).toInt64.toUInt64 &&& Int64.toUInt64 63)).toInt64) &&& (3689348814741910323 : Int64))).toUInt64 >>> ((4 : Int32).toInt64.toUInt64 &&& Int64.toUInt64 63)).toInt64)) hx hb dJ13_bitCount_95d88_27 rfl ?_
  refine lv_ladd hx hb dJ13_bitCount_95d88_28 ?_
  refine lv_topl (fun z6 ez6 => ?_)
  obtain rfl : z6 = ((((y0 - (((y0.toUInt64 >>> ((1 : Int32).toInt64.toUInt64 &&& Int64.toUInt64 63)).toInt64) &&& (6148914691236517205 : Int64))) &&& (3689348814741910323 : Int64)) + ((((y0 - (((y0.toUInt64 >>> ((1 : Int32).toInt64.toUInt64 &&& Int64.toUInt64 63)).toInt64) &&& (6148914691236517205 : Int64))).toUInt64 >>> ((2 : Int32).toInt64.toUInt64 &&& Int64.toUInt64 63)).toInt64) &&& (3689348814741910323 : Int64))) + (((((y0 - (((y0.toUInt64 >>> ((1 : Int32).toInt64.toUInt64 &&& Int64.toUInt64 63)).toInt64) &&& (6148914691236517205 : Int64))) &&& (3689348814741910323 : Int64)) + ((((y0 - (((y0.toUInt64 >>> ((1 : Int32).toInt64.toUInt64 &&& Int64.toUInt64 63)).toInt64) &&& (6148914691236517205 : Int64))).toUInt64 >>> ((2 : Int32).toInt64.toUInt64 &&& Int64.toUInt64 63)).toInt64) &&& (3689348814741910323 : Int64))).toUInt64 >>> ((4 : Int32).toInt64.toUInt64 &&& Int64.toUInt64 63)).toInt64)) := ez6
  refine lv_ldc2 hx hb hown (hts _ kw_1736) dJ13_bitCount_95d88_29 ?_
  refine lv_land hx hb dJ13_bitCount_95d88_32 ?_
  refine lv_topl (fun z7 ez7 => ?_)
  obtain rfl : z7 = (((((y0 - (((y0.toUInt64 >>> ((1 : Int32).toInt64.toUInt64 &&& Int64.toUInt64 63)).toInt64) &&& (6148914691236517205 : Int64))) &&& (3689348814741910323 : Int64)) + ((((y0 - (((y0.toUInt64 >>> ((1 : Int32).toInt64.toUInt64 &&& Int64.toUInt64 63)).toInt64) &&& (6148914691236517205 : Int64))).toUInt64 >>> ((2 : Int32).toInt64.toUInt64 &&& Int64.toUInt64 63)).toInt64) &&& (3689348814741910323 : Int64))) + (((((y0 - (((y0.toUInt64 >>> ((1 : Int32).toInt64.toUInt64 &&& Int64.toUInt64 63)).toInt64) &&& (6148914691236517205 : Int64))) &&& (3689348814741910323 : Int64)) + ((((y0 - (((y0.toUInt64 >>> ((1 : Int32).toInt64.toUInt64 &&& Int64.toUInt64 63)).toInt64) &&& (6148914691236517205 : Int64))).toUInt64 >>> ((2 : Int32).toInt64.toUInt64 &&& Int64.toUInt64 63)).toInt64) &&& (3689348814741910323 : Int64))).toUInt64 >>> ((4 : Int32).toInt64.toUInt64 &&& Int64.toUInt64 63)).toInt64)) &&& (1085102592571150095 : Int64)) := ez7
  refine lv_lstore_n (lv' := [(0, .long (((((y0 - (((y0.toUInt64 >>> ((1 : Int32).toInt64.toUInt64 &&& Int64.toUInt64 63)).toInt64) &&& (6148914691236517205 : Int64))) &&& (3689348814741910323 : Int64)) + ((((y0 - (((y0.toUInt64 >>> ((1 : Int32).toInt64.toUInt64 &&& Int64.toUInt64 63)).toInt64) &&& (6148914691236517205 : Int64))).toUInt64 >>> ((2 : Int32).toInt64.toUInt64 &&& Int64.toUInt64 63)).toInt64) &&& (3689348814741910323 : Int64))) + (((((y0 - (((y0.toUInt64 >>> ((1 : Int32).toInt64.toUInt64 &&& Int64.toUInt64 63)).toInt64) &&& (6148914691236517205 : Int64))) &&& (3689348814741910323 : Int64)) + ((((y0 - (((y0.toUInt64 >>> ((1 : Int32).toInt64.toUInt64 &&& Int64.toUInt64 63)).toInt64) &&& (6148914691236517205 : Int64))).toUInt64 >>> ((2 : Int32).toInt64.toUInt64 &&& Int64.toUInt64 63)).toInt64) &&& (3689348814741910323 : Int64))).toUInt64 >>> ((4 : Int32).toInt64.toUInt64 &&& Int64.toUInt64 63)).toInt64)) &&& (1085102592571150095 : Int64)))]) hx hb dJ13_bitCount_95d88_33 rfl hl (by decide) rfl (fun ls hl => ?_)
  refine lv_lload_n hx hb dJ13_bitCount_95d88_34 rfl (lv_at hl 0 rfl) ?_
  refine lv_lload_n hx hb dJ13_bitCount_95d88_35 rfl (lv_at hl 0 rfl) ?_
  refine lv_bipush (v := 8) hx hb dJ13_bitCount_95d88_36 (by decide) ?_
  refine lv_lushr (v := (((((((y0 - (((y0.toUInt64 >>> ((1 : Int32).toInt64.toUInt64 &&& Int64.toUInt64 63)).toInt64) &&& (6148914691236517205 : Int64))) &&& (3689348814741910323 : Int64)) + ((((y0 - (((y0.toUInt64 >>> ((1 : Int32).toInt64.toUInt64 &&& Int64.toUInt64 63)).toInt64) &&& (6148914691236517205 : Int64))).toUInt64 >>> ((2 : Int32).toInt64.toUInt64 &&& Int64.toUInt64 63)).toInt64) &&& (3689348814741910323 : Int64))) + (((((y0 - (((y0.toUInt64 >>> ((1 : Int32).toInt64.toUInt64 &&& Int64.toUInt64 63)).toInt64) &&& (6148914691236517205 : Int64))) &&& (3689348814741910323 : Int64)) + ((((y0 - (((y0.toUInt64 >>> ((1 : Int32).toInt64.toUInt64 &&& Int64.toUInt64 63)).toInt64) &&& (6148914691236517205 : Int64))).toUInt64 >>> ((2 : Int32).toInt64.toUInt64 &&& Int64.toUInt64 63)).toInt64) &&& (3689348814741910323 : Int64))).toUInt64 >>> ((4 : Int32).toInt64.toUInt64 &&& Int64.toUInt64 63)).toInt64)) &&& (1085102592571150095 : Int64)).toUInt64 >>> ((8 : Int32).toInt64.toUInt64 &&& Int64.toUInt64 63)).toInt64)) hx hb dJ13_bitCount_95d88_38 rfl ?_
  refine lv_ladd hx hb dJ13_bitCount_95d88_39 ?_
  refine lv_topl (fun z8 ez8 => ?_)
  obtain rfl : z8 = ((((((y0 - (((y0.toUInt64 >>> ((1 : Int32).toInt64.toUInt64 &&& Int64.toUInt64 63)).toInt64) &&& (6148914691236517205 : Int64))) &&& (3689348814741910323 : Int64)) + ((((y0 - (((y0.toUInt64 >>> ((1 : Int32).toInt64.toUInt64 &&& Int64.toUInt64 63)).toInt64) &&& (6148914691236517205 : Int64))).toUInt64 >>> ((2 : Int32).toInt64.toUInt64 &&& Int64.toUInt64 63)).toInt64) &&& (3689348814741910323 : Int64))) + (((((y0 - (((y0.toUInt64 >>> ((1 : Int32).toInt64.toUInt64 &&& Int64.toUInt64 63)).toInt64) &&& (6148914691236517205 : Int64))) &&& (3689348814741910323 : Int64)) + ((((y0 - (((y0.toUInt64 >>> ((1 : Int32).toInt64.toUInt64 &&& Int64.toUInt64 63)).toInt64) &&& (6148914691236517205 : Int64))).toUInt64 >>> ((2 : Int32).toInt64.toUInt64 &&& Int64.toUInt64 63)).toInt64) &&& (3689348814741910323 : Int64))).toUInt64 >>> ((4 : Int32).toInt64.toUInt64 &&& Int64.toUInt64 63)).toInt64)) &&& (1085102592571150095 : Int64)) + (((((((y0 - (((y0.toUInt64 >>> ((1 : Int32).toInt64.toUInt64 &&& Int64.toUInt64 63)).toInt64) &&& (6148914691236517205 : Int64))) &&& (3689348814741910323 : Int64)) + ((((y0 - (((y0.toUInt64 >>> ((1 : Int32).toInt64.toUInt64 &&& Int64.toUInt64 63)).toInt64) &&& (6148914691236517205 : Int64))).toUInt64 >>> ((2 : Int32).toInt64.toUInt64 &&& Int64.toUInt64 63)).toInt64) &&& (3689348814741910323 : Int64))) + (((((y0 - (((y0.toUInt64 >>> ((1 : Int32).toInt64.toUInt64 &&& Int64.toUInt64 63)).toInt64) &&& (6148914691236517205 : Int64))) &&& (3689348814741910323 : Int64)) + ((((y0 - (((y0.toUInt64 >>> ((1 : Int32).toInt64.toUInt64 &&& Int64.toUInt64 63)).toInt64) &&& (6148914691236517205 : Int64))).toUInt64 >>> ((2 : Int32).toInt64.toUInt64 &&& Int64.toUInt64 63)).toInt64) &&& (3689348814741910323 : Int64))).toUInt64 >>> ((4 : Int32).toInt64.toUInt64 &&& Int64.toUInt64 63)).toInt64)) &&& (1085102592571150095 : Int64)).toUInt64 >>> ((8 : Int32).toInt64.toUInt64 &&& Int64.toUInt64 63)).toInt64)) := ez8
  refine lv_lstore_n (lv' := [(0, .long ((((((y0 - (((y0.toUInt64 >>> ((1 : Int32).toInt64.toUInt64 &&& Int64.toUInt64 63)).toInt64) &&& (6148914691236517205 : Int64))) &&& (3689348814741910323 : Int64)) + ((((y0 - (((y0.toUInt64 >>> ((1 : Int32).toInt64.toUInt64 &&& Int64.toUInt64 63)).toInt64) &&& (6148914691236517205 : Int64))).toUInt64 >>> ((2 : Int32).toInt64.toUInt64 &&& Int64.toUInt64 63)).toInt64) &&& (3689348814741910323 : Int64))) + (((((y0 - (((y0.toUInt64 >>> ((1 : Int32).toInt64.toUInt64 &&& Int64.toUInt64 63)).toInt64) &&& (6148914691236517205 : Int64))) &&& (3689348814741910323 : Int64)) + ((((y0 - (((y0.toUInt64 >>> ((1 : Int32).toInt64.toUInt64 &&& Int64.toUInt64 63)).toInt64) &&& (6148914691236517205 : Int64))).toUInt64 >>> ((2 : Int32).toInt64.toUInt64 &&& Int64.toUInt64 63)).toInt64) &&& (3689348814741910323 : Int64))).toUInt64 >>> ((4 : Int32).toInt64.toUInt64 &&& Int64.toUInt64 63)).toInt64)) &&& (1085102592571150095 : Int64)) + (((((((y0 - (((y0.toUInt64 >>> ((1 : Int32).toInt64.toUInt64 &&& Int64.toUInt64 63)).toInt64) &&& (6148914691236517205 : Int64))) &&& (3689348814741910323 : Int64)) + ((((y0 - (((y0.toUInt64 >>> ((1 : Int32).toInt64.toUInt64 &&& Int64.toUInt64 63)).toInt64) &&& (6148914691236517205 : Int64))).toUInt64 >>> ((2 : Int32).toInt64.toUInt64 &&& Int64.toUInt64 63)).toInt64) &&& (3689348814741910323 : Int64))) + (((((y0 - (((y0.toUInt64 >>> ((1 : Int32).toInt64.toUInt64 &&& Int64.toUInt64 63)).toInt64) &&& (6148914691236517205 : Int64))) &&& (3689348814741910323 : Int64)) + ((((y0 - (((y0.toUInt64 >>> ((1 : Int32).toInt64.toUInt64 &&& Int64.toUInt64 63)).toInt64) &&& (6148914691236517205 : Int64))).toUInt64 >>> ((2 : Int32).toInt64.toUInt64 &&& Int64.toUInt64 63)).toInt64) &&& (3689348814741910323 : Int64))).toUInt64 >>> ((4 : Int32).toInt64.toUInt64 &&& Int64.toUInt64 63)).toInt64)) &&& (1085102592571150095 : Int64)).toUInt64 >>> ((8 : Int32).toInt64.toUInt64 &&& Int64.toUInt64 63)).toInt64)))]) hx hb dJ13_bitCount_95d88_40 rfl hl (by decide) rfl (fun ls hl => ?_)
  refine lv_lload_n hx hb dJ13_bitCount_95d88_41 rfl (lv_at hl 0 rfl) ?_
  refine lv_lload_n hx hb dJ13_bitCount_95d88_42 rfl (lv_at hl 0 rfl) ?_
  refine lv_bipush (v := 16) hx hb dJ13_bitCount_95d88_43 (by decide) ?_
  refine lv_lushr (v := ((((((((y0 - (((y0.toUInt64 >>> ((1 : Int32).toInt64.toUInt64 &&& Int64.toUInt64 63)).toInt64) &&& (6148914691236517205 : Int64))) &&& (3689348814741910323 : Int64)) + ((((y0 - (((y0.toUInt64 >>> ((1 : Int32).toInt64.toUInt64 &&& Int64.toUInt64 63)).toInt64) &&& (6148914691236517205 : Int64))).toUInt64 >>> ((2 : Int32).toInt64.toUInt64 &&& Int64.toUInt64 63)).toInt64) &&& (3689348814741910323 : Int64))) + (((((y0 - (((y0.toUInt64 >>> ((1 : Int32).toInt64.toUInt64 &&& Int64.toUInt64 63)).toInt64) &&& (6148914691236517205 : Int64))) &&& (3689348814741910323 : Int64)) + ((((y0 - (((y0.toUInt64 >>> ((1 : Int32).toInt64.toUInt64 &&& Int64.toUInt64 63)).toInt64) &&& (6148914691236517205 : Int64))).toUInt64 >>> ((2 : Int32).toInt64.toUInt64 &&& Int64.toUInt64 63)).toInt64) &&& (3689348814741910323 : Int64))).toUInt64 >>> ((4 : Int32).toInt64.toUInt64 &&& Int64.toUInt64 63)).toInt64)) &&& (1085102592571150095 : Int64)) + (((((((y0 - (((y0.toUInt64 >>> ((1 : Int32).toInt64.toUInt64 &&& Int64.toUInt64 63)).toInt64) &&& (6148914691236517205 : Int64))) &&& (3689348814741910323 : Int64)) + ((((y0 - (((y0.toUInt64 >>> ((1 : Int32).toInt64.toUInt64 &&& Int64.toUInt64 63)).toInt64) &&& (6148914691236517205 : Int64))).toUInt64 >>> ((2 : Int32).toInt64.toUInt64 &&& Int64.toUInt64 63)).toInt64) &&& (3689348814741910323 : Int64))) + (((((y0 - (((y0.toUInt64 >>> ((1 : Int32).toInt64.toUInt64 &&& Int64.toUInt64 63)).toInt64) &&& (6148914691236517205 : Int64))) &&& (3689348814741910323 : Int64)) + ((((y0 - (((y0.toUInt64 >>> ((1 : Int32).toInt64.toUInt64 &&& Int64.toUInt64 63)).toInt64) &&& (6148914691236517205 : Int64))).toUInt64 >>> ((2 : Int32).toInt64.toUInt64 &&& Int64.toUInt64 63)).toInt64) &&& (3689348814741910323 : Int64))).toUInt64 >>> ((4 : Int32).toInt64.toUInt64 &&& Int64.toUInt64 63)).toInt64)) &&& (1085102592571150095 : Int64)).toUInt64 >>> ((8 : Int32).toInt64.toUInt64 &&& Int64.toUInt64 63)).toInt64)).toUInt64 >>> ((16 : Int32).toInt64.toUInt64 &&& Int64.toUInt64 63)).toInt64)) hx hb dJ13_bitCount_95d88_45 rfl ?_
  refine lv_ladd hx hb dJ13_bitCount_95d88_46 ?_
  refine lv_topl (fun z9 ez9 => ?_)
  obtain rfl : z9 = (((((((y0 - (((y0.toUInt64 >>> ((1 : Int32).toInt64.toUInt64 &&& Int64.toUInt64 63)).toInt64) &&& (6148914691236517205 : Int64))) &&& (3689348814741910323 : Int64)) + ((((y0 - (((y0.toUInt64 >>> ((1 : Int32).toInt64.toUInt64 &&& Int64.toUInt64 63)).toInt64) &&& (6148914691236517205 : Int64))).toUInt64 >>> ((2 : Int32).toInt64.toUInt64 &&& Int64.toUInt64 63)).toInt64) &&& (3689348814741910323 : Int64))) + (((((y0 - (((y0.toUInt64 >>> ((1 : Int32).toInt64.toUInt64 &&& Int64.toUInt64 63)).toInt64) &&& (6148914691236517205 : Int64))) &&& (3689348814741910323 : Int64)) + ((((y0 - (((y0.toUInt64 >>> ((1 : Int32).toInt64.toUInt64 &&& Int64.toUInt64 63)).toInt64) &&& (6148914691236517205 : Int64))).toUInt64 >>> ((2 : Int32).toInt64.toUInt64 &&& Int64.toUInt64 63)).toInt64) &&& (3689348814741910323 : Int64))).toUInt64 >>> ((4 : Int32).toInt64.toUInt64 &&& Int64.toUInt64 63)).toInt64)) &&& (1085102592571150095 : Int64)) + (((((((y0 - (((y0.toUInt64 >>> ((1 : Int32).toInt64.toUInt64 &&& Int64.toUInt64 63)).toInt64) &&& (6148914691236517205 : Int64))) &&& (3689348814741910323 : Int64)) + ((((y0 - (((y0.toUInt64 >>> ((1 : Int32).toInt64.toUInt64 &&& Int64.toUInt64 63)).toInt64) &&& (6148914691236517205 : Int64))).toUInt64 >>> ((2 : Int32).toInt64.toUInt64 &&& Int64.toUInt64 63)).toInt64) &&& (3689348814741910323 : Int64))) + (((((y0 - (((y0.toUInt64 >>> ((1 : Int32).toInt64.toUInt64 &&& Int64.toUInt64 63)).toInt64) &&& (6148914691236517205 : Int64))) &&& (3689348814741910323 : Int64)) + ((((y0 - (((y0.toUInt64 >>> ((1 : Int32).toInt64.toUInt64 &&& Int64.toUInt64 63)).toInt64) &&& (6148914691236517205 : Int64))).toUInt64 >>> ((2 : Int32).toInt64.toUInt64 &&& Int64.toUInt64 63)).toInt64) &&& (3689348814741910323 : Int64))).toUInt64 >>> ((4 : Int32).toInt64.toUInt64 &&& Int64.toUInt64 63)).toInt64)) &&& (1085102592571150095 : Int64)).toUInt64 >>> ((8 : Int32).toInt64.toUInt64 &&& Int64.toUInt64 63)).toInt64)) + ((((((((y0 - (((y0.toUInt64 >>> ((1 : Int32).toInt64.toUInt64 &&& Int64.toUInt64 63)).toInt64) &&& (6148914691236517205 : Int64))) &&& (3689348814741910323 : Int64)) + ((((y0 - (((y0.toUInt64 >>> ((1 : Int32).toInt64.toUInt64 &&& Int64.toUInt64 63)).toInt64) &&& (6148914691236517205 : Int64))).toUInt64 >>> ((2 : Int32).toInt64.toUInt64 &&& Int64.toUInt64 63)).toInt64) &&& (3689348814741910323 : Int64))) + (((((y0 - (((y0.toUInt64 >>> ((1 : Int32).toInt64.toUInt64 &&& Int64.toUInt64 63)).toInt64) &&& (6148914691236517205 : Int64))) &&& (3689348814741910323 : Int64)) + ((((y0 - (((y0.toUInt64 >>> ((1 : Int32).toInt64.toUInt64 &&& Int64.toUInt64 63)).toInt64) &&& (6148914691236517205 : Int64))).toUInt64 >>> ((2 : Int32).toInt64.toUInt64 &&& Int64.toUInt64 63)).toInt64) &&& (3689348814741910323 : Int64))).toUInt64 >>> ((4 : Int32).toInt64.toUInt64 &&& Int64.toUInt64 63)).toInt64)) &&& (1085102592571150095 : Int64)) + (((((((y0 - (((y0.toUInt64 >>> ((1 : Int32).toInt64.toUInt64 &&& Int64.toUInt64 63)).toInt64) &&& (6148914691236517205 : Int64))) &&& (3689348814741910323 : Int64)) + ((((y0 - (((y0.toUInt64 >>> ((1 : Int32).toInt64.toUInt64 &&& Int64.toUInt64 63)).toInt64) &&& (6148914691236517205 : Int64))).toUInt64 >>> ((2 : Int32).toInt64.toUInt64 &&& Int64.toUInt64 63)).toInt64) &&& (3689348814741910323 : Int64))) + (((((y0 - (((y0.toUInt64 >>> ((1 : Int32).toInt64.toUInt64 &&& Int64.toUInt64 63)).toInt64) &&& (6148914691236517205 : Int64))) &&& (3689348814741910323 : Int64)) + ((((y0 - (((y0.toUInt64 >>> ((1 : Int32).toInt64.toUInt64 &&& Int64.toUInt64 63)).toInt64) &&& (6148914691236517205 : Int64))).toUInt64 >>> ((2 : Int32).toInt64.toUInt64 &&& Int64.toUInt64 63)).toInt64) &&& (3689348814741910323 : Int64))).toUInt64 >>> ((4 : Int32).toInt64.toUInt64 &&& Int64.toUInt64 63)).toInt64)) &&& (1085102592571150095 : Int64)).toUInt64 >>> ((8 : Int32).toInt64.toUInt64 &&& Int64.toUInt64 63)).toInt64)).toUInt64 >>> ((16 : Int32).toInt64.toUInt64 &&& Int64.toUInt64 63)).toInt64)) := ez9
  refine lv_lstore_n (lv' := [(0, .long (((((((y0 - (((y0.toUInt64 >>> ((1 : Int32).toInt64.toUInt64 &&& Int64.toUInt64 63)).toInt64) &&& (6148914691236517205 : Int64))) &&& (3689348814741910323 : Int64)) + ((((y0 - (((y0.toUInt64 >>> ((1 : Int32).toInt64.toUInt64 &&& Int64.toUInt64 63)).toInt64) &&& (6148914691236517205 : Int64))).toUInt64 >>> ((2 : Int32).toInt64.toUInt64 &&& Int64.toUInt64 63)).toInt64) &&& (3689348814741910323 : Int64))) + (((((y0 - (((y0.toUInt64 >>> ((1 : Int32).toInt64.toUInt64 &&& Int64.toUInt64 63)).toInt64) &&& (6148914691236517205 : Int64))) &&& (3689348814741910323 : Int64)) + ((((y0 - (((y0.toUInt64 >>> ((1 : Int32).toInt64.toUInt64 &&& Int64.toUInt64 63)).toInt64) &&& (6148914691236517205 : Int64))).toUInt64 >>> ((2 : Int32).toInt64.toUInt64 &&& Int64.toUInt64 63)).toInt64) &&& (3689348814741910323 : Int64))).toUInt64 >>> ((4 : Int32).toInt64.toUInt64 &&& Int64.toUInt64 63)).toInt64)) &&& (1085102592571150095 : Int64)) + (((((((y0 - (((y0.toUInt64 >>> ((1 : Int32).toInt64.toUInt64 &&& Int64.toUInt64 63)).toInt64) &&& (6148914691236517205 : Int64))) &&& (3689348814741910323 : Int64)) + ((((y0 - (((y0.toUInt64 >>> ((1 : Int32).toInt64.toUInt64 &&& Int64.toUInt64 63)).toInt64) &&& (6148914691236517205 : Int64))).toUInt64 >>> ((2 : Int32).toInt64.toUInt64 &&& Int64.toUInt64 63)).toInt64) &&& (3689348814741910323 : Int64))) + (((((y0 - (((y0.toUInt64 >>> ((1 : Int32).toInt64.toUInt64 &&& Int64.toUInt64 63)).toInt64) &&& (6148914691236517205 : Int64))) &&& (3689348814741910323 : Int64)) + ((((y0 - (((y0.toUInt64 >>> ((1 : Int32).toInt64.toUInt64 &&& Int64.toUInt64 63)).toInt64) &&& (6148914691236517205 : Int64))).toUInt64 >>> ((2 : Int32).toInt64.toUInt64 &&& Int64.toUInt64 63)).toInt64) &&& (3689348814741910323 : Int64))).toUInt64 >>> ((4 : Int32).toInt64.toUInt64 &&& Int64.toUInt64 63)).toInt64)) &&& (1085102592571150095 : Int64)).toUInt64 >>> ((8 : Int32).toInt64.toUInt64 &&& Int64.toUInt64 63)).toInt64)) + ((((((((y0 - (((y0.toUInt64 >>> ((1 : Int32).toInt64.toUInt64 &&& Int64.toUInt64 63)).toInt64) &&& (6148914691236517205 : Int64))) &&& (3689348814741910323 : Int64)) + ((((y0 - (((y0.toUInt64 >>> ((1 : Int32).toInt64.toUInt64 &&& Int64.toUInt64 63)).toInt64) &&& (6148914691236517205 : Int64))).toUInt64 >>> ((2 : Int32).toInt64.toUInt64 &&& Int64.toUInt64 63)).toInt64) &&& (3689348814741910323 : Int64))) + (((((y0 - (((y0.toUInt64 >>> ((1 : Int32).toInt64.toUInt64 &&& Int64.toUInt64 63)).toInt64) &&& (6148914691236517205 : Int64))) &&& (3689348814741910323 : Int64)) + ((((y0 - (((y0.toUInt64 >>> ((1 : Int32).toInt64.toUInt64 &&& Int64.toUInt64 63)).toInt64) &&& (6148914691236517205 : Int64))).toUInt64 >>> ((2 : Int32).toInt64.toUInt64 &&& Int64.toUInt64 63)).toInt64) &&& (3689348814741910323 : Int64))).toUInt64 >>> ((4 : Int32).toInt64.toUInt64 &&& Int64.toUInt64 63)).toInt64)) &&& (1085102592571150095 : Int64)) + (((((((y0 - (((y0.toUInt64 >>> ((1 : Int32).toInt64.toUInt64 &&& Int64.toUInt64 63)).toInt64) &&& (6148914691236517205 : Int64))) &&& (3689348814741910323 : Int64)) + ((((y0 - (((y0.toUInt64 >>> ((1 : Int32).toInt64.toUInt64 &&& Int64.toUInt64 63)).toInt64) &&& (6148914691236517205 : Int64))).toUInt64 >>> ((2 : Int32).toInt64.toUInt64 &&& Int64.toUInt64 63)).toInt64) &&& (3689348814741910323 : Int64))) + (((((y0 - (((y0.toUInt64 >>> ((1 : Int32).toInt64.toUInt64 &&& Int64.toUInt64 63)).toInt64) &&& (6148914691236517205 : Int64))) &&& (3689348814741910323 : Int64)) + ((((y0 - (((y0.toUInt64 >>> ((1 : Int32).toInt64.toUInt64 &&& Int64.toUInt64 63)).toInt64) &&& (6148914691236517205 : Int64))).toUInt64 >>> ((2 : Int32).toInt64.toUInt64 &&& Int64.toUInt64 63)).toInt64) &&& (3689348814741910323 : Int64))).toUInt64 >>> ((4 : Int32).toInt64.toUInt64 &&& Int64.toUInt64 63)).toInt64)) &&& (1085102592571150095 : Int64)).toUInt64 >>> ((8 : Int32).toInt64.toUInt64 &&& Int64.toUInt64 63)).toInt64)).toUInt64 >>> ((16 : Int32).toInt64.toUInt64 &&& Int64.toUInt64 63)).toInt64)))]) hx hb dJ13_bitCount_95d88_47 rfl hl (by decide) rfl (fun ls hl => ?_)
  refine lv_lload_n hx hb dJ13_bitCount_95d88_48 rfl (lv_at hl 0 rfl) ?_
  refine lv_lload_n hx hb dJ13_bitCount_95d88_49 rfl (lv_at hl 0 rfl) ?_
  refine lv_bipush (v := 32) hx hb dJ13_bitCount_95d88_50 (by decide) ?_
  refine lv_lushr (v := (((((((((y0 - (((y0.toUInt64 >>> ((1 : Int32).toInt64.toUInt64 &&& Int64.toUInt64 63)).toInt64) &&& (6148914691236517205 : Int64))) &&& (3689348814741910323 : Int64)) + ((((y0 - (((y0.toUInt64 >>> ((1 : Int32).toInt64.toUInt64 &&& Int64.toUInt64 63)).toInt64) &&& (6148914691236517205 : Int64))).toUInt64 >>> ((2 : Int32).toInt64.toUInt64 &&& Int64.toUInt64 63)).toInt64) &&& (3689348814741910323 : Int64))) + (((((y0 - (((y0.toUInt64 >>> ((1 : Int32).toInt64.toUInt64 &&& Int64.toUInt64 63)).toInt64) &&& (6148914691236517205 : Int64))) &&& (3689348814741910323 : Int64)) + ((((y0 - (((y0.toUInt64 >>> ((1 : Int32).toInt64.toUInt64 &&& Int64.toUInt64 63)).toInt64) &&& (6148914691236517205 : Int64))).toUInt64 >>> ((2 : Int32).toInt64.toUInt64 &&& Int64.toUInt64 63)).toInt64) &&& (3689348814741910323 : Int64))).toUInt64 >>> ((4 : Int32).toInt64.toUInt64 &&& Int64.toUInt64 63)).toInt64)) &&& (1085102592571150095 : Int64)) + (((((((y0 - (((y0.toUInt64 >>> ((1 : Int32).toInt64.toUInt64 &&& Int64.toUInt64 63)).toInt64) &&& (6148914691236517205 : Int64))) &&& (3689348814741910323 : Int64)) + ((((y0 - (((y0.toUInt64 >>> ((1 : Int32).toInt64.toUInt64 &&& Int64.toUInt64 63)).toInt64) &&& (6148914691236517205 : Int64))).toUInt64 >>> ((2 : Int32).toInt64.toUInt64 &&& Int64.toUInt64 63)).toInt64) &&& (3689348814741910323 : Int64))) + (((((y0 - (((y0.toUInt64 >>> ((1 : Int32).toInt64.toUInt64 &&& Int64.toUInt64 63)).toInt64) &&& (6148914691236517205 : Int64))) &&& (3689348814741910323 : Int64)) + ((((y0 - (((y0.toUInt64 >>> ((1 : Int32).toInt64.toUInt64 &&& Int64.toUInt64 63)).toInt64) &&& (6148914691236517205 : Int64))).toUInt64 >>> ((2 : Int32).toInt64.toUInt64 &&& Int64.toUInt64 63)).toInt64) &&& (3689348814741910323 : Int64))).toUInt64 >>> ((4 : Int32).toInt64.toUInt64 &&& Int64.toUInt64 63)).toInt64)) &&& (1085102592571150095 : Int64)).toUInt64 >>> ((8 : Int32).toInt64.toUInt64 &&& Int64.toUInt64 63)).toInt64)) + ((((((((y0 - (((y0.toUInt64 >>> ((1 : Int32).toInt64.toUInt64 &&& Int64.toUInt64 63)).toInt64) &&& (6148914691236517205 : Int64))) &&& (3689348814741910323 : Int64)) + ((((y0 - (((y0.toUInt64 >>> ((1 : Int32).toInt64.toUInt64 &&& Int64.toUInt64 63)).toInt64) &&& (6148914691236517205 : Int64))).toUInt64 >>> ((2 : Int32).toInt64.toUInt64 &&& Int64.toUInt64 63)).toInt64) &&& (3689348814741910323 : Int64))) + (((((y0 - (((y0.toUInt64 >>> ((1 : Int32).toInt64.toUInt64 &&& Int64.toUInt64 63)).toInt64) &&& (6148914691236517205 : Int64))) &&& (3689348814741910323 : Int64)) + ((((y0 - (((y0.toUInt64 >>> ((1 : Int32).toInt64.toUInt64 &&& Int64.toUInt64 63)).toInt64) &&& (6148914691236517205 : Int64))).toUInt64 >>> ((2 : Int32).toInt64.toUInt64 &&& Int64.toUInt64 63)).toInt64) &&& (3689348814741910323 : Int64))).toUInt64 >>> ((4 : Int32).toInt64.toUInt64 &&& Int64.toUInt64 63)).toInt64)) &&& (1085102592571150095 : Int64)) + (((((((y0 - (((y0.toUInt64 >>> ((1 : Int32).toInt64.toUInt64 &&& Int64.toUInt64 63)).toInt64) &&& (6148914691236517205 : Int64))) &&& (3689348814741910323 : Int64)) + ((((y0 - (((y0.toUInt64 >>> ((1 : Int32).toInt64.toUInt64 &&& Int64.toUInt64 63)).toInt64) &&& (6148914691236517205 : Int64))).toUInt64 >>> ((2 : Int32).toInt64.toUInt64 &&& Int64.toUInt64 63)).toInt64) &&& (3689348814741910323 : Int64))) + (((((y0 - (((y0.toUInt64 >>> ((1 : Int32).toInt64.toUInt64 &&& Int64.toUInt64 63)).toInt64) &&& (6148914691236517205 : Int64))) &&& (3689348814741910323 : Int64)) + ((((y0 - (((y0.toUInt64 >>> ((1 : Int32).toInt64.toUInt64 &&& Int64.toUInt64 63)).toInt64) &&& (6148914691236517205 : Int64))).toUInt64 >>> ((2 : Int32).toInt64.toUInt64 &&& Int64.toUInt64 63)).toInt64) &&& (3689348814741910323 : Int64))).toUInt64 >>> ((4 : Int32).toInt64.toUInt64 &&& Int64.toUInt64 63)).toInt64)) &&& (1085102592571150095 : Int64)).toUInt64 >>> ((8 : Int32).toInt64.toUInt64 &&& Int64.toUInt64 63)).toInt64)).toUInt64 >>> ((16 : Int32).toInt64.toUInt64 &&& Int64.toUInt64 63)).toInt64)).toUInt64 >>> ((32 : Int32).toInt64.toUInt64 &&& Int64.toUInt64 63)).toInt64)) hx hb dJ13_bitCount_95d88_52 rfl ?_
  refine lv_ladd hx hb dJ13_bitCount_95d88_53 ?_
  refine lv_topl (fun z10 ez10 => ?_)
  obtain rfl : z10 = ((((((((y0 - (((y0.toUInt64 >>> ((1 : Int32).toInt64.toUInt64 &&& Int64.toUInt64 63)).toInt64) &&& (6148914691236517205 : Int64))) &&& (3689348814741910323 : Int64)) + ((((y0 - (((y0.toUInt64 >>> ((1 : Int32).toInt64.toUInt64 &&& Int64.toUInt64 63)).toInt64) &&& (6148914691236517205 : Int64))).toUInt64 >>> ((2 : Int32).toInt64.toUInt64 &&& Int64.toUInt64 63)).toInt64) &&& (3689348814741910323 : Int64))) + (((((y0 - (((y0.toUInt64 >>> ((1 : Int32).toInt64.toUInt64 &&& Int64.toUInt64 63)).toInt64) &&& (6148914691236517205 : Int64))) &&& (3689348814741910323 : Int64)) + ((((y0 - (((y0.toUInt64 >>> ((1 : Int32).toInt64.toUInt64 &&& Int64.toUInt64 63)).toInt64) &&& (6148914691236517205 : Int64))).toUInt64 >>> ((2 : Int32).toInt64.toUInt64 &&& Int64.toUInt64 63)).toInt64) &&& (3689348814741910323 : Int64))).toUInt64 >>> ((4 : Int32).toInt64.toUInt64 &&& Int64.toUInt64 63)).toInt64)) &&& (1085102592571150095 : Int64)) + (((((((y0 - (((y0.toUInt64 >>> ((1 : Int32).toInt64.toUInt64 &&& Int64.toUInt64 63)).toInt64) &&& (6148914691236517205 : Int64))) &&& (3689348814741910323 : Int64)) + ((((y0 - (((y0.toUInt64 >>> ((1 : Int32).toInt64.toUInt64 &&& Int64.toUInt64 63)).toInt64) &&& (6148914691236517205 : Int64))).toUInt64 >>> ((2 : Int32).toInt64.toUInt64 &&& Int64.toUInt64 63)).toInt64) &&& (3689348814741910323 : Int64))) + (((((y0 - (((y0.toUInt64 >>> ((1 : Int32).toInt64.toUInt64 &&& Int64.toUInt64 63)).toInt64) &&& (6148914691236517205 : Int64))) &&& (3689348814741910323 : Int64)) + ((((y0 - (((y0.toUInt64 >>> ((1 : Int32).toInt64.toUInt64 &&& Int64.toUInt64 63)).toInt64) &&& (6148914691236517205 : Int64))).toUInt64 >>> ((2 : Int32).toInt64.toUInt64 &&& Int64.toUInt64 63)).toInt64) &&& (3689348814741910323 : Int64))).toUInt64 >>> ((4 : Int32).toInt64.toUInt64 &&& Int64.toUInt64 63)).toInt64)) &&& (1085102592571150095 : Int64)).toUInt64 >>> ((8 : Int32).toInt64.toUInt64 &&& Int64.toUInt64 63)).toInt64)) + ((((((((y0 - (((y0.toUInt64 >>> ((1 : Int32).toInt64.toUInt64 &&& Int64.toUInt64 63)).toInt64) &&& (6148914691236517205 : Int64))) &&& (3689348814741910323 : Int64)) + ((((y0 - (((y0.toUInt64 >>> ((1 : Int32).toInt64.toUInt64 &&& Int64.toUInt64 63)).toInt64) &&& (6148914691236517205 : Int64))).toUInt64 >>> ((2 : Int32).toInt64.toUInt64 &&& Int64.toUInt64 63)).toInt64) &&& (3689348814741910323 : Int64))) + (((((y0 - (((y0.toUInt64 >>> ((1 : Int32).toInt64.toUInt64 &&& Int64.toUInt64 63)).toInt64) &&& (6148914691236517205 : Int64))) &&& (3689348814741910323 : Int64)) + ((((y0 - (((y0.toUInt64 >>> ((1 : Int32).toInt64.toUInt64 &&& Int64.toUInt64 63)).toInt64) &&& (6148914691236517205 : Int64))).toUInt64 >>> ((2 : Int32).toInt64.toUInt64 &&& Int64.toUInt64 63)).toInt64) &&& (3689348814741910323 : Int64))).toUInt64 >>> ((4 : Int32).toInt64.toUInt64 &&& Int64.toUInt64 63)).toInt64)) &&& (1085102592571150095 : Int64)) + (((((((y0 - (((y0.toUInt64 >>> ((1 : Int32).toInt64.toUInt64 &&& Int64.toUInt64 63)).toInt64) &&& (6148914691236517205 : Int64))) &&& (3689348814741910323 : Int64)) + ((((y0 - (((y0.toUInt64 >>> ((1 : Int32).toInt64.toUInt64 &&& Int64.toUInt64 63)).toInt64) &&& (6148914691236517205 : Int64))).toUInt64 >>> ((2 : Int32).toInt64.toUInt64 &&& Int64.toUInt64 63)).toInt64) &&& (3689348814741910323 : Int64))) + (((((y0 - (((y0.toUInt64 >>> ((1 : Int32).toInt64.toUInt64 &&& Int64.toUInt64 63)).toInt64) &&& (6148914691236517205 : Int64))) &&& (3689348814741910323 : Int64)) + ((((y0 - (((y0.toUInt64 >>> ((1 : Int32).toInt64.toUInt64 &&& Int64.toUInt64 63)).toInt64) &&& (6148914691236517205 : Int64))).toUInt64 >>> ((2 : Int32).toInt64.toUInt64 &&& Int64.toUInt64 63)).toInt64) &&& (3689348814741910323 : Int64))).toUInt64 >>> ((4 : Int32).toInt64.toUInt64 &&& Int64.toUInt64 63)).toInt64)) &&& (1085102592571150095 : Int64)).toUInt64 >>> ((8 : Int32).toInt64.toUInt64 &&& Int64.toUInt64 63)).toInt64)).toUInt64 >>> ((16 : Int32).toInt64.toUInt64 &&& Int64.toUInt64 63)).toInt64)) + (((((((((y0 - (((y0.toUInt64 >>> ((1 : Int32).toInt64.toUInt64 &&& Int64.toUInt64 63)).toInt64) &&& (6148914691236517205 : Int64))) &&& (3689348814741910323 : Int64)) + ((((y0 - (((y0.toUInt64 >>> ((1 : Int32).toInt64.toUInt64 &&& Int64.toUInt64 63)).toInt64) &&& (6148914691236517205 : Int64))).toUInt64 >>> ((2 : Int32).toInt64.toUInt64 &&& Int64.toUInt64 63)).toInt64) &&& (3689348814741910323 : Int64))) + (((((y0 - (((y0.toUInt64 >>> ((1 : Int32).toInt64.toUInt64 &&& Int64.toUInt64 63)).toInt64) &&& (6148914691236517205 : Int64))) &&& (3689348814741910323 : Int64)) + ((((y0 - (((y0.toUInt64 >>> ((1 : Int32).toInt64.toUInt64 &&& Int64.toUInt64 63)).toInt64) &&& (6148914691236517205 : Int64))).toUInt64 >>> ((2 : Int32).toInt64.toUInt64 &&& Int64.toUInt64 63)).toInt64) &&& (3689348814741910323 : Int64))).toUInt64 >>> ((4 : Int32).toInt64.toUInt64 &&& Int64.toUInt64 63)).toInt64)) &&& (1085102592571150095 : Int64)) + (((((((y0 - (((y0.toUInt64 >>> ((1 : Int32).toInt64.toUInt64 &&& Int64.toUInt64 63)).toInt64) &&& (6148914691236517205 : Int64))) &&& (3689348814741910323 : Int64)) + ((((y0 - (((y0.toUInt64 >>> ((1 : Int32).toInt64.toUInt64 &&& Int64.toUInt64 63)).toInt64) &&& (6148914691236517205 : Int64))).toUInt64 >>> ((2 : Int32).toInt64.toUInt64 &&& Int64.toUInt64 63)).toInt64) &&& (3689348814741910323 : Int64))) + (((((y0 - (((y0.toUInt64 >>> ((1 : Int32).toInt64.toUInt64 &&& Int64.toUInt64 63)).toInt64) &&& (6148914691236517205 : Int64))) &&& (3689348814741910323 : Int64)) + ((((y0 - (((y0.toUInt64 >>> ((1 : Int32).toInt64.toUInt64 &&& Int64.toUInt64 63)).toInt64) &&& (6148914691236517205 : Int64))).toUInt64 >>> ((2 : Int32).toInt64.toUInt64 &&& Int64.toUInt64 63)).toInt64) &&& (3689348814741910323 : Int64))).toUInt64 >>> ((4 : Int32).toInt64.toUInt64 &&& Int64.toUInt64 63)).toInt64)) &&& (1085102592571150095 : Int64)).toUInt64 >>> ((8 : Int32).toInt64.toUInt64 &&& Int64.toUInt64 63)).toInt64)) + ((((((((y0 - (((y0.toUInt64 >>> ((1 : Int32).toInt64.toUInt64 &&& Int64.toUInt64 63)).toInt64) &&& (6148914691236517205 : Int64))) &&& (3689348814741910323 : Int64)) + ((((y0 - (((y0.toUInt64 >>> ((1 : Int32).toInt64.toUInt64 &&& Int64.toUInt64 63)).toInt64) &&& (6148914691236517205 : Int64))).toUInt64 >>> ((2 : Int32).toInt64.toUInt64 &&& Int64.toUInt64 63)).toInt64) &&& (3689348814741910323 : Int64))) + (((((y0 - (((y0.toUInt64 >>> ((1 : Int32).toInt64.toUInt64 &&& Int64.toUInt64 63)).toInt64) &&& (6148914691236517205 : Int64))) &&& (3689348814741910323 : Int64)) + ((((y0 - (((y0.toUInt64 >>> ((1 : Int32).toInt64.toUInt64 &&& Int64.toUInt64 63)).toInt64) &&& (6148914691236517205 : Int64))).toUInt64 >>> ((2 : Int32).toInt64.toUInt64 &&& Int64.toUInt64 63)).toInt64) &&& (3689348814741910323 : Int64))).toUInt64 >>> ((4 : Int32).toInt64.toUInt64 &&& Int64.toUInt64 63)).toInt64)) &&& (1085102592571150095 : Int64)) + (((((((y0 - (((y0.toUInt64 >>> ((1 : Int32).toInt64.toUInt64 &&& Int64.toUInt64 63)).toInt64) &&& (6148914691236517205 : Int64))) &&& (3689348814741910323 : Int64)) + ((((y0 - (((y0.toUInt64 >>> ((1 : Int32).toInt64.toUInt64 &&& Int64.toUInt64 63)).toInt64) &&& (6148914691236517205 : Int64))).toUInt64 >>> ((2 : Int32).toInt64.toUInt64 &&& Int64.toUInt64 63)).toInt64) &&& (3689348814741910323 : Int64))) + (((((y0 - (((y0.toUInt64 >>> ((1 : Int32).toInt64.toUInt64 &&& Int64.toUInt64 63)).toInt64) &&& (6148914691236517205 : Int64))) &&& (3689348814741910323 : Int64)) + ((((y0 - (((y0.toUInt64 >>> ((1 : Int32).toInt64.toUInt64 &&& Int64.toUInt64 63)).toInt64) &&& (6148914691236517205 : Int64))).toUInt64 >>> ((2 : Int32).toInt64.toUInt64 &&& Int64.toUInt64 63)).toInt64) &&& (3689348814741910323 : Int64))).toUInt64 >>> ((4 : Int32).toInt64.toUInt64 &&& Int64.toUInt64 63)).toInt64)) &&& (1085102592571150095 : Int64)).toUInt64 >>> ((8 : Int32).toInt64.toUInt64 &&& Int64.toUInt64 63)).toInt64)).toUInt64 >>> ((16 : Int32).toInt64.toUInt64 &&& Int64.toUInt64 63)).toInt64)).toUInt64 >>> ((32 : Int32).toInt64.toUInt64 &&& Int64.toUInt64 63)).toInt64)) := ez10
  refine lv_lstore_n (lv' := [(0, .long ((((((((y0 - (((y0.toUInt64 >>> ((1 : Int32).toInt64.toUInt64 &&& Int64.toUInt64 63)).toInt64) &&& (6148914691236517205 : Int64))) &&& (3689348814741910323 : Int64)) + ((((y0 - (((y0.toUInt64 >>> ((1 : Int32).toInt64.toUInt64 &&& Int64.toUInt64 63)).toInt64) &&& (6148914691236517205 : Int64))).toUInt64 >>> ((2 : Int32).toInt64.toUInt64 &&& Int64.toUInt64 63)).toInt64) &&& (3689348814741910323 : Int64))) + (((((y0 - (((y0.toUInt64 >>> ((1 : Int32).toInt64.toUInt64 &&& Int64.toUInt64 63)).toInt64) &&& (6148914691236517205 : Int64))) &&& (3689348814741910323 : Int64)) + ((((y0 - (((y0.toUInt64 >>> ((1 : Int32).toInt64.toUInt64 &&& Int64.toUInt64 63)).toInt64) &&& (6148914691236517205 : Int64))).toUInt64 >>> ((2 : Int32).toInt64.toUInt64 &&& Int64.toUInt64 63)).toInt64) &&& (3689348814741910323 : Int64))).toUInt64 >>> ((4 : Int32).toInt64.toUInt64 &&& Int64.toUInt64 63)).toInt64)) &&& (1085102592571150095 : Int64)) + (((((((y0 - (((y0.toUInt64 >>> ((1 : Int32).toInt64.toUInt64 &&& Int64.toUInt64 63)).toInt64) &&& (6148914691236517205 : Int64))) &&& (3689348814741910323 : Int64)) + ((((y0 - (((y0.toUInt64 >>> ((1 : Int32).toInt64.toUInt64 &&& Int64.toUInt64 63)).toInt64) &&& (6148914691236517205 : Int64))).toUInt64 >>> ((2 : Int32).toInt64.toUInt64 &&& Int64.toUInt64 63)).toInt64) &&& (3689348814741910323 : Int64))) + (((((y0 - (((y0.toUInt64 >>> ((1 : Int32).toInt64.toUInt64 &&& Int64.toUInt64 63)).toInt64) &&& (6148914691236517205 : Int64))) &&& (3689348814741910323 : Int64)) + ((((y0 - (((y0.toUInt64 >>> ((1 : Int32).toInt64.toUInt64 &&& Int64.toUInt64 63)).toInt64) &&& (6148914691236517205 : Int64))).toUInt64 >>> ((2 : Int32).toInt64.toUInt64 &&& Int64.toUInt64 63)).toInt64) &&& (3689348814741910323 : Int64))).toUInt64 >>> ((4 : Int32).toInt64.toUInt64 &&& Int64.toUInt64 63)).toInt64)) &&& (1085102592571150095 : Int64)).toUInt64 >>> ((8 : Int32).toInt64.toUInt64 &&& Int64.toUInt64 63)).toInt64)) + ((((((((y0 - (((y0.toUInt64 >>> ((1 : Int32).toInt64.toUInt64 &&& Int64.toUInt64 63)).toInt64) &&& (6148914691236517205 : Int64))) &&& (3689348814741910323 : Int64)) + ((((y0 - (((y0.toUInt64 >>> ((1 : Int32).toInt64.toUInt64 &&& Int64.toUInt64 63)).toInt64) &&& (6148914691236517205 : Int64))).toUInt64 >>> ((2 : Int32).toInt64.toUInt64 &&& Int64.toUInt64 63)).toInt64) &&& (3689348814741910323 : Int64))) + (((((y0 - (((y0.toUInt64 >>> ((1 : Int32).toInt64.toUInt64 &&& Int64.toUInt64 63)).toInt64) &&& (6148914691236517205 : Int64))) &&& (3689348814741910323 : Int64)) + ((((y0 - (((y0.toUInt64 >>> ((1 : Int32).toInt64.toUInt64 &&& Int64.toUInt64 63)).toInt64) &&& (6148914691236517205 : Int64))).toUInt64 >>> ((2 : Int32).toInt64.toUInt64 &&& Int64.toUInt64 63)).toInt64) &&& (3689348814741910323 : Int64))).toUInt64 >>> ((4 : Int32).toInt64.toUInt64 &&& Int64.toUInt64 63)).toInt64)) &&& (1085102592571150095 : Int64)) + (((((((y0 - (((y0.toUInt64 >>> ((1 : Int32).toInt64.toUInt64 &&& Int64.toUInt64 63)).toInt64) &&& (6148914691236517205 : Int64))) &&& (3689348814741910323 : Int64)) + ((((y0 - (((y0.toUInt64 >>> ((1 : Int32).toInt64.toUInt64 &&& Int64.toUInt64 63)).toInt64) &&& (6148914691236517205 : Int64))).toUInt64 >>> ((2 : Int32).toInt64.toUInt64 &&& Int64.toUInt64 63)).toInt64) &&& (3689348814741910323 : Int64))) + (((((y0 - (((y0.toUInt64 >>> ((1 : Int32).toInt64.toUInt64 &&& Int64.toUInt64 63)).toInt64) &&& (6148914691236517205 : Int64))) &&& (3689348814741910323 : Int64)) + ((((y0 - (((y0.toUInt64 >>> ((1 : Int32).toInt64.toUInt64 &&& Int64.toUInt64 63)).toInt64) &&& (6148914691236517205 : Int64))).toUInt64 >>> ((2 : Int32).toInt64.toUInt64 &&& Int64.toUInt64 63)).toInt64) &&& (3689348814741910323 : Int64))).toUInt64 >>> ((4 : Int32).toInt64.toUInt64 &&& Int64.toUInt64 63)).toInt64)) &&& (1085102592571150095 : Int64)).toUInt64 >>> ((8 : Int32).toInt64.toUInt64 &&& Int64.toUInt64 63)).toInt64)).toUInt64 >>> ((16 : Int32).toInt64.toUInt64 &&& Int64.toUInt64 63)).toInt64)) + (((((((((y0 - (((y0.toUInt64 >>> ((1 : Int32).toInt64.toUInt64 &&& Int64.toUInt64 63)).toInt64) &&& (6148914691236517205 : Int64))) &&& (3689348814741910323 : Int64)) + ((((y0 - (((y0.toUInt64 >>> ((1 : Int32).toInt64.toUInt64 &&& Int64.toUInt64 63)).toInt64) &&& (6148914691236517205 : Int64))).toUInt64 >>> ((2 : Int32).toInt64.toUInt64 &&& Int64.toUInt64 63)).toInt64) &&& (3689348814741910323 : Int64))) + (((((y0 - (((y0.toUInt64 >>> ((1 : Int32).toInt64.toUInt64 &&& Int64.toUInt64 63)).toInt64) &&& (6148914691236517205 : Int64))) &&& (3689348814741910323 : Int64)) + ((((y0 - (((y0.toUInt64 >>> ((1 : Int32).toInt64.toUInt64 &&& Int64.toUInt64 63)).toInt64) &&& (6148914691236517205 : Int64))).toUInt64 >>> ((2 : Int32).toInt64.toUInt64 &&& Int64.toUInt64 63)).toInt64) &&& (3689348814741910323 : Int64))).toUInt64 >>> ((4 : Int32).toInt64.toUInt64 &&& Int64.toUInt64 63)).toInt64)) &&& (1085102592571150095 : Int64)) + (((((((y0 - (((y0.toUInt64 >>> ((1 : Int32).toInt64.toUInt64 &&& Int64.toUInt64 63)).toInt64) &&& (6148914691236517205 : Int64))) &&& (3689348814741910323 : Int64)) + ((((y0 - (((y0.toUInt64 >>> ((1 : Int32).toInt64.toUInt64 &&& Int64.toUInt64 63)).toInt64) &&& (6148914691236517205 : Int64))).toUInt64 >>> ((2 : Int32).toInt64.toUInt64 &&& Int64.toUInt64 63)).toInt64) &&& (3689348814741910323 : Int64))) + (((((y0 - (((y0.toUInt64 >>> ((1 : Int32).toInt64.toUInt64 &&& Int64.toUInt64 63)).toInt64) &&& (6148914691236517205 : Int64))) &&& (3689348814741910323 : Int64)) + ((((y0 - (((y0.toUInt64 >>> ((1 : Int32).toInt64.toUInt64 &&& Int64.toUInt64 63)).toInt64) &&& (6148914691236517205 : Int64))).toUInt64 >>> ((2 : Int32).toInt64.toUInt64 &&& Int64.toUInt64 63)).toInt64) &&& (3689348814741910323 : Int64))).toUInt64 >>> ((4 : Int32).toInt64.toUInt64 &&& Int64.toUInt64 63)).toInt64)) &&& (1085102592571150095 : Int64)).toUInt64 >>> ((8 : Int32).toInt64.toUInt64 &&& Int64.toUInt64 63)).toInt64)) + ((((((((y0 - (((y0.toUInt64 >>> ((1 : Int32).toInt64.toUInt64 &&& Int64.toUInt64 63)).toInt64) &&& (6148914691236517205 : Int64))) &&& (3689348814741910323 : Int64)) + ((((y0 - (((y0.toUInt64 >>> ((1 : Int32).toInt64.toUInt64 &&& Int64.toUInt64 63)).toInt64) &&& (6148914691236517205 : Int64))).toUInt64 >>> ((2 : Int32).toInt64.toUInt64 &&& Int64.toUInt64 63)).toInt64) &&& (3689348814741910323 : Int64))) + (((((y0 - (((y0.toUInt64 >>> ((1 : Int32).toInt64.toUInt64 &&& Int64.toUInt64 63)).toInt64) &&& (6148914691236517205 : Int64))) &&& (3689348814741910323 : Int64)) + ((((y0 - (((y0.toUInt64 >>> ((1 : Int32).toInt64.toUInt64 &&& Int64.toUInt64 63)).toInt64) &&& (6148914691236517205 : Int64))).toUInt64 >>> ((2 : Int32).toInt64.toUInt64 &&& Int64.toUInt64 63)).toInt64) &&& (3689348814741910323 : Int64))).toUInt64 >>> ((4 : Int32).toInt64.toUInt64 &&& Int64.toUInt64 63)).toInt64)) &&& (1085102592571150095 : Int64)) + (((((((y0 - (((y0.toUInt64 >>> ((1 : Int32).toInt64.toUInt64 &&& Int64.toUInt64 63)).toInt64) &&& (6148914691236517205 : Int64))) &&& (3689348814741910323 : Int64)) + ((((y0 - (((y0.toUInt64 >>> ((1 : Int32).toInt64.toUInt64 &&& Int64.toUInt64 63)).toInt64) &&& (6148914691236517205 : Int64))).toUInt64 >>> ((2 : Int32).toInt64.toUInt64 &&& Int64.toUInt64 63)).toInt64) &&& (3689348814741910323 : Int64))) + (((((y0 - (((y0.toUInt64 >>> ((1 : Int32).toInt64.toUInt64 &&& Int64.toUInt64 63)).toInt64) &&& (6148914691236517205 : Int64))) &&& (3689348814741910323 : Int64)) + ((((y0 - (((y0.toUInt64 >>> ((1 : Int32).toInt64.toUInt64 &&& Int64.toUInt64 63)).toInt64) &&& (6148914691236517205 : Int64))).toUInt64 >>> ((2 : Int32).toInt64.toUInt64 &&& Int64.toUInt64 63)).toInt64) &&& (3689348814741910323 : Int64))).toUInt64 >>> ((4 : Int32).toInt64.toUInt64 &&& Int64.toUInt64 63)).toInt64)) &&& (1085102592571150095 : Int64)).toUInt64 >>> ((8 : Int32).toInt64.toUInt64 &&& Int64.toUInt64 63)).toInt64)).toUInt64 >>> ((16 : Int32).toInt64.toUInt64 &&& Int64.toUInt64 63)).toInt64)).toUInt64 >>> ((32 : Int32).toInt64.toUInt64 &&& Int64.toUInt64 63)).toInt64)))]) hx hb dJ13_bitCount_95d88_54 rfl hl (by decide) rfl (fun ls hl => ?_)
  refine lv_lload_n hx hb dJ13_bitCount_95d88_55 rfl (lv_at hl 0 rfl) ?_
  refine lv_l2i (v := (((((((((y0 - (((y0.toUInt64 >>> ((1 : Int32).toInt64.toUInt64 &&& Int64.toUInt64 63)).toInt64) &&& (6148914691236517205 : Int64))) &&& (3689348814741910323 : Int64)) + ((((y0 - (((y0.toUInt64 >>> ((1 : Int32).toInt64.toUInt64 &&& Int64.toUInt64 63)).toInt64) &&& (6148914691236517205 : Int64))).toUInt64 >>> ((2 : Int32).toInt64.toUInt64 &&& Int64.toUInt64 63)).toInt64) &&& (3689348814741910323 : Int64))) + (((((y0 - (((y0.toUInt64 >>> ((1 : Int32).toInt64.toUInt64 &&& Int64.toUInt64 63)).toInt64) &&& (6148914691236517205 : Int64))) &&& (3689348814741910323 : Int64)) + ((((y0 - (((y0.toUInt64 >>> ((1 : Int32).toInt64.toUInt64 &&& Int64.toUInt64 63)).toInt64) &&& (6148914691236517205 : Int64))).toUInt64 >>> ((2 : Int32).toInt64.toUInt64 &&& Int64.toUInt64 63)).toInt64) &&& (3689348814741910323 : Int64))).toUInt64 >>> ((4 : Int32).toInt64.toUInt64 &&& Int64.toUInt64 63)).toInt64)) &&& (1085102592571150095 : Int64)) + (((((((y0 - (((y0.toUInt64 >>> ((1 : Int32).toInt64.toUInt64 &&& Int64.toUInt64 63)).toInt64) &&& (6148914691236517205 : Int64))) &&& (3689348814741910323 : Int64)) + ((((y0 - (((y0.toUInt64 >>> ((1 : Int32).toInt64.toUInt64 &&& Int64.toUInt64 63)).toInt64) &&& (6148914691236517205 : Int64))).toUInt64 >>> ((2 : Int32).toInt64.toUInt64 &&& Int64.toUInt64 63)).toInt64) &&& (3689348814741910323 : Int64))) + (((((y0 - (((y0.toUInt64 >>> ((1 : Int32).toInt64.toUInt64 &&& Int64.toUInt64 63)).toInt64) &&& (6148914691236517205 : Int64))) &&& (3689348814741910323 : Int64)) + ((((y0 - (((y0.toUInt64 >>> ((1 : Int32).toInt64.toUInt64 &&& Int64.toUInt64 63)).toInt64) &&& (6148914691236517205 : Int64))).toUInt64 >>> ((2 : Int32).toInt64.toUInt64 &&& Int64.toUInt64 63)).toInt64) &&& (3689348814741910323 : Int64))).toUInt64 >>> ((4 : Int32).toInt64.toUInt64 &&& Int64.toUInt64 63)).toInt64)) &&& (1085102592571150095 : Int64)).toUInt64 >>> ((8 : Int32).toInt64.toUInt64 &&& Int64.toUInt64 63)).toInt64)) + ((((((((y0 - (((y0.toUInt64 >>> ((1 : Int32).toInt64.toUInt64 &&& Int64.toUInt64 63)).toInt64) &&& (6148914691236517205 : Int64))) &&& (3689348814741910323 : Int64)) + ((((y0 - (((y0.toUInt64 >>> ((1 : Int32).toInt64.toUInt64 &&& Int64.toUInt64 63)).toInt64) &&& (6148914691236517205 : Int64))).toUInt64 >>> ((2 : Int32).toInt64.toUInt64 &&& Int64.toUInt64 63)).toInt64) &&& (3689348814741910323 : Int64))) + (((((y0 - (((y0.toUInt64 >>> ((1 : Int32).toInt64.toUInt64 &&& Int64.toUInt64 63)).toInt64) &&& (6148914691236517205 : Int64))) &&& (3689348814741910323 : Int64)) + ((((y0 - (((y0.toUInt64 >>> ((1 : Int32).toInt64.toUInt64 &&& Int64.toUInt64 63)).toInt64) &&& (6148914691236517205 : Int64))).toUInt64 >>> ((2 : Int32).toInt64.toUInt64 &&& Int64.toUInt64 63)).toInt64) &&& (3689348814741910323 : Int64))).toUInt64 >>> ((4 : Int32).toInt64.toUInt64 &&& Int64.toUInt64 63)).toInt64)) &&& (1085102592571150095 : Int64)) + (((((((y0 - (((y0.toUInt64 >>> ((1 : Int32).toInt64.toUInt64 &&& Int64.toUInt64 63)).toInt64) &&& (6148914691236517205 : Int64))) &&& (3689348814741910323 : Int64)) + ((((y0 - (((y0.toUInt64 >>> ((1 : Int32).toInt64.toUInt64 &&& Int64.toUInt64 63)).toInt64) &&& (6148914691236517205 : Int64))).toUInt64 >>> ((2 : Int32).toInt64.toUInt64 &&& Int64.toUInt64 63)).toInt64) &&& (3689348814741910323 : Int64))) + (((((y0 - (((y0.toUInt64 >>> ((1 : Int32).toInt64.toUInt64 &&& Int64.toUInt64 63)).toInt64) &&& (6148914691236517205 : Int64))) &&& (3689348814741910323 : Int64)) + ((((y0 - (((y0.toUInt64 >>> ((1 : Int32).toInt64.toUInt64 &&& Int64.toUInt64 63)).toInt64) &&& (6148914691236517205 : Int64))).toUInt64 >>> ((2 : Int32).toInt64.toUInt64 &&& Int64.toUInt64 63)).toInt64) &&& (3689348814741910323 : Int64))).toUInt64 >>> ((4 : Int32).toInt64.toUInt64 &&& Int64.toUInt64 63)).toInt64)) &&& (1085102592571150095 : Int64)).toUInt64 >>> ((8 : Int32).toInt64.toUInt64 &&& Int64.toUInt64 63)).toInt64)).toUInt64 >>> ((16 : Int32).toInt64.toUInt64 &&& Int64.toUInt64 63)).toInt64)) + (((((((((y0 - (((y0.toUInt64 >>> ((1 : Int32).toInt64.toUInt64 &&& Int64.toUInt64 63)).toInt64) &&& (6148914691236517205 : Int64))) &&& (3689348814741910323 : Int64)) + ((((y0 - (((y0.toUInt64 >>> ((1 : Int32).toInt64.toUInt64 &&& Int64.toUInt64 63)).toInt64) &&& (6148914691236517205 : Int64))).toUInt64 >>> ((2 : Int32).toInt64.toUInt64 &&& Int64.toUInt64 63)).toInt64) &&& (3689348814741910323 : Int64))) + (((((y0 - (((y0.toUInt64 >>> ((1 : Int32).toInt64.toUInt64 &&& Int64.toUInt64 63)).toInt64) &&& (6148914691236517205 : Int64))) &&& (3689348814741910323 : Int64)) + ((((y0 - (((y0.toUInt64 >>> ((1 : Int32).toInt64.toUInt64 &&& Int64.toUInt64 63)).toInt64) &&& (6148914691236517205 : Int64))).toUInt64 >>> ((2 : Int32).toInt64.toUInt64 &&& Int64.toUInt64 63)).toInt64) &&& (3689348814741910323 : Int64))).toUInt64 >>> ((4 : Int32).toInt64.toUInt64 &&& Int64.toUInt64 63)).toInt64)) &&& (1085102592571150095 : Int64)) + (((((((y0 - (((y0.toUInt64 >>> ((1 : Int32).toInt64.toUInt64 &&& Int64.toUInt64 63)).toInt64) &&& (6148914691236517205 : Int64))) &&& (3689348814741910323 : Int64)) + ((((y0 - (((y0.toUInt64 >>> ((1 : Int32).toInt64.toUInt64 &&& Int64.toUInt64 63)).toInt64) &&& (6148914691236517205 : Int64))).toUInt64 >>> ((2 : Int32).toInt64.toUInt64 &&& Int64.toUInt64 63)).toInt64) &&& (3689348814741910323 : Int64))) + (((((y0 - (((y0.toUInt64 >>> ((1 : Int32).toInt64.toUInt64 &&& Int64.toUInt64 63)).toInt64) &&& (6148914691236517205 : Int64))) &&& (3689348814741910323 : Int64)) + ((((y0 - (((y0.toUInt64 >>> ((1 : Int32).toInt64.toUInt64 &&& Int64.toUInt64 63)).toInt64) &&& (6148914691236517205 : Int64))).toUInt64 >>> ((2 : Int32).toInt64.toUInt64 &&& Int64.toUInt64 63)).toInt64) &&& (3689348814741910323 : Int64))).toUInt64 >>> ((4 : Int32).toInt64.toUInt64 &&& Int64.toUInt64 63)).toInt64)) &&& (1085102592571150095 : Int64)).toUInt64 >>> ((8 : Int32).toInt64.toUInt64 &&& Int64.toUInt64 63)).toInt64)) + ((((((((y0 - (((y0.toUInt64 >>> ((1 : Int32).toInt64.toUInt64 &&& Int64.toUInt64 63)).toInt64) &&& (6148914691236517205 : Int64))) &&& (3689348814741910323 : Int64)) + ((((y0 - (((y0.toUInt64 >>> ((1 : Int32).toInt64.toUInt64 &&& Int64.toUInt64 63)).toInt64) &&& (6148914691236517205 : Int64))).toUInt64 >>> ((2 : Int32).toInt64.toUInt64 &&& Int64.toUInt64 63)).toInt64) &&& (3689348814741910323 : Int64))) + (((((y0 - (((y0.toUInt64 >>> ((1 : Int32).toInt64.toUInt64 &&& Int64.toUInt64 63)).toInt64) &&& (6148914691236517205 : Int64))) &&& (3689348814741910323 : Int64)) + ((((y0 - (((y0.toUInt64 >>> ((1 : Int32).toInt64.toUInt64 &&& Int64.toUInt64 63)).toInt64) &&& (6148914691236517205 : Int64))).toUInt64 >>> ((2 : Int32).toInt64.toUInt64 &&& Int64.toUInt64 63)).toInt64) &&& (3689348814741910323 : Int64))).toUInt64 >>> ((4 : Int32).toInt64.toUInt64 &&& Int64.toUInt64 63)).toInt64)) &&& (1085102592571150095 : Int64)) + (((((((y0 - (((y0.toUInt64 >>> ((1 : Int32).toInt64.toUInt64 &&& Int64.toUInt64 63)).toInt64) &&& (6148914691236517205 : Int64))) &&& (3689348814741910323 : Int64)) + ((((y0 - (((y0.toUInt64 >>> ((1 : Int32).toInt64.toUInt64 &&& Int64.toUInt64 63)).toInt64) &&& (6148914691236517205 : Int64))).toUInt64 >>> ((2 : Int32).toInt64.toUInt64 &&& Int64.toUInt64 63)).toInt64) &&& (3689348814741910323 : Int64))) + (((((y0 - (((y0.toUInt64 >>> ((1 : Int32).toInt64.toUInt64 &&& Int64.toUInt64 63)).toInt64) &&& (6148914691236517205 : Int64))) &&& (3689348814741910323 : Int64)) + ((((y0 - (((y0.toUInt64 >>> ((1 : Int32).toInt64.toUInt64 &&& Int64.toUInt64 63)).toInt64) &&& (6148914691236517205 : Int64))).toUInt64 >>> ((2 : Int32).toInt64.toUInt64 &&& Int64.toUInt64 63)).toInt64) &&& (3689348814741910323 : Int64))).toUInt64 >>> ((4 : Int32).toInt64.toUInt64 &&& Int64.toUInt64 63)).toInt64)) &&& (1085102592571150095 : Int64)).toUInt64 >>> ((8 : Int32).toInt64.toUInt64 &&& Int64.toUInt64 63)).toInt64)).toUInt64 >>> ((16 : Int32).toInt64.toUInt64 &&& Int64.toUInt64 63)).toInt64)).toUInt64 >>> ((32 : Int32).toInt64.toUInt64 &&& Int64.toUInt64 63)).toInt64)).toInt32)) hx hb dJ13_bitCount_95d88_56 rfl ?_
  refine lv_bipush (v := 127) hx hb dJ13_bitCount_95d88_57 (by decide) ?_
  refine lv_iand hx hb dJ13_bitCount_95d88_59 ?_
  refine lv_topi (fun z11 ez11 => ?_)
  obtain rfl : z11 = ((((((((((y0 - (((y0.toUInt64 >>> ((1 : Int32).toInt64.toUInt64 &&& Int64.toUInt64 63)).toInt64) &&& (6148914691236517205 : Int64))) &&& (3689348814741910323 : Int64)) + ((((y0 - (((y0.toUInt64 >>> ((1 : Int32).toInt64.toUInt64 &&& Int64.toUInt64 63)).toInt64) &&& (6148914691236517205 : Int64))).toUInt64 >>> ((2 : Int32).toInt64.toUInt64 &&& Int64.toUInt64 63)).toInt64) &&& (3689348814741910323 : Int64))) + (((((y0 - (((y0.toUInt64 >>> ((1 : Int32).toInt64.toUInt64 &&& Int64.toUInt64 63)).toInt64) &&& (6148914691236517205 : Int64))) &&& (3689348814741910323 : Int64)) + ((((y0 - (((y0.toUInt64 >>> ((1 : Int32).toInt64.toUInt64 &&& Int64.toUInt64 63)).toInt64) &&& (6148914691236517205 : Int64))).toUInt64 >>> ((2 : Int32).toInt64.toUInt64 &&& Int64.toUInt64 63)).toInt64) &&& (3689348814741910323 : Int64))).toUInt64 >>> ((4 : Int32).toInt64.toUInt64 &&& Int64.toUInt64 63)).toInt64)) &&& (1085102592571150095 : Int64)) + (((((((y0 - (((y0.toUInt64 >>> ((1 : Int32).toInt64.toUInt64 &&& Int64.toUInt64 63)).toInt64) &&& (6148914691236517205 : Int64))) &&& (3689348814741910323 : Int64)) + ((((y0 - (((y0.toUInt64 >>> ((1 : Int32).toInt64.toUInt64 &&& Int64.toUInt64 63)).toInt64) &&& (6148914691236517205 : Int64))).toUInt64 >>> ((2 : Int32).toInt64.toUInt64 &&& Int64.toUInt64 63)).toInt64) &&& (3689348814741910323 : Int64))) + (((((y0 - (((y0.toUInt64 >>> ((1 : Int32).toInt64.toUInt64 &&& Int64.toUInt64 63)).toInt64) &&& (6148914691236517205 : Int64))) &&& (3689348814741910323 : Int64)) + ((((y0 - (((y0.toUInt64 >>> ((1 : Int32).toInt64.toUInt64 &&& Int64.toUInt64 63)).toInt64) &&& (6148914691236517205 : Int64))).toUInt64 >>> ((2 : Int32).toInt64.toUInt64 &&& Int64.toUInt64 63)).toInt64) &&& (3689348814741910323 : Int64))).toUInt64 >>> ((4 : Int32).toInt64.toUInt64 &&& Int64.toUInt64 63)).toInt64)) &&& (1085102592571150095 : Int64)).toUInt64 >>> ((8 : Int32).toInt64.toUInt64 &&& Int64.toUInt64 63)).toInt64)) + ((((((((y0 - (((y0.toUInt64 >>> ((1 : Int32).toInt64.toUInt64 &&& Int64.toUInt64 63)).toInt64) &&& (6148914691236517205 : Int64))) &&& (3689348814741910323 : Int64)) + ((((y0 - (((y0.toUInt64 >>> ((1 : Int32).toInt64.toUInt64 &&& Int64.toUInt64 63)).toInt64) &&& (6148914691236517205 : Int64))).toUInt64 >>> ((2 : Int32).toInt64.toUInt64 &&& Int64.toUInt64 63)).toInt64) &&& (3689348814741910323 : Int64))) + (((((y0 - (((y0.toUInt64 >>> ((1 : Int32).toInt64.toUInt64 &&& Int64.toUInt64 63)).toInt64) &&& (6148914691236517205 : Int64))) &&& (3689348814741910323 : Int64)) + ((((y0 - (((y0.toUInt64 >>> ((1 : Int32).toInt64.toUInt64 &&& Int64.toUInt64 63)).toInt64) &&& (6148914691236517205 : Int64))).toUInt64 >>> ((2 : Int32).toInt64.toUInt64 &&& Int64.toUInt64 63)).toInt64) &&& (3689348814741910323 : Int64))).toUInt64 >>> ((4 : Int32).toInt64.toUInt64 &&& Int64.toUInt64 63)).toInt64)) &&& (1085102592571150095 : Int64)) + (((((((y0 - (((y0.toUInt64 >>> ((1 : Int32).toInt64.toUInt64 &&& Int64.toUInt64 63)).toInt64) &&& (6148914691236517205 : Int64))) &&& (3689348814741910323 : Int64)) + ((((y0 - (((y0.toUInt64 >>> ((1 : Int32).toInt64.toUInt64 &&& Int64.toUInt64 63)).toInt64) &&& (6148914691236517205 : Int64))).toUInt64 >>> ((2 : Int32).toInt64.toUInt64 &&& Int64.toUInt64 63)).toInt64) &&& (3689348814741910323 : Int64))) + (((((y0 - (((y0.toUInt64 >>> ((1 : Int32).toInt64.toUInt64 &&& Int64.toUInt64 63)).toInt64) &&& (6148914691236517205 : Int64))) &&& (3689348814741910323 : Int64)) + ((((y0 - (((y0.toUInt64 >>> ((1 : Int32).toInt64.toUInt64 &&& Int64.toUInt64 63)).toInt64) &&& (6148914691236517205 : Int64))).toUInt64 >>> ((2 : Int32).toInt64.toUInt64 &&& Int64.toUInt64 63)).toInt64) &&& (3689348814741910323 : Int64))).toUInt64 >>> ((4 : Int32).toInt64.toUInt64 &&& Int64.toUInt64 63)).toInt64)) &&& (1085102592571150095 : Int64)).toUInt64 >>> ((8 : Int32).toInt64.toUInt64 &&& Int64.toUInt64 63)).toInt64)).toUInt64 >>> ((16 : Int32).toInt64.toUInt64 &&& Int64.toUInt64 63)).toInt64)) + (((((((((y0 - (((y0.toUInt64 >>> ((1 : Int32).toInt64.toUInt64 &&& Int64.toUInt64 63)).toInt64) &&& (6148914691236517205 : Int64))) &&& (3689348814741910323 : Int64)) + ((((y0 - (((y0.toUInt64 >>> ((1 : Int32).toInt64.toUInt64 &&& Int64.toUInt64 63)).toInt64) &&& (6148914691236517205 : Int64))).toUInt64 >>> ((2 : Int32).toInt64.toUInt64 &&& Int64.toUInt64 63)).toInt64) &&& (3689348814741910323 : Int64))) + (((((y0 - (((y0.toUInt64 >>> ((1 : Int32).toInt64.toUInt64 &&& Int64.toUInt64 63)).toInt64) &&& (6148914691236517205 : Int64))) &&& (3689348814741910323 : Int64)) + ((((y0 - (((y0.toUInt64 >>> ((1 : Int32).toInt64.toUInt64 &&& Int64.toUInt64 63)).toInt64) &&& (6148914691236517205 : Int64))).toUInt64 >>> ((2 : Int32).toInt64.toUInt64 &&& Int64.toUInt64 63)).toInt64) &&& (3689348814741910323 : Int64))).toUInt64 >>> ((4 : Int32).toInt64.toUInt64 &&& Int64.toUInt64 63)).toInt64)) &&& (1085102592571150095 : Int64)) + (((((((y0 - (((y0.toUInt64 >>> ((1 : Int32).toInt64.toUInt64 &&& Int64.toUInt64 63)).toInt64) &&& (6148914691236517205 : Int64))) &&& (3689348814741910323 : Int64)) + ((((y0 - (((y0.toUInt64 >>> ((1 : Int32).toInt64.toUInt64 &&& Int64.toUInt64 63)).toInt64) &&& (6148914691236517205 : Int64))).toUInt64 >>> ((2 : Int32).toInt64.toUInt64 &&& Int64.toUInt64 63)).toInt64) &&& (3689348814741910323 : Int64))) + (((((y0 - (((y0.toUInt64 >>> ((1 : Int32).toInt64.toUInt64 &&& Int64.toUInt64 63)).toInt64) &&& (6148914691236517205 : Int64))) &&& (3689348814741910323 : Int64)) + ((((y0 - (((y0.toUInt64 >>> ((1 : Int32).toInt64.toUInt64 &&& Int64.toUInt64 63)).toInt64) &&& (6148914691236517205 : Int64))).toUInt64 >>> ((2 : Int32).toInt64.toUInt64 &&& Int64.toUInt64 63)).toInt64) &&& (3689348814741910323 : Int64))).toUInt64 >>> ((4 : Int32).toInt64.toUInt64 &&& Int64.toUInt64 63)).toInt64)) &&& (1085102592571150095 : Int64)).toUInt64 >>> ((8 : Int32).toInt64.toUInt64 &&& Int64.toUInt64 63)).toInt64)) + ((((((((y0 - (((y0.toUInt64 >>> ((1 : Int32).toInt64.toUInt64 &&& Int64.toUInt64 63)).toInt64) &&& (6148914691236517205 : Int64))) &&& (3689348814741910323 : Int64)) + ((((y0 - (((y0.toUInt64 >>> ((1 : Int32).toInt64.toUInt64 &&& Int64.toUInt64 63)).toInt64) &&& (6148914691236517205 : Int64))).toUInt64 >>> ((2 : Int32).toInt64.toUInt64 &&& Int64.toUInt64 63)).toInt64) &&& (3689348814741910323 : Int64))) + (((((y0 - (((y0.toUInt64 >>> ((1 : Int32).toInt64.toUInt64 &&& Int64.toUInt64 63)).toInt64) &&& (6148914691236517205 : Int64))) &&& (3689348814741910323 : Int64)) + ((((y0 - (((y0.toUInt64 >>> ((1 : Int32).toInt64.toUInt64 &&& Int64.toUInt64 63)).toInt64) &&& (6148914691236517205 : Int64))).toUInt64 >>> ((2 : Int32).toInt64.toUInt64 &&& Int64.toUInt64 63)).toInt64) &&& (3689348814741910323 : Int64))).toUInt64 >>> ((4 : Int32).toInt64.toUInt64 &&& Int64.toUInt64 63)).toInt64)) &&& (1085102592571150095 : Int64)) + (((((((y0 - (((y0.toUInt64 >>> ((1 : Int32).toInt64.toUInt64 &&& Int64.toUInt64 63)).toInt64) &&& (6148914691236517205 : Int64))) &&& (3689348814741910323 : Int64)) + ((((y0 - (((y0.toUInt64 >>> ((1 : Int32).toInt64.toUInt64 &&& Int64.toUInt64 63)).toInt64) &&& (6148914691236517205 : Int64))).toUInt64 >>> ((2 : Int32).toInt64.toUInt64 &&& Int64.toUInt64 63)).toInt64) &&& (3689348814741910323 : Int64))) + (((((y0 - (((y0.toUInt64 >>> ((1 : Int32).toInt64.toUInt64 &&& Int64.toUInt64 63)).toInt64) &&& (6148914691236517205 : Int64))) &&& (3689348814741910323 : Int64)) + ((((y0 - (((y0.toUInt64 >>> ((1 : Int32).toInt64.toUInt64 &&& Int64.toUInt64 63)).toInt64) &&& (6148914691236517205 : Int64))).toUInt64 >>> ((2 : Int32).toInt64.toUInt64 &&& Int64.toUInt64 63)).toInt64) &&& (3689348814741910323 : Int64))).toUInt64 >>> ((4 : Int32).toInt64.toUInt64 &&& Int64.toUInt64 63)).toInt64)) &&& (1085102592571150095 : Int64)).toUInt64 >>> ((8 : Int32).toInt64.toUInt64 &&& Int64.toUInt64 63)).toInt64)).toUInt64 >>> ((16 : Int32).toInt64.toUInt64 &&& Int64.toUInt64 63)).toInt64)).toUInt64 >>> ((32 : Int32).toInt64.toUInt64 &&& Int64.toUInt64 63)).toInt64)).toInt32) &&& (127 : Int32)) := ez11
  exact W.iret (v := ((((((((((y0 - (((y0.toUInt64 >>> ((1 : Int32).toInt64.toUInt64 &&& Int64.toUInt64 63)).toInt64) &&& (6148914691236517205 : Int64))) &&& (3689348814741910323 : Int64)) + ((((y0 - (((y0.toUInt64 >>> ((1 : Int32).toInt64.toUInt64 &&& Int64.toUInt64 63)).toInt64) &&& (6148914691236517205 : Int64))).toUInt64 >>> ((2 : Int32).toInt64.toUInt64 &&& Int64.toUInt64 63)).toInt64) &&& (3689348814741910323 : Int64))) + (((((y0 - (((y0.toUInt64 >>> ((1 : Int32).toInt64.toUInt64 &&& Int64.toUInt64 63)).toInt64) &&& (6148914691236517205 : Int64))) &&& (3689348814741910323 : Int64)) + ((((y0 - (((y0.toUInt64 >>> ((1 : Int32).toInt64.toUInt64 &&& Int64.toUInt64 63)).toInt64) &&& (6148914691236517205 : Int64))).toUInt64 >>> ((2 : Int32).toInt64.toUInt64 &&& Int64.toUInt64 63)).toInt64) &&& (3689348814741910323 : Int64))).toUInt64 >>> ((4 : Int32).toInt64.toUInt64 &&& Int64.toUInt64 63)).toInt64)) &&& (1085102592571150095 : Int64)) + (((((((y0 - (((y0.toUInt64 >>> ((1 : Int32).toInt64.toUInt64 &&& Int64.toUInt64 63)).toInt64) &&& (6148914691236517205 : Int64))) &&& (3689348814741910323 : Int64)) + ((((y0 - (((y0.toUInt64 >>> ((1 : Int32).toInt64.toUInt64 &&& Int64.toUInt64 63)).toInt64) &&& (6148914691236517205 : Int64))).toUInt64 >>> ((2 : Int32).toInt64.toUInt64 &&& Int64.toUInt64 63)).toInt64) &&& (3689348814741910323 : Int64))) + (((((y0 - (((y0.toUInt64 >>> ((1 : Int32).toInt64.toUInt64 &&& Int64.toUInt64 63)).toInt64) &&& (6148914691236517205 : Int64))) &&& (3689348814741910323 : Int64)) + ((((y0 - (((y0.toUInt64 >>> ((1 : Int32).toInt64.toUInt64 &&& Int64.toUInt64 63)).toInt64) &&& (6148914691236517205 : Int64))).toUInt64 >>> ((2 : Int32).toInt64.toUInt64 &&& Int64.toUInt64 63)).toInt64) &&& (3689348814741910323 : Int64))).toUInt64 >>> ((4 : Int32).toInt64.toUInt64 &&& Int64.toUInt64 63)).toInt64)) &&& (1085102592571150095 : Int64)).toUInt64 >>> ((8 : Int32).toInt64.toUInt64 &&& Int64.toUInt64 63)).toInt64)) + ((((((((y0 - (((y0.toUInt64 >>> ((1 : Int32).toInt64.toUInt64 &&& Int64.toUInt64 63)).toInt64) &&& (6148914691236517205 : Int64))) &&& (3689348814741910323 : Int64)) + ((((y0 - (((y0.toUInt64 >>> ((1 : Int32).toInt64.toUInt64 &&& Int64.toUInt64 63)).toInt64) &&& (6148914691236517205 : Int64))).toUInt64 >>> ((2 : Int32).toInt64.toUInt64 &&& Int64.toUInt64 63)).toInt64) &&& (3689348814741910323 : Int64))) + (((((y0 - (((y0.toUInt64 >>> ((1 : Int32).toInt64.toUInt64 &&& Int64.toUInt64 63)).toInt64) &&& (6148914691236517205 : Int64))) &&& (3689348814741910323 : Int64)) + ((((y0 - (((y0.toUInt64 >>> ((1 : Int32).toInt64.toUInt64 &&& Int64.toUInt64 63)).toInt64) &&& (6148914691236517205 : Int64))).toUInt64 >>> ((2 : Int32).toInt64.toUInt64 &&& Int64.toUInt64 63)).toInt64) &&& (3689348814741910323 : Int64))).toUInt64 >>> ((4 : Int32).toInt64.toUInt64 &&& Int64.toUInt64 63)).toInt64)) &&& (1085102592571150095 : Int64)) + (((((((y0 - (((y0.toUInt64 >>> ((1 : Int32).toInt64.toUInt64 &&& Int64.toUInt64 63)).toInt64) &&& (6148914691236517205 : Int64))) &&& (3689348814741910323 : Int64)) + ((((y0 - (((y0.toUInt64 >>> ((1 : Int32).toInt64.toUInt64 &&& Int64.toUInt64 63)).toInt64) &&& (6148914691236517205 : Int64))).toUInt64 >>> ((2 : Int32).toInt64.toUInt64 &&& Int64.toUInt64 63)).toInt64) &&& (3689348814741910323 : Int64))) + (((((y0 - (((y0.toUInt64 >>> ((1 : Int32).toInt64.toUInt64 &&& Int64.toUInt64 63)).toInt64) &&& (6148914691236517205 : Int64))) &&& (3689348814741910323 : Int64)) + ((((y0 - (((y0.toUInt64 >>> ((1 : Int32).toInt64.toUInt64 &&& Int64.toUInt64 63)).toInt64) &&& (6148914691236517205 : Int64))).toUInt64 >>> ((2 : Int32).toInt64.toUInt64 &&& Int64.toUInt64 63)).toInt64) &&& (3689348814741910323 : Int64))).toUInt64 >>> ((4 : Int32).toInt64.toUInt64 &&& Int64.toUInt64 63)).toInt64)) &&& (1085102592571150095 : Int64)).toUInt64 >>> ((8 : Int32).toInt64.toUInt64 &&& Int64.toUInt64 63)).toInt64)).toUInt64 >>> ((16 : Int32).toInt64.toUInt64 &&& Int64.toUInt64 63)).toInt64)) + (((((((((y0 - (((y0.toUInt64 >>> ((1 : Int32).toInt64.toUInt64 &&& Int64.toUInt64 63)).toInt64) &&& (6148914691236517205 : Int64))) &&& (3689348814741910323 : Int64)) + ((((y0 - (((y0.toUInt64 >>> ((1 : Int32).toInt64.toUInt64 &&& Int64.toUInt64 63)).toInt64) &&& (6148914691236517205 : Int64))).toUInt64 >>> ((2 : Int32).toInt64.toUInt64 &&& Int64.toUInt64 63)).toInt64) &&& (3689348814741910323 : Int64))) + (((((y0 - (((y0.toUInt64 >>> ((1 : Int32).toInt64.toUInt64 &&& Int64.toUInt64 63)).toInt64) &&& (6148914691236517205 : Int64))) &&& (3689348814741910323 : Int64)) + ((((y0 - (((y0.toUInt64 >>> ((1 : Int32).toInt64.toUInt64 &&& Int64.toUInt64 63)).toInt64) &&& (6148914691236517205 : Int64))).toUInt64 >>> ((2 : Int32).toInt64.toUInt64 &&& Int64.toUInt64 63)).toInt64) &&& (3689348814741910323 : Int64))).toUInt64 >>> ((4 : Int32).toInt64.toUInt64 &&& Int64.toUInt64 63)).toInt64)) &&& (1085102592571150095 : Int64)) + (((((((y0 - (((y0.toUInt64 >>> ((1 : Int32).toInt64.toUInt64 &&& Int64.toUInt64 63)).toInt64) &&& (6148914691236517205 : Int64))) &&& (3689348814741910323 : Int64)) + ((((y0 - (((y0.toUInt64 >>> ((1 : Int32).toInt64.toUInt64 &&& Int64.toUInt64 63)).toInt64) &&& (6148914691236517205 : Int64))).toUInt64 >>> ((2 : Int32).toInt64.toUInt64 &&& Int64.toUInt64 63)).toInt64) &&& (3689348814741910323 : Int64))) + (((((y0 - (((y0.toUInt64 >>> ((1 : Int32).toInt64.toUInt64 &&& Int64.toUInt64 63)).toInt64) &&& (6148914691236517205 : Int64))) &&& (3689348814741910323 : Int64)) + ((((y0 - (((y0.toUInt64 >>> ((1 : Int32).toInt64.toUInt64 &&& Int64.toUInt64 63)).toInt64) &&& (6148914691236517205 : Int64))).toUInt64 >>> ((2 : Int32).toInt64.toUInt64 &&& Int64.toUInt64 63)).toInt64) &&& (3689348814741910323 : Int64))).toUInt64 >>> ((4 : Int32).toInt64.toUInt64 &&& Int64.toUInt64 63)).toInt64)) &&& (1085102592571150095 : Int64)).toUInt64 >>> ((8 : Int32).toInt64.toUInt64 &&& Int64.toUInt64 63)).toInt64)) + ((((((((y0 - (((y0.toUInt64 >>> ((1 : Int32).toInt64.toUInt64 &&& Int64.toUInt64 63)).toInt64) &&& (6148914691236517205 : Int64))) &&& (3689348814741910323 : Int64)) + ((((y0 - (((y0.toUInt64 >>> ((1 : Int32).toInt64.toUInt64 &&& Int64.toUInt64 63)).toInt64) &&& (6148914691236517205 : Int64))).toUInt64 >>> ((2 : Int32).toInt64.toUInt64 &&& Int64.toUInt64 63)).toInt64) &&& (3689348814741910323 : Int64))) + (((((y0 - (((y0.toUInt64 >>> ((1 : Int32).toInt64.toUInt64 &&& Int64.toUInt64 63)).toInt64) &&& (6148914691236517205 : Int64))) &&& (3689348814741910323 : Int64)) + ((((y0 - (((y0.toUInt64 >>> ((1 : Int32).toInt64.toUInt64 &&& Int64.toUInt64 63)).toInt64) &&& (6148914691236517205 : Int64))).toUInt64 >>> ((2 : Int32).toInt64.toUInt64 &&& Int64.toUInt64 63)).toInt64) &&& (3689348814741910323 : Int64))).toUInt64 >>> ((4 : Int32).toInt64.toUInt64 &&& Int64.toUInt64 63)).toInt64)) &&& (1085102592571150095 : Int64)) + (((((((y0 - (((y0.toUInt64 >>> ((1 : Int32).toInt64.toUInt64 &&& Int64.toUInt64 63)).toInt64) &&& (6148914691236517205 : Int64))) &&& (3689348814741910323 : Int64)) + ((((y0 - (((y0.toUInt64 >>> ((1 : Int32).toInt64.toUInt64 &&& Int64.toUInt64 63)).toInt64) &&& (6148914691236517205 : Int64))).toUInt64 >>> ((2 : Int32).toInt64.toUInt64 &&& Int64.toUInt64 63)).toInt64) &&& (3689348814741910323 : Int64))) + (((((y0 - (((y0.toUInt64 >>> ((1 : Int32).toInt64.toUInt64 &&& Int64.toUInt64 63)).toInt64) &&& (6148914691236517205 : Int64))) &&& (3689348814741910323 : Int64)) + ((((y0 - (((y0.toUInt64 >>> ((1 : Int32).toInt64.toUInt64 &&& Int64.toUInt64 63)).toInt64) &&& (6148914691236517205 : Int64))).toUInt64 >>> ((2 : Int32).toInt64.toUInt64 &&& Int64.toUInt64 63)).toInt64) &&& (3689348814741910323 : Int64))).toUInt64 >>> ((4 : Int32).toInt64.toUInt64 &&& Int64.toUInt64 63)).toInt64)) &&& (1085102592571150095 : Int64)).toUInt64 >>> ((8 : Int32).toInt64.toUInt64 &&& Int64.toUInt64 63)).toInt64)).toUInt64 >>> ((16 : Int32).toInt64.toUInt64 &&& Int64.toUInt64 63)).toInt64)).toUInt64 >>> ((32 : Int32).toInt64.toUInt64 &&& Int64.toUInt64 63)).toInt64)).toInt32) &&& (127 : Int32))) hx hb hr (fun t9 ht9 hW9 => ⟨⟨_, (), rfl, hf.trans hf0.symm, ⟨by rw [ht9]; exact hR.P, hR.D⟩⟩, hR.sS.F ht9⟩) hR.sS.2.2 dJ13_bitCount_95d88_60
def f_J6_numberOfTrailingZeros_0f7a4_J74 (S : MS) (v74_0 : Int32) (v74_1 : Int32) : Int32 := (v74_1 + ((v74_0.toUInt32 >>> ((1 : Int32).toUInt32 &&& Int32.toUInt32 31)).toInt32))
def d_J6_numberOfTrailingZeros_0f7a4_J74 (S : MS) (v74_0 : Int32) (v74_1 : Int32) : Prop := True
def f_J6_numberOfTrailingZeros_0f7a4_J62 (S : MS) (v62_0 : Int32) (v62_1 : Int32) : Int32 := (if v62_0.toInt ≤ 4 then f_J6_numberOfTrailingZeros_0f7a4_J74 S v62_0 v62_1 else f_J6_numberOfTrailingZeros_0f7a4_J74 S ((v62_0.toUInt32 >>> ((2 : Int32).toUInt32 &&& Int32.toUInt32 31)).toInt32) (v62_1 + Int32.ofInt 2))
def d_J6_numberOfTrailingZeros_0f7a4_J62 (S : MS) (v62_0 : Int32) (v62_1 : Int32) : Prop := (if v62_0.toInt ≤ 4 then d_J6_numberOfTrailingZeros_0f7a4_J74 S v62_0 v62_1 else d_J6_numberOfTrailingZeros_0f7a4_J74 S ((v62_0.toUInt32 >>> ((2 : Int32).toUInt32 &&& Int32.toUInt32 31)).toInt32) (v62_1 + Int32.ofInt 2))
def f_J6_numberOfTrailingZeros_0f7a4_J49 (S : MS) (v49_0 : Int32) (v49_1 : Int32) : Int32 := (if v49_0.toInt ≤ 16 then f_J6_numberOfTrailingZeros_0f7a4_J62 S v49_0 v49_1 else f_J6_numberOfTrailingZeros_0f7a4_J62 S ((v49_0.toUInt32 >>> ((4 : Int32).toUInt32 &&& Int32.toUInt32 31)).toInt32) (v49_1 + Int32.ofInt 4))
def d_J6_numberOfTrailingZeros_0f7a4_J49 (S : MS) (v49_0 : Int32) (v49_1 : Int32) : Prop := (if v49_0.toInt ≤ 16 then d_J6_numberOfTrailingZeros_0f7a4_J62 S v49_0 v49_1 else d_J6_numberOfTrailingZeros_0f7a4_J62 S ((v49_0.toUInt32 >>> ((4 : Int32).toUInt32 &&& Int32.toUInt32 31)).toInt32) (v49_1 + Int32.ofInt 4))
def f_J6_numberOfTrailingZeros_0f7a4_J34 (S : MS) (v34_0 : Int32) (v34_1 : Int32) : Int32 := (if v34_0.toInt ≤ 256 then f_J6_numberOfTrailingZeros_0f7a4_J49 S v34_0 v34_1 else f_J6_numberOfTrailingZeros_0f7a4_J49 S ((v34_0.toUInt32 >>> ((8 : Int32).toUInt32 &&& Int32.toUInt32 31)).toInt32) (v34_1 + Int32.ofInt 8))
def d_J6_numberOfTrailingZeros_0f7a4_J34 (S : MS) (v34_0 : Int32) (v34_1 : Int32) : Prop := (if v34_0.toInt ≤ 256 then d_J6_numberOfTrailingZeros_0f7a4_J49 S v34_0 v34_1 else d_J6_numberOfTrailingZeros_0f7a4_J49 S ((v34_0.toUInt32 >>> ((8 : Int32).toUInt32 &&& Int32.toUInt32 31)).toInt32) (v34_1 + Int32.ofInt 8))
def fJ6_numberOfTrailingZeros_0f7a4 (S : MS) (x0 : Int32) : Int32 := (if 0 < ((x0 ^^^ (-1 : Int32)) &&& (x0 - (1 : Int32))).toInt then (if ((x0 ^^^ (-1 : Int32)) &&& (x0 - (1 : Int32))).toInt ≤ 65536 then f_J6_numberOfTrailingZeros_0f7a4_J34 S ((x0 ^^^ (-1 : Int32)) &&& (x0 - (1 : Int32))) 1 else f_J6_numberOfTrailingZeros_0f7a4_J34 S ((((x0 ^^^ (-1 : Int32)) &&& (x0 - (1 : Int32))).toUInt32 >>> ((16 : Int32).toUInt32 &&& Int32.toUInt32 31)).toInt32) ((1 : Int32) + Int32.ofInt 16)) else (((x0 ^^^ (-1 : Int32)) &&& (x0 - (1 : Int32))) &&& (32 : Int32)))
def d_J6_numberOfTrailingZeros_0f7a4 (S : MS) (x0 : Int32) : Prop := (if 0 < ((x0 ^^^ (-1 : Int32)) &&& (x0 - (1 : Int32))).toInt then (if ((x0 ^^^ (-1 : Int32)) &&& (x0 - (1 : Int32))).toInt ≤ 65536 then d_J6_numberOfTrailingZeros_0f7a4_J34 S ((x0 ^^^ (-1 : Int32)) &&& (x0 - (1 : Int32))) 1 else d_J6_numberOfTrailingZeros_0f7a4_J34 S ((((x0 ^^^ (-1 : Int32)) &&& (x0 - (1 : Int32))).toUInt32 >>> ((16 : Int32).toUInt32 &&& Int32.toUInt32 31)).toInt32) ((1 : Int32) + Int32.ofInt 16)) else True)
set_option maxHeartbeats 2000000 in
set_option maxRecDepth 100000 in
theorem rJ6_numberOfTrailingZeros_0f7a4 (l : Launch) (g : Gr) (ad : Nat → Nat) (sz : Nat) (S : MS) (x0 : Int32) (hw : wfC S) (hd : d_J6_numberOfTrailingZeros_0f7a4 S x0) : Met l yJ6_numberOfTrailingZeros_0f7a4 (wt yJ6_numberOfTrailingZeros_0f7a4 cJ6_numberOfTrailingZeros_0f7a4 2 (some .int)) ({ frames := 0, cells := 0, slots := 0, locals := 0 }) (va_Pc [.int x0] (st_C g ad sz S)) (va_Qi (fun (r : Int32) (_ : Unit) => r = fJ6_numberOfTrailingZeros_0f7a4 S x0) (fun (_ : Unit) (t : State) => qEC g ad (va_A (WdC g ad S) sz) S t) (va_A (WdC g ad S) sz)) 0 0 (va_A (WdC g ad S) sz) := by
  refine Met.ofW (cc := cJ6_numberOfTrailingZeros_0f7a4) (maxL := 2) (ret := (some .int)) (by decide) rfl ?_
  intro p e s m args below meth c s₁ B hml hv
  obtain ⟨rfl, hsz, hP, hK, hD0, hex, hE⟩ := hv
  have hx := B.exec
  have hb := B.bytes
  have hr := B.returns
  have hts0 := atoms_spec (ws := wt yJ6_numberOfTrailingZeros_0f7a4 cJ6_numberOfTrailingZeros_0f7a4 2 (some .int)) B.pre
  have hts : ∀ w ∈ tb, w.before _ s = true := fun w h => hts0 w (List.mem_cons_of_mem _ h)
  have hown : s.vm.findClass RJ6 = some m.cls := findClass_of_methodNamed B.named
  subst hsz
  have hD := hD0.self (sz := s.heap.size)
  generalize hAe : va_A (WdC g ad S) s.heap.size = A at hD hE ⊢
  have hA : ∀ q : Nat, s.heap.size ≤ q → A q := fun q h => by rw [← hAe]; exact Or.inr h
  have hR : RepC g ad A s S s.heap [] := ⟨hK, hP, hD, va_S.rf, hw⟩
  clear hK hP hD hD0
  have hl := lv_entry ([.int x0]) (n := 2) (Nat.le_of_ble_eq_true rfl)
  rw [lg_entry_eq]
  generalize (lg_sl ([.int x0]) ++ List.replicate (2 - (lg_sl ([.int x0])).length) Slot.unset).toArray = ls at hl ⊢
  have hl : lv_has ls 2 [(0, .int x0)] := hl
  obtain ⟨r0, hf⟩ : ∃ r0, fJ6_numberOfTrailingZeros_0f7a4 S x0 = r0 := ⟨_, rfl⟩
  have hf0 := hf
  unfold fJ6_numberOfTrailingZeros_0f7a4 at hf
  unfold d_J6_numberOfTrailingZeros_0f7a4 at hd
  refine lv_iload_n hx hb dJ6_numberOfTrailingZeros_0f7a4_0 rfl (lv_at hl 0 rfl) ?_
  refine lv_iconst (v := (-1)) hx hb dJ6_numberOfTrailingZeros_0f7a4_1 (by decide) ?_
  refine lv_ixor hx hb dJ6_numberOfTrailingZeros_0f7a4_2 ?_
  refine lv_topi (fun z1 ez1 => ?_)
  obtain rfl : z1 = (x0 ^^^ (-1 : Int32)) := ez1
  refine lv_iload_n hx hb dJ6_numberOfTrailingZeros_0f7a4_3 rfl (lv_at hl 0 rfl) ?_
  refine lv_iconst (v := 1) hx hb dJ6_numberOfTrailingZeros_0f7a4_4 (by decide) ?_
  refine lv_isub hx hb dJ6_numberOfTrailingZeros_0f7a4_5 ?_
  refine lv_topi (fun z2 ez2 => ?_)
  obtain rfl : z2 = (x0 - (1 : Int32)) := ez2
  refine lv_iand hx hb dJ6_numberOfTrailingZeros_0f7a4_6 ?_
  refine lv_topi (fun z3 ez3 => ?_)
  obtain rfl : z3 = ((x0 ^^^ (-1 : Int32)) &&& (x0 - (1 : Int32))) := ez3
  refine lv_istore_n (lv' := [(0, .int ((x0 ^^^ (-1 : Int32)) &&& (x0 - (1 : Int32))))]) hx hb dJ6_numberOfTrailingZeros_0f7a4_7 rfl hl (by decide) rfl (fun ls hl => ?_)
  refine lv_iload_n hx hb dJ6_numberOfTrailingZeros_0f7a4_8 rfl (lv_at hl 0 rfl) ?_
  refine lv_if_gt (tgt := 17) hx hb dJ6_numberOfTrailingZeros_0f7a4_9 (by decide) (fun c4 => ?_) (fun c4 => ?_)
  · rw [if_pos (k_lt (by decide) rfl c4)] at hf
    (try rw [if_pos (k_lt (by decide) rfl c4)] at hd)
    refine lv_iconst (v := 1) hx hb dJ6_numberOfTrailingZeros_0f7a4_17 (by decide) ?_
    refine lv_istore_n (lv' := [(1, .int 1), (0, .int ((x0 ^^^ (-1 : Int32)) &&& (x0 - (1 : Int32))))]) hx hb dJ6_numberOfTrailingZeros_0f7a4_18 rfl hl (by decide) rfl (fun ls hl => ?_)
    refine lv_iload_n hx hb dJ6_numberOfTrailingZeros_0f7a4_19 rfl (lv_at hl 1 rfl) ?_
    refine lv_ldcw hx hb hown (hts _ kw_1739) dJ6_numberOfTrailingZeros_0f7a4_20 ?_
    have J_34 : ∀ (v34_0 : Int32) (v34_1 : Int32) (H : Heap) (locs : List Loc) (ls : Array Slot), d_J6_numberOfTrailingZeros_0f7a4_J34 S v34_0 v34_1 → f_J6_numberOfTrailingZeros_0f7a4_J34 S v34_0 v34_1 = r0 → RepC g ad A s S H locs → lv_has ls 2 [(0, .int v34_0), (1, .int v34_1)] → W p l e (headSpec (wt yJ6_numberOfTrailingZeros_0f7a4 cJ6_numberOfTrailingZeros_0f7a4 2 (some .int)) ({ frames := 0, cells := 0, slots := 0, locals := 0 })).room s m ([.int x0] : List Value).toArray below meth c H locs 0 0 (MQ below (va_Qi (fun (r : Int32) (_ : Unit) => r = fJ6_numberOfTrailingZeros_0f7a4 S x0) (fun (_ : Unit) (t : State) => qEC g ad A S t) A) ([.int x0] : List Value).toArray s 0 0 A) (F0 m 34 ls []) := by
      intro v34_0 v34_1 H locs ls hd hf hR hl
      unfold d_J6_numberOfTrailingZeros_0f7a4_J34 at hd
      unfold f_J6_numberOfTrailingZeros_0f7a4_J34 at hf
      refine lv_iload_n hx hb dJ6_numberOfTrailingZeros_0f7a4_34 rfl (lv_at hl 0 rfl) ?_
      refine lv_sipush (v := 256) hx hb dJ6_numberOfTrailingZeros_0f7a4_35 (by decide) ?_
      have J_49 : ∀ (v49_0 : Int32) (v49_1 : Int32) (H : Heap) (locs : List Loc) (ls : Array Slot), d_J6_numberOfTrailingZeros_0f7a4_J49 S v49_0 v49_1 → f_J6_numberOfTrailingZeros_0f7a4_J49 S v49_0 v49_1 = r0 → RepC g ad A s S H locs → lv_has ls 2 [(0, .int v49_0), (1, .int v49_1)] → W p l e (headSpec (wt yJ6_numberOfTrailingZeros_0f7a4 cJ6_numberOfTrailingZeros_0f7a4 2 (some .int)) ({ frames := 0, cells := 0, slots := 0, locals := 0 })).room s m ([.int x0] : List Value).toArray below meth c H locs 0 0 (MQ below (va_Qi (fun (r : Int32) (_ : Unit) => r = fJ6_numberOfTrailingZeros_0f7a4 S x0) (fun (_ : Unit) (t : State) => qEC g ad A S t) A) ([.int x0] : List Value).toArray s 0 0 A) (F0 m 49 ls []) := by
        intro v49_0 v49_1 H locs ls hd hf hR hl
        unfold d_J6_numberOfTrailingZeros_0f7a4_J49 at hd
        unfold f_J6_numberOfTrailingZeros_0f7a4_J49 at hf
        refine lv_iload_n hx hb dJ6_numberOfTrailingZeros_0f7a4_49 rfl (lv_at hl 0 rfl) ?_
        refine lv_bipush (v := 16) hx hb dJ6_numberOfTrailingZeros_0f7a4_50 (by decide) ?_
        have J_62 : ∀ (v62_0 : Int32) (v62_1 : Int32) (H : Heap) (locs : List Loc) (ls : Array Slot), d_J6_numberOfTrailingZeros_0f7a4_J62 S v62_0 v62_1 → f_J6_numberOfTrailingZeros_0f7a4_J62 S v62_0 v62_1 = r0 → RepC g ad A s S H locs → lv_has ls 2 [(0, .int v62_0), (1, .int v62_1)] → W p l e (headSpec (wt yJ6_numberOfTrailingZeros_0f7a4 cJ6_numberOfTrailingZeros_0f7a4 2 (some .int)) ({ frames := 0, cells := 0, slots := 0, locals := 0 })).room s m ([.int x0] : List Value).toArray below meth c H locs 0 0 (MQ below (va_Qi (fun (r : Int32) (_ : Unit) => r = fJ6_numberOfTrailingZeros_0f7a4 S x0) (fun (_ : Unit) (t : State) => qEC g ad A S t) A) ([.int x0] : List Value).toArray s 0 0 A) (F0 m 62 ls []) := by
          intro v62_0 v62_1 H locs ls hd hf hR hl
          unfold d_J6_numberOfTrailingZeros_0f7a4_J62 at hd
          unfold f_J6_numberOfTrailingZeros_0f7a4_J62 at hf
          refine lv_iload_n hx hb dJ6_numberOfTrailingZeros_0f7a4_62 rfl (lv_at hl 0 rfl) ?_
          refine lv_iconst (v := 4) hx hb dJ6_numberOfTrailingZeros_0f7a4_63 (by decide) ?_
          have J_74 : ∀ (v74_0 : Int32) (v74_1 : Int32) (H : Heap) (locs : List Loc) (ls : Array Slot), d_J6_numberOfTrailingZeros_0f7a4_J74 S v74_0 v74_1 → f_J6_numberOfTrailingZeros_0f7a4_J74 S v74_0 v74_1 = r0 → RepC g ad A s S H locs → lv_has ls 2 [(0, .int v74_0), (1, .int v74_1)] → W p l e (headSpec (wt yJ6_numberOfTrailingZeros_0f7a4 cJ6_numberOfTrailingZeros_0f7a4 2 (some .int)) ({ frames := 0, cells := 0, slots := 0, locals := 0 })).room s m ([.int x0] : List Value).toArray below meth c H locs 0 0 (MQ below (va_Qi (fun (r : Int32) (_ : Unit) => r = fJ6_numberOfTrailingZeros_0f7a4 S x0) (fun (_ : Unit) (t : State) => qEC g ad A S t) A) ([.int x0] : List Value).toArray s 0 0 A) (F0 m 74 ls []) := by
            intro v74_0 v74_1 H locs ls hd hf hR hl
            unfold d_J6_numberOfTrailingZeros_0f7a4_J74 at hd
            unfold f_J6_numberOfTrailingZeros_0f7a4_J74 at hf
            refine lv_iload_n hx hb dJ6_numberOfTrailingZeros_0f7a4_74 rfl (lv_at hl 1 rfl) ?_
            refine lv_iload_n hx hb dJ6_numberOfTrailingZeros_0f7a4_75 rfl (lv_at hl 0 rfl) ?_
            refine lv_iconst (v := 1) hx hb dJ6_numberOfTrailingZeros_0f7a4_76 (by decide) ?_
            refine lv_iushr hx hb dJ6_numberOfTrailingZeros_0f7a4_77 rfl ?_
            refine lv_topi (fun z5 ez5 => ?_)
            obtain rfl : z5 = ((v74_0.toUInt32 >>> ((1 : Int32).toUInt32 &&& Int32.toUInt32 31)).toInt32) := ez5
            refine lv_iadd hx hb dJ6_numberOfTrailingZeros_0f7a4_78 ?_
            refine lv_topi (fun z6 ez6 => ?_)
            obtain rfl : z6 = (v74_1 + ((v74_0.toUInt32 >>> ((1 : Int32).toUInt32 &&& Int32.toUInt32 31)).toInt32)) := ez6
            exact W.iret (v := (v74_1 + ((v74_0.toUInt32 >>> ((1 : Int32).toUInt32 &&& Int32.toUInt32 31)).toInt32))) hx hb hr (fun t9 ht9 hW9 => ⟨⟨_, (), rfl, hf.trans hf0.symm, ⟨by rw [ht9]; exact hR.P, hR.D⟩⟩, hR.sS.F ht9⟩) hR.sS.2.2 dJ6_numberOfTrailingZeros_0f7a4_79
          refine lv_icmp_le (tgt := 74) hx hb dJ6_numberOfTrailingZeros_0f7a4_64 (by decide) (fun c7 => ?_) (fun c7 => ?_)
          · rw [if_pos (k_le rfl (by decide) c7)] at hf
            (try rw [if_pos (k_le rfl (by decide) c7)] at hd)
            exact J_74 v62_0 v62_1 _ _ ls hd hf  hR (lv_sub hl [0, 1] rfl)
          · rw [if_neg (k_nle rfl (by decide) c7)] at hf
            (try rw [if_neg (k_nle rfl (by decide) c7)] at hd)
            refine lv_iinc (v := (v62_1 + Int32.ofInt 2)) (lv' := [(1, .int (v62_1 + Int32.ofInt 2)), (0, .int v62_0)]) hx hb dJ6_numberOfTrailingZeros_0f7a4_67 hl (k := 1) rfl rfl (by decide) rfl (fun ls hl => ?_)
            refine lv_iload_n hx hb dJ6_numberOfTrailingZeros_0f7a4_70 rfl (lv_at hl 1 rfl) ?_
            refine lv_iconst (v := 2) hx hb dJ6_numberOfTrailingZeros_0f7a4_71 (by decide) ?_
            refine lv_iushr hx hb dJ6_numberOfTrailingZeros_0f7a4_72 rfl ?_
            refine lv_topi (fun z8 ez8 => ?_)
            obtain rfl : z8 = ((v62_0.toUInt32 >>> ((2 : Int32).toUInt32 &&& Int32.toUInt32 31)).toInt32) := ez8
            refine lv_istore_n (lv' := [(0, .int ((v62_0.toUInt32 >>> ((2 : Int32).toUInt32 &&& Int32.toUInt32 31)).toInt32)), (1, .int (v62_1 + Int32.ofInt 2))]) hx hb dJ6_numberOfTrailingZeros_0f7a4_73 rfl hl (by decide) rfl (fun ls hl => ?_)
            exact J_74 ((v62_0.toUInt32 >>> ((2 : Int32).toUInt32 &&& Int32.toUInt32 31)).toInt32) (v62_1 + Int32.ofInt 2) _ _ ls hd hf  hR (lv_sub hl [0, 1] rfl)
        refine lv_icmp_le (tgt := 62) hx hb dJ6_numberOfTrailingZeros_0f7a4_52 (by decide) (fun c9 => ?_) (fun c9 => ?_)
        · rw [if_pos (k_le rfl (by decide) c9)] at hf
          (try rw [if_pos (k_le rfl (by decide) c9)] at hd)
          exact J_62 v49_0 v49_1 _ _ ls hd hf  hR (lv_sub hl [0, 1] rfl)
        · rw [if_neg (k_nle rfl (by decide) c9)] at hf
          (try rw [if_neg (k_nle rfl (by decide) c9)] at hd)
          refine lv_iinc (v := (v49_1 + Int32.ofInt 4)) (lv' := [(1, .int (v49_1 + Int32.ofInt 4)), (0, .int v49_0)]) hx hb dJ6_numberOfTrailingZeros_0f7a4_55 hl (k := 1) rfl rfl (by decide) rfl (fun ls hl => ?_)
          refine lv_iload_n hx hb dJ6_numberOfTrailingZeros_0f7a4_58 rfl (lv_at hl 1 rfl) ?_
          refine lv_iconst (v := 4) hx hb dJ6_numberOfTrailingZeros_0f7a4_59 (by decide) ?_
          refine lv_iushr hx hb dJ6_numberOfTrailingZeros_0f7a4_60 rfl ?_
          refine lv_topi (fun z10 ez10 => ?_)
          obtain rfl : z10 = ((v49_0.toUInt32 >>> ((4 : Int32).toUInt32 &&& Int32.toUInt32 31)).toInt32) := ez10
          refine lv_istore_n (lv' := [(0, .int ((v49_0.toUInt32 >>> ((4 : Int32).toUInt32 &&& Int32.toUInt32 31)).toInt32)), (1, .int (v49_1 + Int32.ofInt 4))]) hx hb dJ6_numberOfTrailingZeros_0f7a4_61 rfl hl (by decide) rfl (fun ls hl => ?_)
          exact J_62 ((v49_0.toUInt32 >>> ((4 : Int32).toUInt32 &&& Int32.toUInt32 31)).toInt32) (v49_1 + Int32.ofInt 4) _ _ ls hd hf  hR (lv_sub hl [0, 1] rfl)
      refine lv_icmp_le (tgt := 49) hx hb dJ6_numberOfTrailingZeros_0f7a4_38 (by decide) (fun c11 => ?_) (fun c11 => ?_)
      · rw [if_pos (k_le rfl (by decide) c11)] at hf
        (try rw [if_pos (k_le rfl (by decide) c11)] at hd)
        exact J_49 v34_0 v34_1 _ _ ls hd hf  hR (lv_sub hl [0, 1] rfl)
      · rw [if_neg (k_nle rfl (by decide) c11)] at hf
        (try rw [if_neg (k_nle rfl (by decide) c11)] at hd)
        refine lv_iinc (v := (v34_1 + Int32.ofInt 8)) (lv' := [(1, .int (v34_1 + Int32.ofInt 8)), (0, .int v34_0)]) hx hb dJ6_numberOfTrailingZeros_0f7a4_41 hl (k := 1) rfl rfl (by decide) rfl (fun ls hl => ?_)
        refine lv_iload_n hx hb dJ6_numberOfTrailingZeros_0f7a4_44 rfl (lv_at hl 1 rfl) ?_
        refine lv_bipush (v := 8) hx hb dJ6_numberOfTrailingZeros_0f7a4_45 (by decide) ?_
        refine lv_iushr hx hb dJ6_numberOfTrailingZeros_0f7a4_47 rfl ?_
        refine lv_topi (fun z12 ez12 => ?_)
        obtain rfl : z12 = ((v34_0.toUInt32 >>> ((8 : Int32).toUInt32 &&& Int32.toUInt32 31)).toInt32) := ez12
        refine lv_istore_n (lv' := [(0, .int ((v34_0.toUInt32 >>> ((8 : Int32).toUInt32 &&& Int32.toUInt32 31)).toInt32)), (1, .int (v34_1 + Int32.ofInt 8))]) hx hb dJ6_numberOfTrailingZeros_0f7a4_48 rfl hl (by decide) rfl (fun ls hl => ?_)
        exact J_49 ((v34_0.toUInt32 >>> ((8 : Int32).toUInt32 &&& Int32.toUInt32 31)).toInt32) (v34_1 + Int32.ofInt 8) _ _ ls hd hf  hR (lv_sub hl [0, 1] rfl)
    refine lv_icmp_le (tgt := 34) hx hb dJ6_numberOfTrailingZeros_0f7a4_23 (by decide) (fun c13 => ?_) (fun c13 => ?_)
    · rw [if_pos (k_le rfl (by decide) c13)] at hf
      (try rw [if_pos (k_le rfl (by decide) c13)] at hd)
      exact J_34 ((x0 ^^^ (-1 : Int32)) &&& (x0 - (1 : Int32))) 1 _ _ ls hd hf  hR (lv_sub hl [1, 0] rfl)
    · rw [if_neg (k_nle rfl (by decide) c13)] at hf
      (try rw [if_neg (k_nle rfl (by decide) c13)] at hd)
      refine lv_iinc (v := ((1 : Int32) + Int32.ofInt 16)) (lv' := [(1, .int ((1 : Int32) + Int32.ofInt 16)), (0, .int ((x0 ^^^ (-1 : Int32)) &&& (x0 - (1 : Int32))))]) hx hb dJ6_numberOfTrailingZeros_0f7a4_26 hl (k := 0) rfl rfl (by decide) rfl (fun ls hl => ?_)
      refine lv_iload_n hx hb dJ6_numberOfTrailingZeros_0f7a4_29 rfl (lv_at hl 1 rfl) ?_
      refine lv_bipush (v := 16) hx hb dJ6_numberOfTrailingZeros_0f7a4_30 (by decide) ?_
      refine lv_iushr hx hb dJ6_numberOfTrailingZeros_0f7a4_32 rfl ?_
      refine lv_topi (fun z14 ez14 => ?_)
      obtain rfl : z14 = ((((x0 ^^^ (-1 : Int32)) &&& (x0 - (1 : Int32))).toUInt32 >>> ((16 : Int32).toUInt32 &&& Int32.toUInt32 31)).toInt32) := ez14
      refine lv_istore_n (lv' := [(0, .int ((((x0 ^^^ (-1 : Int32)) &&& (x0 - (1 : Int32))).toUInt32 >>> ((16 : Int32).toUInt32 &&& Int32.toUInt32 31)).toInt32)), (1, .int ((1 : Int32) + Int32.ofInt 16))]) hx hb dJ6_numberOfTrailingZeros_0f7a4_33 rfl hl (by decide) rfl (fun ls hl => ?_)
      exact J_34 ((((x0 ^^^ (-1 : Int32)) &&& (x0 - (1 : Int32))).toUInt32 >>> ((16 : Int32).toUInt32 &&& Int32.toUInt32 31)).toInt32) ((1 : Int32) + Int32.ofInt 16) _ _ ls hd hf  hR (lv_sub hl [0, 1] rfl)
  · rw [if_neg (k_nlt (by decide) rfl c4)] at hf
    (try rw [if_neg (k_nlt (by decide) rfl c4)] at hd)
    refine lv_iload_n hx hb dJ6_numberOfTrailingZeros_0f7a4_12 rfl (lv_at hl 0 rfl) ?_
    refine lv_bipush (v := 32) hx hb dJ6_numberOfTrailingZeros_0f7a4_13 (by decide) ?_
    refine lv_iand hx hb dJ6_numberOfTrailingZeros_0f7a4_15 ?_
    refine lv_topi (fun z15 ez15 => ?_)
    obtain rfl : z15 = (((x0 ^^^ (-1 : Int32)) &&& (x0 - (1 : Int32))) &&& (32 : Int32)) := ez15
    exact W.iret (v := (((x0 ^^^ (-1 : Int32)) &&& (x0 - (1 : Int32))) &&& (32 : Int32))) hx hb hr (fun t9 ht9 hW9 => ⟨⟨_, (), rfl, hf.trans hf0.symm, ⟨by rw [ht9]; exact hR.P, hR.D⟩⟩, hR.sS.F ht9⟩) hR.sS.2.2 dJ6_numberOfTrailingZeros_0f7a4_16
def wJ7_copyOf_9075b (S : MS) (kd9 : Nat) (p0 : Nat) (x1 : Int32) (Q : Nat → MS → Prop) : Prop := ((x1.toInt = (Int32.ofNat (qN S p0)).toInt → ((qn S + 1 ≤ KCC ∧ qu S + qN S p0 ≤ KSC) ∧ (∀ S13, S13 = wKC S kd9 p0 (qN S p0) → wfC S13 → Q (qn S) S13))) ∧ (¬ x1.toInt = (Int32.ofNat (qN S p0)).toInt → (((0 : Int) ≤ x1.toInt ∧ (qn S + 1 ≤ KCC ∧ qu S + x1.toInt.toNat ≤ KSC)) ∧ (∀ S5, S5 = wN S kd9 x1.toInt.toNat x1.toInt.toNat → wfC S5 → ((¬ (0 : Int32) < 0 ∧ ¬ (0 : Int32) < 0 ∧ ¬ (if x1 < (Int32.ofNat (qN S5 p0)) then x1 else (Int32.ofNat (qN S5 p0))) < 0 ∧ (0 : Int32).toNatClampNeg + (if x1 < (Int32.ofNat (qN S5 p0)) then x1 else (Int32.ofNat (qN S5 p0))).toNatClampNeg ≤ qN S5 p0 ∧ (0 : Int32).toNatClampNeg + (if x1 < (Int32.ofNat (qN S5 p0)) then x1 else (Int32.ofNat (qN S5 p0))).toNatClampNeg ≤ qN S5 (qn S)) ∧ (∀ S9, S9 = wC S5 (qn S) (va_cpy (qI S5 p0) (qI S5 (qn S)) (0 : Int32).toNatClampNeg (0 : Int32).toNatClampNeg (if x1 < (Int32.ofNat (qN S5 p0)) then x1 else (Int32.ofNat (qN S5 p0))).toNatClampNeg) → qT S5 (qn S) = kd9 → wfC S9 → Q (qn S) S9))))))
set_option maxHeartbeats 2000000 in
set_option maxRecDepth 100000 in
theorem rJ7_copyOf_9075b (l : Launch) (g : Gr) (ad : Nat → Nat) (H0 : Heap) (S : MS) (kd9 : Nat) (p0 : Nat) (x1 : Int32) (hw : wfC S) {kd0 : Nat} (hk_kd0 : 100 < kd0 ∧ kd0 < 200) (hk_kd9 : 100 < kd9 ∧ kd9 < 200) (hT_p0 : qT S p0 = kd0) (Q : Nat → MS → Prop) (h : wJ7_copyOf_9075b S kd9 p0 x1 Q) : Met l yJ7_copyOf_9075b (wt yJ7_copyOf_9075b cJ7_copyOf_9075b 3 (some (.array .byte))) ({ frames := 1, cells := KCC - qn S, slots := KSC - qu S, locals := 40 }) (va_Pc [.ref (ad p0), .int x1] (st_CH g ad H0 S)) (va_Qq (fun (r : Option Nat) (u : MS × (Nat → Nat)) => ∃ b : Nat, r = some (u.2 b) ∧ Q b u.1 ∧ wfC u.1 ∧ shx S u.1 ∧ adk ad u.2 S ∧ qT u.1 b = kd9) (fun (u : MS × (Nat → Nat)) (t : State) => qEHC g (va_A (WdC g ad S) H0.size) S H0 u t) (va_A (WdC g ad S) H0.size)) (KCC - qn S) (KSC - qu S) (va_A (WdC g ad S) H0.size) := by
  refine Met.ofW (cc := cJ7_copyOf_9075b) (maxL := 3) (ret := (some (.array .byte))) (by decide) rfl ?_
  intro p e s m args below meth c s₁ B hml hv
  obtain ⟨rfl, hH0, hsz, hP, hK, hD0, hex, hE⟩ := hv
  have hx := B.exec
  have hb := B.bytes
  have hr := B.returns
  have hts0 := atoms_spec (ws := wt yJ7_copyOf_9075b cJ7_copyOf_9075b 3 (some (.array .byte))) B.pre
  have hts : ∀ w ∈ tb, w.before _ s = true := fun w h => hts0 w (List.mem_cons_of_mem _ h)
  have hown : s.vm.findClass RJ7 = some m.cls := findClass_of_methodNamed B.named
  subst hH0
  have hD := hD0.self (sz := s.heap.size)
  generalize hAe : va_A (WdC g ad S) s.heap.size = A at hD hE ⊢
  have hA : ∀ q : Nat, s.heap.size ≤ q → A q := fun q h => by rw [← hAe]; exact Or.inr h
  have hR : RepC g ad A s S s.heap [] := ⟨hK, hP, hD, va_S.rf, hw⟩
  clear hK hP hD hD0
  have hl := lv_entry ([.ref (ad p0), .int x1]) (n := 3) (Nat.le_of_ble_eq_true rfl)
  rw [lg_entry_eq]
  generalize (lg_sl ([.ref (ad p0), .int x1]) ++ List.replicate (3 - (lg_sl ([.ref (ad p0), .int x1])).length) Slot.unset).toArray = ls at hl ⊢
  have hlg : lgC S S 0 0 := lgC.rf
  have hak : adk ad ad S := adk.rf
  have hl : lv_has ls 3 [(0, .ref (ad p0)), (1, .int x1)] := hl
  have hsh : shx S S := shx.rf
  unfold wJ7_copyOf_9075b at h
  refine lv_iload_n hx hb dJ7_copyOf_9075b_0 rfl (lv_at hl 1 rfl) ?_
  refine lv_aload_n hx hb dJ7_copyOf_9075b_1 rfl (lv_at hl 0 rfl) ?_
  refine va_alen (v := (Int32.ofNat (qN S p0))) hx hb hR.K hR.P p0 0 (hR.atB hT_p0 hk_kd0) rfl rfl dJ7_copyOf_9075b_2 ?_
  refine lv_icmp_ne (tgt := 14) hx hb dJ7_copyOf_9075b_3 (by decide) (fun c1 => ?_) (fun c1 => ?_)
  · replace h := h.2 (k_ne rfl rfl c1)
    refine lv_iload_n hx hb dJ7_copyOf_9075b_14 rfl (lv_at hl 1 rfl) ?_
    obtain ⟨hv2, h⟩ := h
    have e9 : KCC = 300000 := rfl
    have e8 : KSC = 3553400 := rfl
    have e7 : TXB = 10000000 := rfl
    have hTX : qn S < TXB := by have := hv2.2.1; omega
    refine va_newa (atype := .byte) (ty := .byte) (a0 := (x1.toInt.toNat, .inl (fun _ => 0))) (N' := x1.toInt.toNat) hx hb (hts (.arrayClass .byte) kw_11) rfl hR.K hR.P hR.D hR.sS hA (fun _ => rfl) (fun q9 => absurd (k_lt (b := 0) rfl (by decide) q9) (Int.not_lt.mpr hv2.1)) rfl (by show x1.toInt.toNat * 1 ≤ 536870912; have := hv2.2.2; omega) (show 0 + 1 ≤ KCC - qn S from hlg.c1 hv2.2.1) (show 0 + x1.toInt.toNat ≤ KSC - qu S from hlg.s1 hv2.2.2) dJ7_copyOf_9075b_15 (fun q3 cA9 H hK9 hP hD hS => ?_)
    obtain rfl := cls_new3 hR.K hK9 (k := 0) rfl (fun _ h => by cases h)
    have hw8 := hR.w
    have hR := hR.new (t := kd9) (n := x1.toInt.toNat) (k := x1.toInt.toNat) hTX (by omega) (by have := hv2.2.2; omega) (wN_CB hk_kd9) hP hD hS
    have hk8 : adk ad (adx ad (qn S) q3) S := adk.rf.new (Nat.le_refl _) hTX
    have hak := hak.new (q := q3) hlg.2.2.1 hTX
    have hE := hE.ad hk8
    have hlg : lgC S (wN S kd9 x1.toInt.toNat x1.toInt.toNat) (0 + 1) (0 + x1.toInt.toNat) := hlg.new (t := kd9) (n := x1.toInt.toNat) ⟨hv2.2.1, hv2.2.2⟩
    have hs8 : shx S (wN S kd9 x1.toInt.toNat x1.toInt.toNat) := shx.newC (t := kd9) (n := x1.toInt.toNat) (k := x1.toInt.toNat) shx.rf hw8 hTX
    obtain ⟨am4, eam4⟩ : ∃ z, z = adx ad (qn S) q3 := ⟨_, rfl⟩
    have eq_q3 : am4 (qn S) = q3 := by rw [eam4]; exact if_pos rfl
    rw [← eam4] at hR hk8 hak hE
    obtain ⟨S5, eS5⟩ : ∃ z, z = wN S kd9 x1.toInt.toNat x1.toInt.toNat := ⟨_, rfl⟩
    rw [← eS5] at hR hlg hs8
    replace h := h S5 eS5 hR.w
    have hsh := hsh.tr hs8
    have hT_b6 : qT S5 (qn S) = kd9 := by rw [eS5]; exact if_pos rfl
    have ea_0 : am4 p0 = ad p0 := hk8 _ (hw8.hd hT_p0 (by omega) (by omega))
    have hT_p0 := hs8.T hT_p0 (by omega)
    have hl : lv_has ls 3 [(0, .ref (am4 p0)), (1, .int x1)] := by simp only [ea_0]; exact hl
    refine W.eq (g2 := F0 m 17 ls [.ref (am4 (qn S))]) (by simp only [ea_0, eq_q3]) ?_
    clear hw8 hk8 hs8 hP hD hS e9 e8 e7 hTX
    refine lv_astore_n (lv' := [(2, .ref (am4 (qn S))), (0, .ref (am4 p0)), (1, .int x1)]) hx hb dJ7_copyOf_9075b_17 rfl hl (by decide) rfl (fun ls hl => ?_)
    refine lv_aload_n hx hb dJ7_copyOf_9075b_18 rfl (lv_at hl 1 rfl) ?_
    refine lv_iconst (v := 0) hx hb dJ7_copyOf_9075b_19 (by decide) ?_
    refine lv_aload_n hx hb dJ7_copyOf_9075b_20 rfl (lv_at hl 0 rfl) ?_
    refine lv_iconst (v := 0) hx hb dJ7_copyOf_9075b_21 (by decide) ?_
    refine lv_aload_n hx hb dJ7_copyOf_9075b_22 rfl (lv_at hl 1 rfl) ?_
    refine va_alen (v := (Int32.ofNat (qN S5 p0))) hx hb hR.K hR.P p0 0 (hR.atB hT_p0 hk_kd0) rfl rfl dJ7_copyOf_9075b_23 ?_
    refine lv_iload_n hx hb dJ7_copyOf_9075b_24 rfl (lv_at hl 2 rfl) ?_
    refine va_mmin hx hb (by rw [hml]; exact hl.1.symm) hown (hts _ kw_1742) (hts _ kw_1750) (hts _ kw_1748) (hts _ kw_1749) (Nat.le_of_ble_eq_true rfl) (Nat.le_of_ble_eq_true rfl) (show 0 + 1 ≤ KCC - qn S from hlg.c) (show 0 + x1.toInt.toNat ≤ KSC - qu S from hlg.s) dJ7_copyOf_9075b_25 ?_
    refine lv_topi (fun z7 ez7 => ?_)
    obtain rfl : z7 = (if x1 < (Int32.ofNat (qN S5 p0)) then x1 else (Int32.ofNat (qN S5 p0))) := ez7
    obtain ⟨hv8, h⟩ := h
    refine va_copyi hx hb (by rw [hml]; exact hl.1.symm) hown (hts _ kw_1743) (hts _ kw_28) (hts _ kw_29) (hts _ kw_30) hR.K hR.P hR.D hR.sS p0 (qn S) 0 0 (hR.atB hT_p0 hk_kd0) (hR.atB hT_b6 hk_kd9) rfl rfl rfl hv8.1 hv8.2.1 hv8.2.2.1 hv8.2.2.2.1 hv8.2.2.2.2 (fun i _ => hR.w.by (hT_p0) hk_kd0) (Nat.le_of_ble_eq_true rfl) (Nat.le_of_ble_eq_true rfl) dJ7_copyOf_9075b_28 (fun H locs hP hD hS => ?_)
    have hTk9 : qT S5 (qn S) = kd9 := hT_b6
    have hR : RepC g am4 A s (wC S5 (qn S) (va_cpy (qI S5 p0) (qI S5 (qn S)) (0 : Int32).toNatClampNeg (0 : Int32).toNatClampNeg (if x1 < (Int32.ofNat (qN S5 p0)) then x1 else (Int32.ofNat (qN S5 p0))).toNatClampNeg)) H locs := hR.cB hT_b6 hk_kd9 (fit_cpy (fun i => hR.w.by (hT_p0) hk_kd0) (fun i => hR.w.by (hT_b6) hk_kd9)) hP hD hS
    obtain ⟨S9, eS9⟩ : ∃ z, z = wC S5 (qn S) (va_cpy (qI S5 p0) (qI S5 (qn S)) (0 : Int32).toNatClampNeg (0 : Int32).toNatClampNeg (if x1 < (Int32.ofNat (qN S5 p0)) then x1 else (Int32.ofNat (qN S5 p0))).toNatClampNeg) := ⟨_, rfl⟩
    rw [← eS9] at hR
    replace h := h S9 eS9 hTk9 hR.w
    have hT_b6 : qT S9 (qn S) = kd9 := (congrArg (fun z => qT z (qn S)) eS9).trans hT_b6
    have hT_p0 : qT S9 p0 = kd0 := (congrArg (fun z => qT z p0) eS9).trans hT_p0
    have hsh : shx S S9 := by rw [eS9]; exact hsh
    have hlg : lgC S S9 (0 + 1) (0 + x1.toInt.toNat) := by rw [eS9]; exact hlg
    refine lv_aload_n hx hb dJ7_copyOf_9075b_31 rfl (lv_at hl 0 rfl) ?_
    refine W_led2 (fun hLd => ?_)
    refine W.widen (k := KCC - qn S) (n := KSC - qu S) hlg.c hlg.s ?_
    exact W.aret (v := .ref (am4 (qn S))) hx hb hr (Or.inr ⟨_, rfl⟩) (Or.inr ⟨_, rfl⟩) (fun t9 ht9 hW9 => ⟨⟨some (am4 (qn S)), (S9, am4), rfl, ⟨(qn S), rfl, h, hR.w, hsh, hak, hT_b6⟩, ⟨⟨by rw [ht9]; exact hR.P, hR.D⟩, _, _, by rw [ht9]; exact hLd, hlg⟩⟩, hR.sS.F ht9⟩) hR.sS.2.2 dJ7_copyOf_9075b_32
  · replace h := h.1 (k_eq rfl rfl c1)
    refine lv_aload_n hx hb dJ7_copyOf_9075b_6 rfl (lv_at hl 0 rfl) ?_
    obtain ⟨hv11, h⟩ := h
    have e9 : KCC = 300000 := rfl
    have e8 : KSC = 3553400 := rfl
    have e7 : TXB = 10000000 := rfl
    have hTX : qn S < TXB := by have := hv11.1; omega
    refine va_clone hx hb (by rw [hml]; exact hl.1.symm) hown (hts _ kw_1782) (hts _ kw_1783) (hts _ kw_1784) (hts _ kw_1785) (hts _ kw_1786) (nw_of nn_castB hex) hR.K hR.P hR.D hR.sS hA p0 0 (hR.atB hT_p0 hk_kd0) rfl (va_nm_byte (hR.K.2 0 _ rfl).2) (va_fit (fun i _ => hR.w.by (hT_p0) hk_kd0)) (Nat.le_of_ble_eq_true rfl) (Nat.le_of_ble_eq_true rfl) (show 0 + 1 ≤ KCC - qn S from hlg.c1 hv11.1) (show 0 + qN S p0 ≤ KSC - qu S from hlg.s1 hv11.2) dJ7_copyOf_9075b_7 (fun q10 H hK9 hP hD hS => ?_)
    have hw8 := hR.w
    have hR := hR.clone (t := kd9) (k := qN S p0) hTX (hT_p0) hk_kd0 hk_kd9 hP hD hS
    have hk8 : adk ad (adx ad (qn S) q10) S := adk.rf.new (Nat.le_refl _) hTX
    have hak := hak.new (q := q10) hlg.2.2.1 hTX
    have hE := hE.ad hk8
    have hlg : lgC S (wKC S kd9 p0 (qN S p0)) (0 + 1) (0 + (qN S p0)) := hlg.new (t := kd9) (n := qN S p0) ⟨hv11.1, hv11.2⟩
    have hs8 : shx S (wKC S kd9 p0 (qN S p0)) := shx.newC (t := kd9) (n := qN S p0) (k := qN S p0) shx.rf hw8 hTX
    obtain ⟨am12, eam12⟩ : ∃ z, z = adx ad (qn S) q10 := ⟨_, rfl⟩
    have eq_q10 : am12 (qn S) = q10 := by rw [eam12]; exact if_pos rfl
    rw [← eam12] at hR hk8 hak hE
    obtain ⟨S13, eS13⟩ : ∃ z, z = wKC S kd9 p0 (qN S p0) := ⟨_, rfl⟩
    rw [← eS13] at hR hlg hs8
    replace h := h S13 eS13 hR.w
    have hsh := hsh.tr hs8
    have hT_b14 : qT S13 (qn S) = kd9 := by rw [eS13]; exact if_pos rfl
    have ea_0 : am12 p0 = ad p0 := hk8 _ (hw8.hd hT_p0 (by omega) (by omega))
    have hT_p0 := hs8.T hT_p0 (by omega)
    have hl : lv_has ls 3 [(0, .ref (am12 p0)), (1, .int x1)] := by simp only [ea_0]; exact hl
    refine W.eq (g2 := F0 m 10 ls [.ref (am12 (qn S))]) (by simp only [ea_0, eq_q10]) ?_
    clear hw8 hk8 hs8 hP hD hS e9 e8 e7 hTX
    refine va_castA hx hb hown (hts _ kw_1787) hR.P (qn S) (hR.atB hT_b14 hk_kd9) (va_nm_byte (hR.K.2 0 _ rfl).2) dJ7_copyOf_9075b_10 ?_
    refine W_led2 (fun hLd => ?_)
    refine W.widen (k := KCC - qn S) (n := KSC - qu S) hlg.c hlg.s ?_
    exact W.aret (v := .ref (am12 (qn S))) hx hb hr (Or.inr ⟨_, rfl⟩) (Or.inr ⟨_, rfl⟩) (fun t9 ht9 hW9 => ⟨⟨some (am12 (qn S)), (S13, am12), rfl, ⟨(qn S), rfl, h, hR.w, hsh, hak, hT_b14⟩, ⟨⟨by rw [ht9]; exact hR.P, hR.D⟩, _, _, by rw [ht9]; exact hLd, hlg⟩⟩, hR.sS.F ht9⟩) hR.sS.2.2 dJ7_copyOf_9075b_13
def wJ7_copyOf_59c91 (S : MS) (kd9 : Nat) (p0 : Nat) (x1 : Int32) (Q : Nat → MS → Prop) : Prop := ((x1.toInt = (Int32.ofNat (qN S p0)).toInt → False) ∧ (¬ x1.toInt = (Int32.ofNat (qN S p0)).toInt → (((0 : Int) ≤ x1.toInt ∧ (qn S + 1 ≤ KCC ∧ qu S + x1.toInt.toNat ≤ KSC)) ∧ (∀ S5, S5 = wN S kd9 x1.toInt.toNat x1.toInt.toNat → wfC S5 → ((¬ (0 : Int32) < 0 ∧ ¬ (0 : Int32) < 0 ∧ ¬ (if x1 < (Int32.ofNat (qN S5 p0)) then x1 else (Int32.ofNat (qN S5 p0))) < 0 ∧ (0 : Int32).toNatClampNeg + (if x1 < (Int32.ofNat (qN S5 p0)) then x1 else (Int32.ofNat (qN S5 p0))).toNatClampNeg ≤ qN S5 p0 ∧ (0 : Int32).toNatClampNeg + (if x1 < (Int32.ofNat (qN S5 p0)) then x1 else (Int32.ofNat (qN S5 p0))).toNatClampNeg ≤ qN S5 (qn S)) ∧ (∀ S9, S9 = wC S5 (qn S) (va_cpy (qI S5 p0) (qI S5 (qn S)) (0 : Int32).toNatClampNeg (0 : Int32).toNatClampNeg (if x1 < (Int32.ofNat (qN S5 p0)) then x1 else (Int32.ofNat (qN S5 p0))).toNatClampNeg) → qT S5 (qn S) = kd9 → wfC S9 → Q (qn S) S9))))))
set_option maxHeartbeats 2000000 in
set_option maxRecDepth 100000 in
theorem rJ7_copyOf_59c91 (l : Launch) (g : Gr) (ad : Nat → Nat) (H0 : Heap) (S : MS) (kd9 : Nat) (p0 : Nat) (x1 : Int32) (hw : wfC S) {kd0 : Nat} (hk_kd0 : 200 < kd0 ∧ kd0 < 300) (hk_kd9 : 200 < kd9 ∧ kd9 < 300) (hT_p0 : qT S p0 = kd0) (Q : Nat → MS → Prop) (h : wJ7_copyOf_59c91 S kd9 p0 x1 Q) : Met l yJ7_copyOf_59c91 (wt yJ7_copyOf_59c91 cJ7_copyOf_59c91 3 (some (.array .int))) ({ frames := 1, cells := KCC - qn S, slots := KSC - qu S, locals := 40 }) (va_Pc [.ref (ad p0), .int x1] (st_CH g ad H0 S)) (va_Qq (fun (r : Option Nat) (u : MS × (Nat → Nat)) => ∃ b : Nat, r = some (u.2 b) ∧ Q b u.1 ∧ wfC u.1 ∧ shx S u.1 ∧ adk ad u.2 S ∧ qT u.1 b = kd9) (fun (u : MS × (Nat → Nat)) (t : State) => qEHC g (va_A (WdC g ad S) H0.size) S H0 u t) (va_A (WdC g ad S) H0.size)) (KCC - qn S) (KSC - qu S) (va_A (WdC g ad S) H0.size) := by
  refine Met.ofW (cc := cJ7_copyOf_59c91) (maxL := 3) (ret := (some (.array .int))) (by decide) rfl ?_
  intro p e s m args below meth c s₁ B hml hv
  obtain ⟨rfl, hH0, hsz, hP, hK, hD0, hex, hE⟩ := hv
  have hx := B.exec
  have hb := B.bytes
  have hr := B.returns
  have hts0 := atoms_spec (ws := wt yJ7_copyOf_59c91 cJ7_copyOf_59c91 3 (some (.array .int))) B.pre
  have hts : ∀ w ∈ tb, w.before _ s = true := fun w h => hts0 w (List.mem_cons_of_mem _ h)
  have hown : s.vm.findClass RJ7 = some m.cls := findClass_of_methodNamed B.named
  subst hH0
  have hD := hD0.self (sz := s.heap.size)
  generalize hAe : va_A (WdC g ad S) s.heap.size = A at hD hE ⊢
  have hA : ∀ q : Nat, s.heap.size ≤ q → A q := fun q h => by rw [← hAe]; exact Or.inr h
  have hR : RepC g ad A s S s.heap [] := ⟨hK, hP, hD, va_S.rf, hw⟩
  clear hK hP hD hD0
  have hl := lv_entry ([.ref (ad p0), .int x1]) (n := 3) (Nat.le_of_ble_eq_true rfl)
  rw [lg_entry_eq]
  generalize (lg_sl ([.ref (ad p0), .int x1]) ++ List.replicate (3 - (lg_sl ([.ref (ad p0), .int x1])).length) Slot.unset).toArray = ls at hl ⊢
  have hlg : lgC S S 0 0 := lgC.rf
  have hak : adk ad ad S := adk.rf
  have hl : lv_has ls 3 [(0, .ref (ad p0)), (1, .int x1)] := hl
  have hsh : shx S S := shx.rf
  unfold wJ7_copyOf_59c91 at h
  refine lv_iload_n hx hb dJ7_copyOf_59c91_0 rfl (lv_at hl 1 rfl) ?_
  refine lv_aload_n hx hb dJ7_copyOf_59c91_1 rfl (lv_at hl 0 rfl) ?_
  refine va_alen (v := (Int32.ofNat (qN S p0))) hx hb hR.K hR.P p0 1 (hR.atI hT_p0 hk_kd0) rfl rfl dJ7_copyOf_59c91_2 ?_
  refine lv_icmp_ne (tgt := 14) hx hb dJ7_copyOf_59c91_3 (by decide) (fun c1 => ?_) (fun c1 => ?_)
  · replace h := h.2 (k_ne rfl rfl c1)
    refine lv_iload_n hx hb dJ7_copyOf_59c91_14 rfl (lv_at hl 1 rfl) ?_
    obtain ⟨hv2, h⟩ := h
    have e9 : KCC = 300000 := rfl
    have e8 : KSC = 3553400 := rfl
    have e7 : TXB = 10000000 := rfl
    have hTX : qn S < TXB := by have := hv2.2.1; omega
    refine va_newa (atype := .int) (ty := .int) (a0 := (x1.toInt.toNat, .inl (fun _ => 0))) (N' := x1.toInt.toNat) hx hb (hts (.arrayClass .int) kw_51) rfl hR.K hR.P hR.D hR.sS hA (fun _ => rfl) (fun q9 => absurd (k_lt (b := 0) rfl (by decide) q9) (Int.not_lt.mpr hv2.1)) rfl (by show x1.toInt.toNat * 4 ≤ 536870912; have := hv2.2.2; omega) (show 0 + 1 ≤ KCC - qn S from hlg.c1 hv2.2.1) (show 0 + x1.toInt.toNat ≤ KSC - qu S from hlg.s1 hv2.2.2) dJ7_copyOf_59c91_15 (fun q3 cA9 H hK9 hP hD hS => ?_)
    obtain rfl := cls_new3 hR.K hK9 (k := 1) rfl (fun _ h => by cases h)
    have hw8 := hR.w
    have hR := hR.new (t := kd9) (n := x1.toInt.toNat) (k := x1.toInt.toNat) hTX (by omega) (by have := hv2.2.2; omega) (wN_CI hk_kd9) hP hD hS
    have hk8 : adk ad (adx ad (qn S) q3) S := adk.rf.new (Nat.le_refl _) hTX
    have hak := hak.new (q := q3) hlg.2.2.1 hTX
    have hE := hE.ad hk8
    have hlg : lgC S (wN S kd9 x1.toInt.toNat x1.toInt.toNat) (0 + 1) (0 + x1.toInt.toNat) := hlg.new (t := kd9) (n := x1.toInt.toNat) ⟨hv2.2.1, hv2.2.2⟩
    have hs8 : shx S (wN S kd9 x1.toInt.toNat x1.toInt.toNat) := shx.newC (t := kd9) (n := x1.toInt.toNat) (k := x1.toInt.toNat) shx.rf hw8 hTX
    obtain ⟨am4, eam4⟩ : ∃ z, z = adx ad (qn S) q3 := ⟨_, rfl⟩
    have eq_q3 : am4 (qn S) = q3 := by rw [eam4]; exact if_pos rfl
    rw [← eam4] at hR hk8 hak hE
    obtain ⟨S5, eS5⟩ : ∃ z, z = wN S kd9 x1.toInt.toNat x1.toInt.toNat := ⟨_, rfl⟩
    rw [← eS5] at hR hlg hs8
    replace h := h S5 eS5 hR.w
    have hsh := hsh.tr hs8
    have hT_b6 : qT S5 (qn S) = kd9 := by rw [eS5]; exact if_pos rfl
    have ea_0 : am4 p0 = ad p0 := hk8 _ (hw8.hd hT_p0 (by omega) (by omega))
    have hT_p0 := hs8.T hT_p0 (by omega)
    have hl : lv_has ls 3 [(0, .ref (am4 p0)), (1, .int x1)] := by simp only [ea_0]; exact hl
    refine W.eq (g2 := F0 m 17 ls [.ref (am4 (qn S))]) (by simp only [ea_0, eq_q3]) ?_
    clear hw8 hk8 hs8 hP hD hS e9 e8 e7 hTX
    refine lv_astore_n (lv' := [(2, .ref (am4 (qn S))), (0, .ref (am4 p0)), (1, .int x1)]) hx hb dJ7_copyOf_59c91_17 rfl hl (by decide) rfl (fun ls hl => ?_)
    refine lv_aload_n hx hb dJ7_copyOf_59c91_18 rfl (lv_at hl 1 rfl) ?_
    refine lv_iconst (v := 0) hx hb dJ7_copyOf_59c91_19 (by decide) ?_
    refine lv_aload_n hx hb dJ7_copyOf_59c91_20 rfl (lv_at hl 0 rfl) ?_
    refine lv_iconst (v := 0) hx hb dJ7_copyOf_59c91_21 (by decide) ?_
    refine lv_aload_n hx hb dJ7_copyOf_59c91_22 rfl (lv_at hl 1 rfl) ?_
    refine va_alen (v := (Int32.ofNat (qN S5 p0))) hx hb hR.K hR.P p0 1 (hR.atI hT_p0 hk_kd0) rfl rfl dJ7_copyOf_59c91_23 ?_
    refine lv_iload_n hx hb dJ7_copyOf_59c91_24 rfl (lv_at hl 2 rfl) ?_
    refine va_mmin hx hb (by rw [hml]; exact hl.1.symm) hown (hts _ kw_1742) (hts _ kw_1750) (hts _ kw_1748) (hts _ kw_1749) (Nat.le_of_ble_eq_true rfl) (Nat.le_of_ble_eq_true rfl) (show 0 + 1 ≤ KCC - qn S from hlg.c) (show 0 + x1.toInt.toNat ≤ KSC - qu S from hlg.s) dJ7_copyOf_59c91_25 ?_
    refine lv_topi (fun z7 ez7 => ?_)
    obtain rfl : z7 = (if x1 < (Int32.ofNat (qN S5 p0)) then x1 else (Int32.ofNat (qN S5 p0))) := ez7
    obtain ⟨hv8, h⟩ := h
    refine va_copyi hx hb (by rw [hml]; exact hl.1.symm) hown (hts _ kw_1743) (hts _ kw_28) (hts _ kw_29) (hts _ kw_30) hR.K hR.P hR.D hR.sS p0 (qn S) 1 1 (hR.atI hT_p0 hk_kd0) (hR.atI hT_b6 hk_kd9) rfl rfl rfl hv8.1 hv8.2.1 hv8.2.2.1 hv8.2.2.2.1 hv8.2.2.2.2 (fun i _ => rfl) (Nat.le_of_ble_eq_true rfl) (Nat.le_of_ble_eq_true rfl) dJ7_copyOf_59c91_28 (fun H locs hP hD hS => ?_)
    have hTk9 : qT S5 (qn S) = kd9 := hT_b6
    have hR : RepC g am4 A s (wC S5 (qn S) (va_cpy (qI S5 p0) (qI S5 (qn S)) (0 : Int32).toNatClampNeg (0 : Int32).toNatClampNeg (if x1 < (Int32.ofNat (qN S5 p0)) then x1 else (Int32.ofNat (qN S5 p0))).toNatClampNeg)) H locs := hR.cI hT_b6 hk_kd9 hP hD hS
    obtain ⟨S9, eS9⟩ : ∃ z, z = wC S5 (qn S) (va_cpy (qI S5 p0) (qI S5 (qn S)) (0 : Int32).toNatClampNeg (0 : Int32).toNatClampNeg (if x1 < (Int32.ofNat (qN S5 p0)) then x1 else (Int32.ofNat (qN S5 p0))).toNatClampNeg) := ⟨_, rfl⟩
    rw [← eS9] at hR
    replace h := h S9 eS9 hTk9 hR.w
    have hT_b6 : qT S9 (qn S) = kd9 := (congrArg (fun z => qT z (qn S)) eS9).trans hT_b6
    have hT_p0 : qT S9 p0 = kd0 := (congrArg (fun z => qT z p0) eS9).trans hT_p0
    have hsh : shx S S9 := by rw [eS9]; exact hsh
    have hlg : lgC S S9 (0 + 1) (0 + x1.toInt.toNat) := by rw [eS9]; exact hlg
    refine lv_aload_n hx hb dJ7_copyOf_59c91_31 rfl (lv_at hl 0 rfl) ?_
    refine W_led2 (fun hLd => ?_)
    refine W.widen (k := KCC - qn S) (n := KSC - qu S) hlg.c hlg.s ?_
    exact W.aret (v := .ref (am4 (qn S))) hx hb hr (Or.inr ⟨_, rfl⟩) (Or.inr ⟨_, rfl⟩) (fun t9 ht9 hW9 => ⟨⟨some (am4 (qn S)), (S9, am4), rfl, ⟨(qn S), rfl, h, hR.w, hsh, hak, hT_b6⟩, ⟨⟨by rw [ht9]; exact hR.P, hR.D⟩, _, _, by rw [ht9]; exact hLd, hlg⟩⟩, hR.sS.F ht9⟩) hR.sS.2.2 dJ7_copyOf_59c91_32
  · replace h := h.1 (k_eq rfl rfl c1)
    exact h.elim
def w_X0_put_J30 (Q : MS → Prop) (U30 : MS) (v30_0 : Nat) (v30_1 : Int32) : Prop := (wfC U30 → qT U30 v30_0 = 40 → ((qR U30 v30_0 0 = some (qO U30 v30_0 0)) ∧ (((0 : Int) ≤ (qI U30 v30_0 1).toInt ∧ (qI U30 v30_0 1).toInt < (qN U30 (qO U30 v30_0 0) : Int)) ∧ (∀ S7, S7 = wI U30 (qO U30 v30_0 0) (((qI U30 v30_0 1).toInt).toNat) (vp_nar .byte (v30_1.toInt8.toInt32)) → qT U30 (qO U30 v30_0 0) = 101 → wfC S7 → (∀ S9, S9 = wI S7 v30_0 1 ((qI S7 v30_0 1) + (1 : Int32)) → qT S7 v30_0 = 40 → wfC S9 → Q S9)))))
def wX0_put (S : MS) (p0 : Nat) (x1 : Int32) (Q : MS → Prop) : Prop := ((qR S p0 0 = some (qO S p0 0)) ∧ (((qI S p0 1).toInt < (qN S (qO S p0 0) : Int) → w_X0_put_J30 Q S p0 x1) ∧ (¬ (qI S p0 1).toInt < (qN S (qO S p0 0) : Int) → ((qR S p0 0 = some (qO S p0 0)) ∧ ((qR S p0 0 = some (qO S p0 0)) ∧ (qT S (qO S p0 0) = 101 → (∃ Q17, wJ7_copyOf_9075b S 101 (qO S p0 0) ((2 : Int32) * (Int32.ofNat (qN S (qO S p0 0)))) Q17 ∧ ∀ b22 S19, Q17 b22 S19 → wfC S19 → shx S S19 → qT S19 b22 = 101 → (∀ S23, S23 = wR S19 p0 0 (some b22) → qT S19 p0 = 40 → wfC S23 → w_X0_put_J30 Q S23 p0 x1))))))))
set_option maxHeartbeats 2000000 in
set_option maxRecDepth 100000 in
theorem rX0_put (l : Launch) (g : Gr) (ad : Nat → Nat) (H0 : Heap) (S : MS) (p0 : Nat) (x1 : Int32) (hw : wfC S) (hT_p0 : qT S p0 = 40) (Q : MS → Prop) (h : wX0_put S p0 x1 Q) : Met l yX0_put (wt yX0_put cX0_put 2 none) ({ frames := 2, cells := KCC - qn S, slots := KSC - qu S, locals := 62 }) (va_Pc [.ref (ad p0), .int x1] (st_CH g ad H0 S)) (va_Qv (fun (u : MS × (Nat → Nat)) => Q u.1 ∧ wfC u.1 ∧ shx S u.1 ∧ adk ad u.2 S) (fun (u : MS × (Nat → Nat)) (t : State) => qEHC g (va_A (WdC g ad S) H0.size) S H0 u t) (va_A (WdC g ad S) H0.size)) (KCC - qn S) (KSC - qu S) (va_A (WdC g ad S) H0.size) := by
  refine Met.ofW (cc := cX0_put) (maxL := 2) (ret := none) (by decide) rfl ?_
  intro p e s m args below meth c s₁ B hml hv
  obtain ⟨rfl, hH0, hsz, hP, hK, hD0, hex, hE⟩ := hv
  have hx := B.exec
  have hb := B.bytes
  have hr := B.returns
  have hts0 := atoms_spec (ws := wt yX0_put cX0_put 2 none) B.pre
  have hts : ∀ w ∈ tb, w.before _ s = true := fun w h => hts0 w (List.mem_cons_of_mem _ h)
  have hown : s.vm.findClass RX0 = some m.cls := findClass_of_methodNamed B.named
  subst hH0
  have hD := hD0.self (sz := s.heap.size)
  generalize hAe : va_A (WdC g ad S) s.heap.size = A at hD hE ⊢
  have hA : ∀ q : Nat, s.heap.size ≤ q → A q := fun q h => by rw [← hAe]; exact Or.inr h
  have hR : RepC g ad A s S s.heap [] := ⟨hK, hP, hD, va_S.rf, hw⟩
  clear hK hP hD hD0
  have hl := lv_entry ([.ref (ad p0), .int x1]) (n := 2) (Nat.le_of_ble_eq_true rfl)
  rw [lg_entry_eq]
  generalize (lg_sl ([.ref (ad p0), .int x1]) ++ List.replicate (2 - (lg_sl ([.ref (ad p0), .int x1])).length) Slot.unset).toArray = ls at hl ⊢
  have hlg : lgC S S 0 0 := lgC.rf
  have hak : adk ad ad S := adk.rf
  have hl : lv_has ls 2 [(0, .ref (ad p0)), (1, .int x1)] := hl
  have hsh : shx S S := shx.rf
  unfold wX0_put at h
  refine lv_aload_n hx hb dX0_put_0 rfl (lv_at hl 0 rfl) ?_
  refine va_get (D := rD g) (ci := 0) (v := .int (qI S p0 1)) (C := RX0) (T := TX0) (N := 2) hx hb hts inX0 hown hR.K hR.P p0 (hR.at40 hT_p0) rfl 1 (by decide) (hts _ kw_4) (fun _ h9 => h9) rfl dX0_put_1 ?_
  refine lv_aload_n hx hb dX0_put_4 rfl (lv_at hl 0 rfl) ?_
  obtain ⟨hv2, h⟩ := h
  have hT_b1 : qT S (qO S p0 0) = 101 := hR.w.ref hv2 hT_p0
  refine va_get (D := rD g) (ci := 0) (v := .ref (ad (qO S p0 0))) (C := RX0) (T := TX0) (N := 2) hx hb hts inX0 hown hR.K hR.P p0 (hR.at40 hT_p0) rfl 0 (by decide) (hts _ kw_5) (fun _ h9 => h9) (congrArg (fun z => some (vf ad z)) hv2) dX0_put_5 ?_
  refine va_alen (v := (Int32.ofNat (qN S (qO S p0 0)))) hx hb hR.K hR.P (qO S p0 0) 0 (hR.atB hT_b1 (by decide)) rfl rfl dX0_put_8 ?_
  have hln3 : (Int32.ofNat (qN S (qO S p0 0))).toInt = (qN S (qO S p0 0) : Int) := toI_len (hR.w.len9 (hT_b1) (by decide))
  have J_30 : ∀ (ad30 : Nat → Nat) (dc30 ds30 : Nat) (U30 : MS) (v30_0 : Nat) (v30_1 : Int32) (H : Heap) (locs : List Loc) (ls : Array Slot), w_X0_put_J30 Q U30 v30_0 v30_1 → qT U30 v30_0 = 40 → shx S U30 → lgC S U30 dc30 ds30 → adk ad ad30 S → ogC ad30 A s s.heap → RepC g ad30 A s U30 H locs → lv_has ls 2 [(0, .ref (ad30 v30_0)), (1, .int v30_1)] → W p l e (headSpec (wt yX0_put cX0_put 2 none) ({ frames := 2, cells := KCC - qn S, slots := KSC - qu S, locals := 62 })).room s m ([.ref (ad p0), .int x1] : List Value).toArray below meth c H locs dc30 ds30 (MQ below (va_Qv (fun (u : MS × (Nat → Nat)) => Q u.1 ∧ wfC u.1 ∧ shx S u.1 ∧ adk ad u.2 S) (fun (u : MS × (Nat → Nat)) (t : State) => qEHC g A S s.heap u t) A) ([.ref (ad p0), .int x1] : List Value).toArray s (KCC - qn S) (KSC - qu S) A) (F0 m 30 ls []) := by
    intro ad30 dc30 ds30 U30 v30_0 v30_1 H locs ls h hT_v30_0 hsh hlg hak hE hR hl
    unfold w_X0_put_J30 at h
    replace h := h hR.w hT_v30_0
    refine lv_aload_n hx hb dX0_put_30 rfl (lv_at hl 0 rfl) ?_
    obtain ⟨hv5, h⟩ := h
    have hT_b4 : qT U30 (qO U30 v30_0 0) = 101 := hR.w.ref hv5 hT_v30_0
    refine va_get (D := rD g) (ci := 0) (v := .ref (ad30 (qO U30 v30_0 0))) (C := RX0) (T := TX0) (N := 2) hx hb hts inX0 hown hR.K hR.P v30_0 (hR.at40 hT_v30_0) rfl 0 (by decide) (hts _ kw_5) (fun _ h9 => h9) (congrArg (fun z => some (vf ad30 z)) hv5) dX0_put_31 ?_
    refine lv_aload_n hx hb dX0_put_34 rfl (lv_at hl 0 rfl) ?_
    refine va_get (D := rD g) (ci := 0) (v := .int (qI U30 v30_0 1)) (C := RX0) (T := TX0) (N := 2) hx hb hts inX0 hown hR.K hR.P v30_0 (hR.at40 hT_v30_0) rfl 1 (by decide) (hts _ kw_4) (fun _ h9 => h9) rfl dX0_put_35 ?_
    refine lv_iload_n hx hb dX0_put_38 rfl (lv_at hl 1 rfl) ?_
    refine lv_i2b (v := (v30_1.toInt8.toInt32)) hx hb dX0_put_39 rfl ?_
    obtain ⟨hv6, h⟩ := h
    refine va_bast hx hb hR.K hR.P hR.D hR.sS (qO U30 v30_0 0) 0 (hR.atB hT_b4 (by decide)) rfl (k_ix (x := (qI U30 v30_0 1)) (a := (qI U30 v30_0 1).toInt) rfl hv6) dX0_put_40 (fun H locs hP hD hS => ?_)
    have hTk9 : qT U30 (qO U30 v30_0 0) = 101 := hT_b4
    have hR : RepC g ad30 A s (wI U30 (qO U30 v30_0 0) (((qI U30 v30_0 1).toInt).toNat) (vp_nar .byte (v30_1.toInt8.toInt32))) H locs := hR.aB hT_b4 (by decide) (fit_nb _) hP hD hS
    obtain ⟨S7, eS7⟩ : ∃ z, z = wI U30 (qO U30 v30_0 0) (((qI U30 v30_0 1).toInt).toNat) (vp_nar .byte (v30_1.toInt8.toInt32)) := ⟨_, rfl⟩
    rw [← eS7] at hR
    replace h := h S7 eS7 hTk9 hR.w
    have hT_v30_0 : qT S7 v30_0 = 40 := (congrArg (fun z => qT z v30_0) eS7).trans hT_v30_0
    have hsh : shx S S7 := by rw [eS7]; exact hsh
    have hlg : lgC S S7 (dc30) (ds30) := by rw [eS7]; exact hlg
    refine lv_aload_n hx hb dX0_put_41 rfl (lv_at hl 0 rfl) ?_
    refine lv_dup hx hb dX0_put_42 rfl ?_
    refine va_get (D := rD g) (ci := 0) (v := .int (qI S7 v30_0 1)) (C := RX0) (T := TX0) (N := 2) hx hb hts inX0 hown hR.K hR.P v30_0 (hR.at40 hT_v30_0) rfl 1 (by decide) (hts _ kw_4) (fun _ h9 => h9) rfl dX0_put_43 ?_
    refine lv_iconst (v := 1) hx hb dX0_put_46 (by decide) ?_
    refine lv_iadd hx hb dX0_put_47 ?_
    refine lv_topi (fun z8 ez8 => ?_)
    obtain rfl : z8 = ((qI S7 v30_0 1) + (1 : Int32)) := ez8
    refine va_put (D := rD g) (ci := 0) (v := .int ((qI S7 v30_0 1) + (1 : Int32))) (ty := .int) (C := RX0) (T := TX0) (N := 2) hx hb hts inX0 tyX0 tyX0_ok nmX0 hown hR.K hR.P hR.D hR.sS v30_0 (hR.at40 hT_v30_0) rfl 1 (by decide) (hts _ kw_4) (fun _ h9 => h9) rfl (by decide +kernel) rfl rfl (Nat.le_of_ble_eq_true rfl) dX0_put_48 (fun H locs hP hD hS => ?_)
    have hTk9 : qT S7 v30_0 = 40 := hT_v30_0
    have hR : RepC g ad30 A s (wI S7 v30_0 1 ((qI S7 v30_0 1) + (1 : Int32))) H locs := hR.pI40 hT_v30_0 FX0_s1 (fun q9 => absurd q9 (by decide)) hP hD hS
    obtain ⟨S9, eS9⟩ : ∃ z, z = wI S7 v30_0 1 ((qI S7 v30_0 1) + (1 : Int32)) := ⟨_, rfl⟩
    rw [← eS9] at hR
    replace h := h S9 eS9 hTk9 hR.w
    have hT_v30_0 : qT S9 v30_0 = 40 := (congrArg (fun z => qT z v30_0) eS9).trans hT_v30_0
    have hsh : shx S S9 := by rw [eS9]; exact hsh
    have hlg : lgC S S9 (dc30) (ds30) := by rw [eS9]; exact hlg
    refine W_led2 (fun hLd => ?_)
    refine W.widen (k := KCC - qn S) (n := KSC - qu S) hlg.c hlg.s ?_
    exact W.vret hx hb hr (fun t9 ht9 hW9 => ⟨⟨(S9, ad30), rfl, ⟨h, hR.w, hsh, hak⟩, ⟨⟨by rw [ht9]; exact hR.P, hR.D⟩, _, _, by rw [ht9]; exact hLd, hlg⟩⟩, hR.sS.F ht9⟩) hR.sS.2.2 dX0_put_51
  refine lv_icmp_lt (tgt := 30) hx hb dX0_put_9 (by decide) (fun c10 => ?_) (fun c10 => ?_)
  · replace h := h.1 (k_lt rfl hln3 c10)
    exact J_30 ad (0) (0) S p0 x1 _ _ ls h hT_p0 hsh hlg hak hE hR (lv_sub hl [0, 1] rfl)
  · replace h := h.2 (k_nlt rfl hln3 c10)
    refine lv_aload_n hx hb dX0_put_12 rfl (lv_at hl 0 rfl) ?_
    refine lv_aload_n hx hb dX0_put_13 rfl (lv_at hl 0 rfl) ?_
    obtain ⟨hv12, h⟩ := h
    have hT_b11 : qT S (qO S p0 0) = 101 := hR.w.ref hv12 hT_p0
    refine va_get (D := rD g) (ci := 0) (v := .ref (ad (qO S p0 0))) (C := RX0) (T := TX0) (N := 2) hx hb hts inX0 hown hR.K hR.P p0 (hR.at40 hT_p0) rfl 0 (by decide) (hts _ kw_5) (fun _ h9 => h9) (congrArg (fun z => some (vf ad z)) hv12) dX0_put_14 ?_
    refine lv_iconst (v := 2) hx hb dX0_put_17 (by decide) ?_
    refine lv_aload_n hx hb dX0_put_18 rfl (lv_at hl 0 rfl) ?_
    obtain ⟨hv14, h⟩ := h
    have hT_b13 : qT S (qO S p0 0) = 101 := hR.w.ref hv14 hT_p0
    refine va_get (D := rD g) (ci := 0) (v := .ref (ad (qO S p0 0))) (C := RX0) (T := TX0) (N := 2) hx hb hts inX0 hown hR.K hR.P p0 (hR.at40 hT_p0) rfl 0 (by decide) (hts _ kw_5) (fun _ h9 => h9) (congrArg (fun z => some (vf ad z)) hv14) dX0_put_19 ?_
    refine va_alen (v := (Int32.ofNat (qN S (qO S p0 0)))) hx hb hR.K hR.P (qO S p0 0) 0 (hR.atB hT_b13 (by decide)) rfl rfl dX0_put_22 ?_
    have hln15 : (Int32.ofNat (qN S (qO S p0 0))).toInt = (qN S (qO S p0 0) : Int) := toI_len (hR.w.len9 (hT_b13) (by decide))
    refine lv_imul hx hb dX0_put_23 ?_
    refine lv_topi (fun z16 ez16 => ?_)
    obtain rfl : z16 = ((2 : Int32) * (Int32.ofNat (qN S (qO S p0 0)))) := ez16
    replace h := h (hT_b11)
    obtain ⟨Q17, h0, h⟩ := h
    have hFc := cfree hR hA
    refine W_led2 (fun hL0 => ?_)
    refine va_callq (va_runS (As := [.ref (ad (qO S p0 0)), .int ((2 : Int32) * (Int32.ofNat (qN S (qO S p0 0))))]) (rest := [.ref (ad p0)]) ⟨hx, hb, hml, hown, hts⟩ (rJ7_copyOf_9075b l g ad s.heap S 101 (qO S p0 0) ((2 : Int32) * (Int32.ofNat (qN S (qO S p0 0)))) hR.w (by decide) (by decide) hT_b11 Q17 h0) (va_cwS 2 hts (gd_S kw_15 kw_1741 kw_1723 kw_1740) rfl rfl rfl (by decide +kernel) ⟨Nat.le_of_ble_eq_true rfl, Nat.le_of_ble_eq_true rfl⟩) ⟨cblindH, fun U hU hW9 => cmkH hU hW9 hR hex hE hFc⟩ rfl rfl hl.1 rfl (lv_room (Nat.le_of_ble_eq_true rfl)) dX0_put_24 ⟨(show 0 + (KCC - qn S) ≤ KCC - qn S from hlg.cm), (show 0 + (KSC - qu S) ≤ KSC - qu S from hlg.sm)⟩) hR.sS (fun q _ h => hFc q h) hFc (fun r18 S19 t9 H1 locs ht9 hvm9 hw9 hB9 hz9 hk9 hS => ?_)
    rcases S19 with ⟨S19, ak21⟩
    obtain ⟨hB9, dc9, ds9, hL9, hl9⟩ := hB9
    dsimp only at hw9 hB9 hl9
    rw [ht9] at hL9
    obtain ⟨b22, rfl, hq20, hw9, hs9, hk8, hT_b22⟩ := hw9
    have hw8 := hR.w
    have hak := hak.tr hk8 hlg.2.2.1
    have hE := hE.ad hk8
    have hR : RepC g ak21 A s S19 H1 locs := hR.callH ht9 hB9 hw9 hS hFc
    have hsh := hsh.tr hs9
    refine W_tight2 (hL0.tr hL9).1 (hL0.tr hL9).2.1 ?_
    have hlg := hlg.call hl9
    replace h := h b22 S19 hq20 hw9 hs9 hT_b22
    have ea_0 : ak21 p0 = ad p0 := hk8 _ (hw8.hd hT_p0 (by decide) (by decide))
    have hl : lv_has ls 2 [(0, .ref (ak21 p0)), (1, .int x1)] := by simp only [ea_0]; exact hl
    refine W.eq (g2 := F0 m 27 ls (.ref (ak21 b22) :: [.ref (ak21 p0)])) (by first | (simp only [ea_0]; rfl) | simp only [ea_0]) ?_
    have hT_p0 := hs9.T hT_p0 (by decide)
    clear hB9 hz9 hk9 hvm9 ht9 hw9 hs9 hS hL0 hL9
    generalize H1 = H at hR ⊢
    generalize dc9 = dc_ak21, ds9 = ds_ak21 at hlg ⊢
    refine va_put (D := rD g) (ci := 0) (v := .ref (ak21 b22)) (ty := (.array .byte)) (C := RX0) (T := TX0) (N := 2) hx hb hts inX0 tyX0 tyX0_ok nmX0 hown hR.K hR.P hR.D hR.sS p0 (hR.at40 hT_p0) rfl 0 (by decide) (hts _ kw_5) (fun _ h9 => h9) rfl (by decide +kernel) rfl rfl (Nat.le_of_ble_eq_true rfl) dX0_put_27 (fun H locs hP hD hS => ?_)
    have hw9 : wfC (wR S19 p0 0 (some b22)) := hR.w.put (fun b q9 => by cases q9; exact (hT_b22).trans (by rw [hT_p0]; rfl)) (hR.w.noown hT_p0 (by decide) (by decide)) (by rw [hT_p0]; decide) (fun b _ q9 => absurd (show otgC (qT S19 p0) 0 = 0 by rw [hT_p0]; decide) q9) (fun _ => Option.some_ne_none _)
    have hTk9 : qT S19 p0 = 40 := hT_p0
    have hR : RepC g ak21 A s (wR S19 p0 0 (some b22)) H locs := hR.pR40 hT_p0 FX0_s0 hw9 hP hD hS
    obtain ⟨S23, eS23⟩ : ∃ z, z = wR S19 p0 0 (some b22) := ⟨_, rfl⟩
    rw [← eS23] at hR
    replace h := h S23 eS23 hTk9 hR.w
    have hT_p0 : qT S23 p0 = 40 := (congrArg (fun z => qT z p0) eS23).trans hT_p0
    have hsh : shx S S23 := by rw [eS23]; exact hsh
    have hlg : lgC S S23 (0 + dc_ak21) (0 + ds_ak21) := by rw [eS23]; exact hlg
    exact J_30 ak21 (0 + dc_ak21) (0 + ds_ak21) S23 p0 x1 _ _ ls h hT_p0 hsh hlg hak hE hR (lv_sub hl [0, 1] rfl)
def wX0_put2 (S : MS) (p0 : Nat) (x1 : Int32) (Q : MS → Prop) : Prop := (qT S p0 = 40 → (∃ Q2, wX0_put S p0 (x1 >>> ((8 : Int32) &&& 31)) Q2 ∧ ∀ S3, Q2 S3 → wfC S3 → shx S S3 → (qT S3 p0 = 40 → (∃ Q6, wX0_put S3 p0 x1 Q6 ∧ ∀ S7, Q6 S7 → wfC S7 → shx S3 S7 → Q S7))))
set_option maxHeartbeats 2000000 in
set_option maxRecDepth 100000 in
theorem rX0_put2 (l : Launch) (g : Gr) (ad : Nat → Nat) (H0 : Heap) (S : MS) (p0 : Nat) (x1 : Int32) (hw : wfC S) (hT_p0 : qT S p0 = 40) (Q : MS → Prop) (h : wX0_put2 S p0 x1 Q) : Met l yX0_put2 (wt yX0_put2 cX0_put2 2 none) ({ frames := 3, cells := KCC - qn S, slots := KSC - qu S, locals := 83 }) (va_Pc [.ref (ad p0), .int x1] (st_CH g ad H0 S)) (va_Qv (fun (u : MS × (Nat → Nat)) => Q u.1 ∧ wfC u.1 ∧ shx S u.1 ∧ adk ad u.2 S) (fun (u : MS × (Nat → Nat)) (t : State) => qEHC g (va_A (WdC g ad S) H0.size) S H0 u t) (va_A (WdC g ad S) H0.size)) (KCC - qn S) (KSC - qu S) (va_A (WdC g ad S) H0.size) := by
  refine Met.ofW (cc := cX0_put2) (maxL := 2) (ret := none) (by decide) rfl ?_
  intro p e s m args below meth c s₁ B hml hv
  obtain ⟨rfl, hH0, hsz, hP, hK, hD0, hex, hE⟩ := hv
  have hx := B.exec
  have hb := B.bytes
  have hr := B.returns
  have hts0 := atoms_spec (ws := wt yX0_put2 cX0_put2 2 none) B.pre
  have hts : ∀ w ∈ tb, w.before _ s = true := fun w h => hts0 w (List.mem_cons_of_mem _ h)
  have hown : s.vm.findClass RX0 = some m.cls := findClass_of_methodNamed B.named
  subst hH0
  have hD := hD0.self (sz := s.heap.size)
  generalize hAe : va_A (WdC g ad S) s.heap.size = A at hD hE ⊢
  have hA : ∀ q : Nat, s.heap.size ≤ q → A q := fun q h => by rw [← hAe]; exact Or.inr h
  have hR : RepC g ad A s S s.heap [] := ⟨hK, hP, hD, va_S.rf, hw⟩
  clear hK hP hD hD0
  have hl := lv_entry ([.ref (ad p0), .int x1]) (n := 2) (Nat.le_of_ble_eq_true rfl)
  rw [lg_entry_eq]
  generalize (lg_sl ([.ref (ad p0), .int x1]) ++ List.replicate (2 - (lg_sl ([.ref (ad p0), .int x1])).length) Slot.unset).toArray = ls at hl ⊢
  have hlg : lgC S S 0 0 := lgC.rf
  have hak : adk ad ad S := adk.rf
  have hl : lv_has ls 2 [(0, .ref (ad p0)), (1, .int x1)] := hl
  have hsh : shx S S := shx.rf
  unfold wX0_put2 at h
  refine lv_aload_n hx hb dX0_put2_0 rfl (lv_at hl 0 rfl) ?_
  refine lv_iload_n hx hb dX0_put2_1 rfl (lv_at hl 1 rfl) ?_
  refine lv_bipush (v := 8) hx hb dX0_put2_2 (by decide) ?_
  refine lv_ishr hx hb dX0_put2_4 ?_
  refine lv_topi (fun z1 ez1 => ?_)
  obtain rfl : z1 = (x1 >>> ((8 : Int32) &&& 31)) := ez1
  replace h := h (hT_p0)
  obtain ⟨Q2, h0, h⟩ := h
  have hFc := cfree hR hA
  refine W_led2 (fun hL0 => ?_)
  refine va_callv (va_runV (As := [.int (x1 >>> ((8 : Int32) &&& 31))]) (rest := []) ⟨hx, hb, hml, hown, hts⟩ (rX0_put l g ad s.heap S p0 (x1 >>> ((8 : Int32) &&& 31)) hR.w hT_p0 Q2 h0) (cwV 1 hts (gd_V kw_19 kw_13 kw_14 kw_3 kw_12) rfl rfl rfl (by decide +kernel) ⟨Nat.le_of_ble_eq_true rfl, Nat.le_of_ble_eq_true rfl⟩) ⟨cblindH, va_recv hR.K hR.P (ci := 0) (q0 := p0) rfl (hR.at40 hT_p0), fun U hU hW9 => cmkH hU hW9 hR hex hE hFc⟩ rfl rfl hl.1 rfl (lv_room (Nat.le_of_ble_eq_true rfl)) dX0_put2_5 ⟨(show 0 + (KCC - qn S) ≤ KCC - qn S from hlg.cm), (show 0 + (KSC - qu S) ≤ KSC - qu S from hlg.sm)⟩) hR.sS (fun q _ h => hFc q h) hFc (fun  S3 t9 H1 locs ht9 hvm9 hw9 hB9 hz9 hk9 hS => ?_)
  rcases S3 with ⟨S3, ak5⟩
  obtain ⟨hB9, dc9, ds9, hL9, hl9⟩ := hB9
  dsimp only at hw9 hB9 hl9
  rw [ht9] at hL9
  obtain ⟨hq4, hw9, hs9, hk8⟩ := hw9
  have hw8 := hR.w
  have hak := hak.tr hk8 hlg.2.2.1
  have hE := hE.ad hk8
  have hR : RepC g ak5 A s S3 H1 locs := hR.callH ht9 hB9 hw9 hS hFc
  have hsh := hsh.tr hs9
  refine W_tight2 (hL0.tr hL9).1 (hL0.tr hL9).2.1 ?_
  have hlg := hlg.call hl9
  replace h := h  S3 hq4 hw9 hs9
  have ea_0 : ak5 p0 = ad p0 := hk8 _ (hw8.hd hT_p0 (by decide) (by decide))
  have hl : lv_has ls 2 [(0, .ref (ak5 p0)), (1, .int x1)] := by simp only [ea_0]; exact hl
  have hT_p0 := hs9.T hT_p0 (by decide)
  clear hB9 hz9 hk9 hvm9 ht9 hw9 hs9 hS hL0 hL9
  generalize H1 = H at hR ⊢
  generalize dc9 = dc_ak5, ds9 = ds_ak5 at hlg ⊢
  refine lv_aload_n hx hb dX0_put2_8 rfl (lv_at hl 0 rfl) ?_
  refine lv_iload_n hx hb dX0_put2_9 rfl (lv_at hl 1 rfl) ?_
  replace h := h (hT_p0)
  obtain ⟨Q6, h0, h⟩ := h
  have hFc := cfree hR hA
  refine W_led2 (fun hL0 => ?_)
  refine va_callv (va_runV (As := [.int x1]) (rest := []) ⟨hx, hb, hml, hown, hts⟩ (rX0_put l g ak5 H S3 p0 x1 hR.w hT_p0 Q6 h0) (cwV 1 hts (gd_V kw_19 kw_13 kw_14 kw_3 kw_12) rfl rfl rfl (by decide +kernel) ⟨Nat.le_of_ble_eq_true rfl, Nat.le_of_ble_eq_true rfl⟩) ⟨cblindH, va_recv hR.K hR.P (ci := 0) (q0 := p0) rfl (hR.at40 hT_p0), fun U hU hW9 => cmkH hU hW9 hR hex hE hFc⟩ rfl rfl hl.1 rfl (lv_room (Nat.le_of_ble_eq_true rfl)) dX0_put2_10 ⟨(show 0 + dc_ak5 + (KCC - qn S3) ≤ KCC - qn S from hlg.cm), (show 0 + ds_ak5 + (KSC - qu S3) ≤ KSC - qu S from hlg.sm)⟩) hR.sS (fun q _ h => hFc q h) hFc (fun  S7 t9 H1 locs ht9 hvm9 hw9 hB9 hz9 hk9 hS => ?_)
  rcases S7 with ⟨S7, ak9⟩
  obtain ⟨hB9, dc9, ds9, hL9, hl9⟩ := hB9
  dsimp only at hw9 hB9 hl9
  rw [ht9] at hL9
  obtain ⟨hq8, hw9, hs9, hk8⟩ := hw9
  have hw8 := hR.w
  have hak := hak.tr hk8 hlg.2.2.1
  have hE := hE.ad hk8
  have hR : RepC g ak9 A s S7 H1 locs := hR.callH ht9 hB9 hw9 hS hFc
  have hsh := hsh.tr hs9
  refine W_tight2 (hL0.tr hL9).1 (hL0.tr hL9).2.1 ?_
  have hlg := hlg.call hl9
  replace h := h  S7 hq8 hw9 hs9
  have ea_0 : ak9 p0 = ak5 p0 := hk8 _ (hw8.hd hT_p0 (by decide) (by decide))
  have hl : lv_has ls 2 [(0, .ref (ak9 p0)), (1, .int x1)] := by simp only [ea_0]; exact hl
  have hT_p0 := hs9.T hT_p0 (by decide)
  clear hB9 hz9 hk9 hvm9 ht9 hw9 hs9 hS hL0 hL9
  generalize H1 = H at hR ⊢
  generalize dc9 = dc_ak9, ds9 = ds_ak9 at hlg ⊢
  refine W_led2 (fun hLd => ?_)
  refine W.widen (k := KCC - qn S) (n := KSC - qu S) hlg.c hlg.s ?_
  exact W.vret hx hb hr (fun t9 ht9 hW9 => ⟨⟨(S7, ak9), rfl, ⟨h, hR.w, hsh, hak⟩, ⟨⟨by rw [ht9]; exact hR.P, hR.D⟩, _, _, by rw [ht9]; exact hLd, hlg⟩⟩, hR.sS.F ht9⟩) hR.sS.2.2 dX0_put2_13
def wX0_put4 (S : MS) (p0 : Nat) (x1 : Int32) (Q : MS → Prop) : Prop := (qT S p0 = 40 → (∃ Q2, wX0_put2 S p0 (x1 >>> ((16 : Int32) &&& 31)) Q2 ∧ ∀ S3, Q2 S3 → wfC S3 → shx S S3 → (qT S3 p0 = 40 → (∃ Q6, wX0_put2 S3 p0 x1 Q6 ∧ ∀ S7, Q6 S7 → wfC S7 → shx S3 S7 → Q S7))))
set_option maxHeartbeats 2000000 in
set_option maxRecDepth 100000 in
theorem rX0_put4 (l : Launch) (g : Gr) (ad : Nat → Nat) (H0 : Heap) (S : MS) (p0 : Nat) (x1 : Int32) (hw : wfC S) (hT_p0 : qT S p0 = 40) (Q : MS → Prop) (h : wX0_put4 S p0 x1 Q) : Met l yX0_put4 (wt yX0_put4 cX0_put4 2 none) ({ frames := 4, cells := KCC - qn S, slots := KSC - qu S, locals := 104 }) (va_Pc [.ref (ad p0), .int x1] (st_CH g ad H0 S)) (va_Qv (fun (u : MS × (Nat → Nat)) => Q u.1 ∧ wfC u.1 ∧ shx S u.1 ∧ adk ad u.2 S) (fun (u : MS × (Nat → Nat)) (t : State) => qEHC g (va_A (WdC g ad S) H0.size) S H0 u t) (va_A (WdC g ad S) H0.size)) (KCC - qn S) (KSC - qu S) (va_A (WdC g ad S) H0.size) := by
  refine Met.ofW (cc := cX0_put4) (maxL := 2) (ret := none) (by decide) rfl ?_
  intro p e s m args below meth c s₁ B hml hv
  obtain ⟨rfl, hH0, hsz, hP, hK, hD0, hex, hE⟩ := hv
  have hx := B.exec
  have hb := B.bytes
  have hr := B.returns
  have hts0 := atoms_spec (ws := wt yX0_put4 cX0_put4 2 none) B.pre
  have hts : ∀ w ∈ tb, w.before _ s = true := fun w h => hts0 w (List.mem_cons_of_mem _ h)
  have hown : s.vm.findClass RX0 = some m.cls := findClass_of_methodNamed B.named
  subst hH0
  have hD := hD0.self (sz := s.heap.size)
  generalize hAe : va_A (WdC g ad S) s.heap.size = A at hD hE ⊢
  have hA : ∀ q : Nat, s.heap.size ≤ q → A q := fun q h => by rw [← hAe]; exact Or.inr h
  have hR : RepC g ad A s S s.heap [] := ⟨hK, hP, hD, va_S.rf, hw⟩
  clear hK hP hD hD0
  have hl := lv_entry ([.ref (ad p0), .int x1]) (n := 2) (Nat.le_of_ble_eq_true rfl)
  rw [lg_entry_eq]
  generalize (lg_sl ([.ref (ad p0), .int x1]) ++ List.replicate (2 - (lg_sl ([.ref (ad p0), .int x1])).length) Slot.unset).toArray = ls at hl ⊢
  have hlg : lgC S S 0 0 := lgC.rf
  have hak : adk ad ad S := adk.rf
  have hl : lv_has ls 2 [(0, .ref (ad p0)), (1, .int x1)] := hl
  have hsh : shx S S := shx.rf
  unfold wX0_put4 at h
  refine lv_aload_n hx hb dX0_put4_0 rfl (lv_at hl 0 rfl) ?_
  refine lv_iload_n hx hb dX0_put4_1 rfl (lv_at hl 1 rfl) ?_
  refine lv_bipush (v := 16) hx hb dX0_put4_2 (by decide) ?_
  refine lv_ishr hx hb dX0_put4_4 ?_
  refine lv_topi (fun z1 ez1 => ?_)
  obtain rfl : z1 = (x1 >>> ((16 : Int32) &&& 31)) := ez1
  replace h := h (hT_p0)
  obtain ⟨Q2, h0, h⟩ := h
  have hFc := cfree hR hA
  refine W_led2 (fun hL0 => ?_)
  refine va_callv (va_runV (As := [.int (x1 >>> ((16 : Int32) &&& 31))]) (rest := []) ⟨hx, hb, hml, hown, hts⟩ (rX0_put2 l g ad s.heap S p0 (x1 >>> ((16 : Int32) &&& 31)) hR.w hT_p0 Q2 h0) (cwV 1 hts (gd_V kw_23 kw_17 kw_18 kw_3 kw_16) rfl rfl rfl (by decide +kernel) ⟨Nat.le_of_ble_eq_true rfl, Nat.le_of_ble_eq_true rfl⟩) ⟨cblindH, va_recv hR.K hR.P (ci := 0) (q0 := p0) rfl (hR.at40 hT_p0), fun U hU hW9 => cmkH hU hW9 hR hex hE hFc⟩ rfl rfl hl.1 rfl (lv_room (Nat.le_of_ble_eq_true rfl)) dX0_put4_5 ⟨(show 0 + (KCC - qn S) ≤ KCC - qn S from hlg.cm), (show 0 + (KSC - qu S) ≤ KSC - qu S from hlg.sm)⟩) hR.sS (fun q _ h => hFc q h) hFc (fun  S3 t9 H1 locs ht9 hvm9 hw9 hB9 hz9 hk9 hS => ?_)
  rcases S3 with ⟨S3, ak5⟩
  obtain ⟨hB9, dc9, ds9, hL9, hl9⟩ := hB9
  dsimp only at hw9 hB9 hl9
  rw [ht9] at hL9
  obtain ⟨hq4, hw9, hs9, hk8⟩ := hw9
  have hw8 := hR.w
  have hak := hak.tr hk8 hlg.2.2.1
  have hE := hE.ad hk8
  have hR : RepC g ak5 A s S3 H1 locs := hR.callH ht9 hB9 hw9 hS hFc
  have hsh := hsh.tr hs9
  refine W_tight2 (hL0.tr hL9).1 (hL0.tr hL9).2.1 ?_
  have hlg := hlg.call hl9
  replace h := h  S3 hq4 hw9 hs9
  have ea_0 : ak5 p0 = ad p0 := hk8 _ (hw8.hd hT_p0 (by decide) (by decide))
  have hl : lv_has ls 2 [(0, .ref (ak5 p0)), (1, .int x1)] := by simp only [ea_0]; exact hl
  have hT_p0 := hs9.T hT_p0 (by decide)
  clear hB9 hz9 hk9 hvm9 ht9 hw9 hs9 hS hL0 hL9
  generalize H1 = H at hR ⊢
  generalize dc9 = dc_ak5, ds9 = ds_ak5 at hlg ⊢
  refine lv_aload_n hx hb dX0_put4_8 rfl (lv_at hl 0 rfl) ?_
  refine lv_iload_n hx hb dX0_put4_9 rfl (lv_at hl 1 rfl) ?_
  replace h := h (hT_p0)
  obtain ⟨Q6, h0, h⟩ := h
  have hFc := cfree hR hA
  refine W_led2 (fun hL0 => ?_)
  refine va_callv (va_runV (As := [.int x1]) (rest := []) ⟨hx, hb, hml, hown, hts⟩ (rX0_put2 l g ak5 H S3 p0 x1 hR.w hT_p0 Q6 h0) (cwV 1 hts (gd_V kw_23 kw_17 kw_18 kw_3 kw_16) rfl rfl rfl (by decide +kernel) ⟨Nat.le_of_ble_eq_true rfl, Nat.le_of_ble_eq_true rfl⟩) ⟨cblindH, va_recv hR.K hR.P (ci := 0) (q0 := p0) rfl (hR.at40 hT_p0), fun U hU hW9 => cmkH hU hW9 hR hex hE hFc⟩ rfl rfl hl.1 rfl (lv_room (Nat.le_of_ble_eq_true rfl)) dX0_put4_10 ⟨(show 0 + dc_ak5 + (KCC - qn S3) ≤ KCC - qn S from hlg.cm), (show 0 + ds_ak5 + (KSC - qu S3) ≤ KSC - qu S from hlg.sm)⟩) hR.sS (fun q _ h => hFc q h) hFc (fun  S7 t9 H1 locs ht9 hvm9 hw9 hB9 hz9 hk9 hS => ?_)
  rcases S7 with ⟨S7, ak9⟩
  obtain ⟨hB9, dc9, ds9, hL9, hl9⟩ := hB9
  dsimp only at hw9 hB9 hl9
  rw [ht9] at hL9
  obtain ⟨hq8, hw9, hs9, hk8⟩ := hw9
  have hw8 := hR.w
  have hak := hak.tr hk8 hlg.2.2.1
  have hE := hE.ad hk8
  have hR : RepC g ak9 A s S7 H1 locs := hR.callH ht9 hB9 hw9 hS hFc
  have hsh := hsh.tr hs9
  refine W_tight2 (hL0.tr hL9).1 (hL0.tr hL9).2.1 ?_
  have hlg := hlg.call hl9
  replace h := h  S7 hq8 hw9 hs9
  have ea_0 : ak9 p0 = ak5 p0 := hk8 _ (hw8.hd hT_p0 (by decide) (by decide))
  have hl : lv_has ls 2 [(0, .ref (ak9 p0)), (1, .int x1)] := by simp only [ea_0]; exact hl
  have hT_p0 := hs9.T hT_p0 (by decide)
  clear hB9 hz9 hk9 hvm9 ht9 hw9 hs9 hS hL0 hL9
  generalize H1 = H at hR ⊢
  generalize dc9 = dc_ak9, ds9 = ds_ak9 at hlg ⊢
  refine W_led2 (fun hLd => ?_)
  refine W.widen (k := KCC - qn S) (n := KSC - qu S) hlg.c hlg.s ?_
  exact W.vret hx hb hr (fun t9 ht9 hW9 => ⟨⟨(S7, ak9), rfl, ⟨h, hR.w, hsh, hak⟩, ⟨⟨by rw [ht9]; exact hR.P, hR.D⟩, _, _, by rw [ht9]; exact hLd, hlg⟩⟩, hR.sS.F ht9⟩) hR.sS.2.2 dX0_put4_13
def w_X0_putAll_J58 (Q : MS → Prop) (U58 : MS) (v58_0 : Nat) (v58_1 : Nat) : Prop := (wfC U58 → qT U58 v58_0 = 40 → qT U58 v58_1 = 40 → ((qR U58 v58_1 0 = some (qO U58 v58_1 0)) ∧ ((qR U58 v58_0 0 = some (qO U58 v58_0 0)) ∧ ((¬ (0 : Int32) < 0 ∧ ¬ (qI U58 v58_0 1) < 0 ∧ ¬ (qI U58 v58_1 1) < 0 ∧ (0 : Int32).toNatClampNeg + (qI U58 v58_1 1).toNatClampNeg ≤ qN U58 (qO U58 v58_1 0) ∧ (qI U58 v58_0 1).toNatClampNeg + (qI U58 v58_1 1).toNatClampNeg ≤ qN U58 (qO U58 v58_0 0)) ∧ (∀ S14, S14 = wC U58 (qO U58 v58_0 0) (va_cpy (qI U58 (qO U58 v58_1 0)) (qI U58 (qO U58 v58_0 0)) (0 : Int32).toNatClampNeg (qI U58 v58_0 1).toNatClampNeg (qI U58 v58_1 1).toNatClampNeg) → qT U58 (qO U58 v58_0 0) = 101 → wfC S14 → (∀ S16, S16 = wI S14 v58_0 1 ((qI S14 v58_0 1) + (qI S14 v58_1 1)) → qT S14 v58_0 = 40 → wfC S16 → Q S16))))))
def w_X0_putAll_J37 (Q : MS → Prop) (U37 : MS) (v37_0 : Nat) (v37_1 : Nat) (v37_2 : Int32) : Prop := (wfC U37 → qT U37 v37_0 = 40 → qT U37 v37_1 = 40 → ((qR U37 v37_0 0 = some (qO U37 v37_0 0)) ∧ ((v37_2.toInt ≤ (qN U37 (qO U37 v37_0 0) : Int) → w_X0_putAll_J58 Q U37 v37_0 v37_1) ∧ (¬ v37_2.toInt ≤ (qN U37 (qO U37 v37_0 0) : Int) → ((qR U37 v37_0 0 = some (qO U37 v37_0 0)) ∧ (qT U37 (qO U37 v37_0 0) = 101 → (∃ Q20, wJ7_copyOf_9075b U37 101 (qO U37 v37_0 0) v37_2 Q20 ∧ ∀ b25 S22, Q20 b25 S22 → wfC S22 → shx U37 S22 → qT S22 b25 = 101 → (∀ S26, S26 = wR S22 v37_0 0 (some b25) → qT S22 v37_0 = 40 → wfC S26 → w_X0_putAll_J58 Q S26 v37_0 v37_1))))))))
def w_X0_putAll_L8 (Q : MS → Prop) : Nat → MS → Nat → Nat → Int32 → Int32 → Prop
  | 0, _, _, _, _, _ => False
  | n8 + 1, U8, v8_0, v8_1, v8_2, v8_3 => (wfC U8 → qT U8 v8_0 = 40 → qT U8 v8_1 = 40 → ((((qI U8 v8_0 1) + (qI U8 v8_1 1)).toInt ≤ v8_2.toInt → w_X0_putAll_J37 Q U8 v8_0 v8_1 v8_2) ∧ (¬ ((qI U8 v8_0 1) + (qI U8 v8_1 1)).toInt ≤ v8_2.toInt → ((31 ≤ v8_3.toInt → w_X0_putAll_J37 Q U8 v8_0 v8_1 v8_2) ∧ (¬ 31 ≤ v8_3.toInt → (∀ a30 : Int32, a30 = (v8_2 * (2 : Int32)) → (∀ a31 : Int32, a31 = (v8_3 + Int32.ofInt 1) → (w_X0_putAll_L8 Q n8) U8 v8_0 v8_1 a30 a31)))))))
def wX0_putAll (S : MS) (p0 : Nat) (p1 : Nat) (Q : MS → Prop) : Prop := ((qR S p0 0 = some (qO S p0 0)) ∧ (∀ a4 : Int32, a4 = (Int32.ofNat (qN S (qO S p0 0))) → (∃ n, w_X0_putAll_L8 Q n S p0 p1 a4 0)))
set_option maxHeartbeats 2000000 in
set_option maxRecDepth 100000 in
theorem rX0_putAll (l : Launch) (g : Gr) (ad : Nat → Nat) (H0 : Heap) (S : MS) (p0 : Nat) (p1 : Nat) (hw : wfC S) (hT_p0 : qT S p0 = 40) (hT_p1 : qT S p1 = 40) (Q : MS → Prop) (h : wX0_putAll S p0 p1 Q) : Met l yX0_putAll (wt yX0_putAll cX0_putAll 4 none) ({ frames := 2, cells := KCC - qn S, slots := KSC - qu S, locals := 62 }) (va_Pc [.ref (ad p0), .ref (ad p1)] (st_CH g ad H0 S)) (va_Qv (fun (u : MS × (Nat → Nat)) => Q u.1 ∧ wfC u.1 ∧ shx S u.1 ∧ adk ad u.2 S) (fun (u : MS × (Nat → Nat)) (t : State) => qEHC g (va_A (WdC g ad S) H0.size) S H0 u t) (va_A (WdC g ad S) H0.size)) (KCC - qn S) (KSC - qu S) (va_A (WdC g ad S) H0.size) := by
  refine Met.ofW (cc := cX0_putAll) (maxL := 4) (ret := none) (by decide) rfl ?_
  intro p e s m args below meth c s₁ B hml hv
  obtain ⟨rfl, hH0, hsz, hP, hK, hD0, hex, hE⟩ := hv
  have hx := B.exec
  have hb := B.bytes
  have hr := B.returns
  have hts0 := atoms_spec (ws := wt yX0_putAll cX0_putAll 4 none) B.pre
  have hts : ∀ w ∈ tb, w.before _ s = true := fun w h => hts0 w (List.mem_cons_of_mem _ h)
  have hown : s.vm.findClass RX0 = some m.cls := findClass_of_methodNamed B.named
  subst hH0
  have hD := hD0.self (sz := s.heap.size)
  generalize hAe : va_A (WdC g ad S) s.heap.size = A at hD hE ⊢
  have hA : ∀ q : Nat, s.heap.size ≤ q → A q := fun q h => by rw [← hAe]; exact Or.inr h
  have hR : RepC g ad A s S s.heap [] := ⟨hK, hP, hD, va_S.rf, hw⟩
  clear hK hP hD hD0
  have hl := lv_entry ([.ref (ad p0), .ref (ad p1)]) (n := 4) (Nat.le_of_ble_eq_true rfl)
  rw [lg_entry_eq]
  generalize (lg_sl ([.ref (ad p0), .ref (ad p1)]) ++ List.replicate (4 - (lg_sl ([.ref (ad p0), .ref (ad p1)])).length) Slot.unset).toArray = ls at hl ⊢
  have hlg : lgC S S 0 0 := lgC.rf
  have hak : adk ad ad S := adk.rf
  have hl : lv_has ls 4 [(0, .ref (ad p0)), (1, .ref (ad p1))] := hl
  have hsh : shx S S := shx.rf
  unfold wX0_putAll at h
  refine lv_aload_n hx hb dX0_putAll_0 rfl (lv_at hl 0 rfl) ?_
  obtain ⟨hv2, h⟩ := h
  have hT_b1 : qT S (qO S p0 0) = 101 := hR.w.ref hv2 hT_p0
  refine va_get (D := rD g) (ci := 0) (v := .ref (ad (qO S p0 0))) (C := RX0) (T := TX0) (N := 2) hx hb hts inX0 hown hR.K hR.P p0 (hR.at40 hT_p0) rfl 0 (by decide) (hts _ kw_5) (fun _ h9 => h9) (congrArg (fun z => some (vf ad z)) hv2) dX0_putAll_1 ?_
  refine va_alen (v := (Int32.ofNat (qN S (qO S p0 0)))) hx hb hR.K hR.P (qO S p0 0) 0 (hR.atB hT_b1 (by decide)) rfl rfl dX0_putAll_4 ?_
  have hln3 : (Int32.ofNat (qN S (qO S p0 0))).toInt = (qN S (qO S p0 0) : Int) := toI_len (hR.w.len9 (hT_b1) (by decide))
  obtain ⟨a4, ea4⟩ : ∃ z, z = (Int32.ofNat (qN S (qO S p0 0))) := ⟨_, rfl⟩
  rw [← ea4]
  replace h := h a4 ea4
  refine lv_istore_n (lv' := [(2, .int a4), (0, .ref (ad p0)), (1, .ref (ad p1))]) hx hb dX0_putAll_5 rfl hl (by decide) rfl (fun ls hl => ?_)
  refine lv_iconst (v := 0) hx hb dX0_putAll_6 (by decide) ?_
  refine lv_istore_n (lv' := [(3, .int 0), (2, .int a4), (0, .ref (ad p0)), (1, .ref (ad p1))]) hx hb dX0_putAll_7 rfl hl (by decide) rfl (fun ls hl => ?_)
  have J_8 : ∀ (n8 : Nat) (ad8 : Nat → Nat) (dc8 ds8 : Nat) (U8 : MS) (v8_0 : Nat) (v8_1 : Nat) (v8_2 : Int32) (v8_3 : Int32) (H : Heap) (locs : List Loc) (ls : Array Slot), w_X0_putAll_L8 Q n8 U8 v8_0 v8_1 v8_2 v8_3 → qT U8 v8_0 = 40 → qT U8 v8_1 = 40 → shx S U8 → lgC S U8 dc8 ds8 → adk ad ad8 S → ogC ad8 A s s.heap → RepC g ad8 A s U8 H locs → lv_has ls 4 [(0, .ref (ad8 v8_0)), (1, .ref (ad8 v8_1)), (2, .int v8_2), (3, .int v8_3)] → W p l e (headSpec (wt yX0_putAll cX0_putAll 4 none) ({ frames := 2, cells := KCC - qn S, slots := KSC - qu S, locals := 62 })).room s m ([.ref (ad p0), .ref (ad p1)] : List Value).toArray below meth c H locs dc8 ds8 (MQ below (va_Qv (fun (u : MS × (Nat → Nat)) => Q u.1 ∧ wfC u.1 ∧ shx S u.1 ∧ adk ad u.2 S) (fun (u : MS × (Nat → Nat)) (t : State) => qEHC g A S s.heap u t) A) ([.ref (ad p0), .ref (ad p1)] : List Value).toArray s (KCC - qn S) (KSC - qu S) A) (F0 m 8 ls []) := by
    intro n8
    induction n8 with
    | zero => intro ad8 dc8 ds8 U8 v8_0 v8_1 v8_2 v8_3 H locs ls h hT_v8_0 hT_v8_1 hsh hlg hak hE hR hl; unfold w_X0_putAll_L8 at h; exact h.elim
    | succ n8 ih_8 =>
      intro ad8 dc8 ds8 U8 v8_0 v8_1 v8_2 v8_3 H locs ls h hT_v8_0 hT_v8_1 hsh hlg hak hE hR hl
      unfold w_X0_putAll_L8 at h
      replace h := h hR.w hT_v8_0 hT_v8_1
      refine lv_iload_n hx hb dX0_putAll_8 rfl (lv_at hl 2 rfl) ?_
      refine lv_aload_n hx hb dX0_putAll_9 rfl (lv_at hl 0 rfl) ?_
      refine va_get (D := rD g) (ci := 0) (v := .int (qI U8 v8_0 1)) (C := RX0) (T := TX0) (N := 2) hx hb hts inX0 hown hR.K hR.P v8_0 (hR.at40 hT_v8_0) rfl 1 (by decide) (hts _ kw_4) (fun _ h9 => h9) rfl dX0_putAll_10 ?_
      refine lv_aload_n hx hb dX0_putAll_13 rfl (lv_at hl 1 rfl) ?_
      refine va_get (D := rD g) (ci := 0) (v := .int (qI U8 v8_1 1)) (C := RX0) (T := TX0) (N := 2) hx hb hts inX0 hown hR.K hR.P v8_1 (hR.at40 hT_v8_1) rfl 1 (by decide) (hts _ kw_4) (fun _ h9 => h9) rfl dX0_putAll_14 ?_
      refine lv_iadd hx hb dX0_putAll_17 ?_
      refine lv_topi (fun z5 ez5 => ?_)
      obtain rfl : z5 = ((qI U8 v8_0 1) + (qI U8 v8_1 1)) := ez5
      have J_37 : ∀ (ad37 : Nat → Nat) (dc37 ds37 : Nat) (U37 : MS) (v37_0 : Nat) (v37_1 : Nat) (v37_2 : Int32) (H : Heap) (locs : List Loc) (ls : Array Slot), w_X0_putAll_J37 Q U37 v37_0 v37_1 v37_2 → qT U37 v37_0 = 40 → qT U37 v37_1 = 40 → shx S U37 → lgC S U37 dc37 ds37 → adk ad ad37 S → ogC ad37 A s s.heap → RepC g ad37 A s U37 H locs → lv_has ls 4 [(0, .ref (ad37 v37_0)), (1, .ref (ad37 v37_1)), (2, .int v37_2)] → W p l e (headSpec (wt yX0_putAll cX0_putAll 4 none) ({ frames := 2, cells := KCC - qn S, slots := KSC - qu S, locals := 62 })).room s m ([.ref (ad p0), .ref (ad p1)] : List Value).toArray below meth c H locs dc37 ds37 (MQ below (va_Qv (fun (u : MS × (Nat → Nat)) => Q u.1 ∧ wfC u.1 ∧ shx S u.1 ∧ adk ad u.2 S) (fun (u : MS × (Nat → Nat)) (t : State) => qEHC g A S s.heap u t) A) ([.ref (ad p0), .ref (ad p1)] : List Value).toArray s (KCC - qn S) (KSC - qu S) A) (F0 m 37 ls []) := by
        intro ad37 dc37 ds37 U37 v37_0 v37_1 v37_2 H locs ls h hT_v37_0 hT_v37_1 hsh hlg hak hE hR hl
        unfold w_X0_putAll_J37 at h
        replace h := h hR.w hT_v37_0 hT_v37_1
        refine lv_iload_n hx hb dX0_putAll_37 rfl (lv_at hl 2 rfl) ?_
        refine lv_aload_n hx hb dX0_putAll_38 rfl (lv_at hl 0 rfl) ?_
        obtain ⟨hv7, h⟩ := h
        have hT_b6 : qT U37 (qO U37 v37_0 0) = 101 := hR.w.ref hv7 hT_v37_0
        refine va_get (D := rD g) (ci := 0) (v := .ref (ad37 (qO U37 v37_0 0))) (C := RX0) (T := TX0) (N := 2) hx hb hts inX0 hown hR.K hR.P v37_0 (hR.at40 hT_v37_0) rfl 0 (by decide) (hts _ kw_5) (fun _ h9 => h9) (congrArg (fun z => some (vf ad37 z)) hv7) dX0_putAll_39 ?_
        refine va_alen (v := (Int32.ofNat (qN U37 (qO U37 v37_0 0)))) hx hb hR.K hR.P (qO U37 v37_0 0) 0 (hR.atB hT_b6 (by decide)) rfl rfl dX0_putAll_42 ?_
        have hln8 : (Int32.ofNat (qN U37 (qO U37 v37_0 0))).toInt = (qN U37 (qO U37 v37_0 0) : Int) := toI_len (hR.w.len9 (hT_b6) (by decide))
        have J_58 : ∀ (ad58 : Nat → Nat) (dc58 ds58 : Nat) (U58 : MS) (v58_0 : Nat) (v58_1 : Nat) (H : Heap) (locs : List Loc) (ls : Array Slot), w_X0_putAll_J58 Q U58 v58_0 v58_1 → qT U58 v58_0 = 40 → qT U58 v58_1 = 40 → shx S U58 → lgC S U58 dc58 ds58 → adk ad ad58 S → ogC ad58 A s s.heap → RepC g ad58 A s U58 H locs → lv_has ls 4 [(0, .ref (ad58 v58_0)), (1, .ref (ad58 v58_1))] → W p l e (headSpec (wt yX0_putAll cX0_putAll 4 none) ({ frames := 2, cells := KCC - qn S, slots := KSC - qu S, locals := 62 })).room s m ([.ref (ad p0), .ref (ad p1)] : List Value).toArray below meth c H locs dc58 ds58 (MQ below (va_Qv (fun (u : MS × (Nat → Nat)) => Q u.1 ∧ wfC u.1 ∧ shx S u.1 ∧ adk ad u.2 S) (fun (u : MS × (Nat → Nat)) (t : State) => qEHC g A S s.heap u t) A) ([.ref (ad p0), .ref (ad p1)] : List Value).toArray s (KCC - qn S) (KSC - qu S) A) (F0 m 58 ls []) := by
          intro ad58 dc58 ds58 U58 v58_0 v58_1 H locs ls h hT_v58_0 hT_v58_1 hsh hlg hak hE hR hl
          unfold w_X0_putAll_J58 at h
          replace h := h hR.w hT_v58_0 hT_v58_1
          refine lv_aload_n hx hb dX0_putAll_58 rfl (lv_at hl 1 rfl) ?_
          obtain ⟨hv10, h⟩ := h
          have hT_b9 : qT U58 (qO U58 v58_1 0) = 101 := hR.w.ref hv10 hT_v58_1
          refine va_get (D := rD g) (ci := 0) (v := .ref (ad58 (qO U58 v58_1 0))) (C := RX0) (T := TX0) (N := 2) hx hb hts inX0 hown hR.K hR.P v58_1 (hR.at40 hT_v58_1) rfl 0 (by decide) (hts _ kw_5) (fun _ h9 => h9) (congrArg (fun z => some (vf ad58 z)) hv10) dX0_putAll_59 ?_
          refine lv_iconst (v := 0) hx hb dX0_putAll_62 (by decide) ?_
          refine lv_aload_n hx hb dX0_putAll_63 rfl (lv_at hl 0 rfl) ?_
          obtain ⟨hv12, h⟩ := h
          have hT_b11 : qT U58 (qO U58 v58_0 0) = 101 := hR.w.ref hv12 hT_v58_0
          refine va_get (D := rD g) (ci := 0) (v := .ref (ad58 (qO U58 v58_0 0))) (C := RX0) (T := TX0) (N := 2) hx hb hts inX0 hown hR.K hR.P v58_0 (hR.at40 hT_v58_0) rfl 0 (by decide) (hts _ kw_5) (fun _ h9 => h9) (congrArg (fun z => some (vf ad58 z)) hv12) dX0_putAll_64 ?_
          refine lv_aload_n hx hb dX0_putAll_67 rfl (lv_at hl 0 rfl) ?_
          refine va_get (D := rD g) (ci := 0) (v := .int (qI U58 v58_0 1)) (C := RX0) (T := TX0) (N := 2) hx hb hts inX0 hown hR.K hR.P v58_0 (hR.at40 hT_v58_0) rfl 1 (by decide) (hts _ kw_4) (fun _ h9 => h9) rfl dX0_putAll_68 ?_
          refine lv_aload_n hx hb dX0_putAll_71 rfl (lv_at hl 1 rfl) ?_
          refine va_get (D := rD g) (ci := 0) (v := .int (qI U58 v58_1 1)) (C := RX0) (T := TX0) (N := 2) hx hb hts inX0 hown hR.K hR.P v58_1 (hR.at40 hT_v58_1) rfl 1 (by decide) (hts _ kw_4) (fun _ h9 => h9) rfl dX0_putAll_72 ?_
          obtain ⟨hv13, h⟩ := h
          refine va_copyi hx hb (by rw [hml]; exact hl.1.symm) hown (hts _ kw_27) (hts _ kw_28) (hts _ kw_29) (hts _ kw_30) hR.K hR.P hR.D hR.sS (qO U58 v58_1 0) (qO U58 v58_0 0) 0 0 (hR.atB hT_b9 (by decide)) (hR.atB hT_b11 (by decide)) rfl rfl rfl hv13.1 hv13.2.1 hv13.2.2.1 hv13.2.2.2.1 hv13.2.2.2.2 (fun i _ => hR.w.by (hT_b9) (by decide)) (Nat.le_of_ble_eq_true rfl) (Nat.le_of_ble_eq_true rfl) dX0_putAll_75 (fun H locs hP hD hS => ?_)
          have hTk9 : qT U58 (qO U58 v58_0 0) = 101 := hT_b11
          have hR : RepC g ad58 A s (wC U58 (qO U58 v58_0 0) (va_cpy (qI U58 (qO U58 v58_1 0)) (qI U58 (qO U58 v58_0 0)) (0 : Int32).toNatClampNeg (qI U58 v58_0 1).toNatClampNeg (qI U58 v58_1 1).toNatClampNeg)) H locs := hR.cB hT_b11 (by decide) (fit_cpy (fun i => hR.w.by (hT_b9) (by decide)) (fun i => hR.w.by (hT_b11) (by decide))) hP hD hS
          obtain ⟨S14, eS14⟩ : ∃ z, z = wC U58 (qO U58 v58_0 0) (va_cpy (qI U58 (qO U58 v58_1 0)) (qI U58 (qO U58 v58_0 0)) (0 : Int32).toNatClampNeg (qI U58 v58_0 1).toNatClampNeg (qI U58 v58_1 1).toNatClampNeg) := ⟨_, rfl⟩
          rw [← eS14] at hR
          replace h := h S14 eS14 hTk9 hR.w
          have hT_v58_0 : qT S14 v58_0 = 40 := (congrArg (fun z => qT z v58_0) eS14).trans hT_v58_0
          have hT_v58_1 : qT S14 v58_1 = 40 := (congrArg (fun z => qT z v58_1) eS14).trans hT_v58_1
          have hsh : shx S S14 := by rw [eS14]; exact hsh
          have hlg : lgC S S14 (dc58) (ds58) := by rw [eS14]; exact hlg
          refine lv_aload_n hx hb dX0_putAll_78 rfl (lv_at hl 0 rfl) ?_
          refine lv_dup hx hb dX0_putAll_79 rfl ?_
          refine va_get (D := rD g) (ci := 0) (v := .int (qI S14 v58_0 1)) (C := RX0) (T := TX0) (N := 2) hx hb hts inX0 hown hR.K hR.P v58_0 (hR.at40 hT_v58_0) rfl 1 (by decide) (hts _ kw_4) (fun _ h9 => h9) rfl dX0_putAll_80 ?_
          refine lv_aload_n hx hb dX0_putAll_83 rfl (lv_at hl 1 rfl) ?_
          refine va_get (D := rD g) (ci := 0) (v := .int (qI S14 v58_1 1)) (C := RX0) (T := TX0) (N := 2) hx hb hts inX0 hown hR.K hR.P v58_1 (hR.at40 hT_v58_1) rfl 1 (by decide) (hts _ kw_4) (fun _ h9 => h9) rfl dX0_putAll_84 ?_
          refine lv_iadd hx hb dX0_putAll_87 ?_
          refine lv_topi (fun z15 ez15 => ?_)
          obtain rfl : z15 = ((qI S14 v58_0 1) + (qI S14 v58_1 1)) := ez15
          refine va_put (D := rD g) (ci := 0) (v := .int ((qI S14 v58_0 1) + (qI S14 v58_1 1))) (ty := .int) (C := RX0) (T := TX0) (N := 2) hx hb hts inX0 tyX0 tyX0_ok nmX0 hown hR.K hR.P hR.D hR.sS v58_0 (hR.at40 hT_v58_0) rfl 1 (by decide) (hts _ kw_4) (fun _ h9 => h9) rfl (by decide +kernel) rfl rfl (Nat.le_of_ble_eq_true rfl) dX0_putAll_88 (fun H locs hP hD hS => ?_)
          have hTk9 : qT S14 v58_0 = 40 := hT_v58_0
          have hR : RepC g ad58 A s (wI S14 v58_0 1 ((qI S14 v58_0 1) + (qI S14 v58_1 1))) H locs := hR.pI40 hT_v58_0 FX0_s1 (fun q9 => absurd q9 (by decide)) hP hD hS
          obtain ⟨S16, eS16⟩ : ∃ z, z = wI S14 v58_0 1 ((qI S14 v58_0 1) + (qI S14 v58_1 1)) := ⟨_, rfl⟩
          rw [← eS16] at hR
          replace h := h S16 eS16 hTk9 hR.w
          have hT_v58_0 : qT S16 v58_0 = 40 := (congrArg (fun z => qT z v58_0) eS16).trans hT_v58_0
          have hT_v58_1 : qT S16 v58_1 = 40 := (congrArg (fun z => qT z v58_1) eS16).trans hT_v58_1
          have hsh : shx S S16 := by rw [eS16]; exact hsh
          have hlg : lgC S S16 (dc58) (ds58) := by rw [eS16]; exact hlg
          refine W_led2 (fun hLd => ?_)
          refine W.widen (k := KCC - qn S) (n := KSC - qu S) hlg.c hlg.s ?_
          exact W.vret hx hb hr (fun t9 ht9 hW9 => ⟨⟨(S16, ad58), rfl, ⟨h, hR.w, hsh, hak⟩, ⟨⟨by rw [ht9]; exact hR.P, hR.D⟩, _, _, by rw [ht9]; exact hLd, hlg⟩⟩, hR.sS.F ht9⟩) hR.sS.2.2 dX0_putAll_91
        refine lv_icmp_le (tgt := 58) hx hb dX0_putAll_43 (by decide) (fun c17 => ?_) (fun c17 => ?_)
        · replace h := h.1 (k_le rfl hln8 c17)
          exact J_58 ad37 (dc37) (ds37) U37 v37_0 v37_1 _ _ ls h hT_v37_0 hT_v37_1 hsh hlg hak hE hR (lv_sub hl [0, 1] rfl)
        · replace h := h.2 (k_nle rfl hln8 c17)
          refine lv_aload_n hx hb dX0_putAll_46 rfl (lv_at hl 0 rfl) ?_
          refine lv_aload_n hx hb dX0_putAll_47 rfl (lv_at hl 0 rfl) ?_
          obtain ⟨hv19, h⟩ := h
          have hT_b18 : qT U37 (qO U37 v37_0 0) = 101 := hR.w.ref hv19 hT_v37_0
          refine va_get (D := rD g) (ci := 0) (v := .ref (ad37 (qO U37 v37_0 0))) (C := RX0) (T := TX0) (N := 2) hx hb hts inX0 hown hR.K hR.P v37_0 (hR.at40 hT_v37_0) rfl 0 (by decide) (hts _ kw_5) (fun _ h9 => h9) (congrArg (fun z => some (vf ad37 z)) hv19) dX0_putAll_48 ?_
          refine lv_iload_n hx hb dX0_putAll_51 rfl (lv_at hl 2 rfl) ?_
          replace h := h (hT_b18)
          obtain ⟨Q20, h0, h⟩ := h
          have hFc := cfree hR hA
          refine W_led2 (fun hL0 => ?_)
          refine va_callq (va_runS (As := [.ref (ad37 (qO U37 v37_0 0)), .int v37_2]) (rest := [.ref (ad37 v37_0)]) ⟨hx, hb, hml, hown, hts⟩ (rJ7_copyOf_9075b l g ad37 H U37 101 (qO U37 v37_0 0) v37_2 hR.w (by decide) (by decide) hT_b18 Q20 h0) (va_cwS 2 hts (gd_S kw_15 kw_1741 kw_1723 kw_1740) rfl rfl rfl (by decide +kernel) ⟨Nat.le_of_ble_eq_true rfl, Nat.le_of_ble_eq_true rfl⟩) ⟨cblindH, fun U hU hW9 => cmkH hU hW9 hR hex hE hFc⟩ rfl rfl hl.1 rfl (lv_room (Nat.le_of_ble_eq_true rfl)) dX0_putAll_52 ⟨(show dc37 + (KCC - qn U37) ≤ KCC - qn S from hlg.cm), (show ds37 + (KSC - qu U37) ≤ KSC - qu S from hlg.sm)⟩) hR.sS (fun q _ h => hFc q h) hFc (fun r21 S22 t9 H1 locs ht9 hvm9 hw9 hB9 hz9 hk9 hS => ?_)
          rcases S22 with ⟨S22, ak24⟩
          obtain ⟨hB9, dc9, ds9, hL9, hl9⟩ := hB9
          dsimp only at hw9 hB9 hl9
          rw [ht9] at hL9
          obtain ⟨b25, rfl, hq23, hw9, hs9, hk8, hT_b25⟩ := hw9
          have hw8 := hR.w
          have hak := hak.tr hk8 hlg.2.2.1
          have hE := hE.ad hk8
          have hR : RepC g ak24 A s S22 H1 locs := hR.callH ht9 hB9 hw9 hS hFc
          have hsh := hsh.tr hs9
          refine W_tight2 (hL0.tr hL9).1 (hL0.tr hL9).2.1 ?_
          have hlg := hlg.call hl9
          replace h := h b25 S22 hq23 hw9 hs9 hT_b25
          have ea_0 : ak24 v37_0 = ad37 v37_0 := hk8 _ (hw8.hd hT_v37_0 (by decide) (by decide))
          have ea_1 : ak24 v37_1 = ad37 v37_1 := hk8 _ (hw8.hd hT_v37_1 (by decide) (by decide))
          have hl : lv_has ls 4 [(0, .ref (ak24 v37_0)), (1, .ref (ak24 v37_1)), (2, .int v37_2)] := by simp only [ea_0, ea_1]; exact hl
          refine W.eq (g2 := F0 m 55 ls (.ref (ak24 b25) :: [.ref (ak24 v37_0)])) (by first | (simp only [ea_0, ea_1]; rfl) | simp only [ea_0, ea_1]) ?_
          have hT_v37_0 := hs9.T hT_v37_0 (by decide)
          have hT_v37_1 := hs9.T hT_v37_1 (by decide)
          clear hB9 hz9 hk9 hvm9 ht9 hw9 hs9 hS hL0 hL9
          generalize H1 = H at hR ⊢
          generalize dc9 = dc_ak24, ds9 = ds_ak24 at hlg ⊢
          refine va_put (D := rD g) (ci := 0) (v := .ref (ak24 b25)) (ty := (.array .byte)) (C := RX0) (T := TX0) (N := 2) hx hb hts inX0 tyX0 tyX0_ok nmX0 hown hR.K hR.P hR.D hR.sS v37_0 (hR.at40 hT_v37_0) rfl 0 (by decide) (hts _ kw_5) (fun _ h9 => h9) rfl (by decide +kernel) rfl rfl (Nat.le_of_ble_eq_true rfl) dX0_putAll_55 (fun H locs hP hD hS => ?_)
          have hw9 : wfC (wR S22 v37_0 0 (some b25)) := hR.w.put (fun b q9 => by cases q9; exact (hT_b25).trans (by rw [hT_v37_0]; rfl)) (hR.w.noown hT_v37_0 (by decide) (by decide)) (by rw [hT_v37_0]; decide) (fun b _ q9 => absurd (show otgC (qT S22 v37_0) 0 = 0 by rw [hT_v37_0]; decide) q9) (fun _ => Option.some_ne_none _)
          have hTk9 : qT S22 v37_0 = 40 := hT_v37_0
          have hR : RepC g ak24 A s (wR S22 v37_0 0 (some b25)) H locs := hR.pR40 hT_v37_0 FX0_s0 hw9 hP hD hS
          obtain ⟨S26, eS26⟩ : ∃ z, z = wR S22 v37_0 0 (some b25) := ⟨_, rfl⟩
          rw [← eS26] at hR
          replace h := h S26 eS26 hTk9 hR.w
          have hT_v37_0 : qT S26 v37_0 = 40 := (congrArg (fun z => qT z v37_0) eS26).trans hT_v37_0
          have hT_v37_1 : qT S26 v37_1 = 40 := (congrArg (fun z => qT z v37_1) eS26).trans hT_v37_1
          have hsh : shx S S26 := by rw [eS26]; exact hsh
          have hlg : lgC S S26 (dc37 + dc_ak24) (ds37 + ds_ak24) := by rw [eS26]; exact hlg
          exact J_58 ak24 (dc37 + dc_ak24) (ds37 + ds_ak24) S26 v37_0 v37_1 _ _ ls h hT_v37_0 hT_v37_1 hsh hlg hak hE hR (lv_sub hl [0, 1] rfl)
      refine lv_icmp_ge (tgt := 37) hx hb dX0_putAll_18 (by decide) (fun c27 => ?_) (fun c27 => ?_)
      · replace h := h.1 (k_le rfl rfl c27)
        exact J_37 ad8 (dc8) (ds8) U8 v8_0 v8_1 v8_2 _ _ ls h hT_v8_0 hT_v8_1 hsh hlg hak hE hR (lv_sub hl [0, 1, 2] rfl)
      · replace h := h.2 (k_nle rfl rfl c27)
        refine lv_iload_n hx hb dX0_putAll_21 rfl (lv_at hl 3 rfl) ?_
        refine lv_bipush (v := 31) hx hb dX0_putAll_22 (by decide) ?_
        refine lv_icmp_ge (tgt := 37) hx hb dX0_putAll_24 (by decide) (fun c28 => ?_) (fun c28 => ?_)
        · replace h := h.1 (k_le (by decide) rfl c28)
          exact J_37 ad8 (dc8) (ds8) U8 v8_0 v8_1 v8_2 _ _ ls h hT_v8_0 hT_v8_1 hsh hlg hak hE hR (lv_sub hl [0, 1, 2] rfl)
        · replace h := h.2 (k_nle (by decide) rfl c28)
          refine lv_iload_n hx hb dX0_putAll_27 rfl (lv_at hl 2 rfl) ?_
          refine lv_iconst (v := 2) hx hb dX0_putAll_28 (by decide) ?_
          refine lv_imul hx hb dX0_putAll_29 ?_
          refine lv_topi (fun z29 ez29 => ?_)
          obtain rfl : z29 = (v8_2 * (2 : Int32)) := ez29
          obtain ⟨a30, ea30⟩ : ∃ z, z = (v8_2 * (2 : Int32)) := ⟨_, rfl⟩
          rw [← ea30]
          replace h := h a30 ea30
          refine lv_istore_n (lv' := [(2, .int a30), (0, .ref (ad8 v8_0)), (1, .ref (ad8 v8_1)), (3, .int v8_3)]) hx hb dX0_putAll_30 rfl hl (by decide) rfl (fun ls hl => ?_)
          obtain ⟨a31, ea31⟩ : ∃ z, z = (v8_3 + Int32.ofInt 1) := ⟨_, rfl⟩
          replace h := h a31 ea31
          refine lv_iinc (v := a31) (lv' := [(3, .int a31), (2, .int a30), (0, .ref (ad8 v8_0)), (1, .ref (ad8 v8_1))]) hx hb dX0_putAll_31 hl (k := 3) rfl ea31.symm (by decide) rfl (fun ls hl => ?_)
          refine lv_goto (tgt := 8) hx hb dX0_putAll_34 (by decide) ?_
          exact ih_8 ad8 (dc8) (ds8) U8 v8_0 v8_1 a30 a31 _ _ ls h hT_v8_0 hT_v8_1 hsh hlg hak hE hR (lv_sub hl [2, 3, 1, 0] rfl)
  obtain ⟨n9, h⟩ := h
  exact J_8 n9 ad (0) (0) S p0 p1 a4 0 _ _ ls h hT_p0 hT_p1 hsh hlg hak hE hR (lv_sub hl [2, 3, 1, 0] rfl)
def f_X0_get_J12 (S : MS) : Int32 := (0 : Int32)
def d_X0_get_J12 (S : MS) : Prop := True
def fX0_get (S : MS) (p0 : Nat) (x1 : Int32) : Int32 := (if x1.toInt < 0 then f_X0_get_J12 S else (if x1.toInt < (qI S p0 1).toInt then ((qI S (qO S p0 0) x1.toInt.toNat) &&& (255 : Int32)) else f_X0_get_J12 S))
def d_X0_get (S : MS) (p0 : Nat) (x1 : Int32) : Prop := (if x1.toInt < 0 then d_X0_get_J12 S else (if x1.toInt < (qI S p0 1).toInt then ((qR S p0 0 = some (qO S p0 0)) ∧ (((0 : Int) ≤ x1.toInt ∧ x1.toInt < (qN S (qO S p0 0) : Int)) ∧ True)) else d_X0_get_J12 S))
set_option maxHeartbeats 2000000 in
set_option maxRecDepth 100000 in
theorem rX0_get (l : Launch) (g : Gr) (ad : Nat → Nat) (sz : Nat) (S : MS) (p0 : Nat) (x1 : Int32) (hw : wfC S) (hT_p0 : qT S p0 = 40) (hd : d_X0_get S p0 x1) : Met l yX0_get (wt yX0_get cX0_get 2 (some .int)) ({ frames := 0, cells := 0, slots := 0, locals := 0 }) (va_Pc [.ref (ad p0), .int x1] (st_C g ad sz S)) (va_Qi (fun (r : Int32) (_ : Unit) => r = fX0_get S p0 x1) (fun (_ : Unit) (t : State) => qEC g ad (va_A (WdC g ad S) sz) S t) (va_A (WdC g ad S) sz)) 0 0 (va_A (WdC g ad S) sz) := by
  refine Met.ofW (cc := cX0_get) (maxL := 2) (ret := (some .int)) (by decide) rfl ?_
  intro p e s m args below meth c s₁ B hml hv
  obtain ⟨rfl, hsz, hP, hK, hD0, hex, hE⟩ := hv
  have hx := B.exec
  have hb := B.bytes
  have hr := B.returns
  have hts0 := atoms_spec (ws := wt yX0_get cX0_get 2 (some .int)) B.pre
  have hts : ∀ w ∈ tb, w.before _ s = true := fun w h => hts0 w (List.mem_cons_of_mem _ h)
  have hown : s.vm.findClass RX0 = some m.cls := findClass_of_methodNamed B.named
  subst hsz
  have hD := hD0.self (sz := s.heap.size)
  generalize hAe : va_A (WdC g ad S) s.heap.size = A at hD hE ⊢
  have hA : ∀ q : Nat, s.heap.size ≤ q → A q := fun q h => by rw [← hAe]; exact Or.inr h
  have hR : RepC g ad A s S s.heap [] := ⟨hK, hP, hD, va_S.rf, hw⟩
  clear hK hP hD hD0
  have hl := lv_entry ([.ref (ad p0), .int x1]) (n := 2) (Nat.le_of_ble_eq_true rfl)
  rw [lg_entry_eq]
  generalize (lg_sl ([.ref (ad p0), .int x1]) ++ List.replicate (2 - (lg_sl ([.ref (ad p0), .int x1])).length) Slot.unset).toArray = ls at hl ⊢
  have hl : lv_has ls 2 [(0, .ref (ad p0)), (1, .int x1)] := hl
  obtain ⟨r0, hf⟩ : ∃ r0, fX0_get S p0 x1 = r0 := ⟨_, rfl⟩
  have hf0 := hf
  unfold fX0_get at hf
  unfold d_X0_get at hd
  refine lv_iload_n hx hb dX0_get_0 rfl (lv_at hl 1 rfl) ?_
  have J_12 : ∀ (H : Heap) (locs : List Loc) (ls : Array Slot), d_X0_get_J12 S → f_X0_get_J12 S = r0 → RepC g ad A s S H locs → lv_has ls 2 [] → W p l e (headSpec (wt yX0_get cX0_get 2 (some .int)) ({ frames := 0, cells := 0, slots := 0, locals := 0 })).room s m ([.ref (ad p0), .int x1] : List Value).toArray below meth c H locs 0 0 (MQ below (va_Qi (fun (r : Int32) (_ : Unit) => r = fX0_get S p0 x1) (fun (_ : Unit) (t : State) => qEC g ad A S t) A) ([.ref (ad p0), .int x1] : List Value).toArray s 0 0 A) (F0 m 12 ls []) := by
    intro H locs ls hd hf hR hl
    unfold d_X0_get_J12 at hd
    unfold f_X0_get_J12 at hf
    refine lv_iconst (v := 0) hx hb dX0_get_12 (by decide) ?_
    refine lv_goto (tgt := 26) hx hb dX0_get_13 (by decide) ?_
    exact W.iret (v := 0) hx hb hr (fun t9 ht9 hW9 => ⟨⟨_, (), rfl, hf.trans hf0.symm, ⟨by rw [ht9]; exact hR.P, hR.D⟩⟩, hR.sS.F ht9⟩) hR.sS.2.2 dX0_get_26
  refine lv_if_lt (tgt := 12) hx hb dX0_get_1 (by decide) (fun c1 => ?_) (fun c1 => ?_)
  · rw [if_pos (k_lt rfl (by decide) c1)] at hf
    (try rw [if_pos (k_lt rfl (by decide) c1)] at hd)
    exact J_12 _ _ ls hd hf  hR (lv_sub hl [] rfl)
  · rw [if_neg (k_nlt rfl (by decide) c1)] at hf
    (try rw [if_neg (k_nlt rfl (by decide) c1)] at hd)
    refine lv_iload_n hx hb dX0_get_4 rfl (lv_at hl 1 rfl) ?_
    refine lv_aload_n hx hb dX0_get_5 rfl (lv_at hl 0 rfl) ?_
    refine va_get (D := rD g) (ci := 0) (v := .int (qI S p0 1)) (C := RX0) (T := TX0) (N := 2) hx hb hts inX0 hown hR.K hR.P p0 (hR.at40 hT_p0) rfl 1 (by decide) (hts _ kw_4) (fun _ h9 => h9) rfl dX0_get_6 ?_
    refine lv_icmp_lt (tgt := 16) hx hb dX0_get_9 (by decide) (fun c2 => ?_) (fun c2 => ?_)
    · rw [if_pos (k_lt rfl rfl c2)] at hf
      (try rw [if_pos (k_lt rfl rfl c2)] at hd)
      refine lv_aload_n hx hb dX0_get_16 rfl (lv_at hl 0 rfl) ?_
      obtain ⟨hv4, hd⟩ := hd
      have hT_b3 : qT S (qO S p0 0) = 101 := hR.w.ref hv4 hT_p0
      refine va_get (D := rD g) (ci := 0) (v := .ref (ad (qO S p0 0))) (C := RX0) (T := TX0) (N := 2) hx hb hts inX0 hown hR.K hR.P p0 (hR.at40 hT_p0) rfl 0 (by decide) (hts _ kw_5) (fun _ h9 => h9) (congrArg (fun z => some (vf ad z)) hv4) dX0_get_17 ?_
      refine lv_iload_n hx hb dX0_get_20 rfl (lv_at hl 1 rfl) ?_
      obtain ⟨hv5, hd⟩ := hd
      refine va_bald hx hb hR.K hR.P (qO S p0 0) 0 (hR.atB hT_b3 (by decide)) rfl (k_ix (x := x1) (a := x1.toInt) rfl hv5) dX0_get_21 ?_
      refine lv_topi (fun z6 ez6 => ?_)
      obtain rfl : z6 = (qI S (qO S p0 0) x1.toInt.toNat) := ez6
      refine lv_sipush (v := 255) hx hb dX0_get_22 (by decide) ?_
      refine lv_iand hx hb dX0_get_25 ?_
      refine lv_topi (fun z7 ez7 => ?_)
      obtain rfl : z7 = ((qI S (qO S p0 0) x1.toInt.toNat) &&& (255 : Int32)) := ez7
      exact W.iret (v := ((qI S (qO S p0 0) x1.toInt.toNat) &&& (255 : Int32))) hx hb hr (fun t9 ht9 hW9 => ⟨⟨_, (), rfl, hf.trans hf0.symm, ⟨by rw [ht9]; exact hR.P, hR.D⟩⟩, hR.sS.F ht9⟩) hR.sS.2.2 dX0_get_26
    · rw [if_neg (k_nlt rfl rfl c2)] at hf
      (try rw [if_neg (k_nlt rfl rfl c2)] at hd)
      exact J_12 _ _ ls hd hf  hR (lv_sub hl [] rfl)
def w_X1_makeRoom_L39 (Q : MS → Prop) : Nat → MS → Int32 → Prop
  | 0, _, _ => False
  | n39 + 1, U39, v39_2 => (wfC U39 → (((qN U39 (qO U39 16 2) : Int) ≤ v39_2.toInt → Q U39) ∧ (¬ (qN U39 (qO U39 16 2) : Int) ≤ v39_2.toInt → (((0 : Int) ≤ v39_2.toInt ∧ v39_2.toInt < (qN U39 (qO U39 16 2) : Int)) ∧ (∀ S8, S8 = wI U39 (qO U39 16 2) v39_2.toInt.toNat (vp_nar .boolean (0 : Int32)) → qT U39 (qO U39 16 2) = 301 → wfC S8 → (((0 : Int) ≤ v39_2.toInt ∧ v39_2.toInt < (qN S8 (qO S8 16 3) : Int)) ∧ (∀ S11, S11 = wI S8 (qO S8 16 3) v39_2.toInt.toNat (vp_nar .boolean (0 : Int32)) → qT S8 (qO S8 16 3) = 302 → wfC S11 → (∀ a12 : Int32, a12 = (v39_2 + Int32.ofInt 1) → (w_X1_makeRoom_L39 Q n39) S11 a12))))))))
def w_X1_makeRoom_J37 (Q : MS → Prop) (U37 : MS) : Prop := (wfC U37 → (∃ n, w_X1_makeRoom_L39 Q n U37 0))
def wX1_makeRoom (S : MS) (x1 : Int32) (Q : MS → Prop) : Prop := ((x1.toInt ≤ (qN S (qO S 16 2) : Int) → w_X1_makeRoom_J37 Q S) ∧ (¬ x1.toInt ≤ (qN S (qO S 16 2) : Int) → (((0 : Int) ≤ ((96 : Int32) * x1).toInt ∧ (qn S + 1 ≤ KCC ∧ qu S + ((96 : Int32) * x1).toInt.toNat ≤ KSC)) ∧ (∀ S18, S18 = wN S 102 (((96 : Int32) * x1).toInt.toNat) (((96 : Int32) * x1).toInt.toNat) → wfC S18 → (∀ S20, S20 = wR S18 16 1 (some (qn S)) → qT S18 16 = 41 → wfC S20 → (((0 : Int) ≤ ((2 : Int32) * x1).toInt ∧ (qn S20 + 1 ≤ KCC ∧ qu S20 + ((2 : Int32) * x1).toInt.toNat ≤ KSC)) ∧ (∀ S25, S25 = wN S20 301 (((2 : Int32) * x1).toInt.toNat) (((2 : Int32) * x1).toInt.toNat) → wfC S25 → (∀ S27, S27 = wR S25 16 2 (some (qn S20)) → qT S25 16 = 41 → wfC S27 → (((0 : Int) ≤ ((2 : Int32) * x1).toInt ∧ (qn S27 + 1 ≤ KCC ∧ qu S27 + ((2 : Int32) * x1).toInt.toNat ≤ KSC)) ∧ (∀ S32, S32 = wN S27 302 (((2 : Int32) * x1).toInt.toNat) (((2 : Int32) * x1).toInt.toNat) → wfC S32 → (∀ S34, S34 = wR S32 16 3 (some (qn S27)) → qT S32 16 = 41 → wfC S34 → w_X1_makeRoom_J37 Q S34)))))))))))
set_option maxHeartbeats 2000000 in
set_option maxRecDepth 100000 in
theorem rX1_makeRoom (l : Launch) (g : Gr) (ad : Nat → Nat) (H0 : Heap) (S : MS) (x1 : Int32) (hw : wfC S) (Q : MS → Prop) (h : wX1_makeRoom S x1 Q) : Met l yX1_makeRoom (wt yX1_makeRoom cX1_makeRoom 3 none) ({ frames := 0, cells := KCC - qn S, slots := KSC - qu S, locals := 0 }) (va_Pc [.ref (ad 16), .int x1] (st_CH g ad H0 S)) (va_Qv (fun (u : MS × (Nat → Nat)) => Q u.1 ∧ wfC u.1 ∧ shx S u.1 ∧ adk ad u.2 S) (fun (u : MS × (Nat → Nat)) (t : State) => qEHC g (va_A (WdC g ad S) H0.size) S H0 u t) (va_A (WdC g ad S) H0.size)) (KCC - qn S) (KSC - qu S) (va_A (WdC g ad S) H0.size) := by
  refine Met.ofW (cc := cX1_makeRoom) (maxL := 3) (ret := none) (by decide) rfl ?_
  intro p e s m args below meth c s₁ B hml hv
  obtain ⟨rfl, hH0, hsz, hP, hK, hD0, hex, hE⟩ := hv
  have hx := B.exec
  have hb := B.bytes
  have hr := B.returns
  have hts0 := atoms_spec (ws := wt yX1_makeRoom cX1_makeRoom 3 none) B.pre
  have hts : ∀ w ∈ tb, w.before _ s = true := fun w h => hts0 w (List.mem_cons_of_mem _ h)
  have hown : s.vm.findClass RX1 = some m.cls := findClass_of_methodNamed B.named
  subst hH0
  have hD := hD0.self (sz := s.heap.size)
  generalize hAe : va_A (WdC g ad S) s.heap.size = A at hD hE ⊢
  have hA : ∀ q : Nat, s.heap.size ≤ q → A q := fun q h => by rw [← hAe]; exact Or.inr h
  have hR : RepC g ad A s S s.heap [] := ⟨hK, hP, hD, va_S.rf, hw⟩
  clear hK hP hD hD0
  have hl := lv_entry ([.ref (ad 16), .int x1]) (n := 3) (Nat.le_of_ble_eq_true rfl)
  rw [lg_entry_eq]
  generalize (lg_sl ([.ref (ad 16), .int x1]) ++ List.replicate (3 - (lg_sl ([.ref (ad 16), .int x1])).length) Slot.unset).toArray = ls at hl ⊢
  have hlg : lgC S S 0 0 := lgC.rf
  have hak : adk ad ad S := adk.rf
  have hl : lv_has ls 3 [(0, .ref (ad 16)), (1, .int x1)] := hl
  have hsh : shx S S := shx.rf
  unfold wX1_makeRoom at h
  refine lv_aload_n hx hb dX1_makeRoom_0 rfl (lv_at hl 0 rfl) ?_
  have hT_b1 : qT S (qO S 16 2) = 301 := hR.w.ref (hR.w.ptr ptrC_5) (hR.w.2.1 _ finC_27).2.1
  refine va_get (D := rD g) (ci := 1) (v := .ref (ad (qO S 16 2))) (C := RX1) (T := TX1) (N := 10) hx hb hts inX1 hown hR.K hR.P 16 (hR.at41 (hR.w.2.1 _ finC_27).2.1) rfl 2 (by decide) (hts _ kw_494) (fun _ h9 => h9) (congrArg (fun z => some (vf ad z)) (hR.w.ptr ptrC_5)) dX1_makeRoom_1 ?_
  refine va_alen (v := (Int32.ofNat (qN S (qO S 16 2)))) hx hb hR.K hR.P (qO S 16 2) 2 (hR.atZ hT_b1 (by decide)) rfl rfl dX1_makeRoom_4 ?_
  have hln2 : (Int32.ofNat (qN S (qO S 16 2))).toInt = (qN S (qO S 16 2) : Int) := toI_len (hR.w.len9 (hT_b1) (by decide))
  refine lv_iload_n hx hb dX1_makeRoom_5 rfl (lv_at hl 1 rfl) ?_
  have J_37 : ∀ (ad37 : Nat → Nat) (dc37 ds37 : Nat) (U37 : MS) (H : Heap) (locs : List Loc) (ls : Array Slot), w_X1_makeRoom_J37 Q U37 → shx S U37 → lgC S U37 dc37 ds37 → adk ad ad37 S → ogC ad37 A s s.heap → RepC g ad37 A s U37 H locs → lv_has ls 3 [(0, .ref (ad37 16))] → W p l e (headSpec (wt yX1_makeRoom cX1_makeRoom 3 none) ({ frames := 0, cells := KCC - qn S, slots := KSC - qu S, locals := 0 })).room s m ([.ref (ad 16), .int x1] : List Value).toArray below meth c H locs dc37 ds37 (MQ below (va_Qv (fun (u : MS × (Nat → Nat)) => Q u.1 ∧ wfC u.1 ∧ shx S u.1 ∧ adk ad u.2 S) (fun (u : MS × (Nat → Nat)) (t : State) => qEHC g A S s.heap u t) A) ([.ref (ad 16), .int x1] : List Value).toArray s (KCC - qn S) (KSC - qu S) A) (F0 m 37 ls []) := by
    intro ad37 dc37 ds37 U37 H locs ls h hsh hlg hak hE hR hl
    unfold w_X1_makeRoom_J37 at h
    replace h := h hR.w
    refine lv_iconst (v := 0) hx hb dX1_makeRoom_37 (by decide) ?_
    refine lv_istore_n (lv' := [(2, .int 0), (0, .ref (ad37 16))]) hx hb dX1_makeRoom_38 rfl hl (by decide) rfl (fun ls hl => ?_)
    have J_39 : ∀ (n39 : Nat) (ad39 : Nat → Nat) (dc39 ds39 : Nat) (U39 : MS) (v39_2 : Int32) (H : Heap) (locs : List Loc) (ls : Array Slot), w_X1_makeRoom_L39 Q n39 U39 v39_2 → shx S U39 → lgC S U39 dc39 ds39 → adk ad ad39 S → ogC ad39 A s s.heap → RepC g ad39 A s U39 H locs → lv_has ls 3 [(0, .ref (ad39 16)), (2, .int v39_2)] → W p l e (headSpec (wt yX1_makeRoom cX1_makeRoom 3 none) ({ frames := 0, cells := KCC - qn S, slots := KSC - qu S, locals := 0 })).room s m ([.ref (ad 16), .int x1] : List Value).toArray below meth c H locs dc39 ds39 (MQ below (va_Qv (fun (u : MS × (Nat → Nat)) => Q u.1 ∧ wfC u.1 ∧ shx S u.1 ∧ adk ad u.2 S) (fun (u : MS × (Nat → Nat)) (t : State) => qEHC g A S s.heap u t) A) ([.ref (ad 16), .int x1] : List Value).toArray s (KCC - qn S) (KSC - qu S) A) (F0 m 39 ls []) := by
      intro n39
      induction n39 with
      | zero => intro ad39 dc39 ds39 U39 v39_2 H locs ls h hsh hlg hak hE hR hl; unfold w_X1_makeRoom_L39 at h; exact h.elim
      | succ n39 ih_39 =>
        intro ad39 dc39 ds39 U39 v39_2 H locs ls h hsh hlg hak hE hR hl
        unfold w_X1_makeRoom_L39 at h
        replace h := h hR.w
        refine lv_iload_n hx hb dX1_makeRoom_39 rfl (lv_at hl 1 rfl) ?_
        refine lv_aload_n hx hb dX1_makeRoom_40 rfl (lv_at hl 0 rfl) ?_
        have hT_b3 : qT U39 (qO U39 16 2) = 301 := hR.w.ref (hR.w.ptr ptrC_5) (hR.w.2.1 _ finC_27).2.1
        refine va_get (D := rD g) (ci := 1) (v := .ref (ad39 (qO U39 16 2))) (C := RX1) (T := TX1) (N := 10) hx hb hts inX1 hown hR.K hR.P 16 (hR.at41 (hR.w.2.1 _ finC_27).2.1) rfl 2 (by decide) (hts _ kw_494) (fun _ h9 => h9) (congrArg (fun z => some (vf ad39 z)) (hR.w.ptr ptrC_5)) dX1_makeRoom_41 ?_
        refine va_alen (v := (Int32.ofNat (qN U39 (qO U39 16 2)))) hx hb hR.K hR.P (qO U39 16 2) 2 (hR.atZ hT_b3 (by decide)) rfl rfl dX1_makeRoom_44 ?_
        have hln4 : (Int32.ofNat (qN U39 (qO U39 16 2))).toInt = (qN U39 (qO U39 16 2) : Int) := toI_len (hR.w.len9 (hT_b3) (by decide))
        refine lv_icmp_ge (tgt := 68) hx hb dX1_makeRoom_45 (by decide) (fun c5 => ?_) (fun c5 => ?_)
        · replace h := h.1 (k_le hln4 rfl c5)
          refine W_led2 (fun hLd => ?_)
          refine W.widen (k := KCC - qn S) (n := KSC - qu S) hlg.c hlg.s ?_
          exact W.vret hx hb hr (fun t9 ht9 hW9 => ⟨⟨(U39, ad39), rfl, ⟨h, hR.w, hsh, hak⟩, ⟨⟨by rw [ht9]; exact hR.P, hR.D⟩, _, _, by rw [ht9]; exact hLd, hlg⟩⟩, hR.sS.F ht9⟩) hR.sS.2.2 dX1_makeRoom_68
        · replace h := h.2 (k_nle hln4 rfl c5)
          refine lv_aload_n hx hb dX1_makeRoom_48 rfl (lv_at hl 0 rfl) ?_
          have hT_b6 : qT U39 (qO U39 16 2) = 301 := hR.w.ref (hR.w.ptr ptrC_5) (hR.w.2.1 _ finC_27).2.1
          refine va_get (D := rD g) (ci := 1) (v := .ref (ad39 (qO U39 16 2))) (C := RX1) (T := TX1) (N := 10) hx hb hts inX1 hown hR.K hR.P 16 (hR.at41 (hR.w.2.1 _ finC_27).2.1) rfl 2 (by decide) (hts _ kw_494) (fun _ h9 => h9) (congrArg (fun z => some (vf ad39 z)) (hR.w.ptr ptrC_5)) dX1_makeRoom_49 ?_
          refine lv_iload_n hx hb dX1_makeRoom_52 rfl (lv_at hl 1 rfl) ?_
          refine lv_iconst (v := 0) hx hb dX1_makeRoom_53 (by decide) ?_
          obtain ⟨hv7, h⟩ := h
          refine va_zast hx hb hR.K hR.P hR.D hR.sS (qO U39 16 2) 2 (hR.atZ hT_b6 (by decide)) rfl (k_ix (x := v39_2) (a := v39_2.toInt) rfl hv7) dX1_makeRoom_54 (fun H locs hP hD hS => ?_)
          have hTk9 : qT U39 (qO U39 16 2) = 301 := hT_b6
          have hR : RepC g ad39 A s (wI U39 (qO U39 16 2) v39_2.toInt.toNat (vp_nar .boolean (0 : Int32))) H locs := hR.aZ hT_b6 (by decide) (bit_nz2 (Or.inl rfl)) hP hD hS
          obtain ⟨S8, eS8⟩ : ∃ z, z = wI U39 (qO U39 16 2) v39_2.toInt.toNat (vp_nar .boolean (0 : Int32)) := ⟨_, rfl⟩
          rw [← eS8] at hR
          replace h := h S8 eS8 hTk9 hR.w
          have hsh : shx S S8 := by rw [eS8]; exact hsh
          have hlg : lgC S S8 (dc39) (ds39) := by rw [eS8]; exact hlg
          refine lv_aload_n hx hb dX1_makeRoom_55 rfl (lv_at hl 0 rfl) ?_
          have hT_b9 : qT S8 (qO S8 16 3) = 302 := hR.w.ref (hR.w.ptr ptrC_6) (hR.w.2.1 _ finC_27).2.1
          refine va_get (D := rD g) (ci := 1) (v := .ref (ad39 (qO S8 16 3))) (C := RX1) (T := TX1) (N := 10) hx hb hts inX1 hown hR.K hR.P 16 (hR.at41 (hR.w.2.1 _ finC_27).2.1) rfl 3 (by decide) (hts _ kw_497) (fun _ h9 => h9) (congrArg (fun z => some (vf ad39 z)) (hR.w.ptr ptrC_6)) dX1_makeRoom_56 ?_
          refine lv_iload_n hx hb dX1_makeRoom_59 rfl (lv_at hl 1 rfl) ?_
          refine lv_iconst (v := 0) hx hb dX1_makeRoom_60 (by decide) ?_
          obtain ⟨hv10, h⟩ := h
          refine va_zast hx hb hR.K hR.P hR.D hR.sS (qO S8 16 3) 2 (hR.atZ hT_b9 (by decide)) rfl (k_ix (x := v39_2) (a := v39_2.toInt) rfl hv10) dX1_makeRoom_61 (fun H locs hP hD hS => ?_)
          have hTk9 : qT S8 (qO S8 16 3) = 302 := hT_b9
          have hR : RepC g ad39 A s (wI S8 (qO S8 16 3) v39_2.toInt.toNat (vp_nar .boolean (0 : Int32))) H locs := hR.aZ hT_b9 (by decide) (bit_nz2 (Or.inl rfl)) hP hD hS
          obtain ⟨S11, eS11⟩ : ∃ z, z = wI S8 (qO S8 16 3) v39_2.toInt.toNat (vp_nar .boolean (0 : Int32)) := ⟨_, rfl⟩
          rw [← eS11] at hR
          replace h := h S11 eS11 hTk9 hR.w
          have hsh : shx S S11 := by rw [eS11]; exact hsh
          have hlg : lgC S S11 (dc39) (ds39) := by rw [eS11]; exact hlg
          obtain ⟨a12, ea12⟩ : ∃ z, z = (v39_2 + Int32.ofInt 1) := ⟨_, rfl⟩
          replace h := h a12 ea12
          refine lv_iinc (v := a12) (lv' := [(2, .int a12), (0, .ref (ad39 16))]) hx hb dX1_makeRoom_62 hl (k := 1) rfl ea12.symm (by decide) rfl (fun ls hl => ?_)
          refine lv_goto (tgt := 39) hx hb dX1_makeRoom_65 (by decide) ?_
          exact ih_39 ad39 (dc39) (ds39) S11 a12 _ _ ls h  hsh hlg hak hE hR (lv_sub hl [1, 0] rfl)
    obtain ⟨n9, h⟩ := h
    exact J_39 n9 ad37 (dc37) (ds37) U37 0 _ _ ls h  hsh hlg hak hE hR (lv_sub hl [1, 0] rfl)
  refine lv_icmp_ge (tgt := 37) hx hb dX1_makeRoom_6 (by decide) (fun c13 => ?_) (fun c13 => ?_)
  · replace h := h.1 (k_le rfl hln2 c13)
    exact J_37 ad (0) (0) S _ _ ls h  hsh hlg hak hE hR (lv_sub hl [0] rfl)
  · replace h := h.2 (k_nle rfl hln2 c13)
    refine lv_aload_n hx hb dX1_makeRoom_9 rfl (lv_at hl 0 rfl) ?_
    refine lv_bipush (v := 96) hx hb dX1_makeRoom_10 (by decide) ?_
    refine lv_iload_n hx hb dX1_makeRoom_12 rfl (lv_at hl 1 rfl) ?_
    refine lv_imul hx hb dX1_makeRoom_13 ?_
    refine lv_topi (fun z14 ez14 => ?_)
    obtain rfl : z14 = ((96 : Int32) * x1) := ez14
    obtain ⟨hv15, h⟩ := h
    have e9 : KCC = 300000 := rfl
    have e8 : KSC = 3553400 := rfl
    have e7 : TXB = 10000000 := rfl
    have hTX : qn S < TXB := by have := hv15.2.1; omega
    refine va_newa (atype := .byte) (ty := .byte) (a0 := (((96 : Int32) * x1).toInt.toNat, .inl (fun _ => 0))) (N' := ((96 : Int32) * x1).toInt.toNat) hx hb (hts (.arrayClass .byte) kw_11) rfl hR.K hR.P hR.D hR.sS hA (fun _ => rfl) (fun q9 => absurd (k_lt (b := 0) rfl (by decide) q9) (Int.not_lt.mpr hv15.1)) rfl (by show (((96 : Int32) * x1).toInt.toNat) * 1 ≤ 536870912; have := hv15.2.2; omega) (show 0 + 1 ≤ KCC - qn S from hlg.c1 hv15.2.1) (show 0 + (((96 : Int32) * x1).toInt.toNat) ≤ KSC - qu S from hlg.s1 hv15.2.2) dX1_makeRoom_14 (fun q16 cA9 H hK9 hP hD hS => ?_)
    obtain rfl := cls_new3 hR.K hK9 (k := 0) rfl (fun _ h => by cases h)
    have hw8 := hR.w
    have hR := hR.new (t := 102) (n := ((96 : Int32) * x1).toInt.toNat) (k := ((96 : Int32) * x1).toInt.toNat) hTX (by decide) (by have := hv15.2.2; omega) (wN_CB (by decide)) hP hD hS
    have hk8 : adk ad (adx ad (qn S) q16) S := adk.rf.new (Nat.le_refl _) hTX
    have hak := hak.new (q := q16) hlg.2.2.1 hTX
    have hE := hE.ad hk8
    have hlg : lgC S (wN S 102 (((96 : Int32) * x1).toInt.toNat) (((96 : Int32) * x1).toInt.toNat)) (0 + 1) (0 + (((96 : Int32) * x1).toInt.toNat)) := hlg.new (t := 102) (n := ((96 : Int32) * x1).toInt.toNat) ⟨hv15.2.1, hv15.2.2⟩
    have hs8 : shx S (wN S 102 (((96 : Int32) * x1).toInt.toNat) (((96 : Int32) * x1).toInt.toNat)) := shx.newC (t := 102) (n := ((96 : Int32) * x1).toInt.toNat) (k := ((96 : Int32) * x1).toInt.toNat) shx.rf hw8 hTX
    obtain ⟨am17, eam17⟩ : ∃ z, z = adx ad (qn S) q16 := ⟨_, rfl⟩
    have eq_q16 : am17 (qn S) = q16 := by rw [eam17]; exact if_pos rfl
    rw [← eam17] at hR hk8 hak hE
    obtain ⟨S18, eS18⟩ : ∃ z, z = wN S 102 (((96 : Int32) * x1).toInt.toNat) (((96 : Int32) * x1).toInt.toNat) := ⟨_, rfl⟩
    rw [← eS18] at hR hlg hs8
    replace h := h S18 eS18 hR.w
    have hsh := hsh.tr hs8
    have hT_b19 : qT S18 (qn S) = 102 := by rw [eS18]; exact if_pos rfl
    have ea_0 : am17 16 = ad 16 := hk8 _ (hw8.hd (hw8.2.1 _ finC_27).2.1 (by decide) (by decide))
    have hl : lv_has ls 3 [(0, .ref (am17 16)), (1, .int x1)] := by simp only [ea_0]; exact hl
    refine W.eq (g2 := F0 m 16 ls [.ref (am17 (qn S)), .ref (am17 16)]) (by simp only [ea_0, eq_q16]) ?_
    clear hw8 hk8 hs8 hP hD hS e9 e8 e7 hTX
    refine va_put (D := rD g) (ci := 1) (v := .ref (am17 (qn S))) (ty := (.array .byte)) (C := RX1) (T := TX1) (N := 10) hx hb hts inX1 tyX1 tyX1_ok nmX1 hown hR.K hR.P hR.D hR.sS 16 (hR.at41 (hR.w.2.1 _ finC_27).2.1) rfl 1 (by decide) (hts _ kw_495) (fun _ h9 => h9) rfl (by decide +kernel) rfl rfl (Nat.le_of_ble_eq_true rfl) dX1_makeRoom_16 (fun H locs hP hD hS => ?_)
    have hw9 : wfC (wR S18 16 1 (some (qn S))) := hR.w.put (fun b q9 => by cases q9; exact (hT_b19).trans (by rw [(hR.w.2.1 _ finC_27).2.1]; rfl)) (nofC_16_1) (by rw [(hR.w.2.1 _ finC_27).2.1]; decide) (fun b _ q9 => absurd (show otgC (qT S18 16) 1 = 0 by rw [(hR.w.2.1 _ finC_27).2.1]; decide) q9) (fun _ => Option.some_ne_none _)
    have hTk9 : qT S18 16 = 41 := (hR.w.2.1 _ finC_27).2.1
    have hR : RepC g am17 A s (wR S18 16 1 (some (qn S))) H locs := hR.pR41 (hR.w.2.1 _ finC_27).2.1 FX1_s1 hw9 hP hD hS
    obtain ⟨S20, eS20⟩ : ∃ z, z = wR S18 16 1 (some (qn S)) := ⟨_, rfl⟩
    rw [← eS20] at hR
    replace h := h S20 eS20 hTk9 hR.w
    have hsh : shx S S20 := by rw [eS20]; exact hsh
    have hlg : lgC S S20 (0 + 1) (0 + (((96 : Int32) * x1).toInt.toNat)) := by rw [eS20]; exact hlg
    refine lv_aload_n hx hb dX1_makeRoom_19 rfl (lv_at hl 0 rfl) ?_
    refine lv_iconst (v := 2) hx hb dX1_makeRoom_20 (by decide) ?_
    refine lv_iload_n hx hb dX1_makeRoom_21 rfl (lv_at hl 1 rfl) ?_
    refine lv_imul hx hb dX1_makeRoom_22 ?_
    refine lv_topi (fun z21 ez21 => ?_)
    obtain rfl : z21 = ((2 : Int32) * x1) := ez21
    obtain ⟨hv22, h⟩ := h
    have e9 : KCC = 300000 := rfl
    have e8 : KSC = 3553400 := rfl
    have e7 : TXB = 10000000 := rfl
    have hTX : qn S20 < TXB := by have := hv22.2.1; omega
    refine va_newa (atype := .boolean) (ty := .boolean) (a0 := (((2 : Int32) * x1).toInt.toNat, .inl (fun _ => 0))) (N' := ((2 : Int32) * x1).toInt.toNat) hx hb (hts (.arrayClass .boolean) kw_553) rfl hR.K hR.P hR.D hR.sS hA (fun _ => rfl) (fun q9 => absurd (k_lt (b := 0) rfl (by decide) q9) (Int.not_lt.mpr hv22.1)) rfl (by show (((2 : Int32) * x1).toInt.toNat) * 1 ≤ 536870912; have := hv22.2.2; omega) (show 0 + 1 + 1 ≤ KCC - qn S from hlg.c1 hv22.2.1) (show 0 + (((96 : Int32) * x1).toInt.toNat) + (((2 : Int32) * x1).toInt.toNat) ≤ KSC - qu S from hlg.s1 hv22.2.2) dX1_makeRoom_23 (fun q23 cA9 H hK9 hP hD hS => ?_)
    obtain rfl := cls_new3 hR.K hK9 (k := 2) rfl (fun _ h => by cases h)
    have hw8 := hR.w
    have hR := hR.new (t := 301) (n := ((2 : Int32) * x1).toInt.toNat) (k := ((2 : Int32) * x1).toInt.toNat) hTX (by decide) (by have := hv22.2.2; omega) (wN_CZ (by decide)) hP hD hS
    have hk8 : adk am17 (adx am17 (qn S20) q23) S20 := adk.rf.new (Nat.le_refl _) hTX
    have hak := hak.new (q := q23) hlg.2.2.1 hTX
    have hE := hE.ad hk8
    have hlg : lgC S (wN S20 301 (((2 : Int32) * x1).toInt.toNat) (((2 : Int32) * x1).toInt.toNat)) (0 + 1 + 1) (0 + (((96 : Int32) * x1).toInt.toNat) + (((2 : Int32) * x1).toInt.toNat)) := hlg.new (t := 301) (n := ((2 : Int32) * x1).toInt.toNat) ⟨hv22.2.1, hv22.2.2⟩
    have hs8 : shx S20 (wN S20 301 (((2 : Int32) * x1).toInt.toNat) (((2 : Int32) * x1).toInt.toNat)) := shx.newC (t := 301) (n := ((2 : Int32) * x1).toInt.toNat) (k := ((2 : Int32) * x1).toInt.toNat) shx.rf hw8 hTX
    obtain ⟨am24, eam24⟩ : ∃ z, z = adx am17 (qn S20) q23 := ⟨_, rfl⟩
    have eq_q23 : am24 (qn S20) = q23 := by rw [eam24]; exact if_pos rfl
    rw [← eam24] at hR hk8 hak hE
    obtain ⟨S25, eS25⟩ : ∃ z, z = wN S20 301 (((2 : Int32) * x1).toInt.toNat) (((2 : Int32) * x1).toInt.toNat) := ⟨_, rfl⟩
    rw [← eS25] at hR hlg hs8
    replace h := h S25 eS25 hR.w
    have hsh := hsh.tr hs8
    have hT_b26 : qT S25 (qn S20) = 301 := by rw [eS25]; exact if_pos rfl
    have ea_0 : am24 16 = am17 16 := hk8 _ (hw8.hd (hw8.2.1 _ finC_27).2.1 (by decide) (by decide))
    have hl : lv_has ls 3 [(0, .ref (am24 16)), (1, .int x1)] := by simp only [ea_0]; exact hl
    refine W.eq (g2 := F0 m 25 ls [.ref (am24 (qn S20)), .ref (am24 16)]) (by simp only [ea_0, eq_q23]) ?_
    clear hw8 hk8 hs8 hP hD hS e9 e8 e7 hTX
    refine va_put (D := rD g) (ci := 1) (v := .ref (am24 (qn S20))) (ty := (.array .boolean)) (C := RX1) (T := TX1) (N := 10) hx hb hts inX1 tyX1 tyX1_ok nmX1 hown hR.K hR.P hR.D hR.sS 16 (hR.at41 (hR.w.2.1 _ finC_27).2.1) rfl 2 (by decide) (hts _ kw_494) (fun _ h9 => h9) rfl (by decide +kernel) rfl rfl (Nat.le_of_ble_eq_true rfl) dX1_makeRoom_25 (fun H locs hP hD hS => ?_)
    have hw9 : wfC (wR S25 16 2 (some (qn S20))) := hR.w.put (fun b q9 => by cases q9; exact (hT_b26).trans (by rw [(hR.w.2.1 _ finC_27).2.1]; rfl)) (nofC_16_2) (by rw [(hR.w.2.1 _ finC_27).2.1]; decide) (fun b _ q9 => absurd (show otgC (qT S25 16) 2 = 0 by rw [(hR.w.2.1 _ finC_27).2.1]; decide) q9) (fun _ => Option.some_ne_none _)
    have hTk9 : qT S25 16 = 41 := (hR.w.2.1 _ finC_27).2.1
    have hR : RepC g am24 A s (wR S25 16 2 (some (qn S20))) H locs := hR.pR41 (hR.w.2.1 _ finC_27).2.1 FX1_s2 hw9 hP hD hS
    obtain ⟨S27, eS27⟩ : ∃ z, z = wR S25 16 2 (some (qn S20)) := ⟨_, rfl⟩
    rw [← eS27] at hR
    replace h := h S27 eS27 hTk9 hR.w
    have hsh : shx S S27 := by rw [eS27]; exact hsh
    have hlg : lgC S S27 (0 + 1 + 1) (0 + (((96 : Int32) * x1).toInt.toNat) + (((2 : Int32) * x1).toInt.toNat)) := by rw [eS27]; exact hlg
    refine lv_aload_n hx hb dX1_makeRoom_28 rfl (lv_at hl 0 rfl) ?_
    refine lv_iconst (v := 2) hx hb dX1_makeRoom_29 (by decide) ?_
    refine lv_iload_n hx hb dX1_makeRoom_30 rfl (lv_at hl 1 rfl) ?_
    refine lv_imul hx hb dX1_makeRoom_31 ?_
    refine lv_topi (fun z28 ez28 => ?_)
    obtain rfl : z28 = ((2 : Int32) * x1) := ez28
    obtain ⟨hv29, h⟩ := h
    have e9 : KCC = 300000 := rfl
    have e8 : KSC = 3553400 := rfl
    have e7 : TXB = 10000000 := rfl
    have hTX : qn S27 < TXB := by have := hv29.2.1; omega
    refine va_newa (atype := .boolean) (ty := .boolean) (a0 := (((2 : Int32) * x1).toInt.toNat, .inl (fun _ => 0))) (N' := ((2 : Int32) * x1).toInt.toNat) hx hb (hts (.arrayClass .boolean) kw_553) rfl hR.K hR.P hR.D hR.sS hA (fun _ => rfl) (fun q9 => absurd (k_lt (b := 0) rfl (by decide) q9) (Int.not_lt.mpr hv29.1)) rfl (by show (((2 : Int32) * x1).toInt.toNat) * 1 ≤ 536870912; have := hv29.2.2; omega) (show 0 + 1 + 1 + 1 ≤ KCC - qn S from hlg.c1 hv29.2.1) (show 0 + (((96 : Int32) * x1).toInt.toNat) + (((2 : Int32) * x1).toInt.toNat) + (((2 : Int32) * x1).toInt.toNat) ≤ KSC - qu S from hlg.s1 hv29.2.2) dX1_makeRoom_32 (fun q30 cA9 H hK9 hP hD hS => ?_)
    obtain rfl := cls_new3 hR.K hK9 (k := 2) rfl (fun _ h => by cases h)
    have hw8 := hR.w
    have hR := hR.new (t := 302) (n := ((2 : Int32) * x1).toInt.toNat) (k := ((2 : Int32) * x1).toInt.toNat) hTX (by decide) (by have := hv29.2.2; omega) (wN_CZ (by decide)) hP hD hS
    have hk8 : adk am24 (adx am24 (qn S27) q30) S27 := adk.rf.new (Nat.le_refl _) hTX
    have hak := hak.new (q := q30) hlg.2.2.1 hTX
    have hE := hE.ad hk8
    have hlg : lgC S (wN S27 302 (((2 : Int32) * x1).toInt.toNat) (((2 : Int32) * x1).toInt.toNat)) (0 + 1 + 1 + 1) (0 + (((96 : Int32) * x1).toInt.toNat) + (((2 : Int32) * x1).toInt.toNat) + (((2 : Int32) * x1).toInt.toNat)) := hlg.new (t := 302) (n := ((2 : Int32) * x1).toInt.toNat) ⟨hv29.2.1, hv29.2.2⟩
    have hs8 : shx S27 (wN S27 302 (((2 : Int32) * x1).toInt.toNat) (((2 : Int32) * x1).toInt.toNat)) := shx.newC (t := 302) (n := ((2 : Int32) * x1).toInt.toNat) (k := ((2 : Int32) * x1).toInt.toNat) shx.rf hw8 hTX
    obtain ⟨am31, eam31⟩ : ∃ z, z = adx am24 (qn S27) q30 := ⟨_, rfl⟩
    have eq_q30 : am31 (qn S27) = q30 := by rw [eam31]; exact if_pos rfl
    rw [← eam31] at hR hk8 hak hE
    obtain ⟨S32, eS32⟩ : ∃ z, z = wN S27 302 (((2 : Int32) * x1).toInt.toNat) (((2 : Int32) * x1).toInt.toNat) := ⟨_, rfl⟩
    rw [← eS32] at hR hlg hs8
    replace h := h S32 eS32 hR.w
    have hsh := hsh.tr hs8
    have hT_b33 : qT S32 (qn S27) = 302 := by rw [eS32]; exact if_pos rfl
    have ea_0 : am31 16 = am24 16 := hk8 _ (hw8.hd (hw8.2.1 _ finC_27).2.1 (by decide) (by decide))
    have hl : lv_has ls 3 [(0, .ref (am31 16)), (1, .int x1)] := by simp only [ea_0]; exact hl
    refine W.eq (g2 := F0 m 34 ls [.ref (am31 (qn S27)), .ref (am31 16)]) (by simp only [ea_0, eq_q30]) ?_
    clear hw8 hk8 hs8 hP hD hS e9 e8 e7 hTX
    refine va_put (D := rD g) (ci := 1) (v := .ref (am31 (qn S27))) (ty := (.array .boolean)) (C := RX1) (T := TX1) (N := 10) hx hb hts inX1 tyX1 tyX1_ok nmX1 hown hR.K hR.P hR.D hR.sS 16 (hR.at41 (hR.w.2.1 _ finC_27).2.1) rfl 3 (by decide) (hts _ kw_497) (fun _ h9 => h9) rfl (by decide +kernel) rfl rfl (Nat.le_of_ble_eq_true rfl) dX1_makeRoom_34 (fun H locs hP hD hS => ?_)
    have hw9 : wfC (wR S32 16 3 (some (qn S27))) := hR.w.put (fun b q9 => by cases q9; exact (hT_b33).trans (by rw [(hR.w.2.1 _ finC_27).2.1]; rfl)) (nofC_16_3) (by rw [(hR.w.2.1 _ finC_27).2.1]; decide) (fun b _ q9 => absurd (show otgC (qT S32 16) 3 = 0 by rw [(hR.w.2.1 _ finC_27).2.1]; decide) q9) (fun _ => Option.some_ne_none _)
    have hTk9 : qT S32 16 = 41 := (hR.w.2.1 _ finC_27).2.1
    have hR : RepC g am31 A s (wR S32 16 3 (some (qn S27))) H locs := hR.pR41 (hR.w.2.1 _ finC_27).2.1 FX1_s3 hw9 hP hD hS
    obtain ⟨S34, eS34⟩ : ∃ z, z = wR S32 16 3 (some (qn S27)) := ⟨_, rfl⟩
    rw [← eS34] at hR
    replace h := h S34 eS34 hTk9 hR.w
    have hsh : shx S S34 := by rw [eS34]; exact hsh
    have hlg : lgC S S34 (0 + 1 + 1 + 1) (0 + (((96 : Int32) * x1).toInt.toNat) + (((2 : Int32) * x1).toInt.toNat) + (((2 : Int32) * x1).toInt.toNat)) := by rw [eS34]; exact hlg
    exact J_37 am31 (0 + 1 + 1 + 1) (0 + (((96 : Int32) * x1).toInt.toNat) + (((2 : Int32) * x1).toInt.toNat) + (((2 : Int32) * x1).toInt.toNat)) S34 _ _ ls h  hsh hlg hak hE hR (lv_sub hl [0] rfl)
def wX1_setPlace (S : MS) (x1 : Int32) (x2 : Int32) (Q : MS → Prop) : Prop := ((x1.toInt < 0 → Q S) ∧ (¬ x1.toInt < 0 → ((48 ≤ x1.toInt → Q S) ∧ (¬ 48 ≤ x1.toInt → (((0 : Int) ≤ x1.toInt ∧ x1.toInt < 48) ∧ (∀ S4, S4 = wI S 24 x1.toInt.toNat (vp_nar .byte (x2.toInt8.toInt32)) → qT S 24 = 103 → wfC S4 → Q S4))))))
set_option maxHeartbeats 2000000 in
set_option maxRecDepth 100000 in
theorem rX1_setPlace (l : Launch) (g : Gr) (ad : Nat → Nat) (sz : Nat) (S : MS) (x1 : Int32) (x2 : Int32) (hw : wfC S) (Q : MS → Prop) (h : wX1_setPlace S x1 x2 Q) : Met l yX1_setPlace (wt yX1_setPlace cX1_setPlace 3 none) ({ frames := 0, cells := 0, slots := 0, locals := 0 }) (va_Pc [.ref (ad 16), .int x1, .int x2] (st_C g ad sz S)) (va_Qv (fun (u : MS) => Q u ∧ wfC u ∧ shy S u) (fun (u : MS) (t : State) => qEC g ad (va_A (WdC g ad S) sz) u t) (va_A (WdC g ad S) sz)) 0 0 (va_A (WdC g ad S) sz) := by
  refine Met.ofW (cc := cX1_setPlace) (maxL := 3) (ret := none) (by decide) rfl ?_
  intro p e s m args below meth c s₁ B hml hv
  obtain ⟨rfl, hsz, hP, hK, hD0, hex, hE⟩ := hv
  have hx := B.exec
  have hb := B.bytes
  have hr := B.returns
  have hts0 := atoms_spec (ws := wt yX1_setPlace cX1_setPlace 3 none) B.pre
  have hts : ∀ w ∈ tb, w.before _ s = true := fun w h => hts0 w (List.mem_cons_of_mem _ h)
  have hown : s.vm.findClass RX1 = some m.cls := findClass_of_methodNamed B.named
  subst hsz
  have hD := hD0.self (sz := s.heap.size)
  generalize hAe : va_A (WdC g ad S) s.heap.size = A at hD hE ⊢
  have hA : ∀ q : Nat, s.heap.size ≤ q → A q := fun q h => by rw [← hAe]; exact Or.inr h
  have hR : RepC g ad A s S s.heap [] := ⟨hK, hP, hD, va_S.rf, hw⟩
  clear hK hP hD hD0
  have hl := lv_entry ([.ref (ad 16), .int x1, .int x2]) (n := 3) (Nat.le_of_ble_eq_true rfl)
  rw [lg_entry_eq]
  generalize (lg_sl ([.ref (ad 16), .int x1, .int x2]) ++ List.replicate (3 - (lg_sl ([.ref (ad 16), .int x1, .int x2])).length) Slot.unset).toArray = ls at hl ⊢
  have hl : lv_has ls 3 [(0, .ref (ad 16)), (1, .int x1), (2, .int x2)] := hl
  have hsh : shy S S := shy.rf
  unfold wX1_setPlace at h
  refine lv_iload_n hx hb dX1_setPlace_0 rfl (lv_at hl 1 rfl) ?_
  refine lv_if_lt (tgt := 18) hx hb dX1_setPlace_1 (by decide) (fun c1 => ?_) (fun c1 => ?_)
  · replace h := h.1 (k_lt rfl (by decide) c1)
    exact W.vret hx hb hr (fun t9 ht9 hW9 => ⟨⟨S, rfl, ⟨h, hR.w, hsh⟩, ⟨by rw [ht9]; exact hR.P, hR.D⟩⟩, hR.sS.F ht9⟩) hR.sS.2.2 dX1_setPlace_18
  · replace h := h.2 (k_nlt rfl (by decide) c1)
    refine lv_iload_n hx hb dX1_setPlace_4 rfl (lv_at hl 1 rfl) ?_
    refine lv_bipush (v := 48) hx hb dX1_setPlace_5 (by decide) ?_
    refine lv_icmp_ge (tgt := 18) hx hb dX1_setPlace_7 (by decide) (fun c2 => ?_) (fun c2 => ?_)
    · replace h := h.1 (k_le (by decide) rfl c2)
      exact W.vret hx hb hr (fun t9 ht9 hW9 => ⟨⟨S, rfl, ⟨h, hR.w, hsh⟩, ⟨by rw [ht9]; exact hR.P, hR.D⟩⟩, hR.sS.F ht9⟩) hR.sS.2.2 dX1_setPlace_18
    · replace h := h.2 (k_nle (by decide) rfl c2)
      refine lv_aload_n hx hb dX1_setPlace_10 rfl (lv_at hl 0 rfl) ?_
      refine va_get (D := rD g) (ci := 1) (v := .ref (ad 24)) (C := RX1) (T := TX1) (N := 10) hx hb hts inX1 hown hR.K hR.P 16 (hR.at41 (hR.w.2.1 _ finC_27).2.1) rfl 4 (by decide) (hts _ kw_477) (fun _ h9 => h9) (congrArg (fun z => some (vf ad z)) (hR.w.2.1 _ finC_1).1) dX1_setPlace_11 ?_
      refine lv_iload_n hx hb dX1_setPlace_14 rfl (lv_at hl 1 rfl) ?_
      refine lv_iload_n hx hb dX1_setPlace_15 rfl (lv_at hl 2 rfl) ?_
      refine lv_i2b (v := (x2.toInt8.toInt32)) hx hb dX1_setPlace_16 rfl ?_
      obtain ⟨hv3, h⟩ := h
      refine va_bast hx hb hR.K hR.P hR.D hR.sS 24 0 (hR.atB (hR.w.2.1 _ finC_1).2.1 (by decide)) rfl (k_ixN (k_ix (n := 48) (x := x1) (a := x1.toInt) rfl hv3) (hR.w.2.1 _ finC_1).2.2) dX1_setPlace_17 (fun H locs hP hD hS => ?_)
      have hTk9 : qT S 24 = 103 := (hR.w.2.1 _ finC_1).2.1
      have hR : RepC g ad A s (wI S 24 x1.toInt.toNat (vp_nar .byte (x2.toInt8.toInt32))) H locs := hR.aB (hR.w.2.1 _ finC_1).2.1 (by decide) (fit_nb _) hP hD hS
      obtain ⟨S4, eS4⟩ : ∃ z, z = wI S 24 x1.toInt.toNat (vp_nar .byte (x2.toInt8.toInt32)) := ⟨_, rfl⟩
      rw [← eS4] at hR
      replace h := h S4 eS4 hTk9 hR.w
      have hsh : shy S S4 := by rw [eS4]; exact hsh
      exact W.vret hx hb hr (fun t9 ht9 hW9 => ⟨⟨S4, rfl, ⟨h, hR.w, hsh⟩, ⟨by rw [ht9]; exact hR.P, hR.D⟩⟩, hR.sS.F ht9⟩) hR.sS.2.2 dX1_setPlace_18
