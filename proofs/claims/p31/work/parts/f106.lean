def f_X6_isTaken_J20 (S : MS) (t20_0 : Int32) (v20_1 : Int32) (v20_2 : Int32) : Int32 := (if t20_0.toInt = 0 then (if v20_1.toInt = v20_2.toInt then (1 : Int32) else (0 : Int32)) else (if t20_0.toInt = 1 then (if v20_1.toInt = v20_2.toInt then (0 : Int32) else (1 : Int32)) else (if t20_0.toInt = 2 then (if v20_2.toInt ≤ v20_1.toInt then (0 : Int32) else (1 : Int32)) else (if t20_0.toInt = 3 then (if v20_1.toInt < v20_2.toInt then (0 : Int32) else (1 : Int32)) else (if t20_0.toInt = 4 then (if v20_1.toInt ≤ v20_2.toInt then (0 : Int32) else (1 : Int32)) else (if v20_2.toInt < v20_1.toInt then (0 : Int32) else (1 : Int32)))))))
def d_X6_isTaken_J20 (S : MS) (t20_0 : Int32) (v20_1 : Int32) (v20_2 : Int32) : Prop := True
def fX6_isTaken (S : MS) (x0 : Int32) (x1 : Int32) (x2 : Int32) : Int32 := (if 159 ≤ x0.toInt then f_X6_isTaken_J20 S (x0 - (159 : Int32)) x1 x2 else f_X6_isTaken_J20 S (x0 - (153 : Int32)) x1 x2)
def d_X6_isTaken (S : MS) (x0 : Int32) (x1 : Int32) (x2 : Int32) : Prop := (if 159 ≤ x0.toInt then d_X6_isTaken_J20 S (x0 - (159 : Int32)) x1 x2 else d_X6_isTaken_J20 S (x0 - (153 : Int32)) x1 x2)
set_option maxHeartbeats 2000000 in
set_option maxRecDepth 100000 in
theorem rX6_isTaken (l : Launch) (g : Gr) (ad : Nat → Nat) (sz : Nat) (S : MS) (x0 : Int32) (x1 : Int32) (x2 : Int32) (hw : wfC S) (hd : d_X6_isTaken S x0 x1 x2) : Met l yX6_isTaken (wt yX6_isTaken cX6_isTaken 3 (some .boolean)) ({ frames := 0, cells := 0, slots := 0, locals := 0 }) (va_Pc [.int x0, .int x1, .int x2] (st_C g ad sz S)) (va_Qi (fun (r : Int32) (_ : Unit) => r = fX6_isTaken S x0 x1 x2 ∧ (r = 0 ∨ r = 1)) (fun (_ : Unit) (t : State) => qEC g ad (va_A (WdC g ad S) sz) S t) (va_A (WdC g ad S) sz)) 0 0 (va_A (WdC g ad S) sz) := by
  refine Met.ofW (cc := cX6_isTaken) (maxL := 3) (ret := (some .boolean)) (by decide) rfl ?_
  intro p e s m args below meth c s₁ B hml hv
  obtain ⟨rfl, hsz, hP, hK, hD0, hex, hE⟩ := hv
  have hx := B.exec
  have hb := B.bytes
  have hr := B.returns
  have hts0 := atoms_spec (ws := wt yX6_isTaken cX6_isTaken 3 (some .boolean)) B.pre
  have hts : ∀ w ∈ tb, w.before _ s = true := fun w h => hts0 w (List.mem_cons_of_mem _ h)
  have hown : s.vm.findClass RX6 = some m.cls := findClass_of_methodNamed B.named
  subst hsz
  have hD := hD0.self (sz := s.heap.size)
  generalize hAe : va_A (WdC g ad S) s.heap.size = A at hD hE ⊢
  have hA : ∀ q : Nat, s.heap.size ≤ q → A q := fun q h => by rw [← hAe]; exact Or.inr h
  have hR : RepC g ad A s S s.heap [] := ⟨hK, hP, hD, va_S.rf, hw⟩
  clear hK hP hD hD0
  have hl := lv_entry ([.int x0, .int x1, .int x2]) (n := 3) (Nat.le_of_ble_eq_true rfl)
  rw [lg_entry_eq]
  generalize (lg_sl ([.int x0, .int x1, .int x2]) ++ List.replicate (3 - (lg_sl ([.int x0, .int x1, .int x2])).length) Slot.unset).toArray = ls at hl ⊢
  have hl : lv_has ls 3 [(0, .int x0), (1, .int x1), (2, .int x2)] := hl
  obtain ⟨r0, hf⟩ : ∃ r0, fX6_isTaken S x0 x1 x2 = r0 := ⟨_, rfl⟩
  have hf0 := hf
  unfold fX6_isTaken at hf
  unfold d_X6_isTaken at hd
  refine lv_iload_n hx hb dX6_isTaken_0 rfl (lv_at hl 0 rfl) ?_
  refine lv_sipush (v := 159) hx hb dX6_isTaken_1 (by decide) ?_
  have J_20 : ∀ (t20_0 : Int32) (v20_1 : Int32) (v20_2 : Int32) (H : Heap) (locs : List Loc) (ls : Array Slot), d_X6_isTaken_J20 S t20_0 v20_1 v20_2 → f_X6_isTaken_J20 S t20_0 v20_1 v20_2 = r0 → RepC g ad A s S H locs → lv_has ls 3 [(1, .int v20_1), (2, .int v20_2)] → W p l e (headSpec (wt yX6_isTaken cX6_isTaken 3 (some .boolean)) ({ frames := 0, cells := 0, slots := 0, locals := 0 })).room s m ([.int x0, .int x1, .int x2] : List Value).toArray below meth c H locs 0 0 (MQ below (va_Qi (fun (r : Int32) (_ : Unit) => r = fX6_isTaken S x0 x1 x2 ∧ (r = 0 ∨ r = 1)) (fun (_ : Unit) (t : State) => qEC g ad A S t) A) ([.int x0, .int x1, .int x2] : List Value).toArray s 0 0 A) (F0 m 20 ls [.int t20_0]) := by
    intro t20_0 v20_1 v20_2 H locs ls hd hf hR hl
    unfold d_X6_isTaken_J20 at hd
    unfold f_X6_isTaken_J20 at hf
    by_cases c9_0 : t20_0.toInt = 0
    · refine lv_tableIn (off := 36) (tgt := 56) hx hb dX6_isTaken_20 (by rw [c9_0]; decide) (by rw [c9_0]; decide) (by rw [c9_0]; rfl) (by decide) ?_
      rw [if_pos (c9_0)] at hf
      (try rw [if_pos (c9_0)] at hd)
      refine lv_iload_n hx hb dX6_isTaken_56 rfl (lv_at hl 0 rfl) ?_
      refine lv_iload_n hx hb dX6_isTaken_57 rfl (lv_at hl 1 rfl) ?_
      refine lv_icmp_ne (tgt := 65) hx hb dX6_isTaken_58 (by decide) (fun c1 => ?_) (fun c1 => ?_)
      · rw [if_neg (k_ne rfl rfl c1)] at hf
        (try rw [if_neg (k_ne rfl rfl c1)] at hd)
        refine lv_iconst (v := 0) hx hb dX6_isTaken_65 (by decide) ?_
        exact W.zret (v := 0) hx hb hr (nz (Or.inl rfl)) (fun t9 ht9 hW9 => ⟨⟨_, (), rfl, ⟨hf.trans hf0.symm, (Or.inl rfl)⟩, ⟨by rw [ht9]; exact hR.P, hR.D⟩⟩, hR.sS.F ht9⟩) hR.sS.2.2 dX6_isTaken_66
      · rw [if_pos (k_eq rfl rfl c1)] at hf
        (try rw [if_pos (k_eq rfl rfl c1)] at hd)
        refine lv_iconst (v := 1) hx hb dX6_isTaken_61 (by decide) ?_
        refine lv_goto (tgt := 66) hx hb dX6_isTaken_62 (by decide) ?_
        exact W.zret (v := 1) hx hb hr (nz (Or.inr rfl)) (fun t9 ht9 hW9 => ⟨⟨_, (), rfl, ⟨hf.trans hf0.symm, (Or.inr rfl)⟩, ⟨by rw [ht9]; exact hR.P, hR.D⟩⟩, hR.sS.F ht9⟩) hR.sS.2.2 dX6_isTaken_66
    rw [if_neg c9_0] at hf
    (try rw [if_neg c9_0] at hd)
    by_cases c9_1 : t20_0.toInt = 1
    · refine lv_tableIn (off := 47) (tgt := 67) hx hb dX6_isTaken_20 (by rw [c9_1]; decide) (by rw [c9_1]; decide) (by rw [c9_1]; rfl) (by decide) ?_
      rw [if_pos (c9_1)] at hf
      (try rw [if_pos (c9_1)] at hd)
      refine lv_iload_n hx hb dX6_isTaken_67 rfl (lv_at hl 0 rfl) ?_
      refine lv_iload_n hx hb dX6_isTaken_68 rfl (lv_at hl 1 rfl) ?_
      refine lv_icmp_eq (tgt := 76) hx hb dX6_isTaken_69 (by decide) (fun c2 => ?_) (fun c2 => ?_)
      · rw [if_pos (k_eq rfl rfl c2)] at hf
        (try rw [if_pos (k_eq rfl rfl c2)] at hd)
        refine lv_iconst (v := 0) hx hb dX6_isTaken_76 (by decide) ?_
        exact W.zret (v := 0) hx hb hr (nz (Or.inl rfl)) (fun t9 ht9 hW9 => ⟨⟨_, (), rfl, ⟨hf.trans hf0.symm, (Or.inl rfl)⟩, ⟨by rw [ht9]; exact hR.P, hR.D⟩⟩, hR.sS.F ht9⟩) hR.sS.2.2 dX6_isTaken_77
      · rw [if_neg (k_ne rfl rfl c2)] at hf
        (try rw [if_neg (k_ne rfl rfl c2)] at hd)
        refine lv_iconst (v := 1) hx hb dX6_isTaken_72 (by decide) ?_
        refine lv_goto (tgt := 77) hx hb dX6_isTaken_73 (by decide) ?_
        exact W.zret (v := 1) hx hb hr (nz (Or.inr rfl)) (fun t9 ht9 hW9 => ⟨⟨_, (), rfl, ⟨hf.trans hf0.symm, (Or.inr rfl)⟩, ⟨by rw [ht9]; exact hR.P, hR.D⟩⟩, hR.sS.F ht9⟩) hR.sS.2.2 dX6_isTaken_77
    rw [if_neg c9_1] at hf
    (try rw [if_neg c9_1] at hd)
    by_cases c9_2 : t20_0.toInt = 2
    · refine lv_tableIn (off := 58) (tgt := 78) hx hb dX6_isTaken_20 (by rw [c9_2]; decide) (by rw [c9_2]; decide) (by rw [c9_2]; rfl) (by decide) ?_
      rw [if_pos (c9_2)] at hf
      (try rw [if_pos (c9_2)] at hd)
      refine lv_iload_n hx hb dX6_isTaken_78 rfl (lv_at hl 0 rfl) ?_
      refine lv_iload_n hx hb dX6_isTaken_79 rfl (lv_at hl 1 rfl) ?_
      refine lv_icmp_ge (tgt := 87) hx hb dX6_isTaken_80 (by decide) (fun c3 => ?_) (fun c3 => ?_)
      · rw [if_pos (k_le rfl rfl c3)] at hf
        (try rw [if_pos (k_le rfl rfl c3)] at hd)
        refine lv_iconst (v := 0) hx hb dX6_isTaken_87 (by decide) ?_
        exact W.zret (v := 0) hx hb hr (nz (Or.inl rfl)) (fun t9 ht9 hW9 => ⟨⟨_, (), rfl, ⟨hf.trans hf0.symm, (Or.inl rfl)⟩, ⟨by rw [ht9]; exact hR.P, hR.D⟩⟩, hR.sS.F ht9⟩) hR.sS.2.2 dX6_isTaken_88
      · rw [if_neg (k_nle rfl rfl c3)] at hf
        (try rw [if_neg (k_nle rfl rfl c3)] at hd)
        refine lv_iconst (v := 1) hx hb dX6_isTaken_83 (by decide) ?_
        refine lv_goto (tgt := 88) hx hb dX6_isTaken_84 (by decide) ?_
        exact W.zret (v := 1) hx hb hr (nz (Or.inr rfl)) (fun t9 ht9 hW9 => ⟨⟨_, (), rfl, ⟨hf.trans hf0.symm, (Or.inr rfl)⟩, ⟨by rw [ht9]; exact hR.P, hR.D⟩⟩, hR.sS.F ht9⟩) hR.sS.2.2 dX6_isTaken_88
    rw [if_neg c9_2] at hf
    (try rw [if_neg c9_2] at hd)
    by_cases c9_3 : t20_0.toInt = 3
    · refine lv_tableIn (off := 69) (tgt := 89) hx hb dX6_isTaken_20 (by rw [c9_3]; decide) (by rw [c9_3]; decide) (by rw [c9_3]; rfl) (by decide) ?_
      rw [if_pos (c9_3)] at hf
      (try rw [if_pos (c9_3)] at hd)
      refine lv_iload_n hx hb dX6_isTaken_89 rfl (lv_at hl 0 rfl) ?_
      refine lv_iload_n hx hb dX6_isTaken_90 rfl (lv_at hl 1 rfl) ?_
      refine lv_icmp_lt (tgt := 98) hx hb dX6_isTaken_91 (by decide) (fun c4 => ?_) (fun c4 => ?_)
      · rw [if_pos (k_lt rfl rfl c4)] at hf
        (try rw [if_pos (k_lt rfl rfl c4)] at hd)
        refine lv_iconst (v := 0) hx hb dX6_isTaken_98 (by decide) ?_
        exact W.zret (v := 0) hx hb hr (nz (Or.inl rfl)) (fun t9 ht9 hW9 => ⟨⟨_, (), rfl, ⟨hf.trans hf0.symm, (Or.inl rfl)⟩, ⟨by rw [ht9]; exact hR.P, hR.D⟩⟩, hR.sS.F ht9⟩) hR.sS.2.2 dX6_isTaken_99
      · rw [if_neg (k_nlt rfl rfl c4)] at hf
        (try rw [if_neg (k_nlt rfl rfl c4)] at hd)
        refine lv_iconst (v := 1) hx hb dX6_isTaken_94 (by decide) ?_
        refine lv_goto (tgt := 99) hx hb dX6_isTaken_95 (by decide) ?_
        exact W.zret (v := 1) hx hb hr (nz (Or.inr rfl)) (fun t9 ht9 hW9 => ⟨⟨_, (), rfl, ⟨hf.trans hf0.symm, (Or.inr rfl)⟩, ⟨by rw [ht9]; exact hR.P, hR.D⟩⟩, hR.sS.F ht9⟩) hR.sS.2.2 dX6_isTaken_99
    rw [if_neg c9_3] at hf
    (try rw [if_neg c9_3] at hd)
    by_cases c9_4 : t20_0.toInt = 4
    · refine lv_tableIn (off := 80) (tgt := 100) hx hb dX6_isTaken_20 (by rw [c9_4]; decide) (by rw [c9_4]; decide) (by rw [c9_4]; rfl) (by decide) ?_
      rw [if_pos (c9_4)] at hf
      (try rw [if_pos (c9_4)] at hd)
      refine lv_iload_n hx hb dX6_isTaken_100 rfl (lv_at hl 0 rfl) ?_
      refine lv_iload_n hx hb dX6_isTaken_101 rfl (lv_at hl 1 rfl) ?_
      refine lv_icmp_le (tgt := 109) hx hb dX6_isTaken_102 (by decide) (fun c5 => ?_) (fun c5 => ?_)
      · rw [if_pos (k_le rfl rfl c5)] at hf
        (try rw [if_pos (k_le rfl rfl c5)] at hd)
        refine lv_iconst (v := 0) hx hb dX6_isTaken_109 (by decide) ?_
        exact W.zret (v := 0) hx hb hr (nz (Or.inl rfl)) (fun t9 ht9 hW9 => ⟨⟨_, (), rfl, ⟨hf.trans hf0.symm, (Or.inl rfl)⟩, ⟨by rw [ht9]; exact hR.P, hR.D⟩⟩, hR.sS.F ht9⟩) hR.sS.2.2 dX6_isTaken_110
      · rw [if_neg (k_nle rfl rfl c5)] at hf
        (try rw [if_neg (k_nle rfl rfl c5)] at hd)
        refine lv_iconst (v := 1) hx hb dX6_isTaken_105 (by decide) ?_
        refine lv_goto (tgt := 110) hx hb dX6_isTaken_106 (by decide) ?_
        exact W.zret (v := 1) hx hb hr (nz (Or.inr rfl)) (fun t9 ht9 hW9 => ⟨⟨_, (), rfl, ⟨hf.trans hf0.symm, (Or.inr rfl)⟩, ⟨by rw [ht9]; exact hR.P, hR.D⟩⟩, hR.sS.F ht9⟩) hR.sS.2.2 dX6_isTaken_110
    rw [if_neg c9_4] at hf
    (try rw [if_neg c9_4] at hd)
    refine lv_tableOut (tgt := 111) hx hb dX6_isTaken_20 (by omega) (by decide) ?_
    refine lv_iload_n hx hb dX6_isTaken_111 rfl (lv_at hl 0 rfl) ?_
    refine lv_iload_n hx hb dX6_isTaken_112 rfl (lv_at hl 1 rfl) ?_
    refine lv_icmp_gt (tgt := 120) hx hb dX6_isTaken_113 (by decide) (fun c6 => ?_) (fun c6 => ?_)
    · rw [if_pos (k_lt rfl rfl c6)] at hf
      (try rw [if_pos (k_lt rfl rfl c6)] at hd)
      refine lv_iconst (v := 0) hx hb dX6_isTaken_120 (by decide) ?_
      exact W.zret (v := 0) hx hb hr (nz (Or.inl rfl)) (fun t9 ht9 hW9 => ⟨⟨_, (), rfl, ⟨hf.trans hf0.symm, (Or.inl rfl)⟩, ⟨by rw [ht9]; exact hR.P, hR.D⟩⟩, hR.sS.F ht9⟩) hR.sS.2.2 dX6_isTaken_121
    · rw [if_neg (k_nlt rfl rfl c6)] at hf
      (try rw [if_neg (k_nlt rfl rfl c6)] at hd)
      refine lv_iconst (v := 1) hx hb dX6_isTaken_116 (by decide) ?_
      refine lv_goto (tgt := 121) hx hb dX6_isTaken_117 (by decide) ?_
      exact W.zret (v := 1) hx hb hr (nz (Or.inr rfl)) (fun t9 ht9 hW9 => ⟨⟨_, (), rfl, ⟨hf.trans hf0.symm, (Or.inr rfl)⟩, ⟨by rw [ht9]; exact hR.P, hR.D⟩⟩, hR.sS.F ht9⟩) hR.sS.2.2 dX6_isTaken_121
  refine lv_icmp_ge (tgt := 15) hx hb dX6_isTaken_4 (by decide) (fun c7 => ?_) (fun c7 => ?_)
  · rw [if_pos (k_le (by decide) rfl c7)] at hf
    (try rw [if_pos (k_le (by decide) rfl c7)] at hd)
    refine lv_iload_n hx hb dX6_isTaken_15 rfl (lv_at hl 0 rfl) ?_
    refine lv_sipush (v := 159) hx hb dX6_isTaken_16 (by decide) ?_
    refine lv_isub hx hb dX6_isTaken_19 ?_
    refine lv_topi (fun z8 ez8 => ?_)
    obtain rfl : z8 = (x0 - (159 : Int32)) := ez8
    exact J_20 (x0 - (159 : Int32)) x1 x2 _ _ ls hd hf  hR (lv_sub hl [1, 2] rfl)
  · rw [if_neg (k_nle (by decide) rfl c7)] at hf
    (try rw [if_neg (k_nle (by decide) rfl c7)] at hd)
    refine lv_iload_n hx hb dX6_isTaken_7 rfl (lv_at hl 0 rfl) ?_
    refine lv_sipush (v := 153) hx hb dX6_isTaken_8 (by decide) ?_
    refine lv_isub hx hb dX6_isTaken_11 ?_
    refine lv_topi (fun z9 ez9 => ?_)
    obtain rfl : z9 = (x0 - (153 : Int32)) := ez9
    refine lv_goto (tgt := 20) hx hb dX6_isTaken_12 (by decide) ?_
    exact J_20 (x0 - (153 : Int32)) x1 x2 _ _ ls hd hf  hR (lv_sub hl [1, 2] rfl)
def fX6_errorName (S : MS) (x0 : Int32) : Nat := (if x0.toInt = 0 then 10000002 else (if x0.toInt = 1 then 10000004 else (if x0.toInt = 2 then 10000006 else 10000008)))
def d_X6_errorName (S : MS) (x0 : Int32) : Prop := True
set_option maxHeartbeats 2000000 in
set_option maxRecDepth 100000 in
theorem rX6_errorName (l : Launch) (g : Gr) (ad : Nat → Nat) (sz : Nat) (S : MS) (x0 : Int32) (hw : wfC S) (hd : d_X6_errorName S x0) : Met l yX6_errorName (wt yX6_errorName cX6_errorName 1 (some (.object "java/lang/String"))) ({ frames := 0, cells := 0, slots := 0, locals := 0 }) (va_Pc [.int x0] (st_C g ad sz S)) (va_Qq (fun (r : Option Nat) (_ : Unit) => r = some (ad (fX6_errorName S x0)) ∧ qT S (fX6_errorName S x0) = 12) (fun (_ : Unit) (t : State) => qEC g ad (va_A (WdC g ad S) sz) S t) (va_A (WdC g ad S) sz)) 0 0 (va_A (WdC g ad S) sz) := by
  refine Met.ofW (cc := cX6_errorName) (maxL := 1) (ret := (some (.object "java/lang/String"))) (by decide) rfl ?_
  intro p e s m args below meth c s₁ B hml hv
  obtain ⟨rfl, hsz, hP, hK, hD0, hex, hE⟩ := hv
  have hx := B.exec
  have hb := B.bytes
  have hr := B.returns
  have hts0 := atoms_spec (ws := wt yX6_errorName cX6_errorName 1 (some (.object "java/lang/String"))) B.pre
  have hts : ∀ w ∈ tb, w.before _ s = true := fun w h => hts0 w (List.mem_cons_of_mem _ h)
  have hown : s.vm.findClass RX6 = some m.cls := findClass_of_methodNamed B.named
  subst hsz
  have hD := hD0.self (sz := s.heap.size)
  generalize hAe : va_A (WdC g ad S) s.heap.size = A at hD hE ⊢
  have hA : ∀ q : Nat, s.heap.size ≤ q → A q := fun q h => by rw [← hAe]; exact Or.inr h
  have hR : RepC g ad A s S s.heap [] := ⟨hK, hP, hD, va_S.rf, hw⟩
  clear hK hP hD hD0
  have hl := lv_entry ([.int x0]) (n := 1) (Nat.le_of_ble_eq_true rfl)
  rw [lg_entry_eq]
  generalize (lg_sl ([.int x0]) ++ List.replicate (1 - (lg_sl ([.int x0])).length) Slot.unset).toArray = ls at hl ⊢
  have hl : lv_has ls 1 [(0, .int x0)] := hl
  obtain ⟨r0, hf⟩ : ∃ r0, fX6_errorName S x0 = r0 := ⟨_, rfl⟩
  have hf0 := hf
  unfold fX6_errorName at hf
  unfold d_X6_errorName at hd
  refine lv_iload_n hx hb dX6_errorName_0 rfl (lv_at hl 0 rfl) ?_
  by_cases c9_0 : x0.toInt = 0
  · refine lv_tableIn (off := 27) (tgt := 28) hx hb dX6_errorName_1 (by rw [c9_0]; decide) (by rw [c9_0]; decide) (by rw [c9_0]; rfl) (by decide) ?_
    rw [if_pos (c9_0)] at hf
    (try rw [if_pos (c9_0)] at hd)
    have hT_t1 : qT S 10000002 = 12 := hR.w.txt (i := 1) (by decide)
    refine va_ldcS (tx := "DivideError") (q := ad 10000002) hx hb hown (hE.2.2 _ ldcC_0) dX6_errorName_28 ?_
    exact W.aret (v := .ref (ad 10000002)) hx hb hr (Or.inl ⟨_, rfl⟩) (Or.inr ⟨_, rfl⟩) (fun t9 ht9 hW9 => ⟨⟨some (ad 10000002), (), rfl, ⟨by rw [hf0, ← hf], by rw [hf0, ← hf]; exact hT_t1⟩, ⟨by rw [ht9]; exact hR.P, hR.D⟩⟩, hR.sS.F ht9⟩) hR.sS.2.2 dX6_errorName_30
  rw [if_neg c9_0] at hf
  (try rw [if_neg c9_0] at hd)
  by_cases c9_1 : x0.toInt = 1
  · refine lv_tableIn (off := 30) (tgt := 31) hx hb dX6_errorName_1 (by rw [c9_1]; decide) (by rw [c9_1]; decide) (by rw [c9_1]; rfl) (by decide) ?_
    rw [if_pos (c9_1)] at hf
    (try rw [if_pos (c9_1)] at hd)
    have hT_t2 : qT S 10000004 = 12 := hR.w.txt (i := 2) (by decide)
    refine va_ldcS (tx := "NullError") (q := ad 10000004) hx hb hown (hE.2.2 _ ldcC_1) dX6_errorName_31 ?_
    exact W.aret (v := .ref (ad 10000004)) hx hb hr (Or.inl ⟨_, rfl⟩) (Or.inr ⟨_, rfl⟩) (fun t9 ht9 hW9 => ⟨⟨some (ad 10000004), (), rfl, ⟨by rw [hf0, ← hf], by rw [hf0, ← hf]; exact hT_t2⟩, ⟨by rw [ht9]; exact hR.P, hR.D⟩⟩, hR.sS.F ht9⟩) hR.sS.2.2 dX6_errorName_33
  rw [if_neg c9_1] at hf
  (try rw [if_neg c9_1] at hd)
  by_cases c9_2 : x0.toInt = 2
  · refine lv_tableIn (off := 33) (tgt := 34) hx hb dX6_errorName_1 (by rw [c9_2]; decide) (by rw [c9_2]; decide) (by rw [c9_2]; rfl) (by decide) ?_
    rw [if_pos (c9_2)] at hf
    (try rw [if_pos (c9_2)] at hd)
    have hT_t3 : qT S 10000006 = 12 := hR.w.txt (i := 3) (by decide)
    refine va_ldcS (tx := "IndexError") (q := ad 10000006) hx hb hown (hE.2.2 _ ldcC_2) dX6_errorName_34 ?_
    exact W.aret (v := .ref (ad 10000006)) hx hb hr (Or.inl ⟨_, rfl⟩) (Or.inr ⟨_, rfl⟩) (fun t9 ht9 hW9 => ⟨⟨some (ad 10000006), (), rfl, ⟨by rw [hf0, ← hf], by rw [hf0, ← hf]; exact hT_t3⟩, ⟨by rw [ht9]; exact hR.P, hR.D⟩⟩, hR.sS.F ht9⟩) hR.sS.2.2 dX6_errorName_36
  rw [if_neg c9_2] at hf
  (try rw [if_neg c9_2] at hd)
  refine lv_tableOut (tgt := 37) hx hb dX6_errorName_1 (by omega) (by decide) ?_
  have hT_t4 : qT S 10000008 = 12 := hR.w.txt (i := 4) (by decide)
  refine va_ldcS (tx := "SizeError") (q := ad 10000008) hx hb hown (hE.2.2 _ ldcC_3) dX6_errorName_37 ?_
  exact W.aret (v := .ref (ad 10000008)) hx hb hr (Or.inl ⟨_, rfl⟩) (Or.inr ⟨_, rfl⟩) (fun t9 ht9 hW9 => ⟨⟨some (ad 10000008), (), rfl, ⟨by rw [hf0, ← hf], by rw [hf0, ← hf]; exact hT_t4⟩, ⟨by rw [ht9]; exact hR.P, hR.D⟩⟩, hR.sS.F ht9⟩) hR.sS.2.2 dX6_errorName_39
def wX7_breaks (S : MS) (x1 : Int32) (x2 : Int32) (Q : Int32 → MS → Prop) : Prop := (∀ S1, S1 = wI S 9 2 x1 → qT S 9 = 46 → wfC S1 → (∀ S2, S2 = wI S1 9 3 x2 → qT S1 9 = 46 → wfC S2 → Q (0 : Int32) S2))
set_option maxHeartbeats 2000000 in
set_option maxRecDepth 100000 in
theorem rX7_breaks (l : Launch) (g : Gr) (ad : Nat → Nat) (sz : Nat) (S : MS) (x1 : Int32) (x2 : Int32) (hw : wfC S) (Q : Int32 → MS → Prop) (h : wX7_breaks S x1 x2 Q) : Met l yX7_breaks (wt yX7_breaks cX7_breaks 3 (some .boolean)) ({ frames := 0, cells := 0, slots := 0, locals := 0 }) (va_Pc [.ref (ad 9), .int x1, .int x2] (st_C g ad sz S)) (va_Qi (fun (r : Int32) (u : MS) => Q r u ∧ wfC u ∧ shy S u ∧ (r = 0 ∨ r = 1)) (fun (u : MS) (t : State) => qEC g ad (va_A (WdC g ad S) sz) u t) (va_A (WdC g ad S) sz)) 0 0 (va_A (WdC g ad S) sz) := by
  refine Met.ofW (cc := cX7_breaks) (maxL := 3) (ret := (some .boolean)) (by decide) rfl ?_
  intro p e s m args below meth c s₁ B hml hv
  obtain ⟨rfl, hsz, hP, hK, hD0, hex, hE⟩ := hv
  have hx := B.exec
  have hb := B.bytes
  have hr := B.returns
  have hts0 := atoms_spec (ws := wt yX7_breaks cX7_breaks 3 (some .boolean)) B.pre
  have hts : ∀ w ∈ tb, w.before _ s = true := fun w h => hts0 w (List.mem_cons_of_mem _ h)
  have hown : s.vm.findClass RX7 = some m.cls := findClass_of_methodNamed B.named
  subst hsz
  have hD := hD0.self (sz := s.heap.size)
  generalize hAe : va_A (WdC g ad S) s.heap.size = A at hD hE ⊢
  have hA : ∀ q : Nat, s.heap.size ≤ q → A q := fun q h => by rw [← hAe]; exact Or.inr h
  have hR : RepC g ad A s S s.heap [] := ⟨hK, hP, hD, va_S.rf, hw⟩
  clear hK hP hD hD0
  have hl := lv_entry ([.ref (ad 9), .int x1, .int x2]) (n := 3) (Nat.le_of_ble_eq_true rfl)
  rw [lg_entry_eq]
  generalize (lg_sl ([.ref (ad 9), .int x1, .int x2]) ++ List.replicate (3 - (lg_sl ([.ref (ad 9), .int x1, .int x2])).length) Slot.unset).toArray = ls at hl ⊢
  have hl : lv_has ls 3 [(0, .ref (ad 9)), (1, .int x1), (2, .int x2)] := hl
  have hsh : shy S S := shy.rf
  unfold wX7_breaks at h
  refine lv_aload_n hx hb dX7_breaks_0 rfl (lv_at hl 0 rfl) ?_
  refine lv_iload_n hx hb dX7_breaks_1 rfl (lv_at hl 1 rfl) ?_
  refine va_put (D := rD g) (ci := 6) (v := .int x1) (ty := .int) (C := RX7) (T := TX7) (N := 17) hx hb hts inX7 tyX7 tyX7_ok nmX7 hown hR.K hR.P hR.D hR.sS 9 (hR.at46 (hR.w.2.1 _ finC_2).2.1) rfl 2 (by decide) (hts _ kw_1280) (fun _ h9 => h9) rfl (by decide +kernel) rfl rfl (Nat.le_of_ble_eq_true rfl) dX7_breaks_2 (fun H locs hP hD hS => ?_)
  have hTk9 : qT S 9 = 46 := (hR.w.2.1 _ finC_2).2.1
  have hR : RepC g ad A s (wI S 9 2 x1) H locs := hR.pI46 (hR.w.2.1 _ finC_2).2.1 FX7_s2 (fun q9 => absurd q9 (by decide)) hP hD hS
  obtain ⟨S1, eS1⟩ : ∃ z, z = wI S 9 2 x1 := ⟨_, rfl⟩
  rw [← eS1] at hR
  replace h := h S1 eS1 hTk9 hR.w
  have hsh : shy S S1 := by rw [eS1]; exact hsh
  refine lv_aload_n hx hb dX7_breaks_5 rfl (lv_at hl 0 rfl) ?_
  refine lv_iload_n hx hb dX7_breaks_6 rfl (lv_at hl 2 rfl) ?_
  refine va_put (D := rD g) (ci := 6) (v := .int x2) (ty := .int) (C := RX7) (T := TX7) (N := 17) hx hb hts inX7 tyX7 tyX7_ok nmX7 hown hR.K hR.P hR.D hR.sS 9 (hR.at46 (hR.w.2.1 _ finC_2).2.1) rfl 3 (by decide) (hts _ kw_1281) (fun _ h9 => h9) rfl (by decide +kernel) rfl rfl (Nat.le_of_ble_eq_true rfl) dX7_breaks_7 (fun H locs hP hD hS => ?_)
  have hTk9 : qT S1 9 = 46 := (hR.w.2.1 _ finC_2).2.1
  have hR : RepC g ad A s (wI S1 9 3 x2) H locs := hR.pI46 (hR.w.2.1 _ finC_2).2.1 FX7_s3 (fun q9 => absurd q9 (by decide)) hP hD hS
  obtain ⟨S2, eS2⟩ : ∃ z, z = wI S1 9 3 x2 := ⟨_, rfl⟩
  rw [← eS2] at hR
  replace h := h S2 eS2 hTk9 hR.w
  have hsh : shy S S2 := by rw [eS2]; exact hsh
  refine lv_iconst (v := 0) hx hb dX7_breaks_10 (by decide) ?_
  exact W.zret (v := 0) hx hb hr (nz (Or.inl rfl)) (fun t9 ht9 hW9 => ⟨⟨_, S2, rfl, ⟨h, hR.w, hsh, (Or.inl rfl)⟩, ⟨by rw [ht9]; exact hR.P, hR.D⟩⟩, hR.sS.F ht9⟩) hR.sS.2.2 dX7_breaks_11
def f_X7_u1_J21 (S : MS) : Int32 := (0 : Int32)
def d_X7_u1_J21 (S : MS) : Prop := True
def fX7_u1 (S : MS) (x1 : Int32) : Int32 := (if x1.toInt < 0 then f_X7_u1_J21 S else (if (qI S 9 1).toInt ≤ x1.toInt then f_X7_u1_J21 S else (if x1.toInt < (qN S (qO S 9 0) : Int) then ((qI S (qO S 9 0) x1.toInt.toNat) &&& (255 : Int32)) else f_X7_u1_J21 S)))
def d_X7_u1 (S : MS) (x1 : Int32) : Prop := (if x1.toInt < 0 then d_X7_u1_J21 S else (if (qI S 9 1).toInt ≤ x1.toInt then d_X7_u1_J21 S else (if x1.toInt < (qN S (qO S 9 0) : Int) then (((0 : Int) ≤ x1.toInt ∧ x1.toInt < (qN S (qO S 9 0) : Int)) ∧ True) else d_X7_u1_J21 S)))
set_option maxHeartbeats 2000000 in
set_option maxRecDepth 100000 in
theorem rX7_u1 (l : Launch) (g : Gr) (ad : Nat → Nat) (sz : Nat) (S : MS) (x1 : Int32) (hw : wfC S) (hd : d_X7_u1 S x1) : Met l yX7_u1 (wt yX7_u1 cX7_u1 2 (some .int)) ({ frames := 0, cells := 0, slots := 0, locals := 0 }) (va_Pc [.ref (ad 9), .int x1] (st_C g ad sz S)) (va_Qi (fun (r : Int32) (_ : Unit) => r = fX7_u1 S x1) (fun (_ : Unit) (t : State) => qEC g ad (va_A (WdC g ad S) sz) S t) (va_A (WdC g ad S) sz)) 0 0 (va_A (WdC g ad S) sz) := by
  refine Met.ofW (cc := cX7_u1) (maxL := 2) (ret := (some .int)) (by decide) rfl ?_
  intro p e s m args below meth c s₁ B hml hv
  obtain ⟨rfl, hsz, hP, hK, hD0, hex, hE⟩ := hv
  have hx := B.exec
  have hb := B.bytes
  have hr := B.returns
  have hts0 := atoms_spec (ws := wt yX7_u1 cX7_u1 2 (some .int)) B.pre
  have hts : ∀ w ∈ tb, w.before _ s = true := fun w h => hts0 w (List.mem_cons_of_mem _ h)
  have hown : s.vm.findClass RX7 = some m.cls := findClass_of_methodNamed B.named
  subst hsz
  have hD := hD0.self (sz := s.heap.size)
  generalize hAe : va_A (WdC g ad S) s.heap.size = A at hD hE ⊢
  have hA : ∀ q : Nat, s.heap.size ≤ q → A q := fun q h => by rw [← hAe]; exact Or.inr h
  have hR : RepC g ad A s S s.heap [] := ⟨hK, hP, hD, va_S.rf, hw⟩
  clear hK hP hD hD0
  have hl := lv_entry ([.ref (ad 9), .int x1]) (n := 2) (Nat.le_of_ble_eq_true rfl)
  rw [lg_entry_eq]
  generalize (lg_sl ([.ref (ad 9), .int x1]) ++ List.replicate (2 - (lg_sl ([.ref (ad 9), .int x1])).length) Slot.unset).toArray = ls at hl ⊢
  have hl : lv_has ls 2 [(0, .ref (ad 9)), (1, .int x1)] := hl
  obtain ⟨r0, hf⟩ : ∃ r0, fX7_u1 S x1 = r0 := ⟨_, rfl⟩
  have hf0 := hf
  unfold fX7_u1 at hf
  unfold d_X7_u1 at hd
  refine lv_iload_n hx hb dX7_u1_0 rfl (lv_at hl 1 rfl) ?_
  have J_21 : ∀ (H : Heap) (locs : List Loc) (ls : Array Slot), d_X7_u1_J21 S → f_X7_u1_J21 S = r0 → RepC g ad A s S H locs → lv_has ls 2 [] → W p l e (headSpec (wt yX7_u1 cX7_u1 2 (some .int)) ({ frames := 0, cells := 0, slots := 0, locals := 0 })).room s m ([.ref (ad 9), .int x1] : List Value).toArray below meth c H locs 0 0 (MQ below (va_Qi (fun (r : Int32) (_ : Unit) => r = fX7_u1 S x1) (fun (_ : Unit) (t : State) => qEC g ad A S t) A) ([.ref (ad 9), .int x1] : List Value).toArray s 0 0 A) (F0 m 21 ls []) := by
    intro H locs ls hd hf hR hl
    unfold d_X7_u1_J21 at hd
    unfold f_X7_u1_J21 at hf
    refine lv_iconst (v := 0) hx hb dX7_u1_21 (by decide) ?_
    refine lv_goto (tgt := 35) hx hb dX7_u1_22 (by decide) ?_
    exact W.iret (v := 0) hx hb hr (fun t9 ht9 hW9 => ⟨⟨_, (), rfl, hf.trans hf0.symm, ⟨by rw [ht9]; exact hR.P, hR.D⟩⟩, hR.sS.F ht9⟩) hR.sS.2.2 dX7_u1_35
  refine lv_if_lt (tgt := 21) hx hb dX7_u1_1 (by decide) (fun c1 => ?_) (fun c1 => ?_)
  · rw [if_pos (k_lt rfl (by decide) c1)] at hf
    (try rw [if_pos (k_lt rfl (by decide) c1)] at hd)
    exact J_21 _ _ ls hd hf  hR (lv_sub hl [] rfl)
  · rw [if_neg (k_nlt rfl (by decide) c1)] at hf
    (try rw [if_neg (k_nlt rfl (by decide) c1)] at hd)
    refine lv_iload_n hx hb dX7_u1_4 rfl (lv_at hl 1 rfl) ?_
    refine lv_aload_n hx hb dX7_u1_5 rfl (lv_at hl 0 rfl) ?_
    refine va_get (D := rD g) (ci := 6) (v := .int (qI S 9 1)) (C := RX7) (T := TX7) (N := 17) hx hb hts inX7 hown hR.K hR.P 9 (hR.at46 (hR.w.2.1 _ finC_2).2.1) rfl 1 (by decide) (hts _ kw_1275) (fun _ h9 => h9) rfl dX7_u1_6 ?_
    refine lv_icmp_ge (tgt := 21) hx hb dX7_u1_9 (by decide) (fun c2 => ?_) (fun c2 => ?_)
    · rw [if_pos (k_le rfl rfl c2)] at hf
      (try rw [if_pos (k_le rfl rfl c2)] at hd)
      exact J_21 _ _ ls hd hf  hR (lv_sub hl [] rfl)
    · rw [if_neg (k_nle rfl rfl c2)] at hf
      (try rw [if_neg (k_nle rfl rfl c2)] at hd)
      refine lv_iload_n hx hb dX7_u1_12 rfl (lv_at hl 1 rfl) ?_
      refine lv_aload_n hx hb dX7_u1_13 rfl (lv_at hl 0 rfl) ?_
      have hT_b3 : qT S (qO S 9 0) = 101 := hR.w.ref (hR.w.ptr ptrC_3) (hR.w.2.1 _ finC_2).2.1
      refine va_get (D := rD g) (ci := 6) (v := .ref (ad (qO S 9 0))) (C := RX7) (T := TX7) (N := 17) hx hb hts inX7 hown hR.K hR.P 9 (hR.at46 (hR.w.2.1 _ finC_2).2.1) rfl 0 (by decide) (hts _ kw_1341) (fun _ h9 => h9) (congrArg (fun z => some (vf ad z)) (hR.w.ptr ptrC_3)) dX7_u1_14 ?_
      refine va_alen (v := (Int32.ofNat (qN S (qO S 9 0)))) hx hb hR.K hR.P (qO S 9 0) 0 (hR.atB hT_b3 (by decide)) rfl rfl dX7_u1_17 ?_
      have hln4 : (Int32.ofNat (qN S (qO S 9 0))).toInt = (qN S (qO S 9 0) : Int) := toI_len (hR.w.len9 (hT_b3) (by decide))
      refine lv_icmp_lt (tgt := 25) hx hb dX7_u1_18 (by decide) (fun c5 => ?_) (fun c5 => ?_)
      · rw [if_pos (k_lt rfl hln4 c5)] at hf
        (try rw [if_pos (k_lt rfl hln4 c5)] at hd)
        refine lv_aload_n hx hb dX7_u1_25 rfl (lv_at hl 0 rfl) ?_
        have hT_b6 : qT S (qO S 9 0) = 101 := hR.w.ref (hR.w.ptr ptrC_3) (hR.w.2.1 _ finC_2).2.1
        refine va_get (D := rD g) (ci := 6) (v := .ref (ad (qO S 9 0))) (C := RX7) (T := TX7) (N := 17) hx hb hts inX7 hown hR.K hR.P 9 (hR.at46 (hR.w.2.1 _ finC_2).2.1) rfl 0 (by decide) (hts _ kw_1341) (fun _ h9 => h9) (congrArg (fun z => some (vf ad z)) (hR.w.ptr ptrC_3)) dX7_u1_26 ?_
        refine lv_iload_n hx hb dX7_u1_29 rfl (lv_at hl 1 rfl) ?_
        obtain ⟨hv7, hd⟩ := hd
        refine va_bald hx hb hR.K hR.P (qO S 9 0) 0 (hR.atB hT_b6 (by decide)) rfl (k_ix (x := x1) (a := x1.toInt) rfl hv7) dX7_u1_30 ?_
        refine lv_topi (fun z8 ez8 => ?_)
        obtain rfl : z8 = (qI S (qO S 9 0) x1.toInt.toNat) := ez8
        refine lv_sipush (v := 255) hx hb dX7_u1_31 (by decide) ?_
        refine lv_iand hx hb dX7_u1_34 ?_
        refine lv_topi (fun z9 ez9 => ?_)
        obtain rfl : z9 = ((qI S (qO S 9 0) x1.toInt.toNat) &&& (255 : Int32)) := ez9
        exact W.iret (v := ((qI S (qO S 9 0) x1.toInt.toNat) &&& (255 : Int32))) hx hb hr (fun t9 ht9 hW9 => ⟨⟨_, (), rfl, hf.trans hf0.symm, ⟨by rw [ht9]; exact hR.P, hR.D⟩⟩, hR.sS.F ht9⟩) hR.sS.2.2 dX7_u1_35
      · rw [if_neg (k_nlt rfl hln4 c5)] at hf
        (try rw [if_neg (k_nlt rfl hln4 c5)] at hd)
        exact J_21 _ _ ls hd hf  hR (lv_sub hl [] rfl)
def fX7_u2 (S : MS) (x1 : Int32) : Int32 := (if x1.toInt < 0 then (0 : Int32) else (if ((qI S 9 1) - (2 : Int32)).toInt < x1.toInt then (0 : Int32) else (if (qI S 9 1).toInt ≤ (qN S (qO S 9 0) : Int) then ((((qI S (qO S 9 0) x1.toInt.toNat) &&& (255 : Int32)) <<< ((8 : Int32) &&& 31)) ||| ((qI S (qO S 9 0) (((x1 + (1 : Int32)).toInt).toNat)) &&& (255 : Int32))) else (0 : Int32))))
def d_X7_u2 (S : MS) (x1 : Int32) : Prop := (if x1.toInt < 0 then True else (if ((qI S 9 1) - (2 : Int32)).toInt < x1.toInt then True else (if (qI S 9 1).toInt ≤ (qN S (qO S 9 0) : Int) then (((0 : Int) ≤ x1.toInt ∧ x1.toInt < (qN S (qO S 9 0) : Int)) ∧ (((0 : Int) ≤ (x1 + (1 : Int32)).toInt ∧ (x1 + (1 : Int32)).toInt < (qN S (qO S 9 0) : Int)) ∧ True)) else True)))
set_option maxHeartbeats 2000000 in
set_option maxRecDepth 100000 in
theorem rX7_u2 (l : Launch) (g : Gr) (ad : Nat → Nat) (sz : Nat) (S : MS) (x1 : Int32) (hw : wfC S) (hd : d_X7_u2 S x1) : Met l yX7_u2 (wt yX7_u2 cX7_u2 2 (some .int)) ({ frames := 0, cells := 0, slots := 0, locals := 0 }) (va_Pc [.ref (ad 9), .int x1] (st_C g ad sz S)) (va_Qi (fun (r : Int32) (_ : Unit) => r = fX7_u2 S x1) (fun (_ : Unit) (t : State) => qEC g ad (va_A (WdC g ad S) sz) S t) (va_A (WdC g ad S) sz)) 0 0 (va_A (WdC g ad S) sz) := by
  refine Met.ofW (cc := cX7_u2) (maxL := 2) (ret := (some .int)) (by decide) rfl ?_
  intro p e s m args below meth c s₁ B hml hv
  obtain ⟨rfl, hsz, hP, hK, hD0, hex, hE⟩ := hv
  have hx := B.exec
  have hb := B.bytes
  have hr := B.returns
  have hts0 := atoms_spec (ws := wt yX7_u2 cX7_u2 2 (some .int)) B.pre
  have hts : ∀ w ∈ tb, w.before _ s = true := fun w h => hts0 w (List.mem_cons_of_mem _ h)
  have hown : s.vm.findClass RX7 = some m.cls := findClass_of_methodNamed B.named
  subst hsz
  have hD := hD0.self (sz := s.heap.size)
  generalize hAe : va_A (WdC g ad S) s.heap.size = A at hD hE ⊢
  have hA : ∀ q : Nat, s.heap.size ≤ q → A q := fun q h => by rw [← hAe]; exact Or.inr h
  have hR : RepC g ad A s S s.heap [] := ⟨hK, hP, hD, va_S.rf, hw⟩
  clear hK hP hD hD0
  have hl := lv_entry ([.ref (ad 9), .int x1]) (n := 2) (Nat.le_of_ble_eq_true rfl)
  rw [lg_entry_eq]
  generalize (lg_sl ([.ref (ad 9), .int x1]) ++ List.replicate (2 - (lg_sl ([.ref (ad 9), .int x1])).length) Slot.unset).toArray = ls at hl ⊢
  have hl : lv_has ls 2 [(0, .ref (ad 9)), (1, .int x1)] := hl
  obtain ⟨r0, hf⟩ : ∃ r0, fX7_u2 S x1 = r0 := ⟨_, rfl⟩
  have hf0 := hf
  unfold fX7_u2 at hf
  unfold d_X7_u2 at hd
  refine lv_iload_n hx hb dX7_u2_0 rfl (lv_at hl 1 rfl) ?_
  refine lv_if_lt (tgt := 26) hx hb dX7_u2_1 (by decide) (fun c1 => ?_) (fun c1 => ?_)
  · rw [if_pos (k_lt rfl (by decide) c1)] at hf
    (try rw [if_pos (k_lt rfl (by decide) c1)] at hd)
    refine lv_iconst (v := 0) hx hb dX7_u2_26 (by decide) ?_
    exact W.iret (v := 0) hx hb hr (fun t9 ht9 hW9 => ⟨⟨_, (), rfl, hf.trans hf0.symm, ⟨by rw [ht9]; exact hR.P, hR.D⟩⟩, hR.sS.F ht9⟩) hR.sS.2.2 dX7_u2_27
  · rw [if_neg (k_nlt rfl (by decide) c1)] at hf
    (try rw [if_neg (k_nlt rfl (by decide) c1)] at hd)
    refine lv_iload_n hx hb dX7_u2_4 rfl (lv_at hl 1 rfl) ?_
    refine lv_aload_n hx hb dX7_u2_5 rfl (lv_at hl 0 rfl) ?_
    refine va_get (D := rD g) (ci := 6) (v := .int (qI S 9 1)) (C := RX7) (T := TX7) (N := 17) hx hb hts inX7 hown hR.K hR.P 9 (hR.at46 (hR.w.2.1 _ finC_2).2.1) rfl 1 (by decide) (hts _ kw_1275) (fun _ h9 => h9) rfl dX7_u2_6 ?_
    refine lv_iconst (v := 2) hx hb dX7_u2_9 (by decide) ?_
    refine lv_isub hx hb dX7_u2_10 ?_
    refine lv_topi (fun z2 ez2 => ?_)
    obtain rfl : z2 = ((qI S 9 1) - (2 : Int32)) := ez2
    refine lv_icmp_gt (tgt := 26) hx hb dX7_u2_11 (by decide) (fun c3 => ?_) (fun c3 => ?_)
    · rw [if_pos (k_lt rfl rfl c3)] at hf
      (try rw [if_pos (k_lt rfl rfl c3)] at hd)
      refine lv_iconst (v := 0) hx hb dX7_u2_26 (by decide) ?_
      exact W.iret (v := 0) hx hb hr (fun t9 ht9 hW9 => ⟨⟨_, (), rfl, hf.trans hf0.symm, ⟨by rw [ht9]; exact hR.P, hR.D⟩⟩, hR.sS.F ht9⟩) hR.sS.2.2 dX7_u2_27
    · rw [if_neg (k_nlt rfl rfl c3)] at hf
      (try rw [if_neg (k_nlt rfl rfl c3)] at hd)
      refine lv_aload_n hx hb dX7_u2_14 rfl (lv_at hl 0 rfl) ?_
      refine va_get (D := rD g) (ci := 6) (v := .int (qI S 9 1)) (C := RX7) (T := TX7) (N := 17) hx hb hts inX7 hown hR.K hR.P 9 (hR.at46 (hR.w.2.1 _ finC_2).2.1) rfl 1 (by decide) (hts _ kw_1275) (fun _ h9 => h9) rfl dX7_u2_15 ?_
      refine lv_aload_n hx hb dX7_u2_18 rfl (lv_at hl 0 rfl) ?_
      have hT_b4 : qT S (qO S 9 0) = 101 := hR.w.ref (hR.w.ptr ptrC_3) (hR.w.2.1 _ finC_2).2.1
      refine va_get (D := rD g) (ci := 6) (v := .ref (ad (qO S 9 0))) (C := RX7) (T := TX7) (N := 17) hx hb hts inX7 hown hR.K hR.P 9 (hR.at46 (hR.w.2.1 _ finC_2).2.1) rfl 0 (by decide) (hts _ kw_1341) (fun _ h9 => h9) (congrArg (fun z => some (vf ad z)) (hR.w.ptr ptrC_3)) dX7_u2_19 ?_
      refine va_alen (v := (Int32.ofNat (qN S (qO S 9 0)))) hx hb hR.K hR.P (qO S 9 0) 0 (hR.atB hT_b4 (by decide)) rfl rfl dX7_u2_22 ?_
      have hln5 : (Int32.ofNat (qN S (qO S 9 0))).toInt = (qN S (qO S 9 0) : Int) := toI_len (hR.w.len9 (hT_b4) (by decide))
      refine lv_icmp_le (tgt := 28) hx hb dX7_u2_23 (by decide) (fun c6 => ?_) (fun c6 => ?_)
      · rw [if_pos (k_le rfl hln5 c6)] at hf
        (try rw [if_pos (k_le rfl hln5 c6)] at hd)
        refine lv_aload_n hx hb dX7_u2_28 rfl (lv_at hl 0 rfl) ?_
        have hT_b7 : qT S (qO S 9 0) = 101 := hR.w.ref (hR.w.ptr ptrC_3) (hR.w.2.1 _ finC_2).2.1
        refine va_get (D := rD g) (ci := 6) (v := .ref (ad (qO S 9 0))) (C := RX7) (T := TX7) (N := 17) hx hb hts inX7 hown hR.K hR.P 9 (hR.at46 (hR.w.2.1 _ finC_2).2.1) rfl 0 (by decide) (hts _ kw_1341) (fun _ h9 => h9) (congrArg (fun z => some (vf ad z)) (hR.w.ptr ptrC_3)) dX7_u2_29 ?_
        refine lv_iload_n hx hb dX7_u2_32 rfl (lv_at hl 1 rfl) ?_
        obtain ⟨hv8, hd⟩ := hd
        refine va_bald hx hb hR.K hR.P (qO S 9 0) 0 (hR.atB hT_b7 (by decide)) rfl (k_ix (x := x1) (a := x1.toInt) rfl hv8) dX7_u2_33 ?_
        refine lv_topi (fun z9 ez9 => ?_)
        obtain rfl : z9 = (qI S (qO S 9 0) x1.toInt.toNat) := ez9
        refine lv_sipush (v := 255) hx hb dX7_u2_34 (by decide) ?_
        refine lv_iand hx hb dX7_u2_37 ?_
        refine lv_topi (fun z10 ez10 => ?_)
        obtain rfl : z10 = ((qI S (qO S 9 0) x1.toInt.toNat) &&& (255 : Int32)) := ez10
        refine lv_bipush (v := 8) hx hb dX7_u2_38 (by decide) ?_
        refine lv_ishl hx hb dX7_u2_40 ?_
        refine lv_topi (fun z11 ez11 => ?_)
        obtain rfl : z11 = (((qI S (qO S 9 0) x1.toInt.toNat) &&& (255 : Int32)) <<< ((8 : Int32) &&& 31)) := ez11
        refine lv_aload_n hx hb dX7_u2_41 rfl (lv_at hl 0 rfl) ?_
        have hT_b12 : qT S (qO S 9 0) = 101 := hR.w.ref (hR.w.ptr ptrC_3) (hR.w.2.1 _ finC_2).2.1
        refine va_get (D := rD g) (ci := 6) (v := .ref (ad (qO S 9 0))) (C := RX7) (T := TX7) (N := 17) hx hb hts inX7 hown hR.K hR.P 9 (hR.at46 (hR.w.2.1 _ finC_2).2.1) rfl 0 (by decide) (hts _ kw_1341) (fun _ h9 => h9) (congrArg (fun z => some (vf ad z)) (hR.w.ptr ptrC_3)) dX7_u2_42 ?_
        refine lv_iload_n hx hb dX7_u2_45 rfl (lv_at hl 1 rfl) ?_
        refine lv_iconst (v := 1) hx hb dX7_u2_46 (by decide) ?_
        refine lv_iadd hx hb dX7_u2_47 ?_
        refine lv_topi (fun z13 ez13 => ?_)
        obtain rfl : z13 = (x1 + (1 : Int32)) := ez13
        obtain ⟨hv14, hd⟩ := hd
        refine va_bald hx hb hR.K hR.P (qO S 9 0) 0 (hR.atB hT_b12 (by decide)) rfl (k_ix (x := (x1 + (1 : Int32))) (a := (x1 + (1 : Int32)).toInt) rfl hv14) dX7_u2_48 ?_
        refine lv_topi (fun z15 ez15 => ?_)
        obtain rfl : z15 = (qI S (qO S 9 0) (((x1 + (1 : Int32)).toInt).toNat)) := ez15
        refine lv_sipush (v := 255) hx hb dX7_u2_49 (by decide) ?_
        refine lv_iand hx hb dX7_u2_52 ?_
        refine lv_topi (fun z16 ez16 => ?_)
        obtain rfl : z16 = ((qI S (qO S 9 0) (((x1 + (1 : Int32)).toInt).toNat)) &&& (255 : Int32)) := ez16
        refine lv_ior hx hb dX7_u2_53 ?_
        refine lv_topi (fun z17 ez17 => ?_)
        obtain rfl : z17 = ((((qI S (qO S 9 0) x1.toInt.toNat) &&& (255 : Int32)) <<< ((8 : Int32) &&& 31)) ||| ((qI S (qO S 9 0) (((x1 + (1 : Int32)).toInt).toNat)) &&& (255 : Int32))) := ez17
        exact W.iret (v := ((((qI S (qO S 9 0) x1.toInt.toNat) &&& (255 : Int32)) <<< ((8 : Int32) &&& 31)) ||| ((qI S (qO S 9 0) (((x1 + (1 : Int32)).toInt).toNat)) &&& (255 : Int32)))) hx hb hr (fun t9 ht9 hW9 => ⟨⟨_, (), rfl, hf.trans hf0.symm, ⟨by rw [ht9]; exact hR.P, hR.D⟩⟩, hR.sS.F ht9⟩) hR.sS.2.2 dX7_u2_54
      · rw [if_neg (k_nle rfl hln5 c6)] at hf
        (try rw [if_neg (k_nle rfl hln5 c6)] at hd)
        refine lv_iconst (v := 0) hx hb dX7_u2_26 (by decide) ?_
        exact W.iret (v := 0) hx hb hr (fun t9 ht9 hW9 => ⟨⟨_, (), rfl, hf.trans hf0.symm, ⟨by rw [ht9]; exact hR.P, hR.D⟩⟩, hR.sS.F ht9⟩) hR.sS.2.2 dX7_u2_27
def fX7_s4 (S : MS) (x1 : Int32) : Int32 := (if x1.toInt < 0 then (0 : Int32) else (if ((qI S 9 1) - (4 : Int32)).toInt < x1.toInt then (0 : Int32) else (if (qI S 9 1).toInt ≤ (qN S (qO S 9 0) : Int) then (((((qI S (qO S 9 0) x1.toInt.toNat) <<< ((24 : Int32) &&& 31)) ||| (((qI S (qO S 9 0) (((x1 + (1 : Int32)).toInt).toNat)) &&& (255 : Int32)) <<< ((16 : Int32) &&& 31))) ||| (((qI S (qO S 9 0) (((x1 + (2 : Int32)).toInt).toNat)) &&& (255 : Int32)) <<< ((8 : Int32) &&& 31))) ||| ((qI S (qO S 9 0) (((x1 + (3 : Int32)).toInt).toNat)) &&& (255 : Int32))) else (0 : Int32))))
def d_X7_s4 (S : MS) (x1 : Int32) : Prop := (if x1.toInt < 0 then True else (if ((qI S 9 1) - (4 : Int32)).toInt < x1.toInt then True else (if (qI S 9 1).toInt ≤ (qN S (qO S 9 0) : Int) then (((0 : Int) ≤ x1.toInt ∧ x1.toInt < (qN S (qO S 9 0) : Int)) ∧ (((0 : Int) ≤ (x1 + (1 : Int32)).toInt ∧ (x1 + (1 : Int32)).toInt < (qN S (qO S 9 0) : Int)) ∧ (((0 : Int) ≤ (x1 + (2 : Int32)).toInt ∧ (x1 + (2 : Int32)).toInt < (qN S (qO S 9 0) : Int)) ∧ (((0 : Int) ≤ (x1 + (3 : Int32)).toInt ∧ (x1 + (3 : Int32)).toInt < (qN S (qO S 9 0) : Int)) ∧ True)))) else True)))
set_option maxHeartbeats 2000000 in
set_option maxRecDepth 100000 in
theorem rX7_s4 (l : Launch) (g : Gr) (ad : Nat → Nat) (sz : Nat) (S : MS) (x1 : Int32) (hw : wfC S) (hd : d_X7_s4 S x1) : Met l yX7_s4 (wt yX7_s4 cX7_s4 2 (some .int)) ({ frames := 0, cells := 0, slots := 0, locals := 0 }) (va_Pc [.ref (ad 9), .int x1] (st_C g ad sz S)) (va_Qi (fun (r : Int32) (_ : Unit) => r = fX7_s4 S x1) (fun (_ : Unit) (t : State) => qEC g ad (va_A (WdC g ad S) sz) S t) (va_A (WdC g ad S) sz)) 0 0 (va_A (WdC g ad S) sz) := by
  refine Met.ofW (cc := cX7_s4) (maxL := 2) (ret := (some .int)) (by decide) rfl ?_
  intro p e s m args below meth c s₁ B hml hv
  obtain ⟨rfl, hsz, hP, hK, hD0, hex, hE⟩ := hv
  have hx := B.exec
  have hb := B.bytes
  have hr := B.returns
  have hts0 := atoms_spec (ws := wt yX7_s4 cX7_s4 2 (some .int)) B.pre
  have hts : ∀ w ∈ tb, w.before _ s = true := fun w h => hts0 w (List.mem_cons_of_mem _ h)
  have hown : s.vm.findClass RX7 = some m.cls := findClass_of_methodNamed B.named
  subst hsz
  have hD := hD0.self (sz := s.heap.size)
  generalize hAe : va_A (WdC g ad S) s.heap.size = A at hD hE ⊢
  have hA : ∀ q : Nat, s.heap.size ≤ q → A q := fun q h => by rw [← hAe]; exact Or.inr h
  have hR : RepC g ad A s S s.heap [] := ⟨hK, hP, hD, va_S.rf, hw⟩
  clear hK hP hD hD0
  have hl := lv_entry ([.ref (ad 9), .int x1]) (n := 2) (Nat.le_of_ble_eq_true rfl)
  rw [lg_entry_eq]
  generalize (lg_sl ([.ref (ad 9), .int x1]) ++ List.replicate (2 - (lg_sl ([.ref (ad 9), .int x1])).length) Slot.unset).toArray = ls at hl ⊢
  have hl : lv_has ls 2 [(0, .ref (ad 9)), (1, .int x1)] := hl
  obtain ⟨r0, hf⟩ : ∃ r0, fX7_s4 S x1 = r0 := ⟨_, rfl⟩
  have hf0 := hf
  unfold fX7_s4 at hf
  unfold d_X7_s4 at hd
  refine lv_iload_n hx hb dX7_s4_0 rfl (lv_at hl 1 rfl) ?_
  refine lv_if_lt (tgt := 26) hx hb dX7_s4_1 (by decide) (fun c1 => ?_) (fun c1 => ?_)
  · rw [if_pos (k_lt rfl (by decide) c1)] at hf
    (try rw [if_pos (k_lt rfl (by decide) c1)] at hd)
    refine lv_iconst (v := 0) hx hb dX7_s4_26 (by decide) ?_
    exact W.iret (v := 0) hx hb hr (fun t9 ht9 hW9 => ⟨⟨_, (), rfl, hf.trans hf0.symm, ⟨by rw [ht9]; exact hR.P, hR.D⟩⟩, hR.sS.F ht9⟩) hR.sS.2.2 dX7_s4_27
  · rw [if_neg (k_nlt rfl (by decide) c1)] at hf
    (try rw [if_neg (k_nlt rfl (by decide) c1)] at hd)
    refine lv_iload_n hx hb dX7_s4_4 rfl (lv_at hl 1 rfl) ?_
    refine lv_aload_n hx hb dX7_s4_5 rfl (lv_at hl 0 rfl) ?_
    refine va_get (D := rD g) (ci := 6) (v := .int (qI S 9 1)) (C := RX7) (T := TX7) (N := 17) hx hb hts inX7 hown hR.K hR.P 9 (hR.at46 (hR.w.2.1 _ finC_2).2.1) rfl 1 (by decide) (hts _ kw_1275) (fun _ h9 => h9) rfl dX7_s4_6 ?_
    refine lv_iconst (v := 4) hx hb dX7_s4_9 (by decide) ?_
    refine lv_isub hx hb dX7_s4_10 ?_
    refine lv_topi (fun z2 ez2 => ?_)
    obtain rfl : z2 = ((qI S 9 1) - (4 : Int32)) := ez2
    refine lv_icmp_gt (tgt := 26) hx hb dX7_s4_11 (by decide) (fun c3 => ?_) (fun c3 => ?_)
    · rw [if_pos (k_lt rfl rfl c3)] at hf
      (try rw [if_pos (k_lt rfl rfl c3)] at hd)
      refine lv_iconst (v := 0) hx hb dX7_s4_26 (by decide) ?_
      exact W.iret (v := 0) hx hb hr (fun t9 ht9 hW9 => ⟨⟨_, (), rfl, hf.trans hf0.symm, ⟨by rw [ht9]; exact hR.P, hR.D⟩⟩, hR.sS.F ht9⟩) hR.sS.2.2 dX7_s4_27
    · rw [if_neg (k_nlt rfl rfl c3)] at hf
      (try rw [if_neg (k_nlt rfl rfl c3)] at hd)
      refine lv_aload_n hx hb dX7_s4_14 rfl (lv_at hl 0 rfl) ?_
      refine va_get (D := rD g) (ci := 6) (v := .int (qI S 9 1)) (C := RX7) (T := TX7) (N := 17) hx hb hts inX7 hown hR.K hR.P 9 (hR.at46 (hR.w.2.1 _ finC_2).2.1) rfl 1 (by decide) (hts _ kw_1275) (fun _ h9 => h9) rfl dX7_s4_15 ?_
      refine lv_aload_n hx hb dX7_s4_18 rfl (lv_at hl 0 rfl) ?_
      have hT_b4 : qT S (qO S 9 0) = 101 := hR.w.ref (hR.w.ptr ptrC_3) (hR.w.2.1 _ finC_2).2.1
      refine va_get (D := rD g) (ci := 6) (v := .ref (ad (qO S 9 0))) (C := RX7) (T := TX7) (N := 17) hx hb hts inX7 hown hR.K hR.P 9 (hR.at46 (hR.w.2.1 _ finC_2).2.1) rfl 0 (by decide) (hts _ kw_1341) (fun _ h9 => h9) (congrArg (fun z => some (vf ad z)) (hR.w.ptr ptrC_3)) dX7_s4_19 ?_
      refine va_alen (v := (Int32.ofNat (qN S (qO S 9 0)))) hx hb hR.K hR.P (qO S 9 0) 0 (hR.atB hT_b4 (by decide)) rfl rfl dX7_s4_22 ?_
      have hln5 : (Int32.ofNat (qN S (qO S 9 0))).toInt = (qN S (qO S 9 0) : Int) := toI_len (hR.w.len9 (hT_b4) (by decide))
      refine lv_icmp_le (tgt := 28) hx hb dX7_s4_23 (by decide) (fun c6 => ?_) (fun c6 => ?_)
      · rw [if_pos (k_le rfl hln5 c6)] at hf
        (try rw [if_pos (k_le rfl hln5 c6)] at hd)
        refine lv_aload_n hx hb dX7_s4_28 rfl (lv_at hl 0 rfl) ?_
        have hT_b7 : qT S (qO S 9 0) = 101 := hR.w.ref (hR.w.ptr ptrC_3) (hR.w.2.1 _ finC_2).2.1
        refine va_get (D := rD g) (ci := 6) (v := .ref (ad (qO S 9 0))) (C := RX7) (T := TX7) (N := 17) hx hb hts inX7 hown hR.K hR.P 9 (hR.at46 (hR.w.2.1 _ finC_2).2.1) rfl 0 (by decide) (hts _ kw_1341) (fun _ h9 => h9) (congrArg (fun z => some (vf ad z)) (hR.w.ptr ptrC_3)) dX7_s4_29 ?_
        refine lv_iload_n hx hb dX7_s4_32 rfl (lv_at hl 1 rfl) ?_
        obtain ⟨hv8, hd⟩ := hd
        refine va_bald hx hb hR.K hR.P (qO S 9 0) 0 (hR.atB hT_b7 (by decide)) rfl (k_ix (x := x1) (a := x1.toInt) rfl hv8) dX7_s4_33 ?_
        refine lv_topi (fun z9 ez9 => ?_)
        obtain rfl : z9 = (qI S (qO S 9 0) x1.toInt.toNat) := ez9
        refine lv_bipush (v := 24) hx hb dX7_s4_34 (by decide) ?_
        refine lv_ishl hx hb dX7_s4_36 ?_
        refine lv_topi (fun z10 ez10 => ?_)
        obtain rfl : z10 = ((qI S (qO S 9 0) x1.toInt.toNat) <<< ((24 : Int32) &&& 31)) := ez10
        refine lv_aload_n hx hb dX7_s4_37 rfl (lv_at hl 0 rfl) ?_
        have hT_b11 : qT S (qO S 9 0) = 101 := hR.w.ref (hR.w.ptr ptrC_3) (hR.w.2.1 _ finC_2).2.1
        refine va_get (D := rD g) (ci := 6) (v := .ref (ad (qO S 9 0))) (C := RX7) (T := TX7) (N := 17) hx hb hts inX7 hown hR.K hR.P 9 (hR.at46 (hR.w.2.1 _ finC_2).2.1) rfl 0 (by decide) (hts _ kw_1341) (fun _ h9 => h9) (congrArg (fun z => some (vf ad z)) (hR.w.ptr ptrC_3)) dX7_s4_38 ?_
        refine lv_iload_n hx hb dX7_s4_41 rfl (lv_at hl 1 rfl) ?_
        refine lv_iconst (v := 1) hx hb dX7_s4_42 (by decide) ?_
        refine lv_iadd hx hb dX7_s4_43 ?_
        refine lv_topi (fun z12 ez12 => ?_)
        obtain rfl : z12 = (x1 + (1 : Int32)) := ez12
        obtain ⟨hv13, hd⟩ := hd
        refine va_bald hx hb hR.K hR.P (qO S 9 0) 0 (hR.atB hT_b11 (by decide)) rfl (k_ix (x := (x1 + (1 : Int32))) (a := (x1 + (1 : Int32)).toInt) rfl hv13) dX7_s4_44 ?_
        refine lv_topi (fun z14 ez14 => ?_)
        obtain rfl : z14 = (qI S (qO S 9 0) (((x1 + (1 : Int32)).toInt).toNat)) := ez14
        refine lv_sipush (v := 255) hx hb dX7_s4_45 (by decide) ?_
        refine lv_iand hx hb dX7_s4_48 ?_
        refine lv_topi (fun z15 ez15 => ?_)
        obtain rfl : z15 = ((qI S (qO S 9 0) (((x1 + (1 : Int32)).toInt).toNat)) &&& (255 : Int32)) := ez15
        refine lv_bipush (v := 16) hx hb dX7_s4_49 (by decide) ?_
        refine lv_ishl hx hb dX7_s4_51 ?_
        refine lv_topi (fun z16 ez16 => ?_)
        obtain rfl : z16 = (((qI S (qO S 9 0) (((x1 + (1 : Int32)).toInt).toNat)) &&& (255 : Int32)) <<< ((16 : Int32) &&& 31)) := ez16
        refine lv_ior hx hb dX7_s4_52 ?_
        refine lv_topi (fun z17 ez17 => ?_)
        obtain rfl : z17 = (((qI S (qO S 9 0) x1.toInt.toNat) <<< ((24 : Int32) &&& 31)) ||| (((qI S (qO S 9 0) (((x1 + (1 : Int32)).toInt).toNat)) &&& (255 : Int32)) <<< ((16 : Int32) &&& 31))) := ez17
        refine lv_aload_n hx hb dX7_s4_53 rfl (lv_at hl 0 rfl) ?_
        have hT_b18 : qT S (qO S 9 0) = 101 := hR.w.ref (hR.w.ptr ptrC_3) (hR.w.2.1 _ finC_2).2.1
        refine va_get (D := rD g) (ci := 6) (v := .ref (ad (qO S 9 0))) (C := RX7) (T := TX7) (N := 17) hx hb hts inX7 hown hR.K hR.P 9 (hR.at46 (hR.w.2.1 _ finC_2).2.1) rfl 0 (by decide) (hts _ kw_1341) (fun _ h9 => h9) (congrArg (fun z => some (vf ad z)) (hR.w.ptr ptrC_3)) dX7_s4_54 ?_
        refine lv_iload_n hx hb dX7_s4_57 rfl (lv_at hl 1 rfl) ?_
        refine lv_iconst (v := 2) hx hb dX7_s4_58 (by decide) ?_
        refine lv_iadd hx hb dX7_s4_59 ?_
        refine lv_topi (fun z19 ez19 => ?_)
        obtain rfl : z19 = (x1 + (2 : Int32)) := ez19
        obtain ⟨hv20, hd⟩ := hd
        refine va_bald hx hb hR.K hR.P (qO S 9 0) 0 (hR.atB hT_b18 (by decide)) rfl (k_ix (x := (x1 + (2 : Int32))) (a := (x1 + (2 : Int32)).toInt) rfl hv20) dX7_s4_60 ?_
        refine lv_topi (fun z21 ez21 => ?_)
        obtain rfl : z21 = (qI S (qO S 9 0) (((x1 + (2 : Int32)).toInt).toNat)) := ez21
        refine lv_sipush (v := 255) hx hb dX7_s4_61 (by decide) ?_
        refine lv_iand hx hb dX7_s4_64 ?_
        refine lv_topi (fun z22 ez22 => ?_)
        obtain rfl : z22 = ((qI S (qO S 9 0) (((x1 + (2 : Int32)).toInt).toNat)) &&& (255 : Int32)) := ez22
        refine lv_bipush (v := 8) hx hb dX7_s4_65 (by decide) ?_
        refine lv_ishl hx hb dX7_s4_67 ?_
        refine lv_topi (fun z23 ez23 => ?_)
        obtain rfl : z23 = (((qI S (qO S 9 0) (((x1 + (2 : Int32)).toInt).toNat)) &&& (255 : Int32)) <<< ((8 : Int32) &&& 31)) := ez23
        refine lv_ior hx hb dX7_s4_68 ?_
        refine lv_topi (fun z24 ez24 => ?_)
        obtain rfl : z24 = ((((qI S (qO S 9 0) x1.toInt.toNat) <<< ((24 : Int32) &&& 31)) ||| (((qI S (qO S 9 0) (((x1 + (1 : Int32)).toInt).toNat)) &&& (255 : Int32)) <<< ((16 : Int32) &&& 31))) ||| (((qI S (qO S 9 0) (((x1 + (2 : Int32)).toInt).toNat)) &&& (255 : Int32)) <<< ((8 : Int32) &&& 31))) := ez24
        refine lv_aload_n hx hb dX7_s4_69 rfl (lv_at hl 0 rfl) ?_
        have hT_b25 : qT S (qO S 9 0) = 101 := hR.w.ref (hR.w.ptr ptrC_3) (hR.w.2.1 _ finC_2).2.1
        refine va_get (D := rD g) (ci := 6) (v := .ref (ad (qO S 9 0))) (C := RX7) (T := TX7) (N := 17) hx hb hts inX7 hown hR.K hR.P 9 (hR.at46 (hR.w.2.1 _ finC_2).2.1) rfl 0 (by decide) (hts _ kw_1341) (fun _ h9 => h9) (congrArg (fun z => some (vf ad z)) (hR.w.ptr ptrC_3)) dX7_s4_70 ?_
        refine lv_iload_n hx hb dX7_s4_73 rfl (lv_at hl 1 rfl) ?_
        refine lv_iconst (v := 3) hx hb dX7_s4_74 (by decide) ?_
        refine lv_iadd hx hb dX7_s4_75 ?_
        refine lv_topi (fun z26 ez26 => ?_)
        obtain rfl : z26 = (x1 + (3 : Int32)) := ez26
        obtain ⟨hv27, hd⟩ := hd
        refine va_bald hx hb hR.K hR.P (qO S 9 0) 0 (hR.atB hT_b25 (by decide)) rfl (k_ix (x := (x1 + (3 : Int32))) (a := (x1 + (3 : Int32)).toInt) rfl hv27) dX7_s4_76 ?_
        refine lv_topi (fun z28 ez28 => ?_)
        obtain rfl : z28 = (qI S (qO S 9 0) (((x1 + (3 : Int32)).toInt).toNat)) := ez28
        refine lv_sipush (v := 255) hx hb dX7_s4_77 (by decide) ?_
        refine lv_iand hx hb dX7_s4_80 ?_
        refine lv_topi (fun z29 ez29 => ?_)
        obtain rfl : z29 = ((qI S (qO S 9 0) (((x1 + (3 : Int32)).toInt).toNat)) &&& (255 : Int32)) := ez29
        refine lv_ior hx hb dX7_s4_81 ?_
        refine lv_topi (fun z30 ez30 => ?_)
        obtain rfl : z30 = (((((qI S (qO S 9 0) x1.toInt.toNat) <<< ((24 : Int32) &&& 31)) ||| (((qI S (qO S 9 0) (((x1 + (1 : Int32)).toInt).toNat)) &&& (255 : Int32)) <<< ((16 : Int32) &&& 31))) ||| (((qI S (qO S 9 0) (((x1 + (2 : Int32)).toInt).toNat)) &&& (255 : Int32)) <<< ((8 : Int32) &&& 31))) ||| ((qI S (qO S 9 0) (((x1 + (3 : Int32)).toInt).toNat)) &&& (255 : Int32))) := ez30
        exact W.iret (v := (((((qI S (qO S 9 0) x1.toInt.toNat) <<< ((24 : Int32) &&& 31)) ||| (((qI S (qO S 9 0) (((x1 + (1 : Int32)).toInt).toNat)) &&& (255 : Int32)) <<< ((16 : Int32) &&& 31))) ||| (((qI S (qO S 9 0) (((x1 + (2 : Int32)).toInt).toNat)) &&& (255 : Int32)) <<< ((8 : Int32) &&& 31))) ||| ((qI S (qO S 9 0) (((x1 + (3 : Int32)).toInt).toNat)) &&& (255 : Int32)))) hx hb hr (fun t9 ht9 hW9 => ⟨⟨_, (), rfl, hf.trans hf0.symm, ⟨by rw [ht9]; exact hR.P, hR.D⟩⟩, hR.sS.F ht9⟩) hR.sS.2.2 dX7_s4_82
      · rw [if_neg (k_nle rfl hln5 c6)] at hf
        (try rw [if_neg (k_nle rfl hln5 c6)] at hd)
        refine lv_iconst (v := 0) hx hb dX7_s4_26 (by decide) ?_
        exact W.iret (v := 0) hx hb hr (fun t9 ht9 hW9 => ⟨⟨_, (), rfl, hf.trans hf0.symm, ⟨by rw [ht9]; exact hR.P, hR.D⟩⟩, hR.sS.F ht9⟩) hR.sS.2.2 dX7_s4_27
def fX7_u4 (S : MS) (x1 : Int32) : Int64 := (((fX7_s4 S x1).toInt64) &&& (4294967295 : Int64))
def d_X7_u4 (S : MS) (x1 : Int32) : Prop := (d_X7_s4 S x1 ∧ True)
set_option maxHeartbeats 2000000 in
set_option maxRecDepth 100000 in
theorem rX7_u4 (l : Launch) (g : Gr) (ad : Nat → Nat) (sz : Nat) (S : MS) (x1 : Int32) (hw : wfC S) (hd : d_X7_u4 S x1) : Met l yX7_u4 (wt yX7_u4 cX7_u4 2 (some .long)) ({ frames := 1, cells := 0, slots := 0, locals := 21 }) (va_Pc [.ref (ad 9), .int x1] (st_C g ad sz S)) (va_Ql (fun (r : Int64) (_ : Unit) => r = fX7_u4 S x1) (fun (_ : Unit) (t : State) => qEC g ad (va_A (WdC g ad S) sz) S t) (va_A (WdC g ad S) sz)) 0 0 (va_A (WdC g ad S) sz) := by
  refine Met.ofW (cc := cX7_u4) (maxL := 2) (ret := (some .long)) (by decide) rfl ?_
  intro p e s m args below meth c s₁ B hml hv
  obtain ⟨rfl, hsz, hP, hK, hD0, hex, hE⟩ := hv
  have hx := B.exec
  have hb := B.bytes
  have hr := B.returns
  have hts0 := atoms_spec (ws := wt yX7_u4 cX7_u4 2 (some .long)) B.pre
  have hts : ∀ w ∈ tb, w.before _ s = true := fun w h => hts0 w (List.mem_cons_of_mem _ h)
  have hown : s.vm.findClass RX7 = some m.cls := findClass_of_methodNamed B.named
  subst hsz
  have hD := hD0.self (sz := s.heap.size)
  generalize hAe : va_A (WdC g ad S) s.heap.size = A at hD hE ⊢
  have hA : ∀ q : Nat, s.heap.size ≤ q → A q := fun q h => by rw [← hAe]; exact Or.inr h
  have hR : RepC g ad A s S s.heap [] := ⟨hK, hP, hD, va_S.rf, hw⟩
  clear hK hP hD hD0
  have hl := lv_entry ([.ref (ad 9), .int x1]) (n := 2) (Nat.le_of_ble_eq_true rfl)
  rw [lg_entry_eq]
  generalize (lg_sl ([.ref (ad 9), .int x1]) ++ List.replicate (2 - (lg_sl ([.ref (ad 9), .int x1])).length) Slot.unset).toArray = ls at hl ⊢
  have hl : lv_has ls 2 [(0, .ref (ad 9)), (1, .int x1)] := hl
  obtain ⟨r0, hf⟩ : ∃ r0, fX7_u4 S x1 = r0 := ⟨_, rfl⟩
  have hf0 := hf
  unfold fX7_u4 at hf
  unfold d_X7_u4 at hd
  refine lv_aload_n hx hb dX7_u4_0 rfl (lv_at hl 0 rfl) ?_
  refine lv_iload_n hx hb dX7_u4_1 rfl (lv_at hl 1 rfl) ?_
  obtain ⟨hv1, hd⟩ := hd
  have hFc := cfree hR hA
  refine va_calli (va_runV (As := [.int x1]) (rest := []) ⟨hx, hb, hml, hown, hts⟩ (rX7_s4 l g ad s.heap.size S x1 hR.w  hv1) (cwV 1 hts (gd_V kw_1268 kw_1429 kw_1430 kw_710 kw_1428) rfl rfl rfl (by decide +kernel) ⟨Nat.le_of_ble_eq_true rfl, Nat.le_of_ble_eq_true rfl⟩) ⟨cblind, va_recv hR.K hR.P (ci := 6) (q0 := 9) rfl (hR.at46 (hR.w.2.1 _ finC_2).2.1), fun U hU hW9 => cmk hU hW9 hR hex hE hFc⟩ rfl rfl hl.1 rfl (lv_room (Nat.le_of_ble_eq_true rfl)) dX7_u4_2 ⟨Nat.le_of_ble_eq_true rfl, Nat.le_of_ble_eq_true rfl⟩) hR.sS (fun q _ h => hFc q h) hFc (fun r2 u9 t9 H1 locs ht9 hvm9 hw9 hB9 hz9 hk9 hS => ?_)
  have hR : RepC g ad A s S H1 locs := hR.call ht9 hB9 hR.w hS hFc
  obtain rfl : r2 = (fX7_s4 S x1) := hw9
  clear hB9 hz9 hk9 hvm9 ht9 hS
  generalize H1 = H at hR ⊢
  refine lv_i2l (v := ((fX7_s4 S x1).toInt64)) hx hb dX7_u4_5 rfl ?_
  refine lv_ldc2 hx hb hown (hts _ kw_1455) dX7_u4_6 ?_
  refine lv_land hx hb dX7_u4_9 ?_
  refine lv_topl (fun z4 ez4 => ?_)
  obtain rfl : z4 = (((fX7_s4 S x1).toInt64) &&& (4294967295 : Int64)) := ez4
  exact W.lret (v := (((fX7_s4 S x1).toInt64) &&& (4294967295 : Int64))) hx hb hr (fun t9 ht9 hW9 => ⟨⟨_, (), rfl, hf.trans hf0.symm, ⟨by rw [ht9]; exact hR.P, hR.D⟩⟩, hR.sS.F ht9⟩) hR.sS.2.2 dX7_u4_10
def w_X7_isThere_J25 (Q : Int32 → MS → Prop) (U25 : MS) : Prop := (wfC U25 → Q (1 : Int32) U25)
def wX7_isThere (S : MS) (x1 : Int32) (Q : Int32 → MS → Prop) : Prop := ((x1.toInt ≤ ((qI S 9 1) - (qI S 9 15)).toInt → w_X7_isThere_J25 Q S) ∧ (¬ x1.toInt ≤ ((qI S 9 1) - (qI S 9 15)).toInt → (∃ Q3, wX7_breaks S (2 : Int32) (qI S 9 1) Q3 ∧ ∀ r4 S5, Q3 r4 S5 → wfC S5 → shy S S5 → ((r4.toInt = 0 → Q (0 : Int32) S5) ∧ (¬ r4.toInt = 0 → w_X7_isThere_J25 Q S5)))))
set_option maxHeartbeats 2000000 in
set_option maxRecDepth 100000 in
theorem rX7_isThere (l : Launch) (g : Gr) (ad : Nat → Nat) (sz : Nat) (S : MS) (x1 : Int32) (hw : wfC S) (Q : Int32 → MS → Prop) (h : wX7_isThere S x1 Q) : Met l yX7_isThere (wt yX7_isThere cX7_isThere 2 (some .boolean)) ({ frames := 1, cells := 0, slots := 0, locals := 22 }) (va_Pc [.ref (ad 9), .int x1] (st_C g ad sz S)) (va_Qi (fun (r : Int32) (u : MS) => Q r u ∧ wfC u ∧ shy S u ∧ (r = 0 ∨ r = 1)) (fun (u : MS) (t : State) => qEC g ad (va_A (WdC g ad S) sz) u t) (va_A (WdC g ad S) sz)) 0 0 (va_A (WdC g ad S) sz) := by
  refine Met.ofW (cc := cX7_isThere) (maxL := 2) (ret := (some .boolean)) (by decide) rfl ?_
  intro p e s m args below meth c s₁ B hml hv
  obtain ⟨rfl, hsz, hP, hK, hD0, hex, hE⟩ := hv
  have hx := B.exec
  have hb := B.bytes
  have hr := B.returns
  have hts0 := atoms_spec (ws := wt yX7_isThere cX7_isThere 2 (some .boolean)) B.pre
  have hts : ∀ w ∈ tb, w.before _ s = true := fun w h => hts0 w (List.mem_cons_of_mem _ h)
  have hown : s.vm.findClass RX7 = some m.cls := findClass_of_methodNamed B.named
  subst hsz
  have hD := hD0.self (sz := s.heap.size)
  generalize hAe : va_A (WdC g ad S) s.heap.size = A at hD hE ⊢
  have hA : ∀ q : Nat, s.heap.size ≤ q → A q := fun q h => by rw [← hAe]; exact Or.inr h
  have hR : RepC g ad A s S s.heap [] := ⟨hK, hP, hD, va_S.rf, hw⟩
  clear hK hP hD hD0
  have hl := lv_entry ([.ref (ad 9), .int x1]) (n := 2) (Nat.le_of_ble_eq_true rfl)
  rw [lg_entry_eq]
  generalize (lg_sl ([.ref (ad 9), .int x1]) ++ List.replicate (2 - (lg_sl ([.ref (ad 9), .int x1])).length) Slot.unset).toArray = ls at hl ⊢
  have hl : lv_has ls 2 [(0, .ref (ad 9)), (1, .int x1)] := hl
  have hsh : shy S S := shy.rf
  unfold wX7_isThere at h
  refine lv_iload_n hx hb dX7_isThere_0 rfl (lv_at hl 1 rfl) ?_
  refine lv_aload_n hx hb dX7_isThere_1 rfl (lv_at hl 0 rfl) ?_
  refine va_get (D := rD g) (ci := 6) (v := .int (qI S 9 1)) (C := RX7) (T := TX7) (N := 17) hx hb hts inX7 hown hR.K hR.P 9 (hR.at46 (hR.w.2.1 _ finC_2).2.1) rfl 1 (by decide) (hts _ kw_1275) (fun _ h9 => h9) rfl dX7_isThere_2 ?_
  refine lv_aload_n hx hb dX7_isThere_5 rfl (lv_at hl 0 rfl) ?_
  refine va_get (D := rD g) (ci := 6) (v := .int (qI S 9 15)) (C := RX7) (T := TX7) (N := 17) hx hb hts inX7 hown hR.K hR.P 9 (hR.at46 (hR.w.2.1 _ finC_2).2.1) rfl 15 (by decide) (hts _ kw_1273) (fun _ h9 => h9) rfl dX7_isThere_6 ?_
  refine lv_isub hx hb dX7_isThere_9 ?_
  refine lv_topi (fun z1 ez1 => ?_)
  obtain rfl : z1 = ((qI S 9 1) - (qI S 9 15)) := ez1
  have J_25 : ∀ (U25 : MS) (H : Heap) (locs : List Loc) (ls : Array Slot), w_X7_isThere_J25 Q U25 → shy S U25 → RepC g ad A s U25 H locs → lv_has ls 2 [] → W p l e (headSpec (wt yX7_isThere cX7_isThere 2 (some .boolean)) ({ frames := 1, cells := 0, slots := 0, locals := 22 })).room s m ([.ref (ad 9), .int x1] : List Value).toArray below meth c H locs 0 0 (MQ below (va_Qi (fun (r : Int32) (u : MS) => Q r u ∧ wfC u ∧ shy S u ∧ (r = 0 ∨ r = 1)) (fun (u : MS) (t : State) => qEC g ad A u t) A) ([.ref (ad 9), .int x1] : List Value).toArray s 0 0 A) (F0 m 25 ls []) := by
    intro U25 H locs ls h hsh hR hl
    unfold w_X7_isThere_J25 at h
    replace h := h hR.w
    refine lv_iconst (v := 1) hx hb dX7_isThere_25 (by decide) ?_
    refine lv_goto (tgt := 30) hx hb dX7_isThere_26 (by decide) ?_
    exact W.zret (v := 1) hx hb hr (nz (Or.inr rfl)) (fun t9 ht9 hW9 => ⟨⟨_, U25, rfl, ⟨h, hR.w, hsh, (Or.inr rfl)⟩, ⟨by rw [ht9]; exact hR.P, hR.D⟩⟩, hR.sS.F ht9⟩) hR.sS.2.2 dX7_isThere_30
  refine lv_icmp_le (tgt := 25) hx hb dX7_isThere_10 (by decide) (fun c2 => ?_) (fun c2 => ?_)
  · replace h := h.1 (k_le rfl rfl c2)
    exact J_25 S _ _ ls h  hsh hR (lv_sub hl [] rfl)
  · replace h := h.2 (k_nle rfl rfl c2)
    refine lv_aload_n hx hb dX7_isThere_13 rfl (lv_at hl 0 rfl) ?_
    refine lv_iconst (v := 2) hx hb dX7_isThere_14 (by decide) ?_
    refine lv_aload_n hx hb dX7_isThere_15 rfl (lv_at hl 0 rfl) ?_
    refine va_get (D := rD g) (ci := 6) (v := .int (qI S 9 1)) (C := RX7) (T := TX7) (N := 17) hx hb hts inX7 hown hR.K hR.P 9 (hR.at46 (hR.w.2.1 _ finC_2).2.1) rfl 1 (by decide) (hts _ kw_1275) (fun _ h9 => h9) rfl dX7_isThere_16 ?_
    obtain ⟨Q3, h0, h⟩ := h
    have hFc := cfree hR hA
    refine va_calli (va_runV (As := [.int 2, .int (qI S 9 1)]) (rest := []) ⟨hx, hb, hml, hown, hts⟩ (rX7_breaks l g ad s.heap.size S (2 : Int32) (qI S 9 1) hR.w  Q3 h0) (cwV 2 hts (gd_V kw_1276 kw_1278 kw_1279 kw_710 kw_1277) rfl rfl rfl (by decide +kernel) ⟨Nat.le_of_ble_eq_true rfl, Nat.le_of_ble_eq_true rfl⟩) ⟨cblind, va_recv hR.K hR.P (ci := 6) (q0 := 9) rfl (hR.at46 (hR.w.2.1 _ finC_2).2.1), fun U hU hW9 => cmk hU hW9 hR hex hE hFc⟩ rfl rfl hl.1 rfl (lv_room (Nat.le_of_ble_eq_true rfl)) dX7_isThere_19 ⟨Nat.le_of_ble_eq_true rfl, Nat.le_of_ble_eq_true rfl⟩) hR.sS (fun q _ h => hFc q h) hFc (fun r4 S5 t9 H1 locs ht9 hvm9 hw9 hB9 hz9 hk9 hS => ?_)
    obtain ⟨hq6, hw9, hs9, hz_r4⟩ := hw9
    have hR : RepC g ad A s S5 H1 locs := hR.call ht9 hB9 hw9 hS hFc
    have hsh := hsh.tr hs9
    replace h := h r4 S5 hq6 hw9 hs9
    clear hB9 hz9 hk9 hvm9 ht9 hw9 hs9 hS
    generalize H1 = H at hR ⊢
    refine lv_if_eq (tgt := 29) hx hb dX7_isThere_22 (by decide) (fun c7 => ?_) (fun c7 => ?_)
    · replace h := h.1 (k_eq rfl (by decide) c7)
      refine lv_iconst (v := 0) hx hb dX7_isThere_29 (by decide) ?_
      exact W.zret (v := 0) hx hb hr (nz (Or.inl rfl)) (fun t9 ht9 hW9 => ⟨⟨_, S5, rfl, ⟨h, hR.w, hsh, (Or.inl rfl)⟩, ⟨by rw [ht9]; exact hR.P, hR.D⟩⟩, hR.sS.F ht9⟩) hR.sS.2.2 dX7_isThere_30
    · replace h := h.2 (k_ne rfl (by decide) c7)
      exact J_25 S5 _ _ ls h  hsh hR (lv_sub hl [] rfl)
def w_X7_magicHolds_L2 (Q : Int32 → MS → Prop) : Nat → MS → Int32 → Prop
  | 0, _, _ => False
  | n2 + 1, U2, v2_1 => (wfC U2 → ((8 ≤ v2_1.toInt → (∀ S4, S4 = wI U2 9 15 (8 : Int32) → qT U2 9 = 46 → wfC S4 → Q (1 : Int32) S4)) ∧ (¬ 8 ≤ v2_1.toInt → ((v2_1.toInt < (qI U2 9 1).toInt → (d_X7_u1 U2 v2_1 ∧ (((0 : Int) ≤ v2_1.toInt ∧ v2_1.toInt < ((8 : Nat) : Int)) ∧ (((fX7_u1 U2 v2_1).toInt = (stMG.getD v2_1.toInt.toNat 0).toInt → (∀ a12 : Int32, a12 = (v2_1 + Int32.ofInt 1) → (w_X7_magicHolds_L2 Q n2) U2 a12)) ∧ (¬ (fX7_u1 U2 v2_1).toInt = (stMG.getD v2_1.toInt.toNat 0).toInt → (∃ Q13, wX7_breaks U2 (1 : Int32) v2_1 Q13 ∧ ∀ r14 S15, Q13 r14 S15 → wfC S15 → shy U2 S15 → Q r14 S15)))))) ∧ (¬ v2_1.toInt < (qI U2 9 1).toInt → (∃ Q17, wX7_breaks U2 (2 : Int32) (qI U2 9 1) Q17 ∧ ∀ r18 S19, Q17 r18 S19 → wfC S19 → shy U2 S19 → Q r18 S19))))))
def wX7_magicHolds (S : MS) (Q : Int32 → MS → Prop) : Prop := (∃ n, w_X7_magicHolds_L2 Q n S 0)
set_option maxHeartbeats 2000000 in
set_option maxRecDepth 100000 in
theorem rX7_magicHolds (l : Launch) (g : Gr) (ad : Nat → Nat) (sz : Nat) (S : MS) (hw : wfC S) (Q : Int32 → MS → Prop) (h : wX7_magicHolds S Q) : Met l yX7_magicHolds (wt yX7_magicHolds cX7_magicHolds 2 (some .boolean)) ({ frames := 1, cells := 0, slots := 0, locals := 22 }) (va_Pc [.ref (ad 9)] (st_C g ad sz S)) (va_Qi (fun (r : Int32) (u : MS) => Q r u ∧ wfC u ∧ shy S u ∧ (r = 0 ∨ r = 1)) (fun (u : MS) (t : State) => qEC g ad (va_A (WdC g ad S) sz) u t) (va_A (WdC g ad S) sz)) 0 0 (va_A (WdC g ad S) sz) := by
  refine Met.ofW (cc := cX7_magicHolds) (maxL := 2) (ret := (some .boolean)) (by decide) rfl ?_
  intro p e s m args below meth c s₁ B hml hv
  obtain ⟨rfl, hsz, hP, hK, hD0, hex, hE⟩ := hv
  have hx := B.exec
  have hb := B.bytes
  have hr := B.returns
  have hts0 := atoms_spec (ws := wt yX7_magicHolds cX7_magicHolds 2 (some .boolean)) B.pre
  have hts : ∀ w ∈ tb, w.before _ s = true := fun w h => hts0 w (List.mem_cons_of_mem _ h)
  have hown : s.vm.findClass RX7 = some m.cls := findClass_of_methodNamed B.named
  subst hsz
  have hD := hD0.self (sz := s.heap.size)
  generalize hAe : va_A (WdC g ad S) s.heap.size = A at hD hE ⊢
  have hA : ∀ q : Nat, s.heap.size ≤ q → A q := fun q h => by rw [← hAe]; exact Or.inr h
  have hR : RepC g ad A s S s.heap [] := ⟨hK, hP, hD, va_S.rf, hw⟩
  clear hK hP hD hD0
  have hl := lv_entry ([.ref (ad 9)]) (n := 2) (Nat.le_of_ble_eq_true rfl)
  rw [lg_entry_eq]
  generalize (lg_sl ([.ref (ad 9)]) ++ List.replicate (2 - (lg_sl ([.ref (ad 9)])).length) Slot.unset).toArray = ls at hl ⊢
  have hl : lv_has ls 2 [(0, .ref (ad 9))] := hl
  have hsh : shy S S := shy.rf
  unfold wX7_magicHolds at h
  refine lv_iconst (v := 0) hx hb dX7_magicHolds_0 (by decide) ?_
  refine lv_istore_n (lv' := [(1, .int 0), (0, .ref (ad 9))]) hx hb dX7_magicHolds_1 rfl hl (by decide) rfl (fun ls hl => ?_)
  have J_2 : ∀ (n2 : Nat) (U2 : MS) (v2_1 : Int32) (H : Heap) (locs : List Loc) (ls : Array Slot), w_X7_magicHolds_L2 Q n2 U2 v2_1 → shy S U2 → RepC g ad A s U2 H locs → lv_has ls 2 [(0, .ref (ad 9)), (1, .int v2_1)] → W p l e (headSpec (wt yX7_magicHolds cX7_magicHolds 2 (some .boolean)) ({ frames := 1, cells := 0, slots := 0, locals := 22 })).room s m ([.ref (ad 9)] : List Value).toArray below meth c H locs 0 0 (MQ below (va_Qi (fun (r : Int32) (u : MS) => Q r u ∧ wfC u ∧ shy S u ∧ (r = 0 ∨ r = 1)) (fun (u : MS) (t : State) => qEC g ad A u t) A) ([.ref (ad 9)] : List Value).toArray s 0 0 A) (F0 m 2 ls []) := by
    intro n2
    induction n2 with
    | zero => intro U2 v2_1 H locs ls h hsh hR hl; unfold w_X7_magicHolds_L2 at h; exact h.elim
    | succ n2 ih_2 =>
      intro U2 v2_1 H locs ls h hsh hR hl
      unfold w_X7_magicHolds_L2 at h
      replace h := h hR.w
      refine lv_iload_n hx hb dX7_magicHolds_2 rfl (lv_at hl 1 rfl) ?_
      obtain ⟨q1, hZ_q1, hG_q1⟩ := id hE.1.2.1
      refine va_getsN (C := "CodeFoundry") (n := "MAGIC") (d := "[I") (v := .ref q1) hx hb hZ_q1 hR.sS hown (va_Nw.use rfl (nw_of nn_X7_97 hex)) (fun _ h9 => h9) dX7_magicHolds_3 ?_
      refine va_tlen (v := 8) hx hb hG_q1 hR.sS rfl dX7_magicHolds_6 ?_
      refine lv_icmp_ge (tgt := 54) hx hb dX7_magicHolds_7 (by decide) (fun c2 => ?_) (fun c2 => ?_)
      · replace h := h.1 (k_le (by decide) rfl c2)
        refine lv_aload_n hx hb dX7_magicHolds_54 rfl (lv_at hl 0 rfl) ?_
        obtain ⟨q3, hZ_q3, hG_q3⟩ := id hE.1.2.1
        refine va_getsN (C := "CodeFoundry") (n := "MAGIC") (d := "[I") (v := .ref q3) hx hb hZ_q3 hR.sS hown (va_Nw.use rfl (nw_of nn_X7_97 hex)) (fun _ h9 => h9) dX7_magicHolds_55 ?_
        refine va_tlen (v := 8) hx hb hG_q3 hR.sS rfl dX7_magicHolds_58 ?_
        refine va_put (D := rD g) (ci := 6) (v := .int 8) (ty := .int) (C := RX7) (T := TX7) (N := 17) hx hb hts inX7 tyX7 tyX7_ok nmX7 hown hR.K hR.P hR.D hR.sS 9 (hR.at46 (hR.w.2.1 _ finC_2).2.1) rfl 15 (by decide) (hts _ kw_1273) (fun _ h9 => h9) rfl (by decide +kernel) rfl rfl (Nat.le_of_ble_eq_true rfl) dX7_magicHolds_59 (fun H locs hP hD hS => ?_)
        have hTk9 : qT U2 9 = 46 := (hR.w.2.1 _ finC_2).2.1
        have hR : RepC g ad A s (wI U2 9 15 (8 : Int32)) H locs := hR.pI46 (hR.w.2.1 _ finC_2).2.1 FX7_s15 (fun q9 => absurd q9 (by decide)) hP hD hS
        obtain ⟨S4, eS4⟩ : ∃ z, z = wI U2 9 15 (8 : Int32) := ⟨_, rfl⟩
        rw [← eS4] at hR
        replace h := h S4 eS4 hTk9 hR.w
        have hsh : shy S S4 := by rw [eS4]; exact hsh
        refine lv_iconst (v := 1) hx hb dX7_magicHolds_62 (by decide) ?_
        exact W.zret (v := 1) hx hb hr (nz (Or.inr rfl)) (fun t9 ht9 hW9 => ⟨⟨_, S4, rfl, ⟨h, hR.w, hsh, (Or.inr rfl)⟩, ⟨by rw [ht9]; exact hR.P, hR.D⟩⟩, hR.sS.F ht9⟩) hR.sS.2.2 dX7_magicHolds_63
      · replace h := h.2 (k_nle (by decide) rfl c2)
        refine lv_iload_n hx hb dX7_magicHolds_10 rfl (lv_at hl 1 rfl) ?_
        refine lv_aload_n hx hb dX7_magicHolds_11 rfl (lv_at hl 0 rfl) ?_
        refine va_get (D := rD g) (ci := 6) (v := .int (qI U2 9 1)) (C := RX7) (T := TX7) (N := 17) hx hb hts inX7 hown hR.K hR.P 9 (hR.at46 (hR.w.2.1 _ finC_2).2.1) rfl 1 (by decide) (hts _ kw_1275) (fun _ h9 => h9) rfl dX7_magicHolds_12 ?_
        refine lv_icmp_lt (tgt := 28) hx hb dX7_magicHolds_15 (by decide) (fun c5 => ?_) (fun c5 => ?_)
        · replace h := h.1 (k_lt rfl rfl c5)
          refine lv_aload_n hx hb dX7_magicHolds_28 rfl (lv_at hl 0 rfl) ?_
          refine lv_iload_n hx hb dX7_magicHolds_29 rfl (lv_at hl 1 rfl) ?_
          obtain ⟨hv6, h⟩ := h
          have hFc := cfree hR hA
          refine va_calli (va_runV (As := [.int v2_1]) (rest := []) ⟨hx, hb, hml, hown, hts⟩ (rX7_u1 l g ad H.size U2 v2_1 hR.w  hv6) (cwV 1 hts (gd_V kw_1304 kw_1447 kw_1448 kw_710 kw_1446) rfl rfl rfl (by decide +kernel) ⟨Nat.le_of_ble_eq_true rfl, Nat.le_of_ble_eq_true rfl⟩) ⟨cblind, va_recv hR.K hR.P (ci := 6) (q0 := 9) rfl (hR.at46 (hR.w.2.1 _ finC_2).2.1), fun U hU hW9 => cmk hU hW9 hR hex hE hFc⟩ rfl rfl hl.1 rfl (lv_room (Nat.le_of_ble_eq_true rfl)) dX7_magicHolds_30 ⟨Nat.le_of_ble_eq_true rfl, Nat.le_of_ble_eq_true rfl⟩) hR.sS (fun q _ h => hFc q h) hFc (fun r7 u9 t9 H1 locs ht9 hvm9 hw9 hB9 hz9 hk9 hS => ?_)
          have hR : RepC g ad A s U2 H1 locs := hR.call ht9 hB9 hR.w hS hFc
          obtain rfl : r7 = (fX7_u1 U2 v2_1) := hw9
          clear hB9 hz9 hk9 hvm9 ht9 hS
          generalize H1 = H at hR ⊢
          obtain ⟨q9, hZ_q9, hG_q9⟩ := id hE.1.2.1
          refine va_getsN (C := "CodeFoundry") (n := "MAGIC") (d := "[I") (v := .ref q9) hx hb hZ_q9 hR.sS hown (va_Nw.use rfl (nw_of nn_X7_97 hex)) (fun _ h9 => h9) dX7_magicHolds_33 ?_
          refine lv_iload_n hx hb dX7_magicHolds_36 rfl (lv_at hl 1 rfl) ?_
          obtain ⟨hv10, h⟩ := h
          refine va_ti (v := .int (stMG.getD v2_1.toInt.toNat 0)) hx hb hG_q9 hR.sS (n_in hv10) rfl dX7_magicHolds_37 ?_
          refine lv_icmp_eq (tgt := 48) hx hb dX7_magicHolds_38 (by decide) (fun c11 => ?_) (fun c11 => ?_)
          · replace h := h.1 (k_eq rfl rfl c11)
            obtain ⟨a12, ea12⟩ : ∃ z, z = (v2_1 + Int32.ofInt 1) := ⟨_, rfl⟩
            replace h := h a12 ea12
            refine lv_iinc (v := a12) (lv' := [(1, .int a12), (0, .ref (ad 9))]) hx hb dX7_magicHolds_48 hl (k := 1) rfl ea12.symm (by decide) rfl (fun ls hl => ?_)
            refine lv_goto (tgt := 2) hx hb dX7_magicHolds_51 (by decide) ?_
            exact ih_2 U2 a12 _ _ ls h  hsh hR (lv_sub hl [1, 0] rfl)
          · replace h := h.2 (k_ne rfl rfl c11)
            refine lv_aload_n hx hb dX7_magicHolds_41 rfl (lv_at hl 0 rfl) ?_
            refine lv_iconst (v := 1) hx hb dX7_magicHolds_42 (by decide) ?_
            refine lv_iload_n hx hb dX7_magicHolds_43 rfl (lv_at hl 1 rfl) ?_
            obtain ⟨Q13, h0, h⟩ := h
            have hFc := cfree hR hA
            refine va_calli (va_runV (As := [.int 1, .int v2_1]) (rest := []) ⟨hx, hb, hml, hown, hts⟩ (rX7_breaks l g ad H.size U2 (1 : Int32) v2_1 hR.w  Q13 h0) (cwV 2 hts (gd_V kw_1276 kw_1278 kw_1279 kw_710 kw_1277) rfl rfl rfl (by decide +kernel) ⟨Nat.le_of_ble_eq_true rfl, Nat.le_of_ble_eq_true rfl⟩) ⟨cblind, va_recv hR.K hR.P (ci := 6) (q0 := 9) rfl (hR.at46 (hR.w.2.1 _ finC_2).2.1), fun U hU hW9 => cmk hU hW9 hR hex hE hFc⟩ rfl rfl hl.1 rfl (lv_room (Nat.le_of_ble_eq_true rfl)) dX7_magicHolds_44 ⟨Nat.le_of_ble_eq_true rfl, Nat.le_of_ble_eq_true rfl⟩) hR.sS (fun q _ h => hFc q h) hFc (fun r14 S15 t9 H1 locs ht9 hvm9 hw9 hB9 hz9 hk9 hS => ?_)
            obtain ⟨hq16, hw9, hs9, hz_r14⟩ := hw9
            have hR : RepC g ad A s S15 H1 locs := hR.call ht9 hB9 hw9 hS hFc
            have hsh := hsh.tr hs9
            replace h := h r14 S15 hq16 hw9 hs9
            clear hB9 hz9 hk9 hvm9 ht9 hw9 hs9 hS
            generalize H1 = H at hR ⊢
            exact W.zret (v := r14) hx hb hr (nz hz_r14) (fun t9 ht9 hW9 => ⟨⟨_, S15, rfl, ⟨h, hR.w, hsh, hz_r14⟩, ⟨by rw [ht9]; exact hR.P, hR.D⟩⟩, hR.sS.F ht9⟩) hR.sS.2.2 dX7_magicHolds_47
        · replace h := h.2 (k_nlt rfl rfl c5)
          refine lv_aload_n hx hb dX7_magicHolds_18 rfl (lv_at hl 0 rfl) ?_
          refine lv_iconst (v := 2) hx hb dX7_magicHolds_19 (by decide) ?_
          refine lv_aload_n hx hb dX7_magicHolds_20 rfl (lv_at hl 0 rfl) ?_
          refine va_get (D := rD g) (ci := 6) (v := .int (qI U2 9 1)) (C := RX7) (T := TX7) (N := 17) hx hb hts inX7 hown hR.K hR.P 9 (hR.at46 (hR.w.2.1 _ finC_2).2.1) rfl 1 (by decide) (hts _ kw_1275) (fun _ h9 => h9) rfl dX7_magicHolds_21 ?_
          obtain ⟨Q17, h0, h⟩ := h
          have hFc := cfree hR hA
          refine va_calli (va_runV (As := [.int 2, .int (qI U2 9 1)]) (rest := []) ⟨hx, hb, hml, hown, hts⟩ (rX7_breaks l g ad H.size U2 (2 : Int32) (qI U2 9 1) hR.w  Q17 h0) (cwV 2 hts (gd_V kw_1276 kw_1278 kw_1279 kw_710 kw_1277) rfl rfl rfl (by decide +kernel) ⟨Nat.le_of_ble_eq_true rfl, Nat.le_of_ble_eq_true rfl⟩) ⟨cblind, va_recv hR.K hR.P (ci := 6) (q0 := 9) rfl (hR.at46 (hR.w.2.1 _ finC_2).2.1), fun U hU hW9 => cmk hU hW9 hR hex hE hFc⟩ rfl rfl hl.1 rfl (lv_room (Nat.le_of_ble_eq_true rfl)) dX7_magicHolds_24 ⟨Nat.le_of_ble_eq_true rfl, Nat.le_of_ble_eq_true rfl⟩) hR.sS (fun q _ h => hFc q h) hFc (fun r18 S19 t9 H1 locs ht9 hvm9 hw9 hB9 hz9 hk9 hS => ?_)
          obtain ⟨hq20, hw9, hs9, hz_r18⟩ := hw9
          have hR : RepC g ad A s S19 H1 locs := hR.call ht9 hB9 hw9 hS hFc
          have hsh := hsh.tr hs9
          replace h := h r18 S19 hq20 hw9 hs9
          clear hB9 hz9 hk9 hvm9 ht9 hw9 hs9 hS
          generalize H1 = H at hR ⊢
          exact W.zret (v := r18) hx hb hr (nz hz_r18) (fun t9 ht9 hW9 => ⟨⟨_, S19, rfl, ⟨h, hR.w, hsh, hz_r18⟩, ⟨by rw [ht9]; exact hR.P, hR.D⟩⟩, hR.sS.F ht9⟩) hR.sS.2.2 dX7_magicHolds_27
  obtain ⟨n9, h⟩ := h
  exact J_2 n9 S 0 _ _ ls h  hsh hR (lv_sub hl [1, 0] rfl)
def fX7_entryLength (S : MS) (x1 : Int32) : Int32 := (if x1.toInt = 1 then ((3 : Int32) + (fX7_u2 S ((qI S 9 15) + (1 : Int32)))) else (if x1.toInt = 2 then (0 : Int32) else (if x1.toInt = 3 then (5 : Int32) else (if x1.toInt = 4 then (0 : Int32) else (if x1.toInt = 5 then (9 : Int32) else (if x1.toInt = 6 then (0 : Int32) else (if x1.toInt = 7 then (3 : Int32) else (if x1.toInt = 8 then (0 : Int32) else (if x1.toInt = 9 then (5 : Int32) else (if x1.toInt = 10 then (5 : Int32) else (if x1.toInt = 11 then (0 : Int32) else (if x1.toInt = 12 then (5 : Int32) else (0 : Int32)))))))))))))
def d_X7_entryLength (S : MS) (x1 : Int32) : Prop := (if x1.toInt = 1 then (d_X7_u2 S ((qI S 9 15) + (1 : Int32)) ∧ True) else True)
set_option maxHeartbeats 2000000 in
set_option maxRecDepth 100000 in
theorem rX7_entryLength (l : Launch) (g : Gr) (ad : Nat → Nat) (sz : Nat) (S : MS) (x1 : Int32) (hw : wfC S) (hd : d_X7_entryLength S x1) : Met l yX7_entryLength (wt yX7_entryLength cX7_entryLength 2 (some .int)) ({ frames := 1, cells := 0, slots := 0, locals := 21 }) (va_Pc [.ref (ad 9), .int x1] (st_C g ad sz S)) (va_Qi (fun (r : Int32) (_ : Unit) => r = fX7_entryLength S x1) (fun (_ : Unit) (t : State) => qEC g ad (va_A (WdC g ad S) sz) S t) (va_A (WdC g ad S) sz)) 0 0 (va_A (WdC g ad S) sz) := by
  refine Met.ofW (cc := cX7_entryLength) (maxL := 2) (ret := (some .int)) (by decide) rfl ?_
  intro p e s m args below meth c s₁ B hml hv
  obtain ⟨rfl, hsz, hP, hK, hD0, hex, hE⟩ := hv
  have hx := B.exec
  have hb := B.bytes
  have hr := B.returns
  have hts0 := atoms_spec (ws := wt yX7_entryLength cX7_entryLength 2 (some .int)) B.pre
  have hts : ∀ w ∈ tb, w.before _ s = true := fun w h => hts0 w (List.mem_cons_of_mem _ h)
  have hown : s.vm.findClass RX7 = some m.cls := findClass_of_methodNamed B.named
  subst hsz
  have hD := hD0.self (sz := s.heap.size)
  generalize hAe : va_A (WdC g ad S) s.heap.size = A at hD hE ⊢
  have hA : ∀ q : Nat, s.heap.size ≤ q → A q := fun q h => by rw [← hAe]; exact Or.inr h
  have hR : RepC g ad A s S s.heap [] := ⟨hK, hP, hD, va_S.rf, hw⟩
  clear hK hP hD hD0
  have hl := lv_entry ([.ref (ad 9), .int x1]) (n := 2) (Nat.le_of_ble_eq_true rfl)
  rw [lg_entry_eq]
  generalize (lg_sl ([.ref (ad 9), .int x1]) ++ List.replicate (2 - (lg_sl ([.ref (ad 9), .int x1])).length) Slot.unset).toArray = ls at hl ⊢
  have hl : lv_has ls 2 [(0, .ref (ad 9)), (1, .int x1)] := hl
  obtain ⟨r0, hf⟩ : ∃ r0, fX7_entryLength S x1 = r0 := ⟨_, rfl⟩
  have hf0 := hf
  unfold fX7_entryLength at hf
  unfold d_X7_entryLength at hd
  refine lv_iload_n hx hb dX7_entryLength_0 rfl (lv_at hl 1 rfl) ?_
  by_cases c9_1 : x1.toInt = 1
  · refine lv_tableIn (off := 63) (tgt := 64) hx hb dX7_entryLength_1 (by rw [c9_1]; decide) (by rw [c9_1]; decide) (by rw [c9_1]; rfl) (by decide) ?_
    rw [if_pos (c9_1)] at hf
    (try rw [if_pos (c9_1)] at hd)
    refine lv_iconst (v := 3) hx hb dX7_entryLength_64 (by decide) ?_
    refine lv_aload_n hx hb dX7_entryLength_65 rfl (lv_at hl 0 rfl) ?_
    refine lv_aload_n hx hb dX7_entryLength_66 rfl (lv_at hl 0 rfl) ?_
    refine va_get (D := rD g) (ci := 6) (v := .int (qI S 9 15)) (C := RX7) (T := TX7) (N := 17) hx hb hts inX7 hown hR.K hR.P 9 (hR.at46 (hR.w.2.1 _ finC_2).2.1) rfl 15 (by decide) (hts _ kw_1273) (fun _ h9 => h9) rfl dX7_entryLength_67 ?_
    refine lv_iconst (v := 1) hx hb dX7_entryLength_70 (by decide) ?_
    refine lv_iadd hx hb dX7_entryLength_71 ?_
    refine lv_topi (fun z1 ez1 => ?_)
    obtain rfl : z1 = ((qI S 9 15) + (1 : Int32)) := ez1
    obtain ⟨hv2, hd⟩ := hd
    have hFc := cfree hR hA
    refine va_calli (va_runV (As := [.int ((qI S 9 15) + (1 : Int32))]) (rest := [.int 3]) ⟨hx, hb, hml, hown, hts⟩ (rX7_u2 l g ad s.heap.size S ((qI S 9 15) + (1 : Int32)) hR.w  hv2) (cwV 1 hts (gd_V kw_1266 kw_1450 kw_1451 kw_710 kw_1449) rfl rfl rfl (by decide +kernel) ⟨Nat.le_of_ble_eq_true rfl, Nat.le_of_ble_eq_true rfl⟩) ⟨cblind, va_recv hR.K hR.P (ci := 6) (q0 := 9) rfl (hR.at46 (hR.w.2.1 _ finC_2).2.1), fun U hU hW9 => cmk hU hW9 hR hex hE hFc⟩ rfl rfl hl.1 rfl (lv_room (Nat.le_of_ble_eq_true rfl)) dX7_entryLength_72 ⟨Nat.le_of_ble_eq_true rfl, Nat.le_of_ble_eq_true rfl⟩) hR.sS (fun q _ h => hFc q h) hFc (fun r3 u9 t9 H1 locs ht9 hvm9 hw9 hB9 hz9 hk9 hS => ?_)
    have hR : RepC g ad A s S H1 locs := hR.call ht9 hB9 hR.w hS hFc
    obtain rfl : r3 = (fX7_u2 S ((qI S 9 15) + (1 : Int32))) := hw9
    clear hB9 hz9 hk9 hvm9 ht9 hS
    generalize H1 = H at hR ⊢
    refine lv_iadd hx hb dX7_entryLength_75 ?_
    refine lv_topi (fun z5 ez5 => ?_)
    obtain rfl : z5 = ((3 : Int32) + (fX7_u2 S ((qI S 9 15) + (1 : Int32)))) := ez5
    exact W.iret (v := ((3 : Int32) + (fX7_u2 S ((qI S 9 15) + (1 : Int32))))) hx hb hr (fun t9 ht9 hW9 => ⟨⟨_, (), rfl, hf.trans hf0.symm, ⟨by rw [ht9]; exact hR.P, hR.D⟩⟩, hR.sS.F ht9⟩) hR.sS.2.2 dX7_entryLength_76
  rw [if_neg c9_1] at hf
  (try rw [if_neg c9_1] at hd)
  by_cases c9_2 : x1.toInt = 2
  · refine lv_tableIn (off := 83) (tgt := 84) hx hb dX7_entryLength_1 (by rw [c9_2]; decide) (by rw [c9_2]; decide) (by rw [c9_2]; rfl) (by decide) ?_
    rw [if_pos (c9_2)] at hf
    (try rw [if_pos (c9_2)] at hd)
    refine lv_iconst (v := 0) hx hb dX7_entryLength_84 (by decide) ?_
    exact W.iret (v := 0) hx hb hr (fun t9 ht9 hW9 => ⟨⟨_, (), rfl, hf.trans hf0.symm, ⟨by rw [ht9]; exact hR.P, hR.D⟩⟩, hR.sS.F ht9⟩) hR.sS.2.2 dX7_entryLength_85
  rw [if_neg c9_2] at hf
  (try rw [if_neg c9_2] at hd)
  by_cases c9_3 : x1.toInt = 3
  · refine lv_tableIn (off := 78) (tgt := 79) hx hb dX7_entryLength_1 (by rw [c9_3]; decide) (by rw [c9_3]; decide) (by rw [c9_3]; rfl) (by decide) ?_
    rw [if_pos (c9_3)] at hf
    (try rw [if_pos (c9_3)] at hd)
    refine lv_iconst (v := 5) hx hb dX7_entryLength_79 (by decide) ?_
    exact W.iret (v := 5) hx hb hr (fun t9 ht9 hW9 => ⟨⟨_, (), rfl, hf.trans hf0.symm, ⟨by rw [ht9]; exact hR.P, hR.D⟩⟩, hR.sS.F ht9⟩) hR.sS.2.2 dX7_entryLength_80
  rw [if_neg c9_3] at hf
  (try rw [if_neg c9_3] at hd)
  by_cases c9_4 : x1.toInt = 4
  · refine lv_tableIn (off := 83) (tgt := 84) hx hb dX7_entryLength_1 (by rw [c9_4]; decide) (by rw [c9_4]; decide) (by rw [c9_4]; rfl) (by decide) ?_
    rw [if_pos (c9_4)] at hf
    (try rw [if_pos (c9_4)] at hd)
    refine lv_iconst (v := 0) hx hb dX7_entryLength_84 (by decide) ?_
    exact W.iret (v := 0) hx hb hr (fun t9 ht9 hW9 => ⟨⟨_, (), rfl, hf.trans hf0.symm, ⟨by rw [ht9]; exact hR.P, hR.D⟩⟩, hR.sS.F ht9⟩) hR.sS.2.2 dX7_entryLength_85
  rw [if_neg c9_4] at hf
  (try rw [if_neg c9_4] at hd)
  by_cases c9_5 : x1.toInt = 5
  · refine lv_tableIn (off := 80) (tgt := 81) hx hb dX7_entryLength_1 (by rw [c9_5]; decide) (by rw [c9_5]; decide) (by rw [c9_5]; rfl) (by decide) ?_
    rw [if_pos (c9_5)] at hf
    (try rw [if_pos (c9_5)] at hd)
    refine lv_bipush (v := 9) hx hb dX7_entryLength_81 (by decide) ?_
    exact W.iret (v := 9) hx hb hr (fun t9 ht9 hW9 => ⟨⟨_, (), rfl, hf.trans hf0.symm, ⟨by rw [ht9]; exact hR.P, hR.D⟩⟩, hR.sS.F ht9⟩) hR.sS.2.2 dX7_entryLength_83
  rw [if_neg c9_5] at hf
  (try rw [if_neg c9_5] at hd)
  by_cases c9_6 : x1.toInt = 6
  · refine lv_tableIn (off := 83) (tgt := 84) hx hb dX7_entryLength_1 (by rw [c9_6]; decide) (by rw [c9_6]; decide) (by rw [c9_6]; rfl) (by decide) ?_
    rw [if_pos (c9_6)] at hf
    (try rw [if_pos (c9_6)] at hd)
    refine lv_iconst (v := 0) hx hb dX7_entryLength_84 (by decide) ?_
    exact W.iret (v := 0) hx hb hr (fun t9 ht9 hW9 => ⟨⟨_, (), rfl, hf.trans hf0.symm, ⟨by rw [ht9]; exact hR.P, hR.D⟩⟩, hR.sS.F ht9⟩) hR.sS.2.2 dX7_entryLength_85
  rw [if_neg c9_6] at hf
  (try rw [if_neg c9_6] at hd)
  by_cases c9_7 : x1.toInt = 7
  · refine lv_tableIn (off := 76) (tgt := 77) hx hb dX7_entryLength_1 (by rw [c9_7]; decide) (by rw [c9_7]; decide) (by rw [c9_7]; rfl) (by decide) ?_
    rw [if_pos (c9_7)] at hf
    (try rw [if_pos (c9_7)] at hd)
    refine lv_iconst (v := 3) hx hb dX7_entryLength_77 (by decide) ?_
    exact W.iret (v := 3) hx hb hr (fun t9 ht9 hW9 => ⟨⟨_, (), rfl, hf.trans hf0.symm, ⟨by rw [ht9]; exact hR.P, hR.D⟩⟩, hR.sS.F ht9⟩) hR.sS.2.2 dX7_entryLength_78
  rw [if_neg c9_7] at hf
  (try rw [if_neg c9_7] at hd)
  by_cases c9_8 : x1.toInt = 8
  · refine lv_tableIn (off := 83) (tgt := 84) hx hb dX7_entryLength_1 (by rw [c9_8]; decide) (by rw [c9_8]; decide) (by rw [c9_8]; rfl) (by decide) ?_
    rw [if_pos (c9_8)] at hf
    (try rw [if_pos (c9_8)] at hd)
    refine lv_iconst (v := 0) hx hb dX7_entryLength_84 (by decide) ?_
    exact W.iret (v := 0) hx hb hr (fun t9 ht9 hW9 => ⟨⟨_, (), rfl, hf.trans hf0.symm, ⟨by rw [ht9]; exact hR.P, hR.D⟩⟩, hR.sS.F ht9⟩) hR.sS.2.2 dX7_entryLength_85
  rw [if_neg c9_8] at hf
  (try rw [if_neg c9_8] at hd)
  by_cases c9_9 : x1.toInt = 9
  · refine lv_tableIn (off := 78) (tgt := 79) hx hb dX7_entryLength_1 (by rw [c9_9]; decide) (by rw [c9_9]; decide) (by rw [c9_9]; rfl) (by decide) ?_
    rw [if_pos (c9_9)] at hf
    (try rw [if_pos (c9_9)] at hd)
    refine lv_iconst (v := 5) hx hb dX7_entryLength_79 (by decide) ?_
    exact W.iret (v := 5) hx hb hr (fun t9 ht9 hW9 => ⟨⟨_, (), rfl, hf.trans hf0.symm, ⟨by rw [ht9]; exact hR.P, hR.D⟩⟩, hR.sS.F ht9⟩) hR.sS.2.2 dX7_entryLength_80
  rw [if_neg c9_9] at hf
  (try rw [if_neg c9_9] at hd)
  by_cases c9_10 : x1.toInt = 10
  · refine lv_tableIn (off := 78) (tgt := 79) hx hb dX7_entryLength_1 (by rw [c9_10]; decide) (by rw [c9_10]; decide) (by rw [c9_10]; rfl) (by decide) ?_
    rw [if_pos (c9_10)] at hf
    (try rw [if_pos (c9_10)] at hd)
    refine lv_iconst (v := 5) hx hb dX7_entryLength_79 (by decide) ?_
    exact W.iret (v := 5) hx hb hr (fun t9 ht9 hW9 => ⟨⟨_, (), rfl, hf.trans hf0.symm, ⟨by rw [ht9]; exact hR.P, hR.D⟩⟩, hR.sS.F ht9⟩) hR.sS.2.2 dX7_entryLength_80
  rw [if_neg c9_10] at hf
  (try rw [if_neg c9_10] at hd)
  by_cases c9_11 : x1.toInt = 11
  · refine lv_tableIn (off := 83) (tgt := 84) hx hb dX7_entryLength_1 (by rw [c9_11]; decide) (by rw [c9_11]; decide) (by rw [c9_11]; rfl) (by decide) ?_
    rw [if_pos (c9_11)] at hf
    (try rw [if_pos (c9_11)] at hd)
    refine lv_iconst (v := 0) hx hb dX7_entryLength_84 (by decide) ?_
    exact W.iret (v := 0) hx hb hr (fun t9 ht9 hW9 => ⟨⟨_, (), rfl, hf.trans hf0.symm, ⟨by rw [ht9]; exact hR.P, hR.D⟩⟩, hR.sS.F ht9⟩) hR.sS.2.2 dX7_entryLength_85
  rw [if_neg c9_11] at hf
  (try rw [if_neg c9_11] at hd)
  by_cases c9_12 : x1.toInt = 12
  · refine lv_tableIn (off := 78) (tgt := 79) hx hb dX7_entryLength_1 (by rw [c9_12]; decide) (by rw [c9_12]; decide) (by rw [c9_12]; rfl) (by decide) ?_
    rw [if_pos (c9_12)] at hf
    (try rw [if_pos (c9_12)] at hd)
    refine lv_iconst (v := 5) hx hb dX7_entryLength_79 (by decide) ?_
    exact W.iret (v := 5) hx hb hr (fun t9 ht9 hW9 => ⟨⟨_, (), rfl, hf.trans hf0.symm, ⟨by rw [ht9]; exact hR.P, hR.D⟩⟩, hR.sS.F ht9⟩) hR.sS.2.2 dX7_entryLength_80
  rw [if_neg c9_12] at hf
  (try rw [if_neg c9_12] at hd)
  refine lv_tableOut (tgt := 84) hx hb dX7_entryLength_1 (by omega) (by decide) ?_
  refine lv_iconst (v := 0) hx hb dX7_entryLength_84 (by decide) ?_
  exact W.iret (v := 0) hx hb hr (fun t9 ht9 hW9 => ⟨⟨_, (), rfl, hf.trans hf0.symm, ⟨by rw [ht9]; exact hR.P, hR.D⟩⟩, hR.sS.F ht9⟩) hR.sS.2.2 dX7_entryLength_85
def w_X7_nameFits_J32 (Q : Int32 → MS → Prop) (U32 : MS) : Prop := (wfC U32 → (∃ Q11, wX7_breaks U32 (4 : Int32) (qI U32 9 15) Q11 ∧ ∀ r12 S13, Q11 r12 S13 → wfC S13 → shy U32 S13 → Q r12 S13))
def w_X7_nameFits_J105 (Q : Int32 → MS → Prop) (U105 : MS) (v105_1 : Int32) : Prop := (wfC U105 → (∃ Q22, wX7_isThere U105 ((3 : Int32) + v105_1) Q22 ∧ ∀ r23 S24, Q22 r23 S24 → wfC S24 → shy U105 S24 → Q r23 S24))
def w_X7_nameFits_J89 (Q : Int32 → MS → Prop) (U89 : MS) : Prop := (wfC U89 → (∃ Q31, wX7_breaks U89 (4 : Int32) (qI U89 9 15) Q31 ∧ ∀ r32 S33, Q31 r32 S33 → wfC S33 → shy U89 S33 → Q r32 S33))
def w_X7_nameFits_L49 (Q : Int32 → MS → Prop) : Nat → MS → Int32 → Int32 → Prop
  | 0, _, _, _ => False
  | n49 + 1, U49, v49_1, v49_2 => (wfC U49 → (((((qI U49 9 15) + (3 : Int32)) + v49_1).toInt ≤ v49_2.toInt → w_X7_nameFits_J105 Q U49 v49_1) ∧ (¬ (((qI U49 9 15) + (3 : Int32)) + v49_1).toInt ≤ v49_2.toInt → (((qI U49 9 1).toInt ≤ v49_2.toInt → w_X7_nameFits_J105 Q U49 v49_1) ∧ (¬ (qI U49 9 1).toInt ≤ v49_2.toInt → (d_X7_u1 U49 v49_2 ∧ (((fX7_u1 U49 v49_2).toInt < 33 → w_X7_nameFits_J89 Q U49) ∧ (¬ (fX7_u1 U49 v49_2).toInt < 33 → (d_X7_u1 U49 v49_2 ∧ (((fX7_u1 U49 v49_2).toInt ≤ 126 → (∀ a40 : Int32, a40 = (v49_2 + Int32.ofInt 1) → (w_X7_nameFits_L49 Q n49) U49 v49_1 a40)) ∧ (¬ (fX7_u1 U49 v49_2).toInt ≤ 126 → w_X7_nameFits_J89 Q U49)))))))))))
def wX7_nameFits (S : MS) (Q : Int32 → MS → Prop) : Prop := (∃ Q1, wX7_isThere S (3 : Int32) Q1 ∧ ∀ r2 S3, Q1 r2 S3 → wfC S3 → shy S S3 → ((r2.toInt = 0 → Q (0 : Int32) S3) ∧ (¬ r2.toInt = 0 → (d_X7_u2 S3 ((qI S3 9 15) + (1 : Int32)) ∧ (∀ a10 : Int32, a10 = (fX7_u2 S3 ((qI S3 9 15) + (1 : Int32))) → ((a10.toInt < 1 → w_X7_nameFits_J32 Q S3) ∧ (¬ a10.toInt < 1 → ((a10.toInt ≤ 100 → (∀ a18 : Int32, a18 = ((qI S3 9 15) + (3 : Int32)) → (∃ n, w_X7_nameFits_L49 Q n S3 a10 a18))) ∧ (¬ a10.toInt ≤ 100 → w_X7_nameFits_J32 Q S3)))))))))
set_option maxHeartbeats 2000000 in
set_option maxRecDepth 100000 in
theorem rX7_nameFits (l : Launch) (g : Gr) (ad : Nat → Nat) (sz : Nat) (S : MS) (hw : wfC S) (Q : Int32 → MS → Prop) (h : wX7_nameFits S Q) : Met l yX7_nameFits (wt yX7_nameFits cX7_nameFits 3 (some .boolean)) ({ frames := 2, cells := 0, slots := 0, locals := 43 }) (va_Pc [.ref (ad 9)] (st_C g ad sz S)) (va_Qi (fun (r : Int32) (u : MS) => Q r u ∧ wfC u ∧ shy S u ∧ (r = 0 ∨ r = 1)) (fun (u : MS) (t : State) => qEC g ad (va_A (WdC g ad S) sz) u t) (va_A (WdC g ad S) sz)) 0 0 (va_A (WdC g ad S) sz) := by
  refine Met.ofW (cc := cX7_nameFits) (maxL := 3) (ret := (some .boolean)) (by decide) rfl ?_
  intro p e s m args below meth c s₁ B hml hv
  obtain ⟨rfl, hsz, hP, hK, hD0, hex, hE⟩ := hv
  have hx := B.exec
  have hb := B.bytes
  have hr := B.returns
  have hts0 := atoms_spec (ws := wt yX7_nameFits cX7_nameFits 3 (some .boolean)) B.pre
  have hts : ∀ w ∈ tb, w.before _ s = true := fun w h => hts0 w (List.mem_cons_of_mem _ h)
  have hown : s.vm.findClass RX7 = some m.cls := findClass_of_methodNamed B.named
  subst hsz
  have hD := hD0.self (sz := s.heap.size)
  generalize hAe : va_A (WdC g ad S) s.heap.size = A at hD hE ⊢
  have hA : ∀ q : Nat, s.heap.size ≤ q → A q := fun q h => by rw [← hAe]; exact Or.inr h
  have hR : RepC g ad A s S s.heap [] := ⟨hK, hP, hD, va_S.rf, hw⟩
  clear hK hP hD hD0
  have hl := lv_entry ([.ref (ad 9)]) (n := 3) (Nat.le_of_ble_eq_true rfl)
  rw [lg_entry_eq]
  generalize (lg_sl ([.ref (ad 9)]) ++ List.replicate (3 - (lg_sl ([.ref (ad 9)])).length) Slot.unset).toArray = ls at hl ⊢
  have hl : lv_has ls 3 [(0, .ref (ad 9))] := hl
  have hsh : shy S S := shy.rf
  unfold wX7_nameFits at h
  refine lv_aload_n hx hb dX7_nameFits_0 rfl (lv_at hl 0 rfl) ?_
  refine lv_iconst (v := 3) hx hb dX7_nameFits_1 (by decide) ?_
  obtain ⟨Q1, h0, h⟩ := h
  have hFc := cfree hR hA
  refine va_calli (va_runV (As := [.int 3]) (rest := []) ⟨hx, hb, hml, hown, hts⟩ (rX7_isThere l g ad s.heap.size S (3 : Int32) hR.w  Q1 h0) (cwV 1 hts (gd_V kw_1272 kw_1382 kw_1383 kw_710 kw_1381) rfl rfl rfl (by decide +kernel) ⟨Nat.le_of_ble_eq_true rfl, Nat.le_of_ble_eq_true rfl⟩) ⟨cblind, va_recv hR.K hR.P (ci := 6) (q0 := 9) rfl (hR.at46 (hR.w.2.1 _ finC_2).2.1), fun U hU hW9 => cmk hU hW9 hR hex hE hFc⟩ rfl rfl hl.1 rfl (lv_room (Nat.le_of_ble_eq_true rfl)) dX7_nameFits_2 ⟨Nat.le_of_ble_eq_true rfl, Nat.le_of_ble_eq_true rfl⟩) hR.sS (fun q _ h => hFc q h) hFc (fun r2 S3 t9 H1 locs ht9 hvm9 hw9 hB9 hz9 hk9 hS => ?_)
  obtain ⟨hq4, hw9, hs9, hz_r2⟩ := hw9
  have hR : RepC g ad A s S3 H1 locs := hR.call ht9 hB9 hw9 hS hFc
  have hsh := hsh.tr hs9
  replace h := h r2 S3 hq4 hw9 hs9
  clear hB9 hz9 hk9 hvm9 ht9 hw9 hs9 hS
  generalize H1 = H at hR ⊢
  refine lv_if_ne (tgt := 10) hx hb dX7_nameFits_5 (by decide) (fun c5 => ?_) (fun c5 => ?_)
  · replace h := h.2 (k_ne rfl (by decide) c5)
    refine lv_aload_n hx hb dX7_nameFits_10 rfl (lv_at hl 0 rfl) ?_
    refine lv_aload_n hx hb dX7_nameFits_11 rfl (lv_at hl 0 rfl) ?_
    refine va_get (D := rD g) (ci := 6) (v := .int (qI S3 9 15)) (C := RX7) (T := TX7) (N := 17) hx hb hts inX7 hown hR.K hR.P 9 (hR.at46 (hR.w.2.1 _ finC_2).2.1) rfl 15 (by decide) (hts _ kw_1273) (fun _ h9 => h9) rfl dX7_nameFits_12 ?_
    refine lv_iconst (v := 1) hx hb dX7_nameFits_15 (by decide) ?_
    refine lv_iadd hx hb dX7_nameFits_16 ?_
    refine lv_topi (fun z6 ez6 => ?_)
    obtain rfl : z6 = ((qI S3 9 15) + (1 : Int32)) := ez6
    obtain ⟨hv7, h⟩ := h
    have hFc := cfree hR hA
    refine va_calli (va_runV (As := [.int ((qI S3 9 15) + (1 : Int32))]) (rest := []) ⟨hx, hb, hml, hown, hts⟩ (rX7_u2 l g ad H.size S3 ((qI S3 9 15) + (1 : Int32)) hR.w  hv7) (cwV 1 hts (gd_V kw_1266 kw_1450 kw_1451 kw_710 kw_1449) rfl rfl rfl (by decide +kernel) ⟨Nat.le_of_ble_eq_true rfl, Nat.le_of_ble_eq_true rfl⟩) ⟨cblind, va_recv hR.K hR.P (ci := 6) (q0 := 9) rfl (hR.at46 (hR.w.2.1 _ finC_2).2.1), fun U hU hW9 => cmk hU hW9 hR hex hE hFc⟩ rfl rfl hl.1 rfl (lv_room (Nat.le_of_ble_eq_true rfl)) dX7_nameFits_17 ⟨Nat.le_of_ble_eq_true rfl, Nat.le_of_ble_eq_true rfl⟩) hR.sS (fun q _ h => hFc q h) hFc (fun r8 u9 t9 H1 locs ht9 hvm9 hw9 hB9 hz9 hk9 hS => ?_)
    have hR : RepC g ad A s S3 H1 locs := hR.call ht9 hB9 hR.w hS hFc
    obtain rfl : r8 = (fX7_u2 S3 ((qI S3 9 15) + (1 : Int32))) := hw9
    clear hB9 hz9 hk9 hvm9 ht9 hS
    generalize H1 = H at hR ⊢
    obtain ⟨a10, ea10⟩ : ∃ z, z = (fX7_u2 S3 ((qI S3 9 15) + (1 : Int32))) := ⟨_, rfl⟩
    rw [← ea10]
    replace h := h a10 ea10
    refine lv_istore_n (lv' := [(1, .int a10), (0, .ref (ad 9))]) hx hb dX7_nameFits_20 rfl hl (by decide) rfl (fun ls hl => ?_)
    refine lv_iload_n hx hb dX7_nameFits_21 rfl (lv_at hl 0 rfl) ?_
    refine lv_iconst (v := 1) hx hb dX7_nameFits_22 (by decide) ?_
    have J_32 : ∀ (U32 : MS) (H : Heap) (locs : List Loc) (ls : Array Slot), w_X7_nameFits_J32 Q U32 → shy S U32 → RepC g ad A s U32 H locs → lv_has ls 3 [(0, .ref (ad 9))] → W p l e (headSpec (wt yX7_nameFits cX7_nameFits 3 (some .boolean)) ({ frames := 2, cells := 0, slots := 0, locals := 43 })).room s m ([.ref (ad 9)] : List Value).toArray below meth c H locs 0 0 (MQ below (va_Qi (fun (r : Int32) (u : MS) => Q r u ∧ wfC u ∧ shy S u ∧ (r = 0 ∨ r = 1)) (fun (u : MS) (t : State) => qEC g ad A u t) A) ([.ref (ad 9)] : List Value).toArray s 0 0 A) (F0 m 32 ls []) := by
      intro U32 H locs ls h hsh hR hl
      unfold w_X7_nameFits_J32 at h
      replace h := h hR.w
      refine lv_aload_n hx hb dX7_nameFits_32 rfl (lv_at hl 0 rfl) ?_
      refine lv_iconst (v := 4) hx hb dX7_nameFits_33 (by decide) ?_
      refine lv_aload_n hx hb dX7_nameFits_34 rfl (lv_at hl 0 rfl) ?_
      refine va_get (D := rD g) (ci := 6) (v := .int (qI U32 9 15)) (C := RX7) (T := TX7) (N := 17) hx hb hts inX7 hown hR.K hR.P 9 (hR.at46 (hR.w.2.1 _ finC_2).2.1) rfl 15 (by decide) (hts _ kw_1273) (fun _ h9 => h9) rfl dX7_nameFits_35 ?_
      obtain ⟨Q11, h0, h⟩ := h
      have hFc := cfree hR hA
      refine va_calli (va_runV (As := [.int 4, .int (qI U32 9 15)]) (rest := []) ⟨hx, hb, hml, hown, hts⟩ (rX7_breaks l g ad H.size U32 (4 : Int32) (qI U32 9 15) hR.w  Q11 h0) (cwV 2 hts (gd_V kw_1276 kw_1278 kw_1279 kw_710 kw_1277) rfl rfl rfl (by decide +kernel) ⟨Nat.le_of_ble_eq_true rfl, Nat.le_of_ble_eq_true rfl⟩) ⟨cblind, va_recv hR.K hR.P (ci := 6) (q0 := 9) rfl (hR.at46 (hR.w.2.1 _ finC_2).2.1), fun U hU hW9 => cmk hU hW9 hR hex hE hFc⟩ rfl rfl hl.1 rfl (lv_room (Nat.le_of_ble_eq_true rfl)) dX7_nameFits_38 ⟨Nat.le_of_ble_eq_true rfl, Nat.le_of_ble_eq_true rfl⟩) hR.sS (fun q _ h => hFc q h) hFc (fun r12 S13 t9 H1 locs ht9 hvm9 hw9 hB9 hz9 hk9 hS => ?_)
      obtain ⟨hq14, hw9, hs9, hz_r12⟩ := hw9
      have hR : RepC g ad A s S13 H1 locs := hR.call ht9 hB9 hw9 hS hFc
      have hsh := hsh.tr hs9
      replace h := h r12 S13 hq14 hw9 hs9
      clear hB9 hz9 hk9 hvm9 ht9 hw9 hs9 hS
      generalize H1 = H at hR ⊢
      exact W.zret (v := r12) hx hb hr (nz hz_r12) (fun t9 ht9 hW9 => ⟨⟨_, S13, rfl, ⟨h, hR.w, hsh, hz_r12⟩, ⟨by rw [ht9]; exact hR.P, hR.D⟩⟩, hR.sS.F ht9⟩) hR.sS.2.2 dX7_nameFits_41
    refine lv_icmp_lt (tgt := 32) hx hb dX7_nameFits_23 (by decide) (fun c15 => ?_) (fun c15 => ?_)
    · replace h := h.1 (k_lt rfl (by decide) c15)
      exact J_32 S3 _ _ ls h  hsh hR (lv_sub hl [1] rfl)
    · replace h := h.2 (k_nlt rfl (by decide) c15)
      refine lv_iload_n hx hb dX7_nameFits_26 rfl (lv_at hl 0 rfl) ?_
      refine lv_bipush (v := 100) hx hb dX7_nameFits_27 (by decide) ?_
      refine lv_icmp_le (tgt := 42) hx hb dX7_nameFits_29 (by decide) (fun c16 => ?_) (fun c16 => ?_)
      · replace h := h.1 (k_le rfl (by decide) c16)
        refine lv_aload_n hx hb dX7_nameFits_42 rfl (lv_at hl 1 rfl) ?_
        refine va_get (D := rD g) (ci := 6) (v := .int (qI S3 9 15)) (C := RX7) (T := TX7) (N := 17) hx hb hts inX7 hown hR.K hR.P 9 (hR.at46 (hR.w.2.1 _ finC_2).2.1) rfl 15 (by decide) (hts _ kw_1273) (fun _ h9 => h9) rfl dX7_nameFits_43 ?_
        refine lv_iconst (v := 3) hx hb dX7_nameFits_46 (by decide) ?_
        refine lv_iadd hx hb dX7_nameFits_47 ?_
        refine lv_topi (fun z17 ez17 => ?_)
        obtain rfl : z17 = ((qI S3 9 15) + (3 : Int32)) := ez17
        obtain ⟨a18, ea18⟩ : ∃ z, z = ((qI S3 9 15) + (3 : Int32)) := ⟨_, rfl⟩
        rw [← ea18]
        replace h := h a18 ea18
        refine lv_istore_n (lv' := [(2, .int a18), (1, .int a10), (0, .ref (ad 9))]) hx hb dX7_nameFits_48 rfl hl (by decide) rfl (fun ls hl => ?_)
        have J_49 : ∀ (n49 : Nat) (U49 : MS) (v49_1 : Int32) (v49_2 : Int32) (H : Heap) (locs : List Loc) (ls : Array Slot), w_X7_nameFits_L49 Q n49 U49 v49_1 v49_2 → shy S U49 → RepC g ad A s U49 H locs → lv_has ls 3 [(0, .ref (ad 9)), (1, .int v49_1), (2, .int v49_2)] → W p l e (headSpec (wt yX7_nameFits cX7_nameFits 3 (some .boolean)) ({ frames := 2, cells := 0, slots := 0, locals := 43 })).room s m ([.ref (ad 9)] : List Value).toArray below meth c H locs 0 0 (MQ below (va_Qi (fun (r : Int32) (u : MS) => Q r u ∧ wfC u ∧ shy S u ∧ (r = 0 ∨ r = 1)) (fun (u : MS) (t : State) => qEC g ad A u t) A) ([.ref (ad 9)] : List Value).toArray s 0 0 A) (F0 m 49 ls []) := by
          intro n49
          induction n49 with
          | zero => intro U49 v49_1 v49_2 H locs ls h hsh hR hl; unfold w_X7_nameFits_L49 at h; exact h.elim
          | succ n49 ih_49 =>
            intro U49 v49_1 v49_2 H locs ls h hsh hR hl
            unfold w_X7_nameFits_L49 at h
            replace h := h hR.w
            refine lv_iload_n hx hb dX7_nameFits_49 rfl (lv_at hl 2 rfl) ?_
            refine lv_aload_n hx hb dX7_nameFits_50 rfl (lv_at hl 0 rfl) ?_
            refine va_get (D := rD g) (ci := 6) (v := .int (qI U49 9 15)) (C := RX7) (T := TX7) (N := 17) hx hb hts inX7 hown hR.K hR.P 9 (hR.at46 (hR.w.2.1 _ finC_2).2.1) rfl 15 (by decide) (hts _ kw_1273) (fun _ h9 => h9) rfl dX7_nameFits_51 ?_
            refine lv_iconst (v := 3) hx hb dX7_nameFits_54 (by decide) ?_
            refine lv_iadd hx hb dX7_nameFits_55 ?_
            refine lv_topi (fun z19 ez19 => ?_)
            obtain rfl : z19 = ((qI U49 9 15) + (3 : Int32)) := ez19
            refine lv_iload_n hx hb dX7_nameFits_56 rfl (lv_at hl 1 rfl) ?_
            refine lv_iadd hx hb dX7_nameFits_57 ?_
            refine lv_topi (fun z20 ez20 => ?_)
            obtain rfl : z20 = (((qI U49 9 15) + (3 : Int32)) + v49_1) := ez20
            have J_105 : ∀ (U105 : MS) (v105_1 : Int32) (H : Heap) (locs : List Loc) (ls : Array Slot), w_X7_nameFits_J105 Q U105 v105_1 → shy S U105 → RepC g ad A s U105 H locs → lv_has ls 3 [(0, .ref (ad 9)), (1, .int v105_1)] → W p l e (headSpec (wt yX7_nameFits cX7_nameFits 3 (some .boolean)) ({ frames := 2, cells := 0, slots := 0, locals := 43 })).room s m ([.ref (ad 9)] : List Value).toArray below meth c H locs 0 0 (MQ below (va_Qi (fun (r : Int32) (u : MS) => Q r u ∧ wfC u ∧ shy S u ∧ (r = 0 ∨ r = 1)) (fun (u : MS) (t : State) => qEC g ad A u t) A) ([.ref (ad 9)] : List Value).toArray s 0 0 A) (F0 m 105 ls []) := by
              intro U105 v105_1 H locs ls h hsh hR hl
              unfold w_X7_nameFits_J105 at h
              replace h := h hR.w
              refine lv_aload_n hx hb dX7_nameFits_105 rfl (lv_at hl 0 rfl) ?_
              refine lv_iconst (v := 3) hx hb dX7_nameFits_106 (by decide) ?_
              refine lv_iload_n hx hb dX7_nameFits_107 rfl (lv_at hl 1 rfl) ?_
              refine lv_iadd hx hb dX7_nameFits_108 ?_
              refine lv_topi (fun z21 ez21 => ?_)
              obtain rfl : z21 = ((3 : Int32) + v105_1) := ez21
              obtain ⟨Q22, h0, h⟩ := h
              have hFc := cfree hR hA
              refine va_calli (va_runV (As := [.int ((3 : Int32) + v105_1)]) (rest := []) ⟨hx, hb, hml, hown, hts⟩ (rX7_isThere l g ad H.size U105 ((3 : Int32) + v105_1) hR.w  Q22 h0) (cwV 1 hts (gd_V kw_1272 kw_1382 kw_1383 kw_710 kw_1381) rfl rfl rfl (by decide +kernel) ⟨Nat.le_of_ble_eq_true rfl, Nat.le_of_ble_eq_true rfl⟩) ⟨cblind, va_recv hR.K hR.P (ci := 6) (q0 := 9) rfl (hR.at46 (hR.w.2.1 _ finC_2).2.1), fun U hU hW9 => cmk hU hW9 hR hex hE hFc⟩ rfl rfl hl.1 rfl (lv_room (Nat.le_of_ble_eq_true rfl)) dX7_nameFits_109 ⟨Nat.le_of_ble_eq_true rfl, Nat.le_of_ble_eq_true rfl⟩) hR.sS (fun q _ h => hFc q h) hFc (fun r23 S24 t9 H1 locs ht9 hvm9 hw9 hB9 hz9 hk9 hS => ?_)
              obtain ⟨hq25, hw9, hs9, hz_r23⟩ := hw9
              have hR : RepC g ad A s S24 H1 locs := hR.call ht9 hB9 hw9 hS hFc
              have hsh := hsh.tr hs9
              replace h := h r23 S24 hq25 hw9 hs9
              clear hB9 hz9 hk9 hvm9 ht9 hw9 hs9 hS
              generalize H1 = H at hR ⊢
              exact W.zret (v := r23) hx hb hr (nz hz_r23) (fun t9 ht9 hW9 => ⟨⟨_, S24, rfl, ⟨h, hR.w, hsh, hz_r23⟩, ⟨by rw [ht9]; exact hR.P, hR.D⟩⟩, hR.sS.F ht9⟩) hR.sS.2.2 dX7_nameFits_112
            refine lv_icmp_ge (tgt := 105) hx hb dX7_nameFits_58 (by decide) (fun c26 => ?_) (fun c26 => ?_)
            · replace h := h.1 (k_le rfl rfl c26)
              exact J_105 U49 v49_1 _ _ ls h  hsh hR (lv_sub hl [0, 1] rfl)
            · replace h := h.2 (k_nle rfl rfl c26)
              refine lv_iload_n hx hb dX7_nameFits_61 rfl (lv_at hl 2 rfl) ?_
              refine lv_aload_n hx hb dX7_nameFits_62 rfl (lv_at hl 0 rfl) ?_
              refine va_get (D := rD g) (ci := 6) (v := .int (qI U49 9 1)) (C := RX7) (T := TX7) (N := 17) hx hb hts inX7 hown hR.K hR.P 9 (hR.at46 (hR.w.2.1 _ finC_2).2.1) rfl 1 (by decide) (hts _ kw_1275) (fun _ h9 => h9) rfl dX7_nameFits_63 ?_
              refine lv_icmp_ge (tgt := 105) hx hb dX7_nameFits_66 (by decide) (fun c27 => ?_) (fun c27 => ?_)
              · replace h := h.1 (k_le rfl rfl c27)
                exact J_105 U49 v49_1 _ _ ls h  hsh hR (lv_sub hl [0, 1] rfl)
              · replace h := h.2 (k_nle rfl rfl c27)
                refine lv_aload_n hx hb dX7_nameFits_69 rfl (lv_at hl 0 rfl) ?_
                refine lv_iload_n hx hb dX7_nameFits_70 rfl (lv_at hl 2 rfl) ?_
                obtain ⟨hv28, h⟩ := h
                have hFc := cfree hR hA
                refine va_calli (va_runV (As := [.int v49_2]) (rest := []) ⟨hx, hb, hml, hown, hts⟩ (rX7_u1 l g ad H.size U49 v49_2 hR.w  hv28) (cwV 1 hts (gd_V kw_1304 kw_1447 kw_1448 kw_710 kw_1446) rfl rfl rfl (by decide +kernel) ⟨Nat.le_of_ble_eq_true rfl, Nat.le_of_ble_eq_true rfl⟩) ⟨cblind, va_recv hR.K hR.P (ci := 6) (q0 := 9) rfl (hR.at46 (hR.w.2.1 _ finC_2).2.1), fun U hU hW9 => cmk hU hW9 hR hex hE hFc⟩ rfl rfl hl.1 rfl (lv_room (Nat.le_of_ble_eq_true rfl)) dX7_nameFits_71 ⟨Nat.le_of_ble_eq_true rfl, Nat.le_of_ble_eq_true rfl⟩) hR.sS (fun q _ h => hFc q h) hFc (fun r29 u9 t9 H1 locs ht9 hvm9 hw9 hB9 hz9 hk9 hS => ?_)
                have hR : RepC g ad A s U49 H1 locs := hR.call ht9 hB9 hR.w hS hFc
                obtain rfl : r29 = (fX7_u1 U49 v49_2) := hw9
                clear hB9 hz9 hk9 hvm9 ht9 hS
                generalize H1 = H at hR ⊢
                refine lv_bipush (v := 33) hx hb dX7_nameFits_74 (by decide) ?_
                have J_89 : ∀ (U89 : MS) (H : Heap) (locs : List Loc) (ls : Array Slot), w_X7_nameFits_J89 Q U89 → shy S U89 → RepC g ad A s U89 H locs → lv_has ls 3 [(0, .ref (ad 9))] → W p l e (headSpec (wt yX7_nameFits cX7_nameFits 3 (some .boolean)) ({ frames := 2, cells := 0, slots := 0, locals := 43 })).room s m ([.ref (ad 9)] : List Value).toArray below meth c H locs 0 0 (MQ below (va_Qi (fun (r : Int32) (u : MS) => Q r u ∧ wfC u ∧ shy S u ∧ (r = 0 ∨ r = 1)) (fun (u : MS) (t : State) => qEC g ad A u t) A) ([.ref (ad 9)] : List Value).toArray s 0 0 A) (F0 m 89 ls []) := by
                  intro U89 H locs ls h hsh hR hl
                  unfold w_X7_nameFits_J89 at h
                  replace h := h hR.w
                  refine lv_aload_n hx hb dX7_nameFits_89 rfl (lv_at hl 0 rfl) ?_
                  refine lv_iconst (v := 4) hx hb dX7_nameFits_90 (by decide) ?_
                  refine lv_aload_n hx hb dX7_nameFits_91 rfl (lv_at hl 0 rfl) ?_
                  refine va_get (D := rD g) (ci := 6) (v := .int (qI U89 9 15)) (C := RX7) (T := TX7) (N := 17) hx hb hts inX7 hown hR.K hR.P 9 (hR.at46 (hR.w.2.1 _ finC_2).2.1) rfl 15 (by decide) (hts _ kw_1273) (fun _ h9 => h9) rfl dX7_nameFits_92 ?_
                  obtain ⟨Q31, h0, h⟩ := h
                  have hFc := cfree hR hA
                  refine va_calli (va_runV (As := [.int 4, .int (qI U89 9 15)]) (rest := []) ⟨hx, hb, hml, hown, hts⟩ (rX7_breaks l g ad H.size U89 (4 : Int32) (qI U89 9 15) hR.w  Q31 h0) (cwV 2 hts (gd_V kw_1276 kw_1278 kw_1279 kw_710 kw_1277) rfl rfl rfl (by decide +kernel) ⟨Nat.le_of_ble_eq_true rfl, Nat.le_of_ble_eq_true rfl⟩) ⟨cblind, va_recv hR.K hR.P (ci := 6) (q0 := 9) rfl (hR.at46 (hR.w.2.1 _ finC_2).2.1), fun U hU hW9 => cmk hU hW9 hR hex hE hFc⟩ rfl rfl hl.1 rfl (lv_room (Nat.le_of_ble_eq_true rfl)) dX7_nameFits_95 ⟨Nat.le_of_ble_eq_true rfl, Nat.le_of_ble_eq_true rfl⟩) hR.sS (fun q _ h => hFc q h) hFc (fun r32 S33 t9 H1 locs ht9 hvm9 hw9 hB9 hz9 hk9 hS => ?_)
                  obtain ⟨hq34, hw9, hs9, hz_r32⟩ := hw9
                  have hR : RepC g ad A s S33 H1 locs := hR.call ht9 hB9 hw9 hS hFc
                  have hsh := hsh.tr hs9
                  replace h := h r32 S33 hq34 hw9 hs9
                  clear hB9 hz9 hk9 hvm9 ht9 hw9 hs9 hS
                  generalize H1 = H at hR ⊢
                  exact W.zret (v := r32) hx hb hr (nz hz_r32) (fun t9 ht9 hW9 => ⟨⟨_, S33, rfl, ⟨h, hR.w, hsh, hz_r32⟩, ⟨by rw [ht9]; exact hR.P, hR.D⟩⟩, hR.sS.F ht9⟩) hR.sS.2.2 dX7_nameFits_98
                refine lv_icmp_lt (tgt := 89) hx hb dX7_nameFits_76 (by decide) (fun c35 => ?_) (fun c35 => ?_)
                · replace h := h.1 (k_lt rfl (by decide) c35)
                  exact J_89 U49 _ _ ls h  hsh hR (lv_sub hl [0] rfl)
                · replace h := h.2 (k_nlt rfl (by decide) c35)
                  refine lv_aload_n hx hb dX7_nameFits_79 rfl (lv_at hl 0 rfl) ?_
                  refine lv_iload_n hx hb dX7_nameFits_80 rfl (lv_at hl 2 rfl) ?_
                  obtain ⟨hv36, h⟩ := h
                  have hFc := cfree hR hA
                  refine va_calli (va_runV (As := [.int v49_2]) (rest := []) ⟨hx, hb, hml, hown, hts⟩ (rX7_u1 l g ad H.size U49 v49_2 hR.w  hv36) (cwV 1 hts (gd_V kw_1304 kw_1447 kw_1448 kw_710 kw_1446) rfl rfl rfl (by decide +kernel) ⟨Nat.le_of_ble_eq_true rfl, Nat.le_of_ble_eq_true rfl⟩) ⟨cblind, va_recv hR.K hR.P (ci := 6) (q0 := 9) rfl (hR.at46 (hR.w.2.1 _ finC_2).2.1), fun U hU hW9 => cmk hU hW9 hR hex hE hFc⟩ rfl rfl hl.1 rfl (lv_room (Nat.le_of_ble_eq_true rfl)) dX7_nameFits_81 ⟨Nat.le_of_ble_eq_true rfl, Nat.le_of_ble_eq_true rfl⟩) hR.sS (fun q _ h => hFc q h) hFc (fun r37 u9 t9 H1 locs ht9 hvm9 hw9 hB9 hz9 hk9 hS => ?_)
                  have hR : RepC g ad A s U49 H1 locs := hR.call ht9 hB9 hR.w hS hFc
                  obtain rfl : r37 = (fX7_u1 U49 v49_2) := hw9
                  clear hB9 hz9 hk9 hvm9 ht9 hS
                  generalize H1 = H at hR ⊢
                  refine lv_bipush (v := 126) hx hb dX7_nameFits_84 (by decide) ?_
                  refine lv_icmp_le (tgt := 99) hx hb dX7_nameFits_86 (by decide) (fun c39 => ?_) (fun c39 => ?_)
                  · replace h := h.1 (k_le rfl (by decide) c39)
                    obtain ⟨a40, ea40⟩ : ∃ z, z = (v49_2 + Int32.ofInt 1) := ⟨_, rfl⟩
                    replace h := h a40 ea40
                    refine lv_iinc (v := a40) (lv' := [(2, .int a40), (0, .ref (ad 9)), (1, .int v49_1)]) hx hb dX7_nameFits_99 hl (k := 2) rfl ea40.symm (by decide) rfl (fun ls hl => ?_)
                    refine lv_goto (tgt := 49) hx hb dX7_nameFits_102 (by decide) ?_
                    exact ih_49 U49 v49_1 a40 _ _ ls h  hsh hR (lv_sub hl [1, 2, 0] rfl)
                  · replace h := h.2 (k_nle rfl (by decide) c39)
                    exact J_89 U49 _ _ ls h  hsh hR (lv_sub hl [0] rfl)
        obtain ⟨n9, h⟩ := h
        exact J_49 n9 S3 a10 a18 _ _ ls h  hsh hR (lv_sub hl [2, 1, 0] rfl)
      · replace h := h.2 (k_nle rfl (by decide) c16)
        exact J_32 S3 _ _ ls h  hsh hR (lv_sub hl [1] rfl)
  · replace h := h.1 (k_eq rfl (by decide) c5)
    refine lv_iconst (v := 0) hx hb dX7_nameFits_8 (by decide) ?_
    exact W.zret (v := 0) hx hb hr (nz (Or.inl rfl)) (fun t9 ht9 hW9 => ⟨⟨_, S3, rfl, ⟨h, hR.w, hsh, (Or.inl rfl)⟩, ⟨by rw [ht9]; exact hR.P, hR.D⟩⟩, hR.sS.F ht9⟩) hR.sS.2.2 dX7_nameFits_9
def wX7_headFits (S : MS) (Q : Int32 → MS → Prop) : Prop := (∀ S1, S1 = wI S 9 6 (qI S 9 15) → qT S 9 = 46 → wfC S1 → (∃ Q2, wX7_isThere S1 (8 : Int32) Q2 ∧ ∀ r3 S4, Q2 r3 S4 → wfC S4 → shy S1 S4 → ((r3.toInt = 0 → Q (0 : Int32) S4) ∧ (¬ r3.toInt = 0 → (∀ S8, S8 = wI S4 9 15 ((qI S4 9 15) + (8 : Int32)) → qT S4 9 = 46 → wfC S8 → Q (1 : Int32) S8)))))
set_option maxHeartbeats 2000000 in
set_option maxRecDepth 100000 in
theorem rX7_headFits (l : Launch) (g : Gr) (ad : Nat → Nat) (sz : Nat) (S : MS) (hw : wfC S) (Q : Int32 → MS → Prop) (h : wX7_headFits S Q) : Met l yX7_headFits (wt yX7_headFits cX7_headFits 1 (some .boolean)) ({ frames := 2, cells := 0, slots := 0, locals := 43 }) (va_Pc [.ref (ad 9)] (st_C g ad sz S)) (va_Qi (fun (r : Int32) (u : MS) => Q r u ∧ wfC u ∧ shy S u ∧ (r = 0 ∨ r = 1)) (fun (u : MS) (t : State) => qEC g ad (va_A (WdC g ad S) sz) u t) (va_A (WdC g ad S) sz)) 0 0 (va_A (WdC g ad S) sz) := by
  refine Met.ofW (cc := cX7_headFits) (maxL := 1) (ret := (some .boolean)) (by decide) rfl ?_
  intro p e s m args below meth c s₁ B hml hv
  obtain ⟨rfl, hsz, hP, hK, hD0, hex, hE⟩ := hv
  have hx := B.exec
  have hb := B.bytes
  have hr := B.returns
  have hts0 := atoms_spec (ws := wt yX7_headFits cX7_headFits 1 (some .boolean)) B.pre
  have hts : ∀ w ∈ tb, w.before _ s = true := fun w h => hts0 w (List.mem_cons_of_mem _ h)
  have hown : s.vm.findClass RX7 = some m.cls := findClass_of_methodNamed B.named
  subst hsz
  have hD := hD0.self (sz := s.heap.size)
  generalize hAe : va_A (WdC g ad S) s.heap.size = A at hD hE ⊢
  have hA : ∀ q : Nat, s.heap.size ≤ q → A q := fun q h => by rw [← hAe]; exact Or.inr h
  have hR : RepC g ad A s S s.heap [] := ⟨hK, hP, hD, va_S.rf, hw⟩
  clear hK hP hD hD0
  have hl := lv_entry ([.ref (ad 9)]) (n := 1) (Nat.le_of_ble_eq_true rfl)
  rw [lg_entry_eq]
  generalize (lg_sl ([.ref (ad 9)]) ++ List.replicate (1 - (lg_sl ([.ref (ad 9)])).length) Slot.unset).toArray = ls at hl ⊢
  have hl : lv_has ls 1 [(0, .ref (ad 9))] := hl
  have hsh : shy S S := shy.rf
  unfold wX7_headFits at h
  refine lv_aload_n hx hb dX7_headFits_0 rfl (lv_at hl 0 rfl) ?_
  refine lv_aload_n hx hb dX7_headFits_1 rfl (lv_at hl 0 rfl) ?_
  refine va_get (D := rD g) (ci := 6) (v := .int (qI S 9 15)) (C := RX7) (T := TX7) (N := 17) hx hb hts inX7 hown hR.K hR.P 9 (hR.at46 (hR.w.2.1 _ finC_2).2.1) rfl 15 (by decide) (hts _ kw_1273) (fun _ h9 => h9) rfl dX7_headFits_2 ?_
  refine va_put (D := rD g) (ci := 6) (v := .int (qI S 9 15)) (ty := .int) (C := RX7) (T := TX7) (N := 17) hx hb hts inX7 tyX7 tyX7_ok nmX7 hown hR.K hR.P hR.D hR.sS 9 (hR.at46 (hR.w.2.1 _ finC_2).2.1) rfl 6 (by decide) (hts _ kw_1331) (fun _ h9 => h9) rfl (by decide +kernel) rfl rfl (Nat.le_of_ble_eq_true rfl) dX7_headFits_5 (fun H locs hP hD hS => ?_)
  have hTk9 : qT S 9 = 46 := (hR.w.2.1 _ finC_2).2.1
  have hR : RepC g ad A s (wI S 9 6 (qI S 9 15)) H locs := hR.pI46 (hR.w.2.1 _ finC_2).2.1 FX7_s6 (fun q9 => absurd q9 (by decide)) hP hD hS
  obtain ⟨S1, eS1⟩ : ∃ z, z = wI S 9 6 (qI S 9 15) := ⟨_, rfl⟩
  rw [← eS1] at hR
  replace h := h S1 eS1 hTk9 hR.w
  have hsh : shy S S1 := by rw [eS1]; exact hsh
  refine lv_aload_n hx hb dX7_headFits_8 rfl (lv_at hl 0 rfl) ?_
  refine lv_bipush (v := 8) hx hb dX7_headFits_9 (by decide) ?_
  obtain ⟨Q2, h0, h⟩ := h
  have hFc := cfree hR hA
  refine va_calli (va_runV (As := [.int 8]) (rest := []) ⟨hx, hb, hml, hown, hts⟩ (rX7_isThere l g ad H.size S1 (8 : Int32) hR.w  Q2 h0) (cwV 1 hts (gd_V kw_1272 kw_1382 kw_1383 kw_710 kw_1381) rfl rfl rfl (by decide +kernel) ⟨Nat.le_of_ble_eq_true rfl, Nat.le_of_ble_eq_true rfl⟩) ⟨cblind, va_recv hR.K hR.P (ci := 6) (q0 := 9) rfl (hR.at46 (hR.w.2.1 _ finC_2).2.1), fun U hU hW9 => cmk hU hW9 hR hex hE hFc⟩ rfl rfl hl.1 rfl (lv_room (Nat.le_of_ble_eq_true rfl)) dX7_headFits_11 ⟨Nat.le_of_ble_eq_true rfl, Nat.le_of_ble_eq_true rfl⟩) hR.sS (fun q _ h => hFc q h) hFc (fun r3 S4 t9 H1 locs ht9 hvm9 hw9 hB9 hz9 hk9 hS => ?_)
  obtain ⟨hq5, hw9, hs9, hz_r3⟩ := hw9
  have hR : RepC g ad A s S4 H1 locs := hR.call ht9 hB9 hw9 hS hFc
  have hsh := hsh.tr hs9
  replace h := h r3 S4 hq5 hw9 hs9
  clear hB9 hz9 hk9 hvm9 ht9 hw9 hs9 hS
  generalize H1 = H at hR ⊢
  refine lv_if_ne (tgt := 19) hx hb dX7_headFits_14 (by decide) (fun c6 => ?_) (fun c6 => ?_)
  · replace h := h.2 (k_ne rfl (by decide) c6)
    refine lv_aload_n hx hb dX7_headFits_19 rfl (lv_at hl 0 rfl) ?_
    refine lv_dup hx hb dX7_headFits_20 rfl ?_
    refine va_get (D := rD g) (ci := 6) (v := .int (qI S4 9 15)) (C := RX7) (T := TX7) (N := 17) hx hb hts inX7 hown hR.K hR.P 9 (hR.at46 (hR.w.2.1 _ finC_2).2.1) rfl 15 (by decide) (hts _ kw_1273) (fun _ h9 => h9) rfl dX7_headFits_21 ?_
    refine lv_bipush (v := 8) hx hb dX7_headFits_24 (by decide) ?_
    refine lv_iadd hx hb dX7_headFits_26 ?_
    refine lv_topi (fun z7 ez7 => ?_)
    obtain rfl : z7 = ((qI S4 9 15) + (8 : Int32)) := ez7
    refine va_put (D := rD g) (ci := 6) (v := .int ((qI S4 9 15) + (8 : Int32))) (ty := .int) (C := RX7) (T := TX7) (N := 17) hx hb hts inX7 tyX7 tyX7_ok nmX7 hown hR.K hR.P hR.D hR.sS 9 (hR.at46 (hR.w.2.1 _ finC_2).2.1) rfl 15 (by decide) (hts _ kw_1273) (fun _ h9 => h9) rfl (by decide +kernel) rfl rfl (Nat.le_of_ble_eq_true rfl) dX7_headFits_27 (fun H locs hP hD hS => ?_)
    have hTk9 : qT S4 9 = 46 := (hR.w.2.1 _ finC_2).2.1
    have hR : RepC g ad A s (wI S4 9 15 ((qI S4 9 15) + (8 : Int32))) H locs := hR.pI46 (hR.w.2.1 _ finC_2).2.1 FX7_s15 (fun q9 => absurd q9 (by decide)) hP hD hS
    obtain ⟨S8, eS8⟩ : ∃ z, z = wI S4 9 15 ((qI S4 9 15) + (8 : Int32)) := ⟨_, rfl⟩
    rw [← eS8] at hR
    replace h := h S8 eS8 hTk9 hR.w
    have hsh : shy S S8 := by rw [eS8]; exact hsh
    refine lv_iconst (v := 1) hx hb dX7_headFits_30 (by decide) ?_
    exact W.zret (v := 1) hx hb hr (nz (Or.inr rfl)) (fun t9 ht9 hW9 => ⟨⟨_, S8, rfl, ⟨h, hR.w, hsh, (Or.inr rfl)⟩, ⟨by rw [ht9]; exact hR.P, hR.D⟩⟩, hR.sS.F ht9⟩) hR.sS.2.2 dX7_headFits_31
  · replace h := h.1 (k_eq rfl (by decide) c6)
    refine lv_iconst (v := 0) hx hb dX7_headFits_17 (by decide) ?_
    exact W.zret (v := 0) hx hb hr (nz (Or.inl rfl)) (fun t9 ht9 hW9 => ⟨⟨_, S4, rfl, ⟨h, hR.w, hsh, (Or.inl rfl)⟩, ⟨by rw [ht9]; exact hR.P, hR.D⟩⟩, hR.sS.F ht9⟩) hR.sS.2.2 dX7_headFits_18
def w_X7_attributesFit_L31 (Q : Int32 → MS → Prop) : Nat → MS → Int32 → Int32 → Prop
  | 0, _, _, _ => False
  | n31 + 1, U31, v31_1, v31_2 => (wfC U31 → ((v31_1.toInt ≤ v31_2.toInt → Q (1 : Int32) U31) ∧ (¬ v31_1.toInt ≤ v31_2.toInt → (∃ Q13, wX7_isThere U31 (6 : Int32) Q13 ∧ ∀ r14 S15, Q13 r14 S15 → wfC S15 → shy U31 S15 → ((r14.toInt = 0 → Q (0 : Int32) S15) ∧ (¬ r14.toInt = 0 → (d_X7_u4 S15 ((qI S15 9 15) + (2 : Int32)) ∧ (∀ a22 : Int64, a22 = (fX7_u4 S15 ((qI S15 9 15) + (2 : Int32))) → (∀ S24, S24 = wI S15 9 15 ((qI S15 9 15) + (6 : Int32)) → qT S15 9 = 46 → wfC S24 → (((lg_cmp a22 (((qI S24 9 1) - (qI S24 9 15)).toInt64)).toInt ≤ 0 → (∀ S29, S29 = wI S24 9 15 ((qI S24 9 15) + (a22.toInt32)) → qT S24 9 = 46 → wfC S29 → (∀ a30 : Int32, a30 = (v31_2 + Int32.ofInt 1) → (w_X7_attributesFit_L31 Q n31) S29 v31_1 a30))) ∧ (¬ (lg_cmp a22 (((qI S24 9 1) - (qI S24 9 15)).toInt64)).toInt ≤ 0 → (∃ Q31, wX7_breaks S24 (2 : Int32) (qI S24 9 1) Q31 ∧ ∀ r32 S33, Q31 r32 S33 → wfC S33 → shy S24 S33 → Q r32 S33))))))))))))
def wX7_attributesFit (S : MS) (Q : Int32 → MS → Prop) : Prop := (∃ Q1, wX7_isThere S (2 : Int32) Q1 ∧ ∀ r2 S3, Q1 r2 S3 → wfC S3 → shy S S3 → ((r2.toInt = 0 → Q (0 : Int32) S3) ∧ (¬ r2.toInt = 0 → (d_X7_u2 S3 (qI S3 9 15) ∧ (∀ a9 : Int32, a9 = (fX7_u2 S3 (qI S3 9 15)) → (∀ S11, S11 = wI S3 9 15 ((qI S3 9 15) + (2 : Int32)) → qT S3 9 = 46 → wfC S11 → (∃ n, w_X7_attributesFit_L31 Q n S11 a9 0)))))))
set_option maxHeartbeats 2000000 in
set_option maxRecDepth 100000 in
theorem rX7_attributesFit (l : Launch) (g : Gr) (ad : Nat → Nat) (sz : Nat) (S : MS) (hw : wfC S) (Q : Int32 → MS → Prop) (h : wX7_attributesFit S Q) : Met l yX7_attributesFit (wt yX7_attributesFit cX7_attributesFit 5 (some .boolean)) ({ frames := 2, cells := 0, slots := 0, locals := 43 }) (va_Pc [.ref (ad 9)] (st_C g ad sz S)) (va_Qi (fun (r : Int32) (u : MS) => Q r u ∧ wfC u ∧ shy S u ∧ (r = 0 ∨ r = 1)) (fun (u : MS) (t : State) => qEC g ad (va_A (WdC g ad S) sz) u t) (va_A (WdC g ad S) sz)) 0 0 (va_A (WdC g ad S) sz) := by
  refine Met.ofW (cc := cX7_attributesFit) (maxL := 5) (ret := (some .boolean)) (by decide) rfl ?_
  intro p e s m args below meth c s₁ B hml hv
  obtain ⟨rfl, hsz, hP, hK, hD0, hex, hE⟩ := hv
  have hx := B.exec
  have hb := B.bytes
  have hr := B.returns
  have hts0 := atoms_spec (ws := wt yX7_attributesFit cX7_attributesFit 5 (some .boolean)) B.pre
  have hts : ∀ w ∈ tb, w.before _ s = true := fun w h => hts0 w (List.mem_cons_of_mem _ h)
  have hown : s.vm.findClass RX7 = some m.cls := findClass_of_methodNamed B.named
  subst hsz
  have hD := hD0.self (sz := s.heap.size)
  generalize hAe : va_A (WdC g ad S) s.heap.size = A at hD hE ⊢
  have hA : ∀ q : Nat, s.heap.size ≤ q → A q := fun q h => by rw [← hAe]; exact Or.inr h
  have hR : RepC g ad A s S s.heap [] := ⟨hK, hP, hD, va_S.rf, hw⟩
  clear hK hP hD hD0
  have hl := lv_entry ([.ref (ad 9)]) (n := 5) (Nat.le_of_ble_eq_true rfl)
  rw [lg_entry_eq]
  generalize (lg_sl ([.ref (ad 9)]) ++ List.replicate (5 - (lg_sl ([.ref (ad 9)])).length) Slot.unset).toArray = ls at hl ⊢
  have hl : lv_has ls 5 [(0, .ref (ad 9))] := hl
  have hsh : shy S S := shy.rf
  unfold wX7_attributesFit at h
  refine lv_aload_n hx hb dX7_attributesFit_0 rfl (lv_at hl 0 rfl) ?_
  refine lv_iconst (v := 2) hx hb dX7_attributesFit_1 (by decide) ?_
  obtain ⟨Q1, h0, h⟩ := h
  have hFc := cfree hR hA
  refine va_calli (va_runV (As := [.int 2]) (rest := []) ⟨hx, hb, hml, hown, hts⟩ (rX7_isThere l g ad s.heap.size S (2 : Int32) hR.w  Q1 h0) (cwV 1 hts (gd_V kw_1272 kw_1382 kw_1383 kw_710 kw_1381) rfl rfl rfl (by decide +kernel) ⟨Nat.le_of_ble_eq_true rfl, Nat.le_of_ble_eq_true rfl⟩) ⟨cblind, va_recv hR.K hR.P (ci := 6) (q0 := 9) rfl (hR.at46 (hR.w.2.1 _ finC_2).2.1), fun U hU hW9 => cmk hU hW9 hR hex hE hFc⟩ rfl rfl hl.1 rfl (lv_room (Nat.le_of_ble_eq_true rfl)) dX7_attributesFit_2 ⟨Nat.le_of_ble_eq_true rfl, Nat.le_of_ble_eq_true rfl⟩) hR.sS (fun q _ h => hFc q h) hFc (fun r2 S3 t9 H1 locs ht9 hvm9 hw9 hB9 hz9 hk9 hS => ?_)
  obtain ⟨hq4, hw9, hs9, hz_r2⟩ := hw9
  have hR : RepC g ad A s S3 H1 locs := hR.call ht9 hB9 hw9 hS hFc
  have hsh := hsh.tr hs9
  replace h := h r2 S3 hq4 hw9 hs9
  clear hB9 hz9 hk9 hvm9 ht9 hw9 hs9 hS
  generalize H1 = H at hR ⊢
  refine lv_if_ne (tgt := 10) hx hb dX7_attributesFit_5 (by decide) (fun c5 => ?_) (fun c5 => ?_)
  · replace h := h.2 (k_ne rfl (by decide) c5)
    refine lv_aload_n hx hb dX7_attributesFit_10 rfl (lv_at hl 0 rfl) ?_
    refine lv_aload_n hx hb dX7_attributesFit_11 rfl (lv_at hl 0 rfl) ?_
    refine va_get (D := rD g) (ci := 6) (v := .int (qI S3 9 15)) (C := RX7) (T := TX7) (N := 17) hx hb hts inX7 hown hR.K hR.P 9 (hR.at46 (hR.w.2.1 _ finC_2).2.1) rfl 15 (by decide) (hts _ kw_1273) (fun _ h9 => h9) rfl dX7_attributesFit_12 ?_
    obtain ⟨hv6, h⟩ := h
    have hFc := cfree hR hA
    refine va_calli (va_runV (As := [.int (qI S3 9 15)]) (rest := []) ⟨hx, hb, hml, hown, hts⟩ (rX7_u2 l g ad H.size S3 (qI S3 9 15) hR.w  hv6) (cwV 1 hts (gd_V kw_1266 kw_1450 kw_1451 kw_710 kw_1449) rfl rfl rfl (by decide +kernel) ⟨Nat.le_of_ble_eq_true rfl, Nat.le_of_ble_eq_true rfl⟩) ⟨cblind, va_recv hR.K hR.P (ci := 6) (q0 := 9) rfl (hR.at46 (hR.w.2.1 _ finC_2).2.1), fun U hU hW9 => cmk hU hW9 hR hex hE hFc⟩ rfl rfl hl.1 rfl (lv_room (Nat.le_of_ble_eq_true rfl)) dX7_attributesFit_15 ⟨Nat.le_of_ble_eq_true rfl, Nat.le_of_ble_eq_true rfl⟩) hR.sS (fun q _ h => hFc q h) hFc (fun r7 u9 t9 H1 locs ht9 hvm9 hw9 hB9 hz9 hk9 hS => ?_)
    have hR : RepC g ad A s S3 H1 locs := hR.call ht9 hB9 hR.w hS hFc
    obtain rfl : r7 = (fX7_u2 S3 (qI S3 9 15)) := hw9
    clear hB9 hz9 hk9 hvm9 ht9 hS
    generalize H1 = H at hR ⊢
    obtain ⟨a9, ea9⟩ : ∃ z, z = (fX7_u2 S3 (qI S3 9 15)) := ⟨_, rfl⟩
    rw [← ea9]
    replace h := h a9 ea9
    refine lv_istore_n (lv' := [(1, .int a9), (0, .ref (ad 9))]) hx hb dX7_attributesFit_18 rfl hl (by decide) rfl (fun ls hl => ?_)
    refine lv_aload_n hx hb dX7_attributesFit_19 rfl (lv_at hl 1 rfl) ?_
    refine lv_dup hx hb dX7_attributesFit_20 rfl ?_
    refine va_get (D := rD g) (ci := 6) (v := .int (qI S3 9 15)) (C := RX7) (T := TX7) (N := 17) hx hb hts inX7 hown hR.K hR.P 9 (hR.at46 (hR.w.2.1 _ finC_2).2.1) rfl 15 (by decide) (hts _ kw_1273) (fun _ h9 => h9) rfl dX7_attributesFit_21 ?_
    refine lv_iconst (v := 2) hx hb dX7_attributesFit_24 (by decide) ?_
    refine lv_iadd hx hb dX7_attributesFit_25 ?_
    refine lv_topi (fun z10 ez10 => ?_)
    obtain rfl : z10 = ((qI S3 9 15) + (2 : Int32)) := ez10
    refine va_put (D := rD g) (ci := 6) (v := .int ((qI S3 9 15) + (2 : Int32))) (ty := .int) (C := RX7) (T := TX7) (N := 17) hx hb hts inX7 tyX7 tyX7_ok nmX7 hown hR.K hR.P hR.D hR.sS 9 (hR.at46 (hR.w.2.1 _ finC_2).2.1) rfl 15 (by decide) (hts _ kw_1273) (fun _ h9 => h9) rfl (by decide +kernel) rfl rfl (Nat.le_of_ble_eq_true rfl) dX7_attributesFit_26 (fun H locs hP hD hS => ?_)
    have hTk9 : qT S3 9 = 46 := (hR.w.2.1 _ finC_2).2.1
    have hR : RepC g ad A s (wI S3 9 15 ((qI S3 9 15) + (2 : Int32))) H locs := hR.pI46 (hR.w.2.1 _ finC_2).2.1 FX7_s15 (fun q9 => absurd q9 (by decide)) hP hD hS
    obtain ⟨S11, eS11⟩ : ∃ z, z = wI S3 9 15 ((qI S3 9 15) + (2 : Int32)) := ⟨_, rfl⟩
    rw [← eS11] at hR
    replace h := h S11 eS11 hTk9 hR.w
    have hsh : shy S S11 := by rw [eS11]; exact hsh
    refine lv_iconst (v := 0) hx hb dX7_attributesFit_29 (by decide) ?_
    refine lv_istore_n (lv' := [(2, .int 0), (1, .int a9), (0, .ref (ad 9))]) hx hb dX7_attributesFit_30 rfl hl (by decide) rfl (fun ls hl => ?_)
    have J_31 : ∀ (n31 : Nat) (U31 : MS) (v31_1 : Int32) (v31_2 : Int32) (H : Heap) (locs : List Loc) (ls : Array Slot), w_X7_attributesFit_L31 Q n31 U31 v31_1 v31_2 → shy S U31 → RepC g ad A s U31 H locs → lv_has ls 5 [(0, .ref (ad 9)), (1, .int v31_1), (2, .int v31_2)] → W p l e (headSpec (wt yX7_attributesFit cX7_attributesFit 5 (some .boolean)) ({ frames := 2, cells := 0, slots := 0, locals := 43 })).room s m ([.ref (ad 9)] : List Value).toArray below meth c H locs 0 0 (MQ below (va_Qi (fun (r : Int32) (u : MS) => Q r u ∧ wfC u ∧ shy S u ∧ (r = 0 ∨ r = 1)) (fun (u : MS) (t : State) => qEC g ad A u t) A) ([.ref (ad 9)] : List Value).toArray s 0 0 A) (F0 m 31 ls []) := by
      intro n31
      induction n31 with
      | zero => intro U31 v31_1 v31_2 H locs ls h hsh hR hl; unfold w_X7_attributesFit_L31 at h; exact h.elim
      | succ n31 ih_31 =>
        intro U31 v31_1 v31_2 H locs ls h hsh hR hl
        unfold w_X7_attributesFit_L31 at h
        replace h := h hR.w
        refine lv_iload_n hx hb dX7_attributesFit_31 rfl (lv_at hl 2 rfl) ?_
        refine lv_iload_n hx hb dX7_attributesFit_32 rfl (lv_at hl 1 rfl) ?_
        refine lv_icmp_ge (tgt := 111) hx hb dX7_attributesFit_33 (by decide) (fun c12 => ?_) (fun c12 => ?_)
        · replace h := h.1 (k_le rfl rfl c12)
          refine lv_iconst (v := 1) hx hb dX7_attributesFit_111 (by decide) ?_
          exact W.zret (v := 1) hx hb hr (nz (Or.inr rfl)) (fun t9 ht9 hW9 => ⟨⟨_, U31, rfl, ⟨h, hR.w, hsh, (Or.inr rfl)⟩, ⟨by rw [ht9]; exact hR.P, hR.D⟩⟩, hR.sS.F ht9⟩) hR.sS.2.2 dX7_attributesFit_112
        · replace h := h.2 (k_nle rfl rfl c12)
          refine lv_aload_n hx hb dX7_attributesFit_36 rfl (lv_at hl 0 rfl) ?_
          refine lv_bipush (v := 6) hx hb dX7_attributesFit_37 (by decide) ?_
          obtain ⟨Q13, h0, h⟩ := h
          have hFc := cfree hR hA
          refine va_calli (va_runV (As := [.int 6]) (rest := []) ⟨hx, hb, hml, hown, hts⟩ (rX7_isThere l g ad H.size U31 (6 : Int32) hR.w  Q13 h0) (cwV 1 hts (gd_V kw_1272 kw_1382 kw_1383 kw_710 kw_1381) rfl rfl rfl (by decide +kernel) ⟨Nat.le_of_ble_eq_true rfl, Nat.le_of_ble_eq_true rfl⟩) ⟨cblind, va_recv hR.K hR.P (ci := 6) (q0 := 9) rfl (hR.at46 (hR.w.2.1 _ finC_2).2.1), fun U hU hW9 => cmk hU hW9 hR hex hE hFc⟩ rfl rfl hl.1 rfl (lv_room (Nat.le_of_ble_eq_true rfl)) dX7_attributesFit_39 ⟨Nat.le_of_ble_eq_true rfl, Nat.le_of_ble_eq_true rfl⟩) hR.sS (fun q _ h => hFc q h) hFc (fun r14 S15 t9 H1 locs ht9 hvm9 hw9 hB9 hz9 hk9 hS => ?_)
          obtain ⟨hq16, hw9, hs9, hz_r14⟩ := hw9
          have hR : RepC g ad A s S15 H1 locs := hR.call ht9 hB9 hw9 hS hFc
          have hsh := hsh.tr hs9
          replace h := h r14 S15 hq16 hw9 hs9
          clear hB9 hz9 hk9 hvm9 ht9 hw9 hs9 hS
          generalize H1 = H at hR ⊢
          refine lv_if_ne (tgt := 47) hx hb dX7_attributesFit_42 (by decide) (fun c17 => ?_) (fun c17 => ?_)
          · replace h := h.2 (k_ne rfl (by decide) c17)
            refine lv_aload_n hx hb dX7_attributesFit_47 rfl (lv_at hl 0 rfl) ?_
            refine lv_aload_n hx hb dX7_attributesFit_48 rfl (lv_at hl 0 rfl) ?_
            refine va_get (D := rD g) (ci := 6) (v := .int (qI S15 9 15)) (C := RX7) (T := TX7) (N := 17) hx hb hts inX7 hown hR.K hR.P 9 (hR.at46 (hR.w.2.1 _ finC_2).2.1) rfl 15 (by decide) (hts _ kw_1273) (fun _ h9 => h9) rfl dX7_attributesFit_49 ?_
            refine lv_iconst (v := 2) hx hb dX7_attributesFit_52 (by decide) ?_
            refine lv_iadd hx hb dX7_attributesFit_53 ?_
            refine lv_topi (fun z18 ez18 => ?_)
            obtain rfl : z18 = ((qI S15 9 15) + (2 : Int32)) := ez18
            obtain ⟨hv19, h⟩ := h
            have hFc := cfree hR hA
            refine va_calll (va_runV (As := [.int ((qI S15 9 15) + (2 : Int32))]) (rest := []) ⟨hx, hb, hml, hown, hts⟩ (rX7_u4 l g ad H.size S15 ((qI S15 9 15) + (2 : Int32)) hR.w  hv19) (cwV 1 hts (gd_V kw_1274 kw_1453 kw_1454 kw_710 kw_1452) rfl rfl rfl (by decide +kernel) ⟨Nat.le_of_ble_eq_true rfl, Nat.le_of_ble_eq_true rfl⟩) ⟨cblind, va_recv hR.K hR.P (ci := 6) (q0 := 9) rfl (hR.at46 (hR.w.2.1 _ finC_2).2.1), fun U hU hW9 => cmk hU hW9 hR hex hE hFc⟩ rfl rfl hl.1 rfl (lv_room (Nat.le_of_ble_eq_true rfl)) dX7_attributesFit_54 ⟨Nat.le_of_ble_eq_true rfl, Nat.le_of_ble_eq_true rfl⟩) hR.sS (fun q _ h => hFc q h) hFc (fun r20 u9 t9 H1 locs ht9 hvm9 hw9 hB9 hz9 hk9 hS => ?_)
            have hR : RepC g ad A s S15 H1 locs := hR.call ht9 hB9 hR.w hS hFc
            obtain rfl : r20 = (fX7_u4 S15 ((qI S15 9 15) + (2 : Int32))) := hw9
            clear hB9 hz9 hk9 hvm9 ht9 hS
            generalize H1 = H at hR ⊢
            obtain ⟨a22, ea22⟩ : ∃ z, z = (fX7_u4 S15 ((qI S15 9 15) + (2 : Int32))) := ⟨_, rfl⟩
            rw [← ea22]
            replace h := h a22 ea22
            refine lv_lstore_n (lv' := [(3, .long a22), (0, .ref (ad 9)), (1, .int v31_1), (2, .int v31_2)]) hx hb dX7_attributesFit_57 rfl hl (by decide) rfl (fun ls hl => ?_)
            refine lv_aload_n hx hb dX7_attributesFit_58 rfl (lv_at hl 1 rfl) ?_
            refine lv_dup hx hb dX7_attributesFit_59 rfl ?_
            refine va_get (D := rD g) (ci := 6) (v := .int (qI S15 9 15)) (C := RX7) (T := TX7) (N := 17) hx hb hts inX7 hown hR.K hR.P 9 (hR.at46 (hR.w.2.1 _ finC_2).2.1) rfl 15 (by decide) (hts _ kw_1273) (fun _ h9 => h9) rfl dX7_attributesFit_60 ?_
            refine lv_bipush (v := 6) hx hb dX7_attributesFit_63 (by decide) ?_
            refine lv_iadd hx hb dX7_attributesFit_65 ?_
            refine lv_topi (fun z23 ez23 => ?_)
            obtain rfl : z23 = ((qI S15 9 15) + (6 : Int32)) := ez23
            refine va_put (D := rD g) (ci := 6) (v := .int ((qI S15 9 15) + (6 : Int32))) (ty := .int) (C := RX7) (T := TX7) (N := 17) hx hb hts inX7 tyX7 tyX7_ok nmX7 hown hR.K hR.P hR.D hR.sS 9 (hR.at46 (hR.w.2.1 _ finC_2).2.1) rfl 15 (by decide) (hts _ kw_1273) (fun _ h9 => h9) rfl (by decide +kernel) rfl rfl (Nat.le_of_ble_eq_true rfl) dX7_attributesFit_66 (fun H locs hP hD hS => ?_)
            have hTk9 : qT S15 9 = 46 := (hR.w.2.1 _ finC_2).2.1
            have hR : RepC g ad A s (wI S15 9 15 ((qI S15 9 15) + (6 : Int32))) H locs := hR.pI46 (hR.w.2.1 _ finC_2).2.1 FX7_s15 (fun q9 => absurd q9 (by decide)) hP hD hS
            obtain ⟨S24, eS24⟩ : ∃ z, z = wI S15 9 15 ((qI S15 9 15) + (6 : Int32)) := ⟨_, rfl⟩
            rw [← eS24] at hR
            replace h := h S24 eS24 hTk9 hR.w
            have hsh : shy S S24 := by rw [eS24]; exact hsh
            refine lv_lload_n hx hb dX7_attributesFit_69 rfl (lv_at hl 0 rfl) ?_
            refine lv_aload_n hx hb dX7_attributesFit_70 rfl (lv_at hl 1 rfl) ?_
            refine va_get (D := rD g) (ci := 6) (v := .int (qI S24 9 1)) (C := RX7) (T := TX7) (N := 17) hx hb hts inX7 hown hR.K hR.P 9 (hR.at46 (hR.w.2.1 _ finC_2).2.1) rfl 1 (by decide) (hts _ kw_1275) (fun _ h9 => h9) rfl dX7_attributesFit_71 ?_
            refine lv_aload_n hx hb dX7_attributesFit_74 rfl (lv_at hl 1 rfl) ?_
            refine va_get (D := rD g) (ci := 6) (v := .int (qI S24 9 15)) (C := RX7) (T := TX7) (N := 17) hx hb hts inX7 hown hR.K hR.P 9 (hR.at46 (hR.w.2.1 _ finC_2).2.1) rfl 15 (by decide) (hts _ kw_1273) (fun _ h9 => h9) rfl dX7_attributesFit_75 ?_
            refine lv_isub hx hb dX7_attributesFit_78 ?_
            refine lv_topi (fun z25 ez25 => ?_)
            obtain rfl : z25 = ((qI S24 9 1) - (qI S24 9 15)) := ez25
            refine lv_i2l (v := (((qI S24 9 1) - (qI S24 9 15)).toInt64)) hx hb dX7_attributesFit_79 rfl ?_
            refine W.lcmp hx hb dX7_attributesFit_80 ?_
            refine lv_topi (fun z26 ez26 => ?_)
            obtain rfl : z26 = (lg_cmp a22 (((qI S24 9 1) - (qI S24 9 15)).toInt64)) := ez26
            refine lv_if_le (tgt := 94) hx hb dX7_attributesFit_81 (by decide) (fun c27 => ?_) (fun c27 => ?_)
            · replace h := h.1 (k_le rfl (by decide) c27)
              refine lv_aload_n hx hb dX7_attributesFit_94 rfl (lv_at hl 1 rfl) ?_
              refine lv_dup hx hb dX7_attributesFit_95 rfl ?_
              refine va_get (D := rD g) (ci := 6) (v := .int (qI S24 9 15)) (C := RX7) (T := TX7) (N := 17) hx hb hts inX7 hown hR.K hR.P 9 (hR.at46 (hR.w.2.1 _ finC_2).2.1) rfl 15 (by decide) (hts _ kw_1273) (fun _ h9 => h9) rfl dX7_attributesFit_96 ?_
              refine lv_lload_n hx hb dX7_attributesFit_99 rfl (lv_at hl 0 rfl) ?_
              refine lv_l2i (v := (a22.toInt32)) hx hb dX7_attributesFit_100 rfl ?_
              refine lv_iadd hx hb dX7_attributesFit_101 ?_
              refine lv_topi (fun z28 ez28 => ?_)
              obtain rfl : z28 = ((qI S24 9 15) + (a22.toInt32)) := ez28
              refine va_put (D := rD g) (ci := 6) (v := .int ((qI S24 9 15) + (a22.toInt32))) (ty := .int) (C := RX7) (T := TX7) (N := 17) hx hb hts inX7 tyX7 tyX7_ok nmX7 hown hR.K hR.P hR.D hR.sS 9 (hR.at46 (hR.w.2.1 _ finC_2).2.1) rfl 15 (by decide) (hts _ kw_1273) (fun _ h9 => h9) rfl (by decide +kernel) rfl rfl (Nat.le_of_ble_eq_true rfl) dX7_attributesFit_102 (fun H locs hP hD hS => ?_)
              have hTk9 : qT S24 9 = 46 := (hR.w.2.1 _ finC_2).2.1
              have hR : RepC g ad A s (wI S24 9 15 ((qI S24 9 15) + (a22.toInt32))) H locs := hR.pI46 (hR.w.2.1 _ finC_2).2.1 FX7_s15 (fun q9 => absurd q9 (by decide)) hP hD hS
              obtain ⟨S29, eS29⟩ : ∃ z, z = wI S24 9 15 ((qI S24 9 15) + (a22.toInt32)) := ⟨_, rfl⟩
              rw [← eS29] at hR
              replace h := h S29 eS29 hTk9 hR.w
              have hsh : shy S S29 := by rw [eS29]; exact hsh
              obtain ⟨a30, ea30⟩ : ∃ z, z = (v31_2 + Int32.ofInt 1) := ⟨_, rfl⟩
              replace h := h a30 ea30
              refine lv_iinc (v := a30) (lv' := [(2, .int a30), (3, .long a22), (0, .ref (ad 9)), (1, .int v31_1)]) hx hb dX7_attributesFit_105 hl (k := 3) rfl ea30.symm (by decide) rfl (fun ls hl => ?_)
              refine lv_goto (tgt := 31) hx hb dX7_attributesFit_108 (by decide) ?_
              exact ih_31 S29 v31_1 a30 _ _ ls h  hsh hR (lv_sub hl [2, 3, 0] rfl)
            · replace h := h.2 (k_nle rfl (by decide) c27)
              refine lv_aload_n hx hb dX7_attributesFit_84 rfl (lv_at hl 1 rfl) ?_
              refine lv_iconst (v := 2) hx hb dX7_attributesFit_85 (by decide) ?_
              refine lv_aload_n hx hb dX7_attributesFit_86 rfl (lv_at hl 1 rfl) ?_
              refine va_get (D := rD g) (ci := 6) (v := .int (qI S24 9 1)) (C := RX7) (T := TX7) (N := 17) hx hb hts inX7 hown hR.K hR.P 9 (hR.at46 (hR.w.2.1 _ finC_2).2.1) rfl 1 (by decide) (hts _ kw_1275) (fun _ h9 => h9) rfl dX7_attributesFit_87 ?_
              obtain ⟨Q31, h0, h⟩ := h
              have hFc := cfree hR hA
              refine va_calli (va_runV (As := [.int 2, .int (qI S24 9 1)]) (rest := []) ⟨hx, hb, hml, hown, hts⟩ (rX7_breaks l g ad H.size S24 (2 : Int32) (qI S24 9 1) hR.w  Q31 h0) (cwV 2 hts (gd_V kw_1276 kw_1278 kw_1279 kw_710 kw_1277) rfl rfl rfl (by decide +kernel) ⟨Nat.le_of_ble_eq_true rfl, Nat.le_of_ble_eq_true rfl⟩) ⟨cblind, va_recv hR.K hR.P (ci := 6) (q0 := 9) rfl (hR.at46 (hR.w.2.1 _ finC_2).2.1), fun U hU hW9 => cmk hU hW9 hR hex hE hFc⟩ rfl rfl hl.1 rfl (lv_room (Nat.le_of_ble_eq_true rfl)) dX7_attributesFit_90 ⟨Nat.le_of_ble_eq_true rfl, Nat.le_of_ble_eq_true rfl⟩) hR.sS (fun q _ h => hFc q h) hFc (fun r32 S33 t9 H1 locs ht9 hvm9 hw9 hB9 hz9 hk9 hS => ?_)
              obtain ⟨hq34, hw9, hs9, hz_r32⟩ := hw9
              have hR : RepC g ad A s S33 H1 locs := hR.call ht9 hB9 hw9 hS hFc
              have hsh := hsh.tr hs9
              replace h := h r32 S33 hq34 hw9 hs9
              clear hB9 hz9 hk9 hvm9 ht9 hw9 hs9 hS
              generalize H1 = H at hR ⊢
              exact W.zret (v := r32) hx hb hr (nz hz_r32) (fun t9 ht9 hW9 => ⟨⟨_, S33, rfl, ⟨h, hR.w, hsh, hz_r32⟩, ⟨by rw [ht9]; exact hR.P, hR.D⟩⟩, hR.sS.F ht9⟩) hR.sS.2.2 dX7_attributesFit_93
          · replace h := h.1 (k_eq rfl (by decide) c17)
            refine lv_iconst (v := 0) hx hb dX7_attributesFit_45 (by decide) ?_
            exact W.zret (v := 0) hx hb hr (nz (Or.inl rfl)) (fun t9 ht9 hW9 => ⟨⟨_, S15, rfl, ⟨h, hR.w, hsh, (Or.inl rfl)⟩, ⟨by rw [ht9]; exact hR.P, hR.D⟩⟩, hR.sS.F ht9⟩) hR.sS.2.2 dX7_attributesFit_46
    obtain ⟨n9, h⟩ := h
    exact J_31 n9 S11 a9 0 _ _ ls h  hsh hR (lv_sub hl [2, 1, 0] rfl)
  · replace h := h.1 (k_eq rfl (by decide) c5)
    refine lv_iconst (v := 0) hx hb dX7_attributesFit_8 (by decide) ?_
    exact W.zret (v := 0) hx hb hr (nz (Or.inl rfl)) (fun t9 ht9 hW9 => ⟨⟨_, S3, rfl, ⟨h, hR.w, hsh, (Or.inl rfl)⟩, ⟨by rw [ht9]; exact hR.P, hR.D⟩⟩, hR.sS.F ht9⟩) hR.sS.2.2 dX7_attributesFit_9
def f_X7_entryAt_J22 (S : MS) : Int32 := (0 : Int32)
def d_X7_entryAt_J22 (S : MS) : Prop := True
def fX7_entryAt (S : MS) (x1 : Int32) : Int32 := (if x1.toInt < 1 then f_X7_entryAt_J22 S else (if (qI S 9 5).toInt ≤ x1.toInt then f_X7_entryAt_J22 S else (if x1.toInt < 500 then (qI S 11 x1.toInt.toNat) else f_X7_entryAt_J22 S)))
def d_X7_entryAt (S : MS) (x1 : Int32) : Prop := (if x1.toInt < 1 then d_X7_entryAt_J22 S else (if (qI S 9 5).toInt ≤ x1.toInt then d_X7_entryAt_J22 S else (if x1.toInt < 500 then (((0 : Int) ≤ x1.toInt ∧ x1.toInt < 500) ∧ True) else d_X7_entryAt_J22 S)))
set_option maxHeartbeats 2000000 in
set_option maxRecDepth 100000 in
theorem rX7_entryAt (l : Launch) (g : Gr) (ad : Nat → Nat) (sz : Nat) (S : MS) (x1 : Int32) (hw : wfC S) (hd : d_X7_entryAt S x1) : Met l yX7_entryAt (wt yX7_entryAt cX7_entryAt 2 (some .int)) ({ frames := 0, cells := 0, slots := 0, locals := 0 }) (va_Pc [.ref (ad 9), .int x1] (st_C g ad sz S)) (va_Qi (fun (r : Int32) (_ : Unit) => r = fX7_entryAt S x1) (fun (_ : Unit) (t : State) => qEC g ad (va_A (WdC g ad S) sz) S t) (va_A (WdC g ad S) sz)) 0 0 (va_A (WdC g ad S) sz) := by
  refine Met.ofW (cc := cX7_entryAt) (maxL := 2) (ret := (some .int)) (by decide) rfl ?_
  intro p e s m args below meth c s₁ B hml hv
  obtain ⟨rfl, hsz, hP, hK, hD0, hex, hE⟩ := hv
  have hx := B.exec
  have hb := B.bytes
  have hr := B.returns
  have hts0 := atoms_spec (ws := wt yX7_entryAt cX7_entryAt 2 (some .int)) B.pre
  have hts : ∀ w ∈ tb, w.before _ s = true := fun w h => hts0 w (List.mem_cons_of_mem _ h)
  have hown : s.vm.findClass RX7 = some m.cls := findClass_of_methodNamed B.named
  subst hsz
  have hD := hD0.self (sz := s.heap.size)
  generalize hAe : va_A (WdC g ad S) s.heap.size = A at hD hE ⊢
  have hA : ∀ q : Nat, s.heap.size ≤ q → A q := fun q h => by rw [← hAe]; exact Or.inr h
  have hR : RepC g ad A s S s.heap [] := ⟨hK, hP, hD, va_S.rf, hw⟩
  clear hK hP hD hD0
  have hl := lv_entry ([.ref (ad 9), .int x1]) (n := 2) (Nat.le_of_ble_eq_true rfl)
  rw [lg_entry_eq]
  generalize (lg_sl ([.ref (ad 9), .int x1]) ++ List.replicate (2 - (lg_sl ([.ref (ad 9), .int x1])).length) Slot.unset).toArray = ls at hl ⊢
  have hl : lv_has ls 2 [(0, .ref (ad 9)), (1, .int x1)] := hl
  obtain ⟨r0, hf⟩ : ∃ r0, fX7_entryAt S x1 = r0 := ⟨_, rfl⟩
  have hf0 := hf
  unfold fX7_entryAt at hf
  unfold d_X7_entryAt at hd
  refine lv_iload_n hx hb dX7_entryAt_0 rfl (lv_at hl 1 rfl) ?_
  refine lv_iconst (v := 1) hx hb dX7_entryAt_1 (by decide) ?_
  have J_22 : ∀ (H : Heap) (locs : List Loc) (ls : Array Slot), d_X7_entryAt_J22 S → f_X7_entryAt_J22 S = r0 → RepC g ad A s S H locs → lv_has ls 2 [] → W p l e (headSpec (wt yX7_entryAt cX7_entryAt 2 (some .int)) ({ frames := 0, cells := 0, slots := 0, locals := 0 })).room s m ([.ref (ad 9), .int x1] : List Value).toArray below meth c H locs 0 0 (MQ below (va_Qi (fun (r : Int32) (_ : Unit) => r = fX7_entryAt S x1) (fun (_ : Unit) (t : State) => qEC g ad A S t) A) ([.ref (ad 9), .int x1] : List Value).toArray s 0 0 A) (F0 m 22 ls []) := by
    intro H locs ls hd hf hR hl
    unfold d_X7_entryAt_J22 at hd
    unfold f_X7_entryAt_J22 at hf
    refine lv_iconst (v := 0) hx hb dX7_entryAt_22 (by decide) ?_
    refine lv_goto (tgt := 32) hx hb dX7_entryAt_23 (by decide) ?_
    exact W.iret (v := 0) hx hb hr (fun t9 ht9 hW9 => ⟨⟨_, (), rfl, hf.trans hf0.symm, ⟨by rw [ht9]; exact hR.P, hR.D⟩⟩, hR.sS.F ht9⟩) hR.sS.2.2 dX7_entryAt_32
  refine lv_icmp_lt (tgt := 22) hx hb dX7_entryAt_2 (by decide) (fun c1 => ?_) (fun c1 => ?_)
  · rw [if_pos (k_lt rfl (by decide) c1)] at hf
    (try rw [if_pos (k_lt rfl (by decide) c1)] at hd)
    exact J_22 _ _ ls hd hf  hR (lv_sub hl [] rfl)
  · rw [if_neg (k_nlt rfl (by decide) c1)] at hf
    (try rw [if_neg (k_nlt rfl (by decide) c1)] at hd)
    refine lv_iload_n hx hb dX7_entryAt_5 rfl (lv_at hl 1 rfl) ?_
    refine lv_aload_n hx hb dX7_entryAt_6 rfl (lv_at hl 0 rfl) ?_
    refine va_get (D := rD g) (ci := 6) (v := .int (qI S 9 5)) (C := RX7) (T := TX7) (N := 17) hx hb hts inX7 hown hR.K hR.P 9 (hR.at46 (hR.w.2.1 _ finC_2).2.1) rfl 5 (by decide) (hts _ kw_1294) (fun _ h9 => h9) rfl dX7_entryAt_7 ?_
    refine lv_icmp_ge (tgt := 22) hx hb dX7_entryAt_10 (by decide) (fun c2 => ?_) (fun c2 => ?_)
    · rw [if_pos (k_le rfl rfl c2)] at hf
      (try rw [if_pos (k_le rfl rfl c2)] at hd)
      exact J_22 _ _ ls hd hf  hR (lv_sub hl [] rfl)
    · rw [if_neg (k_nle rfl rfl c2)] at hf
      (try rw [if_neg (k_nle rfl rfl c2)] at hd)
      refine lv_iload_n hx hb dX7_entryAt_13 rfl (lv_at hl 1 rfl) ?_
      refine lv_aload_n hx hb dX7_entryAt_14 rfl (lv_at hl 0 rfl) ?_
      refine va_get (D := rD g) (ci := 6) (v := .ref (ad 11)) (C := RX7) (T := TX7) (N := 17) hx hb hts inX7 hown hR.K hR.P 9 (hR.at46 (hR.w.2.1 _ finC_2).2.1) rfl 4 (by decide) (hts _ kw_1300) (fun _ h9 => h9) (congrArg (fun z => some (vf ad z)) (hR.w.2.1 _ finC_7).1) dX7_entryAt_15 ?_
      refine va_alen (v := 500) hx hb hR.K hR.P 11 1 (hR.atI (hR.w.2.1 _ finC_7).2.1 (by decide)) rfl (by rw [(hR.w.2.1 _ finC_7).2.2]; rfl) dX7_entryAt_18 ?_
      refine lv_icmp_lt (tgt := 26) hx hb dX7_entryAt_19 (by decide) (fun c3 => ?_) (fun c3 => ?_)
      · rw [if_pos (k_lt rfl (by decide) c3)] at hf
        (try rw [if_pos (k_lt rfl (by decide) c3)] at hd)
        refine lv_aload_n hx hb dX7_entryAt_26 rfl (lv_at hl 0 rfl) ?_
        refine va_get (D := rD g) (ci := 6) (v := .ref (ad 11)) (C := RX7) (T := TX7) (N := 17) hx hb hts inX7 hown hR.K hR.P 9 (hR.at46 (hR.w.2.1 _ finC_2).2.1) rfl 4 (by decide) (hts _ kw_1300) (fun _ h9 => h9) (congrArg (fun z => some (vf ad z)) (hR.w.2.1 _ finC_7).1) dX7_entryAt_27 ?_
        refine lv_iload_n hx hb dX7_entryAt_30 rfl (lv_at hl 1 rfl) ?_
        obtain ⟨hv4, hd⟩ := hd
        refine va_iald hx hb hR.K hR.P 11 1 (hR.atI (hR.w.2.1 _ finC_7).2.1 (by decide)) rfl (k_ixN (k_ix (n := 500) (x := x1) (a := x1.toInt) rfl hv4) (hR.w.2.1 _ finC_7).2.2) dX7_entryAt_31 ?_
        refine lv_topi (fun z5 ez5 => ?_)
        obtain rfl : z5 = (qI S 11 x1.toInt.toNat) := ez5
        exact W.iret (v := (qI S 11 x1.toInt.toNat)) hx hb hr (fun t9 ht9 hW9 => ⟨⟨_, (), rfl, hf.trans hf0.symm, ⟨by rw [ht9]; exact hR.P, hR.D⟩⟩, hR.sS.F ht9⟩) hR.sS.2.2 dX7_entryAt_32
      · rw [if_neg (k_nlt rfl (by decide) c3)] at hf
        (try rw [if_neg (k_nlt rfl (by decide) c3)] at hd)
        exact J_22 _ _ ls hd hf  hR (lv_sub hl [] rfl)
def fX7_tagOf (S : MS) (x1 : Int32) : Int32 := (if (fX7_entryAt S x1).toInt = 0 then (0 : Int32) else (fX7_u1 S (fX7_entryAt S x1)))
def d_X7_tagOf (S : MS) (x1 : Int32) : Prop := (d_X7_entryAt S x1 ∧ (if (fX7_entryAt S x1).toInt = 0 then True else (d_X7_entryAt S x1 ∧ (d_X7_u1 S (fX7_entryAt S x1) ∧ True))))
set_option maxHeartbeats 2000000 in
set_option maxRecDepth 100000 in
theorem rX7_tagOf (l : Launch) (g : Gr) (ad : Nat → Nat) (sz : Nat) (S : MS) (x1 : Int32) (hw : wfC S) (hd : d_X7_tagOf S x1) : Met l yX7_tagOf (wt yX7_tagOf cX7_tagOf 2 (some .int)) ({ frames := 1, cells := 0, slots := 0, locals := 21 }) (va_Pc [.ref (ad 9), .int x1] (st_C g ad sz S)) (va_Qi (fun (r : Int32) (_ : Unit) => r = fX7_tagOf S x1) (fun (_ : Unit) (t : State) => qEC g ad (va_A (WdC g ad S) sz) S t) (va_A (WdC g ad S) sz)) 0 0 (va_A (WdC g ad S) sz) := by
  refine Met.ofW (cc := cX7_tagOf) (maxL := 2) (ret := (some .int)) (by decide) rfl ?_
  intro p e s m args below meth c s₁ B hml hv
  obtain ⟨rfl, hsz, hP, hK, hD0, hex, hE⟩ := hv
  have hx := B.exec
  have hb := B.bytes
  have hr := B.returns
  have hts0 := atoms_spec (ws := wt yX7_tagOf cX7_tagOf 2 (some .int)) B.pre
  have hts : ∀ w ∈ tb, w.before _ s = true := fun w h => hts0 w (List.mem_cons_of_mem _ h)
  have hown : s.vm.findClass RX7 = some m.cls := findClass_of_methodNamed B.named
  subst hsz
  have hD := hD0.self (sz := s.heap.size)
  generalize hAe : va_A (WdC g ad S) s.heap.size = A at hD hE ⊢
  have hA : ∀ q : Nat, s.heap.size ≤ q → A q := fun q h => by rw [← hAe]; exact Or.inr h
  have hR : RepC g ad A s S s.heap [] := ⟨hK, hP, hD, va_S.rf, hw⟩
  clear hK hP hD hD0
  have hl := lv_entry ([.ref (ad 9), .int x1]) (n := 2) (Nat.le_of_ble_eq_true rfl)
  rw [lg_entry_eq]
  generalize (lg_sl ([.ref (ad 9), .int x1]) ++ List.replicate (2 - (lg_sl ([.ref (ad 9), .int x1])).length) Slot.unset).toArray = ls at hl ⊢
  have hl : lv_has ls 2 [(0, .ref (ad 9)), (1, .int x1)] := hl
  obtain ⟨r0, hf⟩ : ∃ r0, fX7_tagOf S x1 = r0 := ⟨_, rfl⟩
  have hf0 := hf
  unfold fX7_tagOf at hf
  unfold d_X7_tagOf at hd
  refine lv_aload_n hx hb dX7_tagOf_0 rfl (lv_at hl 0 rfl) ?_
  refine lv_iload_n hx hb dX7_tagOf_1 rfl (lv_at hl 1 rfl) ?_
  obtain ⟨hv1, hd⟩ := hd
  have hFc := cfree hR hA
  refine va_calli (va_runV (As := [.int x1]) (rest := []) ⟨hx, hb, hml, hown, hts⟩ (rX7_entryAt l g ad s.heap.size S x1 hR.w  hv1) (cwV 1 hts (gd_V kw_1296 kw_1298 kw_1299 kw_710 kw_1297) rfl rfl rfl (by decide +kernel) ⟨Nat.le_of_ble_eq_true rfl, Nat.le_of_ble_eq_true rfl⟩) ⟨cblind, va_recv hR.K hR.P (ci := 6) (q0 := 9) rfl (hR.at46 (hR.w.2.1 _ finC_2).2.1), fun U hU hW9 => cmk hU hW9 hR hex hE hFc⟩ rfl rfl hl.1 rfl (lv_room (Nat.le_of_ble_eq_true rfl)) dX7_tagOf_2 ⟨Nat.le_of_ble_eq_true rfl, Nat.le_of_ble_eq_true rfl⟩) hR.sS (fun q _ h => hFc q h) hFc (fun r2 u9 t9 H1 locs ht9 hvm9 hw9 hB9 hz9 hk9 hS => ?_)
  have hR : RepC g ad A s S H1 locs := hR.call ht9 hB9 hR.w hS hFc
  obtain rfl : r2 = (fX7_entryAt S x1) := hw9
  clear hB9 hz9 hk9 hvm9 ht9 hS
  generalize H1 = H at hR ⊢
  refine lv_if_ne (tgt := 12) hx hb dX7_tagOf_5 (by decide) (fun c4 => ?_) (fun c4 => ?_)
  · rw [if_neg (k_ne rfl (by decide) c4)] at hf
    (try rw [if_neg (k_ne rfl (by decide) c4)] at hd)
    refine lv_aload_n hx hb dX7_tagOf_12 rfl (lv_at hl 0 rfl) ?_
    refine lv_aload_n hx hb dX7_tagOf_13 rfl (lv_at hl 0 rfl) ?_
    refine lv_iload_n hx hb dX7_tagOf_14 rfl (lv_at hl 1 rfl) ?_
    obtain ⟨hv5, hd⟩ := hd
    have hFc := cfree hR hA
    refine va_calli (va_runV (As := [.int x1]) (rest := [.ref (ad 9)]) ⟨hx, hb, hml, hown, hts⟩ (rX7_entryAt l g ad H.size S x1 hR.w  hv5) (cwV 1 hts (gd_V kw_1296 kw_1298 kw_1299 kw_710 kw_1297) rfl rfl rfl (by decide +kernel) ⟨Nat.le_of_ble_eq_true rfl, Nat.le_of_ble_eq_true rfl⟩) ⟨cblind, va_recv hR.K hR.P (ci := 6) (q0 := 9) rfl (hR.at46 (hR.w.2.1 _ finC_2).2.1), fun U hU hW9 => cmk hU hW9 hR hex hE hFc⟩ rfl rfl hl.1 rfl (lv_room (Nat.le_of_ble_eq_true rfl)) dX7_tagOf_15 ⟨Nat.le_of_ble_eq_true rfl, Nat.le_of_ble_eq_true rfl⟩) hR.sS (fun q _ h => hFc q h) hFc (fun r6 u9 t9 H1 locs ht9 hvm9 hw9 hB9 hz9 hk9 hS => ?_)
    have hR : RepC g ad A s S H1 locs := hR.call ht9 hB9 hR.w hS hFc
    obtain rfl : r6 = (fX7_entryAt S x1) := hw9
    clear hB9 hz9 hk9 hvm9 ht9 hS
    generalize H1 = H at hR ⊢
    obtain ⟨hv8, hd⟩ := hd
    have hFc := cfree hR hA
    refine va_calli (va_runV (As := [.int (fX7_entryAt S x1)]) (rest := []) ⟨hx, hb, hml, hown, hts⟩ (rX7_u1 l g ad H.size S (fX7_entryAt S x1) hR.w  hv8) (cwV 1 hts (gd_V kw_1304 kw_1447 kw_1448 kw_710 kw_1446) rfl rfl rfl (by decide +kernel) ⟨Nat.le_of_ble_eq_true rfl, Nat.le_of_ble_eq_true rfl⟩) ⟨cblind, va_recv hR.K hR.P (ci := 6) (q0 := 9) rfl (hR.at46 (hR.w.2.1 _ finC_2).2.1), fun U hU hW9 => cmk hU hW9 hR hex hE hFc⟩ rfl rfl hl.1 rfl (lv_room (Nat.le_of_ble_eq_true rfl)) dX7_tagOf_18 ⟨Nat.le_of_ble_eq_true rfl, Nat.le_of_ble_eq_true rfl⟩) hR.sS (fun q _ h => hFc q h) hFc (fun r9 u9 t9 H1 locs ht9 hvm9 hw9 hB9 hz9 hk9 hS => ?_)
    have hR : RepC g ad A s S H1 locs := hR.call ht9 hB9 hR.w hS hFc
    obtain rfl : r9 = (fX7_u1 S (fX7_entryAt S x1)) := hw9
    clear hB9 hz9 hk9 hvm9 ht9 hS
    generalize H1 = H at hR ⊢
    exact W.iret (v := (fX7_u1 S (fX7_entryAt S x1))) hx hb hr (fun t9 ht9 hW9 => ⟨⟨_, (), rfl, hf.trans hf0.symm, ⟨by rw [ht9]; exact hR.P, hR.D⟩⟩, hR.sS.F ht9⟩) hR.sS.2.2 dX7_tagOf_21
  · rw [if_pos (k_eq rfl (by decide) c4)] at hf
    (try rw [if_pos (k_eq rfl (by decide) c4)] at hd)
    refine lv_iconst (v := 0) hx hb dX7_tagOf_8 (by decide) ?_
    refine lv_goto (tgt := 21) hx hb dX7_tagOf_9 (by decide) ?_
    exact W.iret (v := 0) hx hb hr (fun t9 ht9 hW9 => ⟨⟨_, (), rfl, hf.trans hf0.symm, ⟨by rw [ht9]; exact hR.P, hR.D⟩⟩, hR.sS.F ht9⟩) hR.sS.2.2 dX7_tagOf_21
def fX7_firstOf (S : MS) (x1 : Int32) : Int32 := (fX7_u2 S ((fX7_entryAt S x1) + (1 : Int32)))
def d_X7_firstOf (S : MS) (x1 : Int32) : Prop := (d_X7_entryAt S x1 ∧ (d_X7_u2 S ((fX7_entryAt S x1) + (1 : Int32)) ∧ True))
set_option maxHeartbeats 2000000 in
set_option maxRecDepth 100000 in
theorem rX7_firstOf (l : Launch) (g : Gr) (ad : Nat → Nat) (sz : Nat) (S : MS) (x1 : Int32) (hw : wfC S) (hd : d_X7_firstOf S x1) : Met l yX7_firstOf (wt yX7_firstOf cX7_firstOf 2 (some .int)) ({ frames := 1, cells := 0, slots := 0, locals := 21 }) (va_Pc [.ref (ad 9), .int x1] (st_C g ad sz S)) (va_Qi (fun (r : Int32) (_ : Unit) => r = fX7_firstOf S x1) (fun (_ : Unit) (t : State) => qEC g ad (va_A (WdC g ad S) sz) S t) (va_A (WdC g ad S) sz)) 0 0 (va_A (WdC g ad S) sz) := by
  refine Met.ofW (cc := cX7_firstOf) (maxL := 2) (ret := (some .int)) (by decide) rfl ?_
  intro p e s m args below meth c s₁ B hml hv
  obtain ⟨rfl, hsz, hP, hK, hD0, hex, hE⟩ := hv
  have hx := B.exec
  have hb := B.bytes
  have hr := B.returns
  have hts0 := atoms_spec (ws := wt yX7_firstOf cX7_firstOf 2 (some .int)) B.pre
  have hts : ∀ w ∈ tb, w.before _ s = true := fun w h => hts0 w (List.mem_cons_of_mem _ h)
  have hown : s.vm.findClass RX7 = some m.cls := findClass_of_methodNamed B.named
  subst hsz
  have hD := hD0.self (sz := s.heap.size)
  generalize hAe : va_A (WdC g ad S) s.heap.size = A at hD hE ⊢
  have hA : ∀ q : Nat, s.heap.size ≤ q → A q := fun q h => by rw [← hAe]; exact Or.inr h
  have hR : RepC g ad A s S s.heap [] := ⟨hK, hP, hD, va_S.rf, hw⟩
  clear hK hP hD hD0
  have hl := lv_entry ([.ref (ad 9), .int x1]) (n := 2) (Nat.le_of_ble_eq_true rfl)
  rw [lg_entry_eq]
  generalize (lg_sl ([.ref (ad 9), .int x1]) ++ List.replicate (2 - (lg_sl ([.ref (ad 9), .int x1])).length) Slot.unset).toArray = ls at hl ⊢
  have hl : lv_has ls 2 [(0, .ref (ad 9)), (1, .int x1)] := hl
  obtain ⟨r0, hf⟩ : ∃ r0, fX7_firstOf S x1 = r0 := ⟨_, rfl⟩
  have hf0 := hf
  unfold fX7_firstOf at hf
  unfold d_X7_firstOf at hd
  refine lv_aload_n hx hb dX7_firstOf_0 rfl (lv_at hl 0 rfl) ?_
  refine lv_aload_n hx hb dX7_firstOf_1 rfl (lv_at hl 0 rfl) ?_
  refine lv_iload_n hx hb dX7_firstOf_2 rfl (lv_at hl 1 rfl) ?_
  obtain ⟨hv1, hd⟩ := hd
  have hFc := cfree hR hA
  refine va_calli (va_runV (As := [.int x1]) (rest := [.ref (ad 9)]) ⟨hx, hb, hml, hown, hts⟩ (rX7_entryAt l g ad s.heap.size S x1 hR.w  hv1) (cwV 1 hts (gd_V kw_1296 kw_1298 kw_1299 kw_710 kw_1297) rfl rfl rfl (by decide +kernel) ⟨Nat.le_of_ble_eq_true rfl, Nat.le_of_ble_eq_true rfl⟩) ⟨cblind, va_recv hR.K hR.P (ci := 6) (q0 := 9) rfl (hR.at46 (hR.w.2.1 _ finC_2).2.1), fun U hU hW9 => cmk hU hW9 hR hex hE hFc⟩ rfl rfl hl.1 rfl (lv_room (Nat.le_of_ble_eq_true rfl)) dX7_firstOf_3 ⟨Nat.le_of_ble_eq_true rfl, Nat.le_of_ble_eq_true rfl⟩) hR.sS (fun q _ h => hFc q h) hFc (fun r2 u9 t9 H1 locs ht9 hvm9 hw9 hB9 hz9 hk9 hS => ?_)
  have hR : RepC g ad A s S H1 locs := hR.call ht9 hB9 hR.w hS hFc
  obtain rfl : r2 = (fX7_entryAt S x1) := hw9
  clear hB9 hz9 hk9 hvm9 ht9 hS
  generalize H1 = H at hR ⊢
  refine lv_iconst (v := 1) hx hb dX7_firstOf_6 (by decide) ?_
  refine lv_iadd hx hb dX7_firstOf_7 ?_
  refine lv_topi (fun z4 ez4 => ?_)
  obtain rfl : z4 = ((fX7_entryAt S x1) + (1 : Int32)) := ez4
  obtain ⟨hv5, hd⟩ := hd
  have hFc := cfree hR hA
  refine va_calli (va_runV (As := [.int ((fX7_entryAt S x1) + (1 : Int32))]) (rest := []) ⟨hx, hb, hml, hown, hts⟩ (rX7_u2 l g ad H.size S ((fX7_entryAt S x1) + (1 : Int32)) hR.w  hv5) (cwV 1 hts (gd_V kw_1266 kw_1450 kw_1451 kw_710 kw_1449) rfl rfl rfl (by decide +kernel) ⟨Nat.le_of_ble_eq_true rfl, Nat.le_of_ble_eq_true rfl⟩) ⟨cblind, va_recv hR.K hR.P (ci := 6) (q0 := 9) rfl (hR.at46 (hR.w.2.1 _ finC_2).2.1), fun U hU hW9 => cmk hU hW9 hR hex hE hFc⟩ rfl rfl hl.1 rfl (lv_room (Nat.le_of_ble_eq_true rfl)) dX7_firstOf_8 ⟨Nat.le_of_ble_eq_true rfl, Nat.le_of_ble_eq_true rfl⟩) hR.sS (fun q _ h => hFc q h) hFc (fun r6 u9 t9 H1 locs ht9 hvm9 hw9 hB9 hz9 hk9 hS => ?_)
  have hR : RepC g ad A s S H1 locs := hR.call ht9 hB9 hR.w hS hFc
  obtain rfl : r6 = (fX7_u2 S ((fX7_entryAt S x1) + (1 : Int32))) := hw9
  clear hB9 hz9 hk9 hvm9 ht9 hS
  generalize H1 = H at hR ⊢
  exact W.iret (v := (fX7_u2 S ((fX7_entryAt S x1) + (1 : Int32)))) hx hb hr (fun t9 ht9 hW9 => ⟨⟨_, (), rfl, hf.trans hf0.symm, ⟨by rw [ht9]; exact hR.P, hR.D⟩⟩, hR.sS.F ht9⟩) hR.sS.2.2 dX7_firstOf_11
