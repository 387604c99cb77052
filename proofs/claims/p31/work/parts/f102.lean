def fX3_tell (S : MS) (x1 : Int32) (x2 : Int32) : Int32 := (if x1.toInt < 0 then (-1 : Int32) else (if x1.toInt < (qI S 52 1).toInt then (if x2.toInt = 0 then (qI S (qO S 52 2) x1.toInt.toNat) else (if x2.toInt = 1 then (if (qI S (qO S 52 8) x1.toInt.toNat).toInt = 0 then (0 : Int32) else (1 : Int32)) else (if x2.toInt = 2 then (qI S (qO S 52 11) x1.toInt.toNat) else (if x2.toInt = 3 then (if (qI S (qO S 52 12) x1.toInt.toNat).toInt ≤ 0 then (0 : Int32) else (1 : Int32)) else (if x2.toInt = 4 then (qI S (qO S 52 13) x1.toInt.toNat) else (if x2.toInt = 5 then ((qI S (qO S 52 4) (((x1 + (1 : Int32)).toInt).toNat)) - (qI S (qO S 52 4) x1.toInt.toNat)) else (-1 : Int32))))))) else (-1 : Int32)))
def d_X3_tell (S : MS) (x1 : Int32) (x2 : Int32) : Prop := (if x1.toInt < 0 then True else (if x1.toInt < (qI S 52 1).toInt then (if x2.toInt = 0 then (((0 : Int) ≤ x1.toInt ∧ x1.toInt < (qN S (qO S 52 2) : Int)) ∧ True) else (if x2.toInt = 1 then (((0 : Int) ≤ x1.toInt ∧ x1.toInt < (qN S (qO S 52 8) : Int)) ∧ True) else (if x2.toInt = 2 then (((0 : Int) ≤ x1.toInt ∧ x1.toInt < (qN S (qO S 52 11) : Int)) ∧ True) else (if x2.toInt = 3 then (((0 : Int) ≤ x1.toInt ∧ x1.toInt < (qN S (qO S 52 12) : Int)) ∧ True) else (if x2.toInt = 4 then (((0 : Int) ≤ x1.toInt ∧ x1.toInt < (qN S (qO S 52 13) : Int)) ∧ True) else (if x2.toInt = 5 then (((0 : Int) ≤ (x1 + (1 : Int32)).toInt ∧ (x1 + (1 : Int32)).toInt < (qN S (qO S 52 4) : Int)) ∧ (((0 : Int) ≤ x1.toInt ∧ x1.toInt < (qN S (qO S 52 4) : Int)) ∧ True)) else True)))))) else True))
set_option maxHeartbeats 2000000 in
set_option maxRecDepth 100000 in
theorem rX3_tell (l : Launch) (g : Gr) (ad : Nat → Nat) (sz : Nat) (S : MS) (x1 : Int32) (x2 : Int32) (hw : wfC S) (hd : d_X3_tell S x1 x2) : Met l yX3_tell (wt yX3_tell cX3_tell 3 (some .int)) ({ frames := 0, cells := 0, slots := 0, locals := 0 }) (va_Pc [.ref (ad 52), .int x1, .int x2] (st_C g ad sz S)) (va_Qi (fun (r : Int32) (_ : Unit) => r = fX3_tell S x1 x2) (fun (_ : Unit) (t : State) => qEC g ad (va_A (WdC g ad S) sz) S t) (va_A (WdC g ad S) sz)) 0 0 (va_A (WdC g ad S) sz) := by
  refine Met.ofW (cc := cX3_tell) (maxL := 3) (ret := (some .int)) (by decide) rfl ?_
  intro p e s m args below meth c s₁ B hml hv
  obtain ⟨rfl, hsz, hP, hK, hD0, hex, hE⟩ := hv
  have hx := B.exec
  have hb := B.bytes
  have hr := B.returns
  have hts0 := atoms_spec (ws := wt yX3_tell cX3_tell 3 (some .int)) B.pre
  have hts : ∀ w ∈ tb, w.before _ s = true := fun w h => hts0 w (List.mem_cons_of_mem _ h)
  have hown : s.vm.findClass RX3 = some m.cls := findClass_of_methodNamed B.named
  subst hsz
  have hD := hD0.self (sz := s.heap.size)
  generalize hAe : va_A (WdC g ad S) s.heap.size = A at hD hE ⊢
  have hA : ∀ q : Nat, s.heap.size ≤ q → A q := fun q h => by rw [← hAe]; exact Or.inr h
  have hR : RepC g ad A s S s.heap [] := ⟨hK, hP, hD, va_S.rf, hw⟩
  clear hK hP hD hD0
  have hl := lv_entry ([.ref (ad 52), .int x1, .int x2]) (n := 3) (Nat.le_of_ble_eq_true rfl)
  rw [lg_entry_eq]
  generalize (lg_sl ([.ref (ad 52), .int x1, .int x2]) ++ List.replicate (3 - (lg_sl ([.ref (ad 52), .int x1, .int x2])).length) Slot.unset).toArray = ls at hl ⊢
  have hl : lv_has ls 3 [(0, .ref (ad 52)), (1, .int x1), (2, .int x2)] := hl
  obtain ⟨r0, hf⟩ : ∃ r0, fX3_tell S x1 x2 = r0 := ⟨_, rfl⟩
  have hf0 := hf
  unfold fX3_tell at hf
  unfold d_X3_tell at hd
  refine lv_iload_n hx hb dX3_tell_0 rfl (lv_at hl 1 rfl) ?_
  refine lv_if_lt (tgt := 12) hx hb dX3_tell_1 (by decide) (fun c1 => ?_) (fun c1 => ?_)
  · rw [if_pos (k_lt rfl (by decide) c1)] at hf
    (try rw [if_pos (k_lt rfl (by decide) c1)] at hd)
    refine lv_iconst (v := (-1)) hx hb dX3_tell_12 (by decide) ?_
    exact W.iret (v := (-1)) hx hb hr (fun t9 ht9 hW9 => ⟨⟨_, (), rfl, hf.trans hf0.symm, ⟨by rw [ht9]; exact hR.P, hR.D⟩⟩, hR.sS.F ht9⟩) hR.sS.2.2 dX3_tell_13
  · rw [if_neg (k_nlt rfl (by decide) c1)] at hf
    (try rw [if_neg (k_nlt rfl (by decide) c1)] at hd)
    refine lv_iload_n hx hb dX3_tell_4 rfl (lv_at hl 1 rfl) ?_
    refine lv_aload_n hx hb dX3_tell_5 rfl (lv_at hl 0 rfl) ?_
    refine va_get (D := rD g) (ci := 3) (v := .int (qI S 52 1)) (C := RX3) (T := TX3) (N := 16) hx hb hts inX3 hown hR.K hR.P 52 (hR.at43 (hR.w.2.1 _ finC_30).2.1) rfl 1 (by decide) (hts _ kw_851) (fun _ h9 => h9) rfl dX3_tell_6 ?_
    refine lv_icmp_lt (tgt := 14) hx hb dX3_tell_9 (by decide) (fun c2 => ?_) (fun c2 => ?_)
    · rw [if_pos (k_lt rfl rfl c2)] at hf
      (try rw [if_pos (k_lt rfl rfl c2)] at hd)
      refine lv_iload_n hx hb dX3_tell_14 rfl (lv_at hl 2 rfl) ?_
      by_cases c9_0 : x2.toInt = 0
      · refine lv_tableIn (off := 37) (tgt := 52) hx hb dX3_tell_15 (by rw [c9_0]; decide) (by rw [c9_0]; decide) (by rw [c9_0]; rfl) (by decide) ?_
        rw [if_pos (c9_0)] at hf
        (try rw [if_pos (c9_0)] at hd)
        refine lv_aload_n hx hb dX3_tell_52 rfl (lv_at hl 0 rfl) ?_
        have hT_b3 : qT S (qO S 52 2) = 202 := hR.w.ref (hR.w.ptr ptrC_22) (hR.w.2.1 _ finC_30).2.1
        refine va_get (D := rD g) (ci := 3) (v := .ref (ad (qO S 52 2))) (C := RX3) (T := TX3) (N := 16) hx hb hts inX3 hown hR.K hR.P 52 (hR.at43 (hR.w.2.1 _ finC_30).2.1) rfl 2 (by decide) (hts _ kw_862) (fun _ h9 => h9) (congrArg (fun z => some (vf ad z)) (hR.w.ptr ptrC_22)) dX3_tell_53 ?_
        refine lv_iload_n hx hb dX3_tell_56 rfl (lv_at hl 1 rfl) ?_
        obtain ⟨hv4, hd⟩ := hd
        refine va_iald hx hb hR.K hR.P (qO S 52 2) 1 (hR.atI hT_b3 (by decide)) rfl (k_ix (x := x1) (a := x1.toInt) rfl hv4) dX3_tell_57 ?_
        refine lv_topi (fun z5 ez5 => ?_)
        obtain rfl : z5 = (qI S (qO S 52 2) x1.toInt.toNat) := ez5
        exact W.iret (v := (qI S (qO S 52 2) x1.toInt.toNat)) hx hb hr (fun t9 ht9 hW9 => ⟨⟨_, (), rfl, hf.trans hf0.symm, ⟨by rw [ht9]; exact hR.P, hR.D⟩⟩, hR.sS.F ht9⟩) hR.sS.2.2 dX3_tell_58
      rw [if_neg c9_0] at hf
      (try rw [if_neg c9_0] at hd)
      by_cases c9_1 : x2.toInt = 1
      · refine lv_tableIn (off := 44) (tgt := 59) hx hb dX3_tell_15 (by rw [c9_1]; decide) (by rw [c9_1]; decide) (by rw [c9_1]; rfl) (by decide) ?_
        rw [if_pos (c9_1)] at hf
        (try rw [if_pos (c9_1)] at hd)
        refine lv_aload_n hx hb dX3_tell_59 rfl (lv_at hl 0 rfl) ?_
        have hT_b6 : qT S (qO S 52 8) = 303 := hR.w.ref (hR.w.ptr ptrC_28) (hR.w.2.1 _ finC_30).2.1
        refine va_get (D := rD g) (ci := 3) (v := .ref (ad (qO S 52 8))) (C := RX3) (T := TX3) (N := 16) hx hb hts inX3 hown hR.K hR.P 52 (hR.at43 (hR.w.2.1 _ finC_30).2.1) rfl 8 (by decide) (hts _ kw_847) (fun _ h9 => h9) (congrArg (fun z => some (vf ad z)) (hR.w.ptr ptrC_28)) dX3_tell_60 ?_
        refine lv_iload_n hx hb dX3_tell_63 rfl (lv_at hl 1 rfl) ?_
        obtain ⟨hv7, hd⟩ := hd
        refine va_zald hx hb hR.K hR.P (qO S 52 8) 2 (hR.atZ hT_b6 (by decide)) rfl (k_ix (x := x1) (a := x1.toInt) rfl hv7) dX3_tell_64 ?_
        refine lv_topi (fun z8 ez8 => ?_)
        obtain rfl : z8 = (qI S (qO S 52 8) x1.toInt.toNat) := ez8
        have hz9 := hR.w.bit3 (b := (qO S 52 8)) (j := x1.toInt.toNat) (hT_b6) (by decide)
        refine lv_if_eq (tgt := 72) hx hb dX3_tell_65 (by decide) (fun c10 => ?_) (fun c10 => ?_)
        · rw [if_pos (k_eq rfl (by decide) c10)] at hf
          (try rw [if_pos (k_eq rfl (by decide) c10)] at hd)
          refine lv_iconst (v := 0) hx hb dX3_tell_72 (by decide) ?_
          exact W.iret (v := 0) hx hb hr (fun t9 ht9 hW9 => ⟨⟨_, (), rfl, hf.trans hf0.symm, ⟨by rw [ht9]; exact hR.P, hR.D⟩⟩, hR.sS.F ht9⟩) hR.sS.2.2 dX3_tell_73
        · rw [if_neg (k_ne rfl (by decide) c10)] at hf
          (try rw [if_neg (k_ne rfl (by decide) c10)] at hd)
          refine lv_iconst (v := 1) hx hb dX3_tell_68 (by decide) ?_
          refine lv_goto (tgt := 73) hx hb dX3_tell_69 (by decide) ?_
          exact W.iret (v := 1) hx hb hr (fun t9 ht9 hW9 => ⟨⟨_, (), rfl, hf.trans hf0.symm, ⟨by rw [ht9]; exact hR.P, hR.D⟩⟩, hR.sS.F ht9⟩) hR.sS.2.2 dX3_tell_73
      rw [if_neg c9_1] at hf
      (try rw [if_neg c9_1] at hd)
      by_cases c9_2 : x2.toInt = 2
      · refine lv_tableIn (off := 59) (tgt := 74) hx hb dX3_tell_15 (by rw [c9_2]; decide) (by rw [c9_2]; decide) (by rw [c9_2]; rfl) (by decide) ?_
        rw [if_pos (c9_2)] at hf
        (try rw [if_pos (c9_2)] at hd)
        refine lv_aload_n hx hb dX3_tell_74 rfl (lv_at hl 0 rfl) ?_
        have hT_b11 : qT S (qO S 52 11) = 208 := hR.w.ref (hR.w.ptr ptrC_30) (hR.w.2.1 _ finC_30).2.1
        refine va_get (D := rD g) (ci := 3) (v := .ref (ad (qO S 52 11))) (C := RX3) (T := TX3) (N := 16) hx hb hts inX3 hown hR.K hR.P 52 (hR.at43 (hR.w.2.1 _ finC_30).2.1) rfl 11 (by decide) (hts _ kw_907) (fun _ h9 => h9) (congrArg (fun z => some (vf ad z)) (hR.w.ptr ptrC_30)) dX3_tell_75 ?_
        refine lv_iload_n hx hb dX3_tell_78 rfl (lv_at hl 1 rfl) ?_
        obtain ⟨hv12, hd⟩ := hd
        refine va_iald hx hb hR.K hR.P (qO S 52 11) 1 (hR.atI hT_b11 (by decide)) rfl (k_ix (x := x1) (a := x1.toInt) rfl hv12) dX3_tell_79 ?_
        refine lv_topi (fun z13 ez13 => ?_)
        obtain rfl : z13 = (qI S (qO S 52 11) x1.toInt.toNat) := ez13
        exact W.iret (v := (qI S (qO S 52 11) x1.toInt.toNat)) hx hb hr (fun t9 ht9 hW9 => ⟨⟨_, (), rfl, hf.trans hf0.symm, ⟨by rw [ht9]; exact hR.P, hR.D⟩⟩, hR.sS.F ht9⟩) hR.sS.2.2 dX3_tell_80
      rw [if_neg c9_2] at hf
      (try rw [if_neg c9_2] at hd)
      by_cases c9_3 : x2.toInt = 3
      · refine lv_tableIn (off := 66) (tgt := 81) hx hb dX3_tell_15 (by rw [c9_3]; decide) (by rw [c9_3]; decide) (by rw [c9_3]; rfl) (by decide) ?_
        rw [if_pos (c9_3)] at hf
        (try rw [if_pos (c9_3)] at hd)
        refine lv_aload_n hx hb dX3_tell_81 rfl (lv_at hl 0 rfl) ?_
        have hT_b14 : qT S (qO S 52 12) = 209 := hR.w.ref (hR.w.ptr ptrC_31) (hR.w.2.1 _ finC_30).2.1
        refine va_get (D := rD g) (ci := 3) (v := .ref (ad (qO S 52 12))) (C := RX3) (T := TX3) (N := 16) hx hb hts inX3 hown hR.K hR.P 52 (hR.at43 (hR.w.2.1 _ finC_30).2.1) rfl 12 (by decide) (hts _ kw_918) (fun _ h9 => h9) (congrArg (fun z => some (vf ad z)) (hR.w.ptr ptrC_31)) dX3_tell_82 ?_
        refine lv_iload_n hx hb dX3_tell_85 rfl (lv_at hl 1 rfl) ?_
        obtain ⟨hv15, hd⟩ := hd
        refine va_iald hx hb hR.K hR.P (qO S 52 12) 1 (hR.atI hT_b14 (by decide)) rfl (k_ix (x := x1) (a := x1.toInt) rfl hv15) dX3_tell_86 ?_
        refine lv_topi (fun z16 ez16 => ?_)
        obtain rfl : z16 = (qI S (qO S 52 12) x1.toInt.toNat) := ez16
        refine lv_if_le (tgt := 94) hx hb dX3_tell_87 (by decide) (fun c17 => ?_) (fun c17 => ?_)
        · rw [if_pos (k_le rfl (by decide) c17)] at hf
          (try rw [if_pos (k_le rfl (by decide) c17)] at hd)
          refine lv_iconst (v := 0) hx hb dX3_tell_94 (by decide) ?_
          exact W.iret (v := 0) hx hb hr (fun t9 ht9 hW9 => ⟨⟨_, (), rfl, hf.trans hf0.symm, ⟨by rw [ht9]; exact hR.P, hR.D⟩⟩, hR.sS.F ht9⟩) hR.sS.2.2 dX3_tell_95
        · rw [if_neg (k_nle rfl (by decide) c17)] at hf
          (try rw [if_neg (k_nle rfl (by decide) c17)] at hd)
          refine lv_iconst (v := 1) hx hb dX3_tell_90 (by decide) ?_
          refine lv_goto (tgt := 95) hx hb dX3_tell_91 (by decide) ?_
          exact W.iret (v := 1) hx hb hr (fun t9 ht9 hW9 => ⟨⟨_, (), rfl, hf.trans hf0.symm, ⟨by rw [ht9]; exact hR.P, hR.D⟩⟩, hR.sS.F ht9⟩) hR.sS.2.2 dX3_tell_95
      rw [if_neg c9_3] at hf
      (try rw [if_neg c9_3] at hd)
      by_cases c9_4 : x2.toInt = 4
      · refine lv_tableIn (off := 81) (tgt := 96) hx hb dX3_tell_15 (by rw [c9_4]; decide) (by rw [c9_4]; decide) (by rw [c9_4]; rfl) (by decide) ?_
        rw [if_pos (c9_4)] at hf
        (try rw [if_pos (c9_4)] at hd)
        refine lv_aload_n hx hb dX3_tell_96 rfl (lv_at hl 0 rfl) ?_
        have hT_b18 : qT S (qO S 52 13) = 210 := hR.w.ref (hR.w.ptr ptrC_32) (hR.w.2.1 _ finC_30).2.1
        refine va_get (D := rD g) (ci := 3) (v := .ref (ad (qO S 52 13))) (C := RX3) (T := TX3) (N := 16) hx hb hts inX3 hown hR.K hR.P 52 (hR.at43 (hR.w.2.1 _ finC_30).2.1) rfl 13 (by decide) (hts _ kw_845) (fun _ h9 => h9) (congrArg (fun z => some (vf ad z)) (hR.w.ptr ptrC_32)) dX3_tell_97 ?_
        refine lv_iload_n hx hb dX3_tell_100 rfl (lv_at hl 1 rfl) ?_
        obtain ⟨hv19, hd⟩ := hd
        refine va_iald hx hb hR.K hR.P (qO S 52 13) 1 (hR.atI hT_b18 (by decide)) rfl (k_ix (x := x1) (a := x1.toInt) rfl hv19) dX3_tell_101 ?_
        refine lv_topi (fun z20 ez20 => ?_)
        obtain rfl : z20 = (qI S (qO S 52 13) x1.toInt.toNat) := ez20
        exact W.iret (v := (qI S (qO S 52 13) x1.toInt.toNat)) hx hb hr (fun t9 ht9 hW9 => ⟨⟨_, (), rfl, hf.trans hf0.symm, ⟨by rw [ht9]; exact hR.P, hR.D⟩⟩, hR.sS.F ht9⟩) hR.sS.2.2 dX3_tell_102
      rw [if_neg c9_4] at hf
      (try rw [if_neg c9_4] at hd)
      by_cases c9_5 : x2.toInt = 5
      · refine lv_tableIn (off := 88) (tgt := 103) hx hb dX3_tell_15 (by rw [c9_5]; decide) (by rw [c9_5]; decide) (by rw [c9_5]; rfl) (by decide) ?_
        rw [if_pos (c9_5)] at hf
        (try rw [if_pos (c9_5)] at hd)
        refine lv_aload_n hx hb dX3_tell_103 rfl (lv_at hl 0 rfl) ?_
        have hT_b21 : qT S (qO S 52 4) = 204 := hR.w.ref (hR.w.ptr ptrC_24) (hR.w.2.1 _ finC_30).2.1
        refine va_get (D := rD g) (ci := 3) (v := .ref (ad (qO S 52 4))) (C := RX3) (T := TX3) (N := 16) hx hb hts inX3 hown hR.K hR.P 52 (hR.at43 (hR.w.2.1 _ finC_30).2.1) rfl 4 (by decide) (hts _ kw_885) (fun _ h9 => h9) (congrArg (fun z => some (vf ad z)) (hR.w.ptr ptrC_24)) dX3_tell_104 ?_
        refine lv_iload_n hx hb dX3_tell_107 rfl (lv_at hl 1 rfl) ?_
        refine lv_iconst (v := 1) hx hb dX3_tell_108 (by decide) ?_
        refine lv_iadd hx hb dX3_tell_109 ?_
        refine lv_topi (fun z22 ez22 => ?_)
        obtain rfl : z22 = (x1 + (1 : Int32)) := ez22
        obtain ⟨hv23, hd⟩ := hd
        refine va_iald hx hb hR.K hR.P (qO S 52 4) 1 (hR.atI hT_b21 (by decide)) rfl (k_ix (x := (x1 + (1 : Int32))) (a := (x1 + (1 : Int32)).toInt) rfl hv23) dX3_tell_110 ?_
        refine lv_topi (fun z24 ez24 => ?_)
        obtain rfl : z24 = (qI S (qO S 52 4) (((x1 + (1 : Int32)).toInt).toNat)) := ez24
        refine lv_aload_n hx hb dX3_tell_111 rfl (lv_at hl 0 rfl) ?_
        have hT_b25 : qT S (qO S 52 4) = 204 := hR.w.ref (hR.w.ptr ptrC_24) (hR.w.2.1 _ finC_30).2.1
        refine va_get (D := rD g) (ci := 3) (v := .ref (ad (qO S 52 4))) (C := RX3) (T := TX3) (N := 16) hx hb hts inX3 hown hR.K hR.P 52 (hR.at43 (hR.w.2.1 _ finC_30).2.1) rfl 4 (by decide) (hts _ kw_885) (fun _ h9 => h9) (congrArg (fun z => some (vf ad z)) (hR.w.ptr ptrC_24)) dX3_tell_112 ?_
        refine lv_iload_n hx hb dX3_tell_115 rfl (lv_at hl 1 rfl) ?_
        obtain ⟨hv26, hd⟩ := hd
        refine va_iald hx hb hR.K hR.P (qO S 52 4) 1 (hR.atI hT_b25 (by decide)) rfl (k_ix (x := x1) (a := x1.toInt) rfl hv26) dX3_tell_116 ?_
        refine lv_topi (fun z27 ez27 => ?_)
        obtain rfl : z27 = (qI S (qO S 52 4) x1.toInt.toNat) := ez27
        refine lv_isub hx hb dX3_tell_117 ?_
        refine lv_topi (fun z28 ez28 => ?_)
        obtain rfl : z28 = ((qI S (qO S 52 4) (((x1 + (1 : Int32)).toInt).toNat)) - (qI S (qO S 52 4) x1.toInt.toNat)) := ez28
        exact W.iret (v := ((qI S (qO S 52 4) (((x1 + (1 : Int32)).toInt).toNat)) - (qI S (qO S 52 4) x1.toInt.toNat))) hx hb hr (fun t9 ht9 hW9 => ⟨⟨_, (), rfl, hf.trans hf0.symm, ⟨by rw [ht9]; exact hR.P, hR.D⟩⟩, hR.sS.F ht9⟩) hR.sS.2.2 dX3_tell_118
      rw [if_neg c9_5] at hf
      (try rw [if_neg c9_5] at hd)
      refine lv_tableOut (tgt := 119) hx hb dX3_tell_15 (by omega) (by decide) ?_
      refine lv_iconst (v := (-1)) hx hb dX3_tell_119 (by decide) ?_
      exact W.iret (v := (-1)) hx hb hr (fun t9 ht9 hW9 => ⟨⟨_, (), rfl, hf.trans hf0.symm, ⟨by rw [ht9]; exact hR.P, hR.D⟩⟩, hR.sS.F ht9⟩) hR.sS.2.2 dX3_tell_120
    · rw [if_neg (k_nlt rfl rfl c2)] at hf
      (try rw [if_neg (k_nlt rfl rfl c2)] at hd)
      refine lv_iconst (v := (-1)) hx hb dX3_tell_12 (by decide) ?_
      exact W.iret (v := (-1)) hx hb hr (fun t9 ht9 hW9 => ⟨⟨_, (), rfl, hf.trans hf0.symm, ⟨by rw [ht9]; exact hR.P, hR.D⟩⟩, hR.sS.F ht9⟩) hR.sS.2.2 dX3_tell_13
def w_X3_hasEdge_L21 (Q : Int32 → MS → Prop) : Nat → MS → Int32 → Int32 → Int32 → Prop
  | 0, _, _, _, _ => False
  | n21 + 1, U21, v21_1, v21_2, v21_3 => (wfC U21 → (((0 : Int) ≤ (v21_1 + (1 : Int32)).toInt ∧ (v21_1 + (1 : Int32)).toInt < (qN U21 (qO U21 52 4) : Int)) ∧ (((qI U21 (qO U21 52 4) (((v21_1 + (1 : Int32)).toInt).toNat)).toInt ≤ v21_3.toInt → Q (0 : Int32) U21) ∧ (¬ (qI U21 (qO U21 52 4) (((v21_1 + (1 : Int32)).toInt).toNat)).toInt ≤ v21_3.toInt → (((0 : Int) ≤ v21_3.toInt ∧ v21_3.toInt < (qN U21 (qO U21 52 5) : Int)) ∧ (((qI U21 (qO U21 52 5) v21_3.toInt.toNat).toInt = v21_2.toInt → Q (1 : Int32) U21) ∧ (¬ (qI U21 (qO U21 52 5) v21_3.toInt.toNat).toInt = v21_2.toInt → (∀ a16 : Int32, a16 = (v21_3 + Int32.ofInt 1) → (w_X3_hasEdge_L21 Q n21) U21 v21_1 v21_2 a16))))))))
def wX3_hasEdge (S : MS) (x1 : Int32) (x2 : Int32) (Q : Int32 → MS → Prop) : Prop := ((x1.toInt < 0 → Q (0 : Int32) S) ∧ (¬ x1.toInt < 0 → ((x1.toInt < (qI S 52 1).toInt → (((0 : Int) ≤ x1.toInt ∧ x1.toInt < (qN S (qO S 52 4) : Int)) ∧ (∀ a6 : Int32, a6 = (qI S (qO S 52 4) x1.toInt.toNat) → (∃ n, w_X3_hasEdge_L21 Q n S x1 x2 a6)))) ∧ (¬ x1.toInt < (qI S 52 1).toInt → Q (0 : Int32) S))))
set_option maxHeartbeats 2000000 in
set_option maxRecDepth 100000 in
theorem rX3_hasEdge (l : Launch) (g : Gr) (ad : Nat → Nat) (sz : Nat) (S : MS) (x1 : Int32) (x2 : Int32) (hw : wfC S) (Q : Int32 → MS → Prop) (h : wX3_hasEdge S x1 x2 Q) : Met l yX3_hasEdge (wt yX3_hasEdge cX3_hasEdge 4 (some .boolean)) ({ frames := 0, cells := 0, slots := 0, locals := 0 }) (va_Pc [.ref (ad 52), .int x1, .int x2] (st_C g ad sz S)) (va_Qi (fun (r : Int32) (u : MS) => Q r u ∧ wfC u ∧ shy S u ∧ (r = 0 ∨ r = 1)) (fun (u : MS) (t : State) => qEC g ad (va_A (WdC g ad S) sz) u t) (va_A (WdC g ad S) sz)) 0 0 (va_A (WdC g ad S) sz) := by
  refine Met.ofW (cc := cX3_hasEdge) (maxL := 4) (ret := (some .boolean)) (by decide) rfl ?_
  intro p e s m args below meth c s₁ B hml hv
  obtain ⟨rfl, hsz, hP, hK, hD0, hex, hE⟩ := hv
  have hx := B.exec
  have hb := B.bytes
  have hr := B.returns
  have hts0 := atoms_spec (ws := wt yX3_hasEdge cX3_hasEdge 4 (some .boolean)) B.pre
  have hts : ∀ w ∈ tb, w.before _ s = true := fun w h => hts0 w (List.mem_cons_of_mem _ h)
  have hown : s.vm.findClass RX3 = some m.cls := findClass_of_methodNamed B.named
  subst hsz
  have hD := hD0.self (sz := s.heap.size)
  generalize hAe : va_A (WdC g ad S) s.heap.size = A at hD hE ⊢
  have hA : ∀ q : Nat, s.heap.size ≤ q → A q := fun q h => by rw [← hAe]; exact Or.inr h
  have hR : RepC g ad A s S s.heap [] := ⟨hK, hP, hD, va_S.rf, hw⟩
  clear hK hP hD hD0
  have hl := lv_entry ([.ref (ad 52), .int x1, .int x2]) (n := 4) (Nat.le_of_ble_eq_true rfl)
  rw [lg_entry_eq]
  generalize (lg_sl ([.ref (ad 52), .int x1, .int x2]) ++ List.replicate (4 - (lg_sl ([.ref (ad 52), .int x1, .int x2])).length) Slot.unset).toArray = ls at hl ⊢
  have hl : lv_has ls 4 [(0, .ref (ad 52)), (1, .int x1), (2, .int x2)] := hl
  have hsh : shy S S := shy.rf
  unfold wX3_hasEdge at h
  refine lv_iload_n hx hb dX3_hasEdge_0 rfl (lv_at hl 1 rfl) ?_
  refine lv_if_lt (tgt := 12) hx hb dX3_hasEdge_1 (by decide) (fun c1 => ?_) (fun c1 => ?_)
  · replace h := h.1 (k_lt rfl (by decide) c1)
    refine lv_iconst (v := 0) hx hb dX3_hasEdge_12 (by decide) ?_
    exact W.zret (v := 0) hx hb hr (nz (Or.inl rfl)) (fun t9 ht9 hW9 => ⟨⟨_, S, rfl, ⟨h, hR.w, hsh, (Or.inl rfl)⟩, ⟨by rw [ht9]; exact hR.P, hR.D⟩⟩, hR.sS.F ht9⟩) hR.sS.2.2 dX3_hasEdge_13
  · replace h := h.2 (k_nlt rfl (by decide) c1)
    refine lv_iload_n hx hb dX3_hasEdge_4 rfl (lv_at hl 1 rfl) ?_
    refine lv_aload_n hx hb dX3_hasEdge_5 rfl (lv_at hl 0 rfl) ?_
    refine va_get (D := rD g) (ci := 3) (v := .int (qI S 52 1)) (C := RX3) (T := TX3) (N := 16) hx hb hts inX3 hown hR.K hR.P 52 (hR.at43 (hR.w.2.1 _ finC_30).2.1) rfl 1 (by decide) (hts _ kw_851) (fun _ h9 => h9) rfl dX3_hasEdge_6 ?_
    refine lv_icmp_lt (tgt := 14) hx hb dX3_hasEdge_9 (by decide) (fun c2 => ?_) (fun c2 => ?_)
    · replace h := h.1 (k_lt rfl rfl c2)
      refine lv_aload_n hx hb dX3_hasEdge_14 rfl (lv_at hl 0 rfl) ?_
      have hT_b3 : qT S (qO S 52 4) = 204 := hR.w.ref (hR.w.ptr ptrC_24) (hR.w.2.1 _ finC_30).2.1
      refine va_get (D := rD g) (ci := 3) (v := .ref (ad (qO S 52 4))) (C := RX3) (T := TX3) (N := 16) hx hb hts inX3 hown hR.K hR.P 52 (hR.at43 (hR.w.2.1 _ finC_30).2.1) rfl 4 (by decide) (hts _ kw_885) (fun _ h9 => h9) (congrArg (fun z => some (vf ad z)) (hR.w.ptr ptrC_24)) dX3_hasEdge_15 ?_
      refine lv_iload_n hx hb dX3_hasEdge_18 rfl (lv_at hl 1 rfl) ?_
      obtain ⟨hv4, h⟩ := h
      refine va_iald hx hb hR.K hR.P (qO S 52 4) 1 (hR.atI hT_b3 (by decide)) rfl (k_ix (x := x1) (a := x1.toInt) rfl hv4) dX3_hasEdge_19 ?_
      refine lv_topi (fun z5 ez5 => ?_)
      obtain rfl : z5 = (qI S (qO S 52 4) x1.toInt.toNat) := ez5
      obtain ⟨a6, ea6⟩ : ∃ z, z = (qI S (qO S 52 4) x1.toInt.toNat) := ⟨_, rfl⟩
      rw [← ea6]
      replace h := h a6 ea6
      refine lv_istore_n (lv' := [(3, .int a6), (0, .ref (ad 52)), (1, .int x1), (2, .int x2)]) hx hb dX3_hasEdge_20 rfl hl (by decide) rfl (fun ls hl => ?_)
      have J_21 : ∀ (n21 : Nat) (U21 : MS) (v21_1 : Int32) (v21_2 : Int32) (v21_3 : Int32) (H : Heap) (locs : List Loc) (ls : Array Slot), w_X3_hasEdge_L21 Q n21 U21 v21_1 v21_2 v21_3 → shy S U21 → RepC g ad A s U21 H locs → lv_has ls 4 [(0, .ref (ad 52)), (1, .int v21_1), (2, .int v21_2), (3, .int v21_3)] → W p l e (headSpec (wt yX3_hasEdge cX3_hasEdge 4 (some .boolean)) ({ frames := 0, cells := 0, slots := 0, locals := 0 })).room s m ([.ref (ad 52), .int x1, .int x2] : List Value).toArray below meth c H locs 0 0 (MQ below (va_Qi (fun (r : Int32) (u : MS) => Q r u ∧ wfC u ∧ shy S u ∧ (r = 0 ∨ r = 1)) (fun (u : MS) (t : State) => qEC g ad A u t) A) ([.ref (ad 52), .int x1, .int x2] : List Value).toArray s 0 0 A) (F0 m 21 ls []) := by
        intro n21
        induction n21 with
        | zero => intro U21 v21_1 v21_2 v21_3 H locs ls h hsh hR hl; unfold w_X3_hasEdge_L21 at h; exact h.elim
        | succ n21 ih_21 =>
          intro U21 v21_1 v21_2 v21_3 H locs ls h hsh hR hl
          unfold w_X3_hasEdge_L21 at h
          replace h := h hR.w
          refine lv_iload_n hx hb dX3_hasEdge_21 rfl (lv_at hl 3 rfl) ?_
          refine lv_aload_n hx hb dX3_hasEdge_22 rfl (lv_at hl 0 rfl) ?_
          have hT_b7 : qT U21 (qO U21 52 4) = 204 := hR.w.ref (hR.w.ptr ptrC_24) (hR.w.2.1 _ finC_30).2.1
          refine va_get (D := rD g) (ci := 3) (v := .ref (ad (qO U21 52 4))) (C := RX3) (T := TX3) (N := 16) hx hb hts inX3 hown hR.K hR.P 52 (hR.at43 (hR.w.2.1 _ finC_30).2.1) rfl 4 (by decide) (hts _ kw_885) (fun _ h9 => h9) (congrArg (fun z => some (vf ad z)) (hR.w.ptr ptrC_24)) dX3_hasEdge_23 ?_
          refine lv_iload_n hx hb dX3_hasEdge_26 rfl (lv_at hl 1 rfl) ?_
          refine lv_iconst (v := 1) hx hb dX3_hasEdge_27 (by decide) ?_
          refine lv_iadd hx hb dX3_hasEdge_28 ?_
          refine lv_topi (fun z8 ez8 => ?_)
          obtain rfl : z8 = (v21_1 + (1 : Int32)) := ez8
          obtain ⟨hv9, h⟩ := h
          refine va_iald hx hb hR.K hR.P (qO U21 52 4) 1 (hR.atI hT_b7 (by decide)) rfl (k_ix (x := (v21_1 + (1 : Int32))) (a := (v21_1 + (1 : Int32)).toInt) rfl hv9) dX3_hasEdge_29 ?_
          refine lv_topi (fun z10 ez10 => ?_)
          obtain rfl : z10 = (qI U21 (qO U21 52 4) (((v21_1 + (1 : Int32)).toInt).toNat)) := ez10
          refine lv_icmp_ge (tgt := 51) hx hb dX3_hasEdge_30 (by decide) (fun c11 => ?_) (fun c11 => ?_)
          · replace h := h.1 (k_le rfl rfl c11)
            refine lv_iconst (v := 0) hx hb dX3_hasEdge_51 (by decide) ?_
            exact W.zret (v := 0) hx hb hr (nz (Or.inl rfl)) (fun t9 ht9 hW9 => ⟨⟨_, U21, rfl, ⟨h, hR.w, hsh, (Or.inl rfl)⟩, ⟨by rw [ht9]; exact hR.P, hR.D⟩⟩, hR.sS.F ht9⟩) hR.sS.2.2 dX3_hasEdge_52
          · replace h := h.2 (k_nle rfl rfl c11)
            refine lv_aload_n hx hb dX3_hasEdge_33 rfl (lv_at hl 0 rfl) ?_
            have hT_b12 : qT U21 (qO U21 52 5) = 205 := hR.w.ref (hR.w.ptr ptrC_25) (hR.w.2.1 _ finC_30).2.1
            refine va_get (D := rD g) (ci := 3) (v := .ref (ad (qO U21 52 5))) (C := RX3) (T := TX3) (N := 16) hx hb hts inX3 hown hR.K hR.P 52 (hR.at43 (hR.w.2.1 _ finC_30).2.1) rfl 5 (by decide) (hts _ kw_840) (fun _ h9 => h9) (congrArg (fun z => some (vf ad z)) (hR.w.ptr ptrC_25)) dX3_hasEdge_34 ?_
            refine lv_iload_n hx hb dX3_hasEdge_37 rfl (lv_at hl 3 rfl) ?_
            obtain ⟨hv13, h⟩ := h
            refine va_iald hx hb hR.K hR.P (qO U21 52 5) 1 (hR.atI hT_b12 (by decide)) rfl (k_ix (x := v21_3) (a := v21_3.toInt) rfl hv13) dX3_hasEdge_38 ?_
            refine lv_topi (fun z14 ez14 => ?_)
            obtain rfl : z14 = (qI U21 (qO U21 52 5) v21_3.toInt.toNat) := ez14
            refine lv_iload_n hx hb dX3_hasEdge_39 rfl (lv_at hl 2 rfl) ?_
            refine lv_icmp_ne (tgt := 45) hx hb dX3_hasEdge_40 (by decide) (fun c15 => ?_) (fun c15 => ?_)
            · replace h := h.2 (k_ne rfl rfl c15)
              obtain ⟨a16, ea16⟩ : ∃ z, z = (v21_3 + Int32.ofInt 1) := ⟨_, rfl⟩
              replace h := h a16 ea16
              refine lv_iinc (v := a16) (lv' := [(3, .int a16), (0, .ref (ad 52)), (1, .int v21_1), (2, .int v21_2)]) hx hb dX3_hasEdge_45 hl (k := 3) rfl ea16.symm (by decide) rfl (fun ls hl => ?_)
              refine lv_goto (tgt := 21) hx hb dX3_hasEdge_48 (by decide) ?_
              exact ih_21 U21 v21_1 v21_2 a16 _ _ ls h  hsh hR (lv_sub hl [1, 2, 3, 0] rfl)
            · replace h := h.1 (k_eq rfl rfl c15)
              refine lv_iconst (v := 1) hx hb dX3_hasEdge_43 (by decide) ?_
              exact W.zret (v := 1) hx hb hr (nz (Or.inr rfl)) (fun t9 ht9 hW9 => ⟨⟨_, U21, rfl, ⟨h, hR.w, hsh, (Or.inr rfl)⟩, ⟨by rw [ht9]; exact hR.P, hR.D⟩⟩, hR.sS.F ht9⟩) hR.sS.2.2 dX3_hasEdge_44
      obtain ⟨n9, h⟩ := h
      exact J_21 n9 S x1 x2 a6 _ _ ls h  hsh hR (lv_sub hl [1, 2, 3, 0] rfl)
    · replace h := h.2 (k_nlt rfl rfl c2)
      refine lv_iconst (v := 0) hx hb dX3_hasEdge_12 (by decide) ?_
      exact W.zret (v := 0) hx hb hr (nz (Or.inl rfl)) (fun t9 ht9 hW9 => ⟨⟨_, S, rfl, ⟨h, hR.w, hsh, (Or.inl rfl)⟩, ⟨by rw [ht9]; exact hR.P, hR.D⟩⟩, hR.sS.F ht9⟩) hR.sS.2.2 dX3_hasEdge_13
def f_X3_isReached_J25 (S : MS) : Int32 := (0 : Int32)
def d_X3_isReached_J25 (S : MS) : Prop := True
def fX3_isReached (S : MS) (x1 : Int32) : Int32 := (if x1.toInt < 0 then f_X3_isReached_J25 S else (if (qI S 52 1).toInt ≤ x1.toInt then f_X3_isReached_J25 S else (if (qI S (qO S 52 8) x1.toInt.toNat).toInt = 0 then f_X3_isReached_J25 S else (1 : Int32))))
def d_X3_isReached (S : MS) (x1 : Int32) : Prop := (if x1.toInt < 0 then d_X3_isReached_J25 S else (if (qI S 52 1).toInt ≤ x1.toInt then d_X3_isReached_J25 S else (((0 : Int) ≤ x1.toInt ∧ x1.toInt < (qN S (qO S 52 8) : Int)) ∧ (if (qI S (qO S 52 8) x1.toInt.toNat).toInt = 0 then d_X3_isReached_J25 S else True))))
set_option maxHeartbeats 2000000 in
set_option maxRecDepth 100000 in
theorem rX3_isReached (l : Launch) (g : Gr) (ad : Nat → Nat) (sz : Nat) (S : MS) (x1 : Int32) (hw : wfC S) (hd : d_X3_isReached S x1) : Met l yX3_isReached (wt yX3_isReached cX3_isReached 2 (some .boolean)) ({ frames := 0, cells := 0, slots := 0, locals := 0 }) (va_Pc [.ref (ad 52), .int x1] (st_C g ad sz S)) (va_Qi (fun (r : Int32) (_ : Unit) => r = fX3_isReached S x1 ∧ (r = 0 ∨ r = 1)) (fun (_ : Unit) (t : State) => qEC g ad (va_A (WdC g ad S) sz) S t) (va_A (WdC g ad S) sz)) 0 0 (va_A (WdC g ad S) sz) := by
  refine Met.ofW (cc := cX3_isReached) (maxL := 2) (ret := (some .boolean)) (by decide) rfl ?_
  intro p e s m args below meth c s₁ B hml hv
  obtain ⟨rfl, hsz, hP, hK, hD0, hex, hE⟩ := hv
  have hx := B.exec
  have hb := B.bytes
  have hr := B.returns
  have hts0 := atoms_spec (ws := wt yX3_isReached cX3_isReached 2 (some .boolean)) B.pre
  have hts : ∀ w ∈ tb, w.before _ s = true := fun w h => hts0 w (List.mem_cons_of_mem _ h)
  have hown : s.vm.findClass RX3 = some m.cls := findClass_of_methodNamed B.named
  subst hsz
  have hD := hD0.self (sz := s.heap.size)
  generalize hAe : va_A (WdC g ad S) s.heap.size = A at hD hE ⊢
  have hA : ∀ q : Nat, s.heap.size ≤ q → A q := fun q h => by rw [← hAe]; exact Or.inr h
  have hR : RepC g ad A s S s.heap [] := ⟨hK, hP, hD, va_S.rf, hw⟩
  clear hK hP hD hD0
  have hl := lv_entry ([.ref (ad 52), .int x1]) (n := 2) (Nat.le_of_ble_eq_true rfl)
  rw [lg_entry_eq]
  generalize (lg_sl ([.ref (ad 52), .int x1]) ++ List.replicate (2 - (lg_sl ([.ref (ad 52), .int x1])).length) Slot.unset).toArray = ls at hl ⊢
  have hl : lv_has ls 2 [(0, .ref (ad 52)), (1, .int x1)] := hl
  obtain ⟨r0, hf⟩ : ∃ r0, fX3_isReached S x1 = r0 := ⟨_, rfl⟩
  have hf0 := hf
  unfold fX3_isReached at hf
  unfold d_X3_isReached at hd
  refine lv_iload_n hx hb dX3_isReached_0 rfl (lv_at hl 1 rfl) ?_
  have J_25 : ∀ (H : Heap) (locs : List Loc) (ls : Array Slot), d_X3_isReached_J25 S → f_X3_isReached_J25 S = r0 → RepC g ad A s S H locs → lv_has ls 2 [] → W p l e (headSpec (wt yX3_isReached cX3_isReached 2 (some .boolean)) ({ frames := 0, cells := 0, slots := 0, locals := 0 })).room s m ([.ref (ad 52), .int x1] : List Value).toArray below meth c H locs 0 0 (MQ below (va_Qi (fun (r : Int32) (_ : Unit) => r = fX3_isReached S x1 ∧ (r = 0 ∨ r = 1)) (fun (_ : Unit) (t : State) => qEC g ad A S t) A) ([.ref (ad 52), .int x1] : List Value).toArray s 0 0 A) (F0 m 25 ls []) := by
    intro H locs ls hd hf hR hl
    unfold d_X3_isReached_J25 at hd
    unfold f_X3_isReached_J25 at hf
    refine lv_iconst (v := 0) hx hb dX3_isReached_25 (by decide) ?_
    exact W.zret (v := 0) hx hb hr (nz (Or.inl rfl)) (fun t9 ht9 hW9 => ⟨⟨_, (), rfl, ⟨hf.trans hf0.symm, (Or.inl rfl)⟩, ⟨by rw [ht9]; exact hR.P, hR.D⟩⟩, hR.sS.F ht9⟩) hR.sS.2.2 dX3_isReached_26
  refine lv_if_lt (tgt := 25) hx hb dX3_isReached_1 (by decide) (fun c1 => ?_) (fun c1 => ?_)
  · rw [if_pos (k_lt rfl (by decide) c1)] at hf
    (try rw [if_pos (k_lt rfl (by decide) c1)] at hd)
    exact J_25 _ _ ls hd hf  hR (lv_sub hl [] rfl)
  · rw [if_neg (k_nlt rfl (by decide) c1)] at hf
    (try rw [if_neg (k_nlt rfl (by decide) c1)] at hd)
    refine lv_iload_n hx hb dX3_isReached_4 rfl (lv_at hl 1 rfl) ?_
    refine lv_aload_n hx hb dX3_isReached_5 rfl (lv_at hl 0 rfl) ?_
    refine va_get (D := rD g) (ci := 3) (v := .int (qI S 52 1)) (C := RX3) (T := TX3) (N := 16) hx hb hts inX3 hown hR.K hR.P 52 (hR.at43 (hR.w.2.1 _ finC_30).2.1) rfl 1 (by decide) (hts _ kw_851) (fun _ h9 => h9) rfl dX3_isReached_6 ?_
    refine lv_icmp_ge (tgt := 25) hx hb dX3_isReached_9 (by decide) (fun c2 => ?_) (fun c2 => ?_)
    · rw [if_pos (k_le rfl rfl c2)] at hf
      (try rw [if_pos (k_le rfl rfl c2)] at hd)
      exact J_25 _ _ ls hd hf  hR (lv_sub hl [] rfl)
    · rw [if_neg (k_nle rfl rfl c2)] at hf
      (try rw [if_neg (k_nle rfl rfl c2)] at hd)
      refine lv_aload_n hx hb dX3_isReached_12 rfl (lv_at hl 0 rfl) ?_
      have hT_b3 : qT S (qO S 52 8) = 303 := hR.w.ref (hR.w.ptr ptrC_28) (hR.w.2.1 _ finC_30).2.1
      refine va_get (D := rD g) (ci := 3) (v := .ref (ad (qO S 52 8))) (C := RX3) (T := TX3) (N := 16) hx hb hts inX3 hown hR.K hR.P 52 (hR.at43 (hR.w.2.1 _ finC_30).2.1) rfl 8 (by decide) (hts _ kw_847) (fun _ h9 => h9) (congrArg (fun z => some (vf ad z)) (hR.w.ptr ptrC_28)) dX3_isReached_13 ?_
      refine lv_iload_n hx hb dX3_isReached_16 rfl (lv_at hl 1 rfl) ?_
      obtain ⟨hv4, hd⟩ := hd
      refine va_zald hx hb hR.K hR.P (qO S 52 8) 2 (hR.atZ hT_b3 (by decide)) rfl (k_ix (x := x1) (a := x1.toInt) rfl hv4) dX3_isReached_17 ?_
      refine lv_topi (fun z5 ez5 => ?_)
      obtain rfl : z5 = (qI S (qO S 52 8) x1.toInt.toNat) := ez5
      have hz6 := hR.w.bit3 (b := (qO S 52 8)) (j := x1.toInt.toNat) (hT_b3) (by decide)
      refine lv_if_eq (tgt := 25) hx hb dX3_isReached_18 (by decide) (fun c7 => ?_) (fun c7 => ?_)
      · rw [if_pos (k_eq rfl (by decide) c7)] at hf
        (try rw [if_pos (k_eq rfl (by decide) c7)] at hd)
        exact J_25 _ _ ls hd hf  hR (lv_sub hl [] rfl)
      · rw [if_neg (k_ne rfl (by decide) c7)] at hf
        (try rw [if_neg (k_ne rfl (by decide) c7)] at hd)
        refine lv_iconst (v := 1) hx hb dX3_isReached_21 (by decide) ?_
        refine lv_goto (tgt := 26) hx hb dX3_isReached_22 (by decide) ?_
        exact W.zret (v := 1) hx hb hr (nz (Or.inr rfl)) (fun t9 ht9 hW9 => ⟨⟨_, (), rfl, ⟨hf.trans hf0.symm, (Or.inr rfl)⟩, ⟨by rw [ht9]; exact hR.P, hR.D⟩⟩, hR.sS.F ht9⟩) hR.sS.2.2 dX3_isReached_26
def w_X3_reachedCount_J27 (Q : Int32 → MS → Prop) (k4 : MS → Int32 → Int32 → Prop) (U27 : MS) (t27_0 : Int32) (t27_1 : Int32) (v27_2 : Int32) : Prop := (wfC U27 → (t27_0 = 0 ∨ t27_0 = 1) → (∀ a7 : Int32, a7 = (t27_1 + t27_0) → (∀ a8 : Int32, a8 = (v27_2 + Int32.ofInt 1) → k4 U27 a7 a8)))
def w_X3_reachedCount_L4 (Q : Int32 → MS → Prop) : Nat → MS → Int32 → Int32 → Prop
  | 0, _, _, _ => False
  | n4 + 1, U4, v4_1, v4_2 => (wfC U4 → (((qI U4 52 1).toInt ≤ v4_2.toInt → Q v4_1 U4) ∧ (¬ (qI U4 52 1).toInt ≤ v4_2.toInt → (((0 : Int) ≤ v4_2.toInt ∧ v4_2.toInt < (qN U4 (qO U4 52 8) : Int)) ∧ (((qI U4 (qO U4 52 8) v4_2.toInt.toNat).toInt = 0 → w_X3_reachedCount_J27 Q (w_X3_reachedCount_L4 Q n4) U4 0 v4_1 v4_2) ∧ (¬ (qI U4 (qO U4 52 8) v4_2.toInt.toNat).toInt = 0 → w_X3_reachedCount_J27 Q (w_X3_reachedCount_L4 Q n4) U4 1 v4_1 v4_2))))))
def wX3_reachedCount (S : MS) (Q : Int32 → MS → Prop) : Prop := (∃ n, w_X3_reachedCount_L4 Q n S 0 0)
set_option maxHeartbeats 2000000 in
set_option maxRecDepth 100000 in
theorem rX3_reachedCount (l : Launch) (g : Gr) (ad : Nat → Nat) (sz : Nat) (S : MS) (hw : wfC S) (Q : Int32 → MS → Prop) (h : wX3_reachedCount S Q) : Met l yX3_reachedCount (wt yX3_reachedCount cX3_reachedCount 3 (some .int)) ({ frames := 0, cells := 0, slots := 0, locals := 0 }) (va_Pc [.ref (ad 52)] (st_C g ad sz S)) (va_Qi (fun (r : Int32) (u : MS) => Q r u ∧ wfC u ∧ shy S u) (fun (u : MS) (t : State) => qEC g ad (va_A (WdC g ad S) sz) u t) (va_A (WdC g ad S) sz)) 0 0 (va_A (WdC g ad S) sz) := by
  refine Met.ofW (cc := cX3_reachedCount) (maxL := 3) (ret := (some .int)) (by decide) rfl ?_
  intro p e s m args below meth c s₁ B hml hv
  obtain ⟨rfl, hsz, hP, hK, hD0, hex, hE⟩ := hv
  have hx := B.exec
  have hb := B.bytes
  have hr := B.returns
  have hts0 := atoms_spec (ws := wt yX3_reachedCount cX3_reachedCount 3 (some .int)) B.pre
  have hts : ∀ w ∈ tb, w.before _ s = true := fun w h => hts0 w (List.mem_cons_of_mem _ h)
  have hown : s.vm.findClass RX3 = some m.cls := findClass_of_methodNamed B.named
  subst hsz
  have hD := hD0.self (sz := s.heap.size)
  generalize hAe : va_A (WdC g ad S) s.heap.size = A at hD hE ⊢
  have hA : ∀ q : Nat, s.heap.size ≤ q → A q := fun q h => by rw [← hAe]; exact Or.inr h
  have hR : RepC g ad A s S s.heap [] := ⟨hK, hP, hD, va_S.rf, hw⟩
  clear hK hP hD hD0
  have hl := lv_entry ([.ref (ad 52)]) (n := 3) (Nat.le_of_ble_eq_true rfl)
  rw [lg_entry_eq]
  generalize (lg_sl ([.ref (ad 52)]) ++ List.replicate (3 - (lg_sl ([.ref (ad 52)])).length) Slot.unset).toArray = ls at hl ⊢
  have hl : lv_has ls 3 [(0, .ref (ad 52))] := hl
  have hsh : shy S S := shy.rf
  unfold wX3_reachedCount at h
  refine lv_iconst (v := 0) hx hb dX3_reachedCount_0 (by decide) ?_
  refine lv_istore_n (lv' := [(1, .int 0), (0, .ref (ad 52))]) hx hb dX3_reachedCount_1 rfl hl (by decide) rfl (fun ls hl => ?_)
  refine lv_iconst (v := 0) hx hb dX3_reachedCount_2 (by decide) ?_
  refine lv_istore_n (lv' := [(2, .int 0), (1, .int 0), (0, .ref (ad 52))]) hx hb dX3_reachedCount_3 rfl hl (by decide) rfl (fun ls hl => ?_)
  have J_4 : ∀ (n4 : Nat) (U4 : MS) (v4_1 : Int32) (v4_2 : Int32) (H : Heap) (locs : List Loc) (ls : Array Slot), w_X3_reachedCount_L4 Q n4 U4 v4_1 v4_2 → shy S U4 → RepC g ad A s U4 H locs → lv_has ls 3 [(0, .ref (ad 52)), (1, .int v4_1), (2, .int v4_2)] → W p l e (headSpec (wt yX3_reachedCount cX3_reachedCount 3 (some .int)) ({ frames := 0, cells := 0, slots := 0, locals := 0 })).room s m ([.ref (ad 52)] : List Value).toArray below meth c H locs 0 0 (MQ below (va_Qi (fun (r : Int32) (u : MS) => Q r u ∧ wfC u ∧ shy S u) (fun (u : MS) (t : State) => qEC g ad A u t) A) ([.ref (ad 52)] : List Value).toArray s 0 0 A) (F0 m 4 ls []) := by
    intro n4
    induction n4 with
    | zero => intro U4 v4_1 v4_2 H locs ls h hsh hR hl; unfold w_X3_reachedCount_L4 at h; exact h.elim
    | succ n4 ih_4 =>
      intro U4 v4_1 v4_2 H locs ls h hsh hR hl
      unfold w_X3_reachedCount_L4 at h
      replace h := h hR.w
      refine lv_iload_n hx hb dX3_reachedCount_4 rfl (lv_at hl 2 rfl) ?_
      refine lv_aload_n hx hb dX3_reachedCount_5 rfl (lv_at hl 0 rfl) ?_
      refine va_get (D := rD g) (ci := 3) (v := .int (qI U4 52 1)) (C := RX3) (T := TX3) (N := 16) hx hb hts inX3 hown hR.K hR.P 52 (hR.at43 (hR.w.2.1 _ finC_30).2.1) rfl 1 (by decide) (hts _ kw_851) (fun _ h9 => h9) rfl dX3_reachedCount_6 ?_
      refine lv_icmp_ge (tgt := 35) hx hb dX3_reachedCount_9 (by decide) (fun c1 => ?_) (fun c1 => ?_)
      · replace h := h.1 (k_le rfl rfl c1)
        refine lv_iload_n hx hb dX3_reachedCount_35 rfl (lv_at hl 1 rfl) ?_
        exact W.iret (v := v4_1) hx hb hr (fun t9 ht9 hW9 => ⟨⟨_, U4, rfl, ⟨h, hR.w, hsh⟩, ⟨by rw [ht9]; exact hR.P, hR.D⟩⟩, hR.sS.F ht9⟩) hR.sS.2.2 dX3_reachedCount_36
      · replace h := h.2 (k_nle rfl rfl c1)
        refine lv_iload_n hx hb dX3_reachedCount_12 rfl (lv_at hl 1 rfl) ?_
        refine lv_aload_n hx hb dX3_reachedCount_13 rfl (lv_at hl 0 rfl) ?_
        have hT_b2 : qT U4 (qO U4 52 8) = 303 := hR.w.ref (hR.w.ptr ptrC_28) (hR.w.2.1 _ finC_30).2.1
        refine va_get (D := rD g) (ci := 3) (v := .ref (ad (qO U4 52 8))) (C := RX3) (T := TX3) (N := 16) hx hb hts inX3 hown hR.K hR.P 52 (hR.at43 (hR.w.2.1 _ finC_30).2.1) rfl 8 (by decide) (hts _ kw_847) (fun _ h9 => h9) (congrArg (fun z => some (vf ad z)) (hR.w.ptr ptrC_28)) dX3_reachedCount_14 ?_
        refine lv_iload_n hx hb dX3_reachedCount_17 rfl (lv_at hl 2 rfl) ?_
        obtain ⟨hv3, h⟩ := h
        refine va_zald hx hb hR.K hR.P (qO U4 52 8) 2 (hR.atZ hT_b2 (by decide)) rfl (k_ix (x := v4_2) (a := v4_2.toInt) rfl hv3) dX3_reachedCount_18 ?_
        refine lv_topi (fun z4 ez4 => ?_)
        obtain rfl : z4 = (qI U4 (qO U4 52 8) v4_2.toInt.toNat) := ez4
        have hz5 := hR.w.bit3 (b := (qO U4 52 8)) (j := v4_2.toInt.toNat) (hT_b2) (by decide)
        have J_27 : ∀ (U27 : MS) (t27_0 : Int32) (t27_1 : Int32) (v27_2 : Int32) (H : Heap) (locs : List Loc) (ls : Array Slot), w_X3_reachedCount_J27 Q (w_X3_reachedCount_L4 Q n4) U27 t27_0 t27_1 v27_2 → (t27_0 = 0 ∨ t27_0 = 1) → shy S U27 → RepC g ad A s U27 H locs → lv_has ls 3 [(0, .ref (ad 52)), (2, .int v27_2)] → W p l e (headSpec (wt yX3_reachedCount cX3_reachedCount 3 (some .int)) ({ frames := 0, cells := 0, slots := 0, locals := 0 })).room s m ([.ref (ad 52)] : List Value).toArray below meth c H locs 0 0 (MQ below (va_Qi (fun (r : Int32) (u : MS) => Q r u ∧ wfC u ∧ shy S u) (fun (u : MS) (t : State) => qEC g ad A u t) A) ([.ref (ad 52)] : List Value).toArray s 0 0 A) (F0 m 27 ls [.int t27_0, .int t27_1]) := by
          intro U27 t27_0 t27_1 v27_2 H locs ls h hz_t27_0 hsh hR hl
          unfold w_X3_reachedCount_J27 at h
          replace h := h hR.w hz_t27_0
          refine lv_iadd hx hb dX3_reachedCount_27 ?_
          refine lv_topi (fun z6 ez6 => ?_)
          obtain rfl : z6 = (t27_1 + t27_0) := ez6
          obtain ⟨a7, ea7⟩ : ∃ z, z = (t27_1 + t27_0) := ⟨_, rfl⟩
          rw [← ea7]
          replace h := h a7 ea7
          refine lv_istore_n (lv' := [(1, .int a7), (0, .ref (ad 52)), (2, .int v27_2)]) hx hb dX3_reachedCount_28 rfl hl (by decide) rfl (fun ls hl => ?_)
          obtain ⟨a8, ea8⟩ : ∃ z, z = (v27_2 + Int32.ofInt 1) := ⟨_, rfl⟩
          replace h := h a8 ea8
          refine lv_iinc (v := a8) (lv' := [(2, .int a8), (1, .int a7), (0, .ref (ad 52))]) hx hb dX3_reachedCount_29 hl (k := 2) rfl ea8.symm (by decide) rfl (fun ls hl => ?_)
          refine lv_goto (tgt := 4) hx hb dX3_reachedCount_32 (by decide) ?_
          exact ih_4 U27 a7 a8 _ _ ls h  hsh hR (lv_sub hl [2, 1, 0] rfl)
        refine lv_if_eq (tgt := 26) hx hb dX3_reachedCount_19 (by decide) (fun c9 => ?_) (fun c9 => ?_)
        · replace h := h.1 (k_eq rfl (by decide) c9)
          refine lv_iconst (v := 0) hx hb dX3_reachedCount_26 (by decide) ?_
          exact J_27 U4 0 v4_1 v4_2 _ _ ls h (Or.inl rfl) hsh hR (lv_sub hl [0, 2] rfl)
        · replace h := h.2 (k_ne rfl (by decide) c9)
          refine lv_iconst (v := 1) hx hb dX3_reachedCount_22 (by decide) ?_
          refine lv_goto (tgt := 27) hx hb dX3_reachedCount_23 (by decide) ?_
          exact J_27 U4 1 v4_1 v4_2 _ _ ls h (Or.inr rfl) hsh hR (lv_sub hl [0, 2] rfl)
  obtain ⟨n9, h⟩ := h
  exact J_4 n9 S 0 0 _ _ ls h  hsh hR (lv_sub hl [2, 1, 0] rfl)
def f_X3_blockAt_J59 (S : MS) : Int32 := (-1 : Int32)
def d_X3_blockAt_J59 (S : MS) : Prop := True
def fX3_blockAt (S : MS) (x1 : Int32) : Int32 := (if x1.toInt < 0 then (-1 : Int32) else (if (qN S (qO S 52 3) : Int) ≤ x1.toInt then (-1 : Int32) else (if x1.toInt < (qI S (qO S 52 0) 2).toInt then (if (qI S (qO S 52 3) x1.toInt.toNat).toInt < 0 then f_X3_blockAt_J59 S else (if (qI S 52 1).toInt ≤ (qI S (qO S 52 3) x1.toInt.toNat).toInt then f_X3_blockAt_J59 S else (if (qI S (qO S 52 2) (((qI S (qO S 52 3) x1.toInt.toNat).toInt).toNat)).toInt = x1.toInt then (qI S (qO S 52 3) x1.toInt.toNat) else f_X3_blockAt_J59 S))) else (-1 : Int32))))
def d_X3_blockAt (S : MS) (x1 : Int32) : Prop := (if x1.toInt < 0 then True else (if (qN S (qO S 52 3) : Int) ≤ x1.toInt then True else ((qR S 52 0 = some (qO S 52 0)) ∧ (if x1.toInt < (qI S (qO S 52 0) 2).toInt then (((0 : Int) ≤ x1.toInt ∧ x1.toInt < (qN S (qO S 52 3) : Int)) ∧ (if (qI S (qO S 52 3) x1.toInt.toNat).toInt < 0 then d_X3_blockAt_J59 S else (if (qI S 52 1).toInt ≤ (qI S (qO S 52 3) x1.toInt.toNat).toInt then d_X3_blockAt_J59 S else (((0 : Int) ≤ (qI S (qO S 52 3) x1.toInt.toNat).toInt ∧ (qI S (qO S 52 3) x1.toInt.toNat).toInt < (qN S (qO S 52 2) : Int)) ∧ (if (qI S (qO S 52 2) (((qI S (qO S 52 3) x1.toInt.toNat).toInt).toNat)).toInt = x1.toInt then True else d_X3_blockAt_J59 S))))) else True))))
set_option maxHeartbeats 2000000 in
set_option maxRecDepth 100000 in
theorem rX3_blockAt (l : Launch) (g : Gr) (ad : Nat → Nat) (sz : Nat) (S : MS) (x1 : Int32) (hw : wfC S) (hd : d_X3_blockAt S x1) : Met l yX3_blockAt (wt yX3_blockAt cX3_blockAt 3 (some .int)) ({ frames := 0, cells := 0, slots := 0, locals := 0 }) (va_Pc [.ref (ad 52), .int x1] (st_C g ad sz S)) (va_Qi (fun (r : Int32) (_ : Unit) => r = fX3_blockAt S x1) (fun (_ : Unit) (t : State) => qEC g ad (va_A (WdC g ad S) sz) S t) (va_A (WdC g ad S) sz)) 0 0 (va_A (WdC g ad S) sz) := by
  refine Met.ofW (cc := cX3_blockAt) (maxL := 3) (ret := (some .int)) (by decide) rfl ?_
  intro p e s m args below meth c s₁ B hml hv
  obtain ⟨rfl, hsz, hP, hK, hD0, hex, hE⟩ := hv
  have hx := B.exec
  have hb := B.bytes
  have hr := B.returns
  have hts0 := atoms_spec (ws := wt yX3_blockAt cX3_blockAt 3 (some .int)) B.pre
  have hts : ∀ w ∈ tb, w.before _ s = true := fun w h => hts0 w (List.mem_cons_of_mem _ h)
  have hown : s.vm.findClass RX3 = some m.cls := findClass_of_methodNamed B.named
  subst hsz
  have hD := hD0.self (sz := s.heap.size)
  generalize hAe : va_A (WdC g ad S) s.heap.size = A at hD hE ⊢
  have hA : ∀ q : Nat, s.heap.size ≤ q → A q := fun q h => by rw [← hAe]; exact Or.inr h
  have hR : RepC g ad A s S s.heap [] := ⟨hK, hP, hD, va_S.rf, hw⟩
  clear hK hP hD hD0
  have hl := lv_entry ([.ref (ad 52), .int x1]) (n := 3) (Nat.le_of_ble_eq_true rfl)
  rw [lg_entry_eq]
  generalize (lg_sl ([.ref (ad 52), .int x1]) ++ List.replicate (3 - (lg_sl ([.ref (ad 52), .int x1])).length) Slot.unset).toArray = ls at hl ⊢
  have hl : lv_has ls 3 [(0, .ref (ad 52)), (1, .int x1)] := hl
  obtain ⟨r0, hf⟩ : ∃ r0, fX3_blockAt S x1 = r0 := ⟨_, rfl⟩
  have hf0 := hf
  unfold fX3_blockAt at hf
  unfold d_X3_blockAt at hd
  refine lv_iload_n hx hb dX3_blockAt_0 rfl (lv_at hl 1 rfl) ?_
  refine lv_if_lt (tgt := 24) hx hb dX3_blockAt_1 (by decide) (fun c1 => ?_) (fun c1 => ?_)
  · rw [if_pos (k_lt rfl (by decide) c1)] at hf
    (try rw [if_pos (k_lt rfl (by decide) c1)] at hd)
    refine lv_iconst (v := (-1)) hx hb dX3_blockAt_24 (by decide) ?_
    exact W.iret (v := (-1)) hx hb hr (fun t9 ht9 hW9 => ⟨⟨_, (), rfl, hf.trans hf0.symm, ⟨by rw [ht9]; exact hR.P, hR.D⟩⟩, hR.sS.F ht9⟩) hR.sS.2.2 dX3_blockAt_25
  · rw [if_neg (k_nlt rfl (by decide) c1)] at hf
    (try rw [if_neg (k_nlt rfl (by decide) c1)] at hd)
    refine lv_iload_n hx hb dX3_blockAt_4 rfl (lv_at hl 1 rfl) ?_
    refine lv_aload_n hx hb dX3_blockAt_5 rfl (lv_at hl 0 rfl) ?_
    have hT_b2 : qT S (qO S 52 3) = 203 := hR.w.ref (hR.w.ptr ptrC_23) (hR.w.2.1 _ finC_30).2.1
    refine va_get (D := rD g) (ci := 3) (v := .ref (ad (qO S 52 3))) (C := RX3) (T := TX3) (N := 16) hx hb hts inX3 hown hR.K hR.P 52 (hR.at43 (hR.w.2.1 _ finC_30).2.1) rfl 3 (by decide) (hts _ kw_839) (fun _ h9 => h9) (congrArg (fun z => some (vf ad z)) (hR.w.ptr ptrC_23)) dX3_blockAt_6 ?_
    refine va_alen (v := (Int32.ofNat (qN S (qO S 52 3)))) hx hb hR.K hR.P (qO S 52 3) 1 (hR.atI hT_b2 (by decide)) rfl rfl dX3_blockAt_9 ?_
    have hln3 : (Int32.ofNat (qN S (qO S 52 3))).toInt = (qN S (qO S 52 3) : Int) := toI_len (hR.w.len9 (hT_b2) (by decide))
    refine lv_icmp_ge (tgt := 24) hx hb dX3_blockAt_10 (by decide) (fun c4 => ?_) (fun c4 => ?_)
    · rw [if_pos (k_le hln3 rfl c4)] at hf
      (try rw [if_pos (k_le hln3 rfl c4)] at hd)
      refine lv_iconst (v := (-1)) hx hb dX3_blockAt_24 (by decide) ?_
      exact W.iret (v := (-1)) hx hb hr (fun t9 ht9 hW9 => ⟨⟨_, (), rfl, hf.trans hf0.symm, ⟨by rw [ht9]; exact hR.P, hR.D⟩⟩, hR.sS.F ht9⟩) hR.sS.2.2 dX3_blockAt_25
    · rw [if_neg (k_nle hln3 rfl c4)] at hf
      (try rw [if_neg (k_nle hln3 rfl c4)] at hd)
      refine lv_iload_n hx hb dX3_blockAt_13 rfl (lv_at hl 1 rfl) ?_
      refine lv_aload_n hx hb dX3_blockAt_14 rfl (lv_at hl 0 rfl) ?_
      obtain ⟨hv6, hd⟩ := hd
      have hT_b5 : qT S (qO S 52 0) = 47 := hR.w.ref hv6 (hR.w.2.1 _ finC_30).2.1
      refine va_get (D := rD g) (ci := 3) (v := .ref (ad (qO S 52 0))) (C := RX3) (T := TX3) (N := 16) hx hb hts inX3 hown hR.K hR.P 52 (hR.at43 (hR.w.2.1 _ finC_30).2.1) rfl 0 (by decide) (hts _ kw_836) (fun _ h9 => h9) (congrArg (fun z => some (vf ad z)) hv6) dX3_blockAt_15 ?_
      refine va_get (D := rD g) (ci := 7) (v := .int (qI S (qO S 52 0) 2)) (C := RX8) (T := TX8) (N := 15) hx hb hts inX8 hown hR.K hR.P (qO S 52 0) (hR.at47 hT_b5) rfl 2 (by decide) (hts _ kw_837) (fun _ h9 => h9) rfl dX3_blockAt_18 ?_
      refine lv_icmp_lt (tgt := 26) hx hb dX3_blockAt_21 (by decide) (fun c7 => ?_) (fun c7 => ?_)
      · rw [if_pos (k_lt rfl rfl c7)] at hf
        (try rw [if_pos (k_lt rfl rfl c7)] at hd)
        refine lv_aload_n hx hb dX3_blockAt_26 rfl (lv_at hl 0 rfl) ?_
        have hT_b8 : qT S (qO S 52 3) = 203 := hR.w.ref (hR.w.ptr ptrC_23) (hR.w.2.1 _ finC_30).2.1
        refine va_get (D := rD g) (ci := 3) (v := .ref (ad (qO S 52 3))) (C := RX3) (T := TX3) (N := 16) hx hb hts inX3 hown hR.K hR.P 52 (hR.at43 (hR.w.2.1 _ finC_30).2.1) rfl 3 (by decide) (hts _ kw_839) (fun _ h9 => h9) (congrArg (fun z => some (vf ad z)) (hR.w.ptr ptrC_23)) dX3_blockAt_27 ?_
        refine lv_iload_n hx hb dX3_blockAt_30 rfl (lv_at hl 1 rfl) ?_
        obtain ⟨hv9, hd⟩ := hd
        refine va_iald hx hb hR.K hR.P (qO S 52 3) 1 (hR.atI hT_b8 (by decide)) rfl (k_ix (x := x1) (a := x1.toInt) rfl hv9) dX3_blockAt_31 ?_
        refine lv_topi (fun z10 ez10 => ?_)
        obtain rfl : z10 = (qI S (qO S 52 3) x1.toInt.toNat) := ez10
        refine lv_istore_n (lv' := [(2, .int (qI S (qO S 52 3) x1.toInt.toNat)), (0, .ref (ad 52)), (1, .int x1)]) hx hb dX3_blockAt_32 rfl hl (by decide) rfl (fun ls hl => ?_)
        refine lv_iload_n hx hb dX3_blockAt_33 rfl (lv_at hl 0 rfl) ?_
        have J_59 : ∀ (H : Heap) (locs : List Loc) (ls : Array Slot), d_X3_blockAt_J59 S → f_X3_blockAt_J59 S = r0 → RepC g ad A s S H locs → lv_has ls 3 [] → W p l e (headSpec (wt yX3_blockAt cX3_blockAt 3 (some .int)) ({ frames := 0, cells := 0, slots := 0, locals := 0 })).room s m ([.ref (ad 52), .int x1] : List Value).toArray below meth c H locs 0 0 (MQ below (va_Qi (fun (r : Int32) (_ : Unit) => r = fX3_blockAt S x1) (fun (_ : Unit) (t : State) => qEC g ad A S t) A) ([.ref (ad 52), .int x1] : List Value).toArray s 0 0 A) (F0 m 59 ls []) := by
          intro H locs ls hd hf hR hl
          unfold d_X3_blockAt_J59 at hd
          unfold f_X3_blockAt_J59 at hf
          refine lv_iconst (v := (-1)) hx hb dX3_blockAt_59 (by decide) ?_
          exact W.iret (v := (-1)) hx hb hr (fun t9 ht9 hW9 => ⟨⟨_, (), rfl, hf.trans hf0.symm, ⟨by rw [ht9]; exact hR.P, hR.D⟩⟩, hR.sS.F ht9⟩) hR.sS.2.2 dX3_blockAt_60
        refine lv_if_lt (tgt := 59) hx hb dX3_blockAt_34 (by decide) (fun c11 => ?_) (fun c11 => ?_)
        · rw [if_pos (k_lt rfl (by decide) c11)] at hf
          (try rw [if_pos (k_lt rfl (by decide) c11)] at hd)
          exact J_59 _ _ ls hd hf  hR (lv_sub hl [] rfl)
        · rw [if_neg (k_nlt rfl (by decide) c11)] at hf
          (try rw [if_neg (k_nlt rfl (by decide) c11)] at hd)
          refine lv_iload_n hx hb dX3_blockAt_37 rfl (lv_at hl 0 rfl) ?_
          refine lv_aload_n hx hb dX3_blockAt_38 rfl (lv_at hl 1 rfl) ?_
          refine va_get (D := rD g) (ci := 3) (v := .int (qI S 52 1)) (C := RX3) (T := TX3) (N := 16) hx hb hts inX3 hown hR.K hR.P 52 (hR.at43 (hR.w.2.1 _ finC_30).2.1) rfl 1 (by decide) (hts _ kw_851) (fun _ h9 => h9) rfl dX3_blockAt_39 ?_
          refine lv_icmp_ge (tgt := 59) hx hb dX3_blockAt_42 (by decide) (fun c12 => ?_) (fun c12 => ?_)
          · rw [if_pos (k_le rfl rfl c12)] at hf
            (try rw [if_pos (k_le rfl rfl c12)] at hd)
            exact J_59 _ _ ls hd hf  hR (lv_sub hl [] rfl)
          · rw [if_neg (k_nle rfl rfl c12)] at hf
            (try rw [if_neg (k_nle rfl rfl c12)] at hd)
            refine lv_aload_n hx hb dX3_blockAt_45 rfl (lv_at hl 1 rfl) ?_
            have hT_b13 : qT S (qO S 52 2) = 202 := hR.w.ref (hR.w.ptr ptrC_22) (hR.w.2.1 _ finC_30).2.1
            refine va_get (D := rD g) (ci := 3) (v := .ref (ad (qO S 52 2))) (C := RX3) (T := TX3) (N := 16) hx hb hts inX3 hown hR.K hR.P 52 (hR.at43 (hR.w.2.1 _ finC_30).2.1) rfl 2 (by decide) (hts _ kw_862) (fun _ h9 => h9) (congrArg (fun z => some (vf ad z)) (hR.w.ptr ptrC_22)) dX3_blockAt_46 ?_
            refine lv_iload_n hx hb dX3_blockAt_49 rfl (lv_at hl 0 rfl) ?_
            obtain ⟨hv14, hd⟩ := hd
            refine va_iald hx hb hR.K hR.P (qO S 52 2) 1 (hR.atI hT_b13 (by decide)) rfl (k_ix (x := (qI S (qO S 52 3) x1.toInt.toNat)) (a := (qI S (qO S 52 3) x1.toInt.toNat).toInt) rfl hv14) dX3_blockAt_50 ?_
            refine lv_topi (fun z15 ez15 => ?_)
            obtain rfl : z15 = (qI S (qO S 52 2) (((qI S (qO S 52 3) x1.toInt.toNat).toInt).toNat)) := ez15
            refine lv_iload_n hx hb dX3_blockAt_51 rfl (lv_at hl 2 rfl) ?_
            refine lv_icmp_ne (tgt := 59) hx hb dX3_blockAt_52 (by decide) (fun c16 => ?_) (fun c16 => ?_)
            · rw [if_neg (k_ne rfl rfl c16)] at hf
              (try rw [if_neg (k_ne rfl rfl c16)] at hd)
              exact J_59 _ _ ls hd hf  hR (lv_sub hl [] rfl)
            · rw [if_pos (k_eq rfl rfl c16)] at hf
              (try rw [if_pos (k_eq rfl rfl c16)] at hd)
              refine lv_iload_n hx hb dX3_blockAt_55 rfl (lv_at hl 0 rfl) ?_
              refine lv_goto (tgt := 60) hx hb dX3_blockAt_56 (by decide) ?_
              exact W.iret (v := (qI S (qO S 52 3) x1.toInt.toNat)) hx hb hr (fun t9 ht9 hW9 => ⟨⟨_, (), rfl, hf.trans hf0.symm, ⟨by rw [ht9]; exact hR.P, hR.D⟩⟩, hR.sS.F ht9⟩) hR.sS.2.2 dX3_blockAt_60
      · rw [if_neg (k_nlt rfl rfl c7)] at hf
        (try rw [if_neg (k_nlt rfl rfl c7)] at hd)
        refine lv_iconst (v := (-1)) hx hb dX3_blockAt_24 (by decide) ?_
        exact W.iret (v := (-1)) hx hb hr (fun t9 ht9 hW9 => ⟨⟨_, (), rfl, hf.trans hf0.symm, ⟨by rw [ht9]; exact hR.P, hR.D⟩⟩, hR.sS.F ht9⟩) hR.sS.2.2 dX3_blockAt_25
def wX3_begin (S : MS) (x1 : Int32) (Q : MS → Prop) : Prop := ((x1.toInt < 0 → Q S) ∧ (¬ x1.toInt < 0 → ((qR S 52 0 = some (qO S 52 0)) ∧ (((qI S (qO S 52 0) 2).toInt ≤ x1.toInt → Q S) ∧ (¬ (qI S (qO S 52 0) 2).toInt ≤ x1.toInt → (((0 : Int) ≤ x1.toInt ∧ x1.toInt < (qN S (qO S 52 3) : Int)) ∧ (∀ S7, S7 = wI S (qO S 52 3) x1.toInt.toNat (1 : Int32) → qT S (qO S 52 3) = 203 → wfC S7 → Q S7)))))))
set_option maxHeartbeats 2000000 in
set_option maxRecDepth 100000 in
theorem rX3_begin (l : Launch) (g : Gr) (ad : Nat → Nat) (sz : Nat) (S : MS) (x1 : Int32) (hw : wfC S) (Q : MS → Prop) (h : wX3_begin S x1 Q) : Met l yX3_begin (wt yX3_begin cX3_begin 2 none) ({ frames := 0, cells := 0, slots := 0, locals := 0 }) (va_Pc [.ref (ad 52), .int x1] (st_C g ad sz S)) (va_Qv (fun (u : MS) => Q u ∧ wfC u ∧ shy S u) (fun (u : MS) (t : State) => qEC g ad (va_A (WdC g ad S) sz) u t) (va_A (WdC g ad S) sz)) 0 0 (va_A (WdC g ad S) sz) := by
  refine Met.ofW (cc := cX3_begin) (maxL := 2) (ret := none) (by decide) rfl ?_
  intro p e s m args below meth c s₁ B hml hv
  obtain ⟨rfl, hsz, hP, hK, hD0, hex, hE⟩ := hv
  have hx := B.exec
  have hb := B.bytes
  have hr := B.returns
  have hts0 := atoms_spec (ws := wt yX3_begin cX3_begin 2 none) B.pre
  have hts : ∀ w ∈ tb, w.before _ s = true := fun w h => hts0 w (List.mem_cons_of_mem _ h)
  have hown : s.vm.findClass RX3 = some m.cls := findClass_of_methodNamed B.named
  subst hsz
  have hD := hD0.self (sz := s.heap.size)
  generalize hAe : va_A (WdC g ad S) s.heap.size = A at hD hE ⊢
  have hA : ∀ q : Nat, s.heap.size ≤ q → A q := fun q h => by rw [← hAe]; exact Or.inr h
  have hR : RepC g ad A s S s.heap [] := ⟨hK, hP, hD, va_S.rf, hw⟩
  clear hK hP hD hD0
  have hl := lv_entry ([.ref (ad 52), .int x1]) (n := 2) (Nat.le_of_ble_eq_true rfl)
  rw [lg_entry_eq]
  generalize (lg_sl ([.ref (ad 52), .int x1]) ++ List.replicate (2 - (lg_sl ([.ref (ad 52), .int x1])).length) Slot.unset).toArray = ls at hl ⊢
  have hl : lv_has ls 2 [(0, .ref (ad 52)), (1, .int x1)] := hl
  have hsh : shy S S := shy.rf
  unfold wX3_begin at h
  refine lv_iload_n hx hb dX3_begin_0 rfl (lv_at hl 1 rfl) ?_
  refine lv_if_lt (tgt := 22) hx hb dX3_begin_1 (by decide) (fun c1 => ?_) (fun c1 => ?_)
  · replace h := h.1 (k_lt rfl (by decide) c1)
    exact W.vret hx hb hr (fun t9 ht9 hW9 => ⟨⟨S, rfl, ⟨h, hR.w, hsh⟩, ⟨by rw [ht9]; exact hR.P, hR.D⟩⟩, hR.sS.F ht9⟩) hR.sS.2.2 dX3_begin_22
  · replace h := h.2 (k_nlt rfl (by decide) c1)
    refine lv_iload_n hx hb dX3_begin_4 rfl (lv_at hl 1 rfl) ?_
    refine lv_aload_n hx hb dX3_begin_5 rfl (lv_at hl 0 rfl) ?_
    obtain ⟨hv3, h⟩ := h
    have hT_b2 : qT S (qO S 52 0) = 47 := hR.w.ref hv3 (hR.w.2.1 _ finC_30).2.1
    refine va_get (D := rD g) (ci := 3) (v := .ref (ad (qO S 52 0))) (C := RX3) (T := TX3) (N := 16) hx hb hts inX3 hown hR.K hR.P 52 (hR.at43 (hR.w.2.1 _ finC_30).2.1) rfl 0 (by decide) (hts _ kw_836) (fun _ h9 => h9) (congrArg (fun z => some (vf ad z)) hv3) dX3_begin_6 ?_
    refine va_get (D := rD g) (ci := 7) (v := .int (qI S (qO S 52 0) 2)) (C := RX8) (T := TX8) (N := 15) hx hb hts inX8 hown hR.K hR.P (qO S 52 0) (hR.at47 hT_b2) rfl 2 (by decide) (hts _ kw_837) (fun _ h9 => h9) rfl dX3_begin_9 ?_
    refine lv_icmp_ge (tgt := 22) hx hb dX3_begin_12 (by decide) (fun c4 => ?_) (fun c4 => ?_)
    · replace h := h.1 (k_le rfl rfl c4)
      exact W.vret hx hb hr (fun t9 ht9 hW9 => ⟨⟨S, rfl, ⟨h, hR.w, hsh⟩, ⟨by rw [ht9]; exact hR.P, hR.D⟩⟩, hR.sS.F ht9⟩) hR.sS.2.2 dX3_begin_22
    · replace h := h.2 (k_nle rfl rfl c4)
      refine lv_aload_n hx hb dX3_begin_15 rfl (lv_at hl 0 rfl) ?_
      have hT_b5 : qT S (qO S 52 3) = 203 := hR.w.ref (hR.w.ptr ptrC_23) (hR.w.2.1 _ finC_30).2.1
      refine va_get (D := rD g) (ci := 3) (v := .ref (ad (qO S 52 3))) (C := RX3) (T := TX3) (N := 16) hx hb hts inX3 hown hR.K hR.P 52 (hR.at43 (hR.w.2.1 _ finC_30).2.1) rfl 3 (by decide) (hts _ kw_839) (fun _ h9 => h9) (congrArg (fun z => some (vf ad z)) (hR.w.ptr ptrC_23)) dX3_begin_16 ?_
      refine lv_iload_n hx hb dX3_begin_19 rfl (lv_at hl 1 rfl) ?_
      refine lv_iconst (v := 1) hx hb dX3_begin_20 (by decide) ?_
      obtain ⟨hv6, h⟩ := h
      refine va_iast hx hb hR.K hR.P hR.D hR.sS (qO S 52 3) 1 (hR.atI hT_b5 (by decide)) rfl (k_ix (x := x1) (a := x1.toInt) rfl hv6) dX3_begin_21 (fun H locs hP hD hS => ?_)
      have hTk9 : qT S (qO S 52 3) = 203 := hT_b5
      have hR : RepC g ad A s (wI S (qO S 52 3) x1.toInt.toNat (1 : Int32)) H locs := hR.aI hT_b5 (by decide) hP hD hS
      obtain ⟨S7, eS7⟩ : ∃ z, z = wI S (qO S 52 3) x1.toInt.toNat (1 : Int32) := ⟨_, rfl⟩
      rw [← eS7] at hR
      replace h := h S7 eS7 hTk9 hR.w
      have hsh : shy S S7 := by rw [eS7]; exact hsh
      exact W.vret hx hb hr (fun t9 ht9 hW9 => ⟨⟨S7, rfl, ⟨h, hR.w, hsh⟩, ⟨by rw [ht9]; exact hR.P, hR.D⟩⟩, hR.sS.F ht9⟩) hR.sS.2.2 dX3_begin_22
def w_X3_makeRoom_J79 (Q : MS → Prop) (U79 : MS) : Prop := (wfC U79 → (∀ S5, S5 = wI U79 52 10 (((qI U79 52 1) + (63 : Int32)) / (64 : Int32)) → qT U79 52 = 43 → wfC S5 → ((((qI S5 52 1) * (qI S5 52 10)).toInt ≤ (qN S5 (qO S5 52 9) : Int) → Q S5) ∧ (¬ ((qI S5 52 1) * (qI S5 52 10)).toInt ≤ (qN S5 (qO S5 52 9) : Int) → (((0 : Int) ≤ (((2 : Int32) * (qI S5 52 1)) * (qI S5 52 10)).toInt ∧ (qn S5 + 1 ≤ KCC ∧ qu S5 + (((2 : Int32) * (qI S5 52 1)) * (qI S5 52 10)).toInt.toNat ≤ KSC)) ∧ (∀ S15, S15 = wN S5 401 ((((2 : Int32) * (qI S5 52 1)) * (qI S5 52 10)).toInt.toNat) ((((2 : Int32) * (qI S5 52 1)) * (qI S5 52 10)).toInt.toNat) → wfC S15 → (∀ S17, S17 = wR S15 52 9 (some (qn S5)) → qT S15 52 = 43 → wfC S17 → Q S17)))))))
def wX3_makeRoom (S : MS) (Q : MS → Prop) : Prop := (((qI S 52 1).toInt ≤ (qN S (qO S 52 13) : Int) → w_X3_makeRoom_J79 Q S) ∧ (¬ (qI S 52 1).toInt ≤ (qN S (qO S 52 13) : Int) → (∀ a20 : Int32, a20 = ((2 : Int32) * (qI S 52 1)) → (((0 : Int) ≤ (a20 + (1 : Int32)).toInt ∧ (qn S + 1 ≤ KCC ∧ qu S + (a20 + (1 : Int32)).toInt.toNat ≤ KSC)) ∧ (∀ S25, S25 = wN S 204 ((a20 + (1 : Int32)).toInt.toNat) ((a20 + (1 : Int32)).toInt.toNat) → wfC S25 → (∀ S27, S27 = wR S25 52 4 (some (qn S)) → qT S25 52 = 43 → wfC S27 → (((0 : Int) ≤ (a20 + (1 : Int32)).toInt ∧ (qn S27 + 1 ≤ KCC ∧ qu S27 + (a20 + (1 : Int32)).toInt.toNat ≤ KSC)) ∧ (∀ S32, S32 = wN S27 206 ((a20 + (1 : Int32)).toInt.toNat) ((a20 + (1 : Int32)).toInt.toNat) → wfC S32 → (∀ S34, S34 = wR S32 52 6 (some (qn S27)) → qT S32 52 = 43 → wfC S34 → (((0 : Int) ≤ a20.toInt ∧ (qn S34 + 1 ≤ KCC ∧ qu S34 + a20.toInt.toNat ≤ KSC)) ∧ (∀ S38, S38 = wN S34 303 a20.toInt.toNat a20.toInt.toNat → wfC S38 → (∀ S40, S40 = wR S38 52 8 (some (qn S34)) → qT S38 52 = 43 → wfC S40 → (((0 : Int) ≤ a20.toInt ∧ (qn S40 + 1 ≤ KCC ∧ qu S40 + a20.toInt.toNat ≤ KSC)) ∧ (∀ S44, S44 = wN S40 208 a20.toInt.toNat a20.toInt.toNat → wfC S44 → (∀ S46, S46 = wR S44 52 11 (some (qn S40)) → qT S44 52 = 43 → wfC S46 → (((0 : Int) ≤ a20.toInt ∧ (qn S46 + 1 ≤ KCC ∧ qu S46 + a20.toInt.toNat ≤ KSC)) ∧ (∀ S50, S50 = wN S46 209 a20.toInt.toNat a20.toInt.toNat → wfC S50 → (∀ S52, S52 = wR S50 52 12 (some (qn S46)) → qT S50 52 = 43 → wfC S52 → (((0 : Int) ≤ a20.toInt ∧ (qn S52 + 1 ≤ KCC ∧ qu S52 + a20.toInt.toNat ≤ KSC)) ∧ (∀ S56, S56 = wN S52 210 a20.toInt.toNat a20.toInt.toNat → wfC S56 → (∀ S58, S58 = wR S56 52 13 (some (qn S52)) → qT S56 52 = 43 → wfC S58 → (((0 : Int) ≤ a20.toInt ∧ (qn S58 + 1 ≤ KCC ∧ qu S58 + a20.toInt.toNat ≤ KSC)) ∧ (∀ S62, S62 = wN S58 211 a20.toInt.toNat a20.toInt.toNat → wfC S62 → (∀ S64, S64 = wR S62 52 14 (some (qn S58)) → qT S62 52 = 43 → wfC S64 → (((0 : Int) ≤ a20.toInt ∧ (qn S64 + 1 ≤ KCC ∧ qu S64 + a20.toInt.toNat ≤ KSC)) ∧ (∀ S68, S68 = wN S64 212 a20.toInt.toNat a20.toInt.toNat → wfC S68 → (∀ S70, S70 = wR S68 52 15 (some (qn S64)) → qT S68 52 = 43 → wfC S70 → w_X3_makeRoom_J79 Q S70)))))))))))))))))))))))))))
set_option maxHeartbeats 2000000 in
set_option maxRecDepth 100000 in
theorem rX3_makeRoom (l : Launch) (g : Gr) (ad : Nat → Nat) (H0 : Heap) (S : MS) (hw : wfC S) (Q : MS → Prop) (h : wX3_makeRoom S Q) : Met l yX3_makeRoom (wt yX3_makeRoom cX3_makeRoom 2 none) ({ frames := 0, cells := KCC - qn S, slots := KSC - qu S, locals := 0 }) (va_Pc [.ref (ad 52)] (st_CH g ad H0 S)) (va_Qv (fun (u : MS × (Nat → Nat)) => Q u.1 ∧ wfC u.1 ∧ shx S u.1 ∧ adk ad u.2 S) (fun (u : MS × (Nat → Nat)) (t : State) => qEHC g (va_A (WdC g ad S) H0.size) S H0 u t) (va_A (WdC g ad S) H0.size)) (KCC - qn S) (KSC - qu S) (va_A (WdC g ad S) H0.size) := by
  refine Met.ofW (cc := cX3_makeRoom) (maxL := 2) (ret := none) (by decide) rfl ?_
  intro p e s m args below meth c s₁ B hml hv
  obtain ⟨rfl, hH0, hsz, hP, hK, hD0, hex, hE⟩ := hv
  have hx := B.exec
  have hb := B.bytes
  have hr := B.returns
  have hts0 := atoms_spec (ws := wt yX3_makeRoom cX3_makeRoom 2 none) B.pre
  have hts : ∀ w ∈ tb, w.before _ s = true := fun w h => hts0 w (List.mem_cons_of_mem _ h)
  have hown : s.vm.findClass RX3 = some m.cls := findClass_of_methodNamed B.named
  subst hH0
  have hD := hD0.self (sz := s.heap.size)
  generalize hAe : va_A (WdC g ad S) s.heap.size = A at hD hE ⊢
  have hA : ∀ q : Nat, s.heap.size ≤ q → A q := fun q h => by rw [← hAe]; exact Or.inr h
  have hR : RepC g ad A s S s.heap [] := ⟨hK, hP, hD, va_S.rf, hw⟩
  clear hK hP hD hD0
  have hl := lv_entry ([.ref (ad 52)]) (n := 2) (Nat.le_of_ble_eq_true rfl)
  rw [lg_entry_eq]
  generalize (lg_sl ([.ref (ad 52)]) ++ List.replicate (2 - (lg_sl ([.ref (ad 52)])).length) Slot.unset).toArray = ls at hl ⊢
  have hlg : lgC S S 0 0 := lgC.rf
  have hak : adk ad ad S := adk.rf
  have hl : lv_has ls 2 [(0, .ref (ad 52))] := hl
  have hsh : shx S S := shx.rf
  unfold wX3_makeRoom at h
  refine lv_aload_n hx hb dX3_makeRoom_0 rfl (lv_at hl 0 rfl) ?_
  have hT_b1 : qT S (qO S 52 13) = 210 := hR.w.ref (hR.w.ptr ptrC_32) (hR.w.2.1 _ finC_30).2.1
  refine va_get (D := rD g) (ci := 3) (v := .ref (ad (qO S 52 13))) (C := RX3) (T := TX3) (N := 16) hx hb hts inX3 hown hR.K hR.P 52 (hR.at43 (hR.w.2.1 _ finC_30).2.1) rfl 13 (by decide) (hts _ kw_845) (fun _ h9 => h9) (congrArg (fun z => some (vf ad z)) (hR.w.ptr ptrC_32)) dX3_makeRoom_1 ?_
  refine va_alen (v := (Int32.ofNat (qN S (qO S 52 13)))) hx hb hR.K hR.P (qO S 52 13) 1 (hR.atI hT_b1 (by decide)) rfl rfl dX3_makeRoom_4 ?_
  have hln2 : (Int32.ofNat (qN S (qO S 52 13))).toInt = (qN S (qO S 52 13) : Int) := toI_len (hR.w.len9 (hT_b1) (by decide))
  refine lv_aload_n hx hb dX3_makeRoom_5 rfl (lv_at hl 0 rfl) ?_
  refine va_get (D := rD g) (ci := 3) (v := .int (qI S 52 1)) (C := RX3) (T := TX3) (N := 16) hx hb hts inX3 hown hR.K hR.P 52 (hR.at43 (hR.w.2.1 _ finC_30).2.1) rfl 1 (by decide) (hts _ kw_851) (fun _ h9 => h9) rfl dX3_makeRoom_6 ?_
  have J_79 : ∀ (ad79 : Nat → Nat) (dc79 ds79 : Nat) (U79 : MS) (H : Heap) (locs : List Loc) (ls : Array Slot), w_X3_makeRoom_J79 Q U79 → shx S U79 → lgC S U79 dc79 ds79 → adk ad ad79 S → ogC ad79 A s s.heap → RepC g ad79 A s U79 H locs → lv_has ls 2 [(0, .ref (ad79 52))] → W p l e (headSpec (wt yX3_makeRoom cX3_makeRoom 2 none) ({ frames := 0, cells := KCC - qn S, slots := KSC - qu S, locals := 0 })).room s m ([.ref (ad 52)] : List Value).toArray below meth c H locs dc79 ds79 (MQ below (va_Qv (fun (u : MS × (Nat → Nat)) => Q u.1 ∧ wfC u.1 ∧ shx S u.1 ∧ adk ad u.2 S) (fun (u : MS × (Nat → Nat)) (t : State) => qEHC g A S s.heap u t) A) ([.ref (ad 52)] : List Value).toArray s (KCC - qn S) (KSC - qu S) A) (F0 m 79 ls []) := by
    intro ad79 dc79 ds79 U79 H locs ls h hsh hlg hak hE hR hl
    unfold w_X3_makeRoom_J79 at h
    replace h := h hR.w
    refine lv_aload_n hx hb dX3_makeRoom_79 rfl (lv_at hl 0 rfl) ?_
    refine lv_aload_n hx hb dX3_makeRoom_80 rfl (lv_at hl 0 rfl) ?_
    refine va_get (D := rD g) (ci := 3) (v := .int (qI U79 52 1)) (C := RX3) (T := TX3) (N := 16) hx hb hts inX3 hown hR.K hR.P 52 (hR.at43 (hR.w.2.1 _ finC_30).2.1) rfl 1 (by decide) (hts _ kw_851) (fun _ h9 => h9) rfl dX3_makeRoom_81 ?_
    refine lv_bipush (v := 63) hx hb dX3_makeRoom_84 (by decide) ?_
    refine lv_iadd hx hb dX3_makeRoom_86 ?_
    refine lv_topi (fun z3 ez3 => ?_)
    obtain rfl : z3 = ((qI U79 52 1) + (63 : Int32)) := ez3
    refine lv_bipush (v := 64) hx hb dX3_makeRoom_87 (by decide) ?_
    refine lv_idiv hx hb dX3_makeRoom_89 (by decide) ?_
    refine lv_topi (fun z4 ez4 => ?_)
    obtain rfl : z4 = (((qI U79 52 1) + (63 : Int32)) / (64 : Int32)) := ez4
    refine va_put (D := rD g) (ci := 3) (v := .int (((qI U79 52 1) + (63 : Int32)) / (64 : Int32))) (ty := .int) (C := RX3) (T := TX3) (N := 16) hx hb hts inX3 tyX3 tyX3_ok nmX3 hown hR.K hR.P hR.D hR.sS 52 (hR.at43 (hR.w.2.1 _ finC_30).2.1) rfl 10 (by decide) (hts _ kw_867) (fun _ h9 => h9) rfl (by decide +kernel) rfl rfl (Nat.le_of_ble_eq_true rfl) dX3_makeRoom_90 (fun H locs hP hD hS => ?_)
    have hTk9 : qT U79 52 = 43 := (hR.w.2.1 _ finC_30).2.1
    have hR : RepC g ad79 A s (wI U79 52 10 (((qI U79 52 1) + (63 : Int32)) / (64 : Int32))) H locs := hR.pI43 (hR.w.2.1 _ finC_30).2.1 FX3_s10 (fun q9 => absurd q9 (by decide)) hP hD hS
    obtain ⟨S5, eS5⟩ : ∃ z, z = wI U79 52 10 (((qI U79 52 1) + (63 : Int32)) / (64 : Int32)) := ⟨_, rfl⟩
    rw [← eS5] at hR
    replace h := h S5 eS5 hTk9 hR.w
    have hsh : shx S S5 := by rw [eS5]; exact hsh
    have hlg : lgC S S5 (dc79) (ds79) := by rw [eS5]; exact hlg
    refine lv_aload_n hx hb dX3_makeRoom_93 rfl (lv_at hl 0 rfl) ?_
    have hT_b6 : qT S5 (qO S5 52 9) = 401 := hR.w.ref (hR.w.ptr ptrC_29) (hR.w.2.1 _ finC_30).2.1
    refine va_get (D := rD g) (ci := 3) (v := .ref (ad79 (qO S5 52 9))) (C := RX3) (T := TX3) (N := 16) hx hb hts inX3 hown hR.K hR.P 52 (hR.at43 (hR.w.2.1 _ finC_30).2.1) rfl 9 (by decide) (hts _ kw_866) (fun _ h9 => h9) (congrArg (fun z => some (vf ad79 z)) (hR.w.ptr ptrC_29)) dX3_makeRoom_94 ?_
    refine va_alen (v := (Int32.ofNat (qN S5 (qO S5 52 9)))) hx hb hR.K hR.P (qO S5 52 9) 3 (hR.atL hT_b6 (by decide)) rfl rfl dX3_makeRoom_97 ?_
    have hln7 : (Int32.ofNat (qN S5 (qO S5 52 9))).toInt = (qN S5 (qO S5 52 9) : Int) := toI_len (hR.w.len9 (hT_b6) (by decide))
    refine lv_aload_n hx hb dX3_makeRoom_98 rfl (lv_at hl 0 rfl) ?_
    refine va_get (D := rD g) (ci := 3) (v := .int (qI S5 52 1)) (C := RX3) (T := TX3) (N := 16) hx hb hts inX3 hown hR.K hR.P 52 (hR.at43 (hR.w.2.1 _ finC_30).2.1) rfl 1 (by decide) (hts _ kw_851) (fun _ h9 => h9) rfl dX3_makeRoom_99 ?_
    refine lv_aload_n hx hb dX3_makeRoom_102 rfl (lv_at hl 0 rfl) ?_
    refine va_get (D := rD g) (ci := 3) (v := .int (qI S5 52 10)) (C := RX3) (T := TX3) (N := 16) hx hb hts inX3 hown hR.K hR.P 52 (hR.at43 (hR.w.2.1 _ finC_30).2.1) rfl 10 (by decide) (hts _ kw_867) (fun _ h9 => h9) rfl dX3_makeRoom_103 ?_
    refine lv_imul hx hb dX3_makeRoom_106 ?_
    refine lv_topi (fun z8 ez8 => ?_)
    obtain rfl : z8 = ((qI S5 52 1) * (qI S5 52 10)) := ez8
    refine lv_icmp_ge (tgt := 127) hx hb dX3_makeRoom_107 (by decide) (fun c9 => ?_) (fun c9 => ?_)
    · replace h := h.1 (k_le rfl hln7 c9)
      refine W_led2 (fun hLd => ?_)
      refine W.widen (k := KCC - qn S) (n := KSC - qu S) hlg.c hlg.s ?_
      exact W.vret hx hb hr (fun t9 ht9 hW9 => ⟨⟨(S5, ad79), rfl, ⟨h, hR.w, hsh, hak⟩, ⟨⟨by rw [ht9]; exact hR.P, hR.D⟩, _, _, by rw [ht9]; exact hLd, hlg⟩⟩, hR.sS.F ht9⟩) hR.sS.2.2 dX3_makeRoom_127
    · replace h := h.2 (k_nle rfl hln7 c9)
      refine lv_aload_n hx hb dX3_makeRoom_110 rfl (lv_at hl 0 rfl) ?_
      refine lv_iconst (v := 2) hx hb dX3_makeRoom_111 (by decide) ?_
      refine lv_aload_n hx hb dX3_makeRoom_112 rfl (lv_at hl 0 rfl) ?_
      refine va_get (D := rD g) (ci := 3) (v := .int (qI S5 52 1)) (C := RX3) (T := TX3) (N := 16) hx hb hts inX3 hown hR.K hR.P 52 (hR.at43 (hR.w.2.1 _ finC_30).2.1) rfl 1 (by decide) (hts _ kw_851) (fun _ h9 => h9) rfl dX3_makeRoom_113 ?_
      refine lv_imul hx hb dX3_makeRoom_116 ?_
      refine lv_topi (fun z10 ez10 => ?_)
      obtain rfl : z10 = ((2 : Int32) * (qI S5 52 1)) := ez10
      refine lv_aload_n hx hb dX3_makeRoom_117 rfl (lv_at hl 0 rfl) ?_
      refine va_get (D := rD g) (ci := 3) (v := .int (qI S5 52 10)) (C := RX3) (T := TX3) (N := 16) hx hb hts inX3 hown hR.K hR.P 52 (hR.at43 (hR.w.2.1 _ finC_30).2.1) rfl 10 (by decide) (hts _ kw_867) (fun _ h9 => h9) rfl dX3_makeRoom_118 ?_
      refine lv_imul hx hb dX3_makeRoom_121 ?_
      refine lv_topi (fun z11 ez11 => ?_)
      obtain rfl : z11 = (((2 : Int32) * (qI S5 52 1)) * (qI S5 52 10)) := ez11
      obtain ⟨hv12, h⟩ := h
      have e9 : KCC = 300000 := rfl
      have e8 : KSC = 3553400 := rfl
      have e7 : TXB = 10000000 := rfl
      have hTX : qn S5 < TXB := by have := hv12.2.1; omega
      refine va_newa (atype := .long) (ty := .long) (a0 := ((((2 : Int32) * (qI S5 52 1)) * (qI S5 52 10)).toInt.toNat, .inr (.inl (fun _ => 0)))) (N' := (((2 : Int32) * (qI S5 52 1)) * (qI S5 52 10)).toInt.toNat) hx hb (hts (.arrayClass .long) kw_564) rfl hR.K hR.P hR.D hR.sS hA (fun _ => rfl) (fun q9 => absurd (k_lt (b := 0) rfl (by decide) q9) (Int.not_lt.mpr hv12.1)) rfl (by show ((((2 : Int32) * (qI S5 52 1)) * (qI S5 52 10)).toInt.toNat) * 8 ≤ 536870912; have := hv12.2.2; omega) (show dc79 + 1 ≤ KCC - qn S from hlg.c1 hv12.2.1) (show ds79 + ((((2 : Int32) * (qI S5 52 1)) * (qI S5 52 10)).toInt.toNat) ≤ KSC - qu S from hlg.s1 hv12.2.2) dX3_makeRoom_122 (fun q13 cA9 H hK9 hP hD hS => ?_)
      obtain rfl := cls_new3 hR.K hK9 (k := 3) rfl (fun _ h => by cases h)
      have hw8 := hR.w
      have hR := hR.new (t := 401) (n := (((2 : Int32) * (qI S5 52 1)) * (qI S5 52 10)).toInt.toNat) (k := (((2 : Int32) * (qI S5 52 1)) * (qI S5 52 10)).toInt.toNat) hTX (by decide) (by have := hv12.2.2; omega) (wN_CL (by decide)) hP hD hS
      have hk8 : adk ad79 (adx ad79 (qn S5) q13) S5 := adk.rf.new (Nat.le_refl _) hTX
      have hak := hak.new (q := q13) hlg.2.2.1 hTX
      have hE := hE.ad hk8
      have hlg : lgC S (wN S5 401 ((((2 : Int32) * (qI S5 52 1)) * (qI S5 52 10)).toInt.toNat) ((((2 : Int32) * (qI S5 52 1)) * (qI S5 52 10)).toInt.toNat)) (dc79 + 1) (ds79 + ((((2 : Int32) * (qI S5 52 1)) * (qI S5 52 10)).toInt.toNat)) := hlg.new (t := 401) (n := (((2 : Int32) * (qI S5 52 1)) * (qI S5 52 10)).toInt.toNat) ⟨hv12.2.1, hv12.2.2⟩
      have hs8 : shx S5 (wN S5 401 ((((2 : Int32) * (qI S5 52 1)) * (qI S5 52 10)).toInt.toNat) ((((2 : Int32) * (qI S5 52 1)) * (qI S5 52 10)).toInt.toNat)) := shx.newC (t := 401) (n := (((2 : Int32) * (qI S5 52 1)) * (qI S5 52 10)).toInt.toNat) (k := (((2 : Int32) * (qI S5 52 1)) * (qI S5 52 10)).toInt.toNat) shx.rf hw8 hTX
      obtain ⟨am14, eam14⟩ : ∃ z, z = adx ad79 (qn S5) q13 := ⟨_, rfl⟩
      have eq_q13 : am14 (qn S5) = q13 := by rw [eam14]; exact if_pos rfl
      rw [← eam14] at hR hk8 hak hE
      obtain ⟨S15, eS15⟩ : ∃ z, z = wN S5 401 ((((2 : Int32) * (qI S5 52 1)) * (qI S5 52 10)).toInt.toNat) ((((2 : Int32) * (qI S5 52 1)) * (qI S5 52 10)).toInt.toNat) := ⟨_, rfl⟩
      rw [← eS15] at hR hlg hs8
      replace h := h S15 eS15 hR.w
      have hsh := hsh.tr hs8
      have hT_b16 : qT S15 (qn S5) = 401 := by rw [eS15]; exact if_pos rfl
      have ea_0 : am14 52 = ad79 52 := hk8 _ (hw8.hd (hw8.2.1 _ finC_30).2.1 (by decide) (by decide))
      have hl : lv_has ls 2 [(0, .ref (am14 52))] := by simp only [ea_0]; exact hl
      refine W.eq (g2 := F0 m 124 ls [.ref (am14 (qn S5)), .ref (am14 52)]) (by simp only [ea_0, eq_q13]) ?_
      clear hw8 hk8 hs8 hP hD hS e9 e8 e7 hTX
      refine va_put (D := rD g) (ci := 3) (v := .ref (am14 (qn S5))) (ty := (.array .long)) (C := RX3) (T := TX3) (N := 16) hx hb hts inX3 tyX3 tyX3_ok nmX3 hown hR.K hR.P hR.D hR.sS 52 (hR.at43 (hR.w.2.1 _ finC_30).2.1) rfl 9 (by decide) (hts _ kw_866) (fun _ h9 => h9) rfl (by decide +kernel) rfl rfl (Nat.le_of_ble_eq_true rfl) dX3_makeRoom_124 (fun H locs hP hD hS => ?_)
      have hw9 : wfC (wR S15 52 9 (some (qn S5))) := hR.w.put (fun b q9 => by cases q9; exact (hT_b16).trans (by rw [(hR.w.2.1 _ finC_30).2.1]; rfl)) (nofC_52_9) (by rw [(hR.w.2.1 _ finC_30).2.1]; decide) (fun b _ q9 => absurd (show otgC (qT S15 52) 9 = 0 by rw [(hR.w.2.1 _ finC_30).2.1]; decide) q9) (fun _ => Option.some_ne_none _)
      have hTk9 : qT S15 52 = 43 := (hR.w.2.1 _ finC_30).2.1
      have hR : RepC g am14 A s (wR S15 52 9 (some (qn S5))) H locs := hR.pR43 (hR.w.2.1 _ finC_30).2.1 FX3_s9 hw9 hP hD hS
      obtain ⟨S17, eS17⟩ : ∃ z, z = wR S15 52 9 (some (qn S5)) := ⟨_, rfl⟩
      rw [← eS17] at hR
      replace h := h S17 eS17 hTk9 hR.w
      have hsh : shx S S17 := by rw [eS17]; exact hsh
      have hlg : lgC S S17 (dc79 + 1) (ds79 + ((((2 : Int32) * (qI S5 52 1)) * (qI S5 52 10)).toInt.toNat)) := by rw [eS17]; exact hlg
      refine W_led2 (fun hLd => ?_)
      refine W.widen (k := KCC - qn S) (n := KSC - qu S) hlg.c hlg.s ?_
      exact W.vret hx hb hr (fun t9 ht9 hW9 => ⟨⟨(S17, am14), rfl, ⟨h, hR.w, hsh, hak⟩, ⟨⟨by rw [ht9]; exact hR.P, hR.D⟩, _, _, by rw [ht9]; exact hLd, hlg⟩⟩, hR.sS.F ht9⟩) hR.sS.2.2 dX3_makeRoom_127
  refine lv_icmp_ge (tgt := 79) hx hb dX3_makeRoom_9 (by decide) (fun c18 => ?_) (fun c18 => ?_)
  · replace h := h.1 (k_le rfl hln2 c18)
    exact J_79 ad (0) (0) S _ _ ls h  hsh hlg hak hE hR (lv_sub hl [0] rfl)
  · replace h := h.2 (k_nle rfl hln2 c18)
    refine lv_iconst (v := 2) hx hb dX3_makeRoom_12 (by decide) ?_
    refine lv_aload_n hx hb dX3_makeRoom_13 rfl (lv_at hl 0 rfl) ?_
    refine va_get (D := rD g) (ci := 3) (v := .int (qI S 52 1)) (C := RX3) (T := TX3) (N := 16) hx hb hts inX3 hown hR.K hR.P 52 (hR.at43 (hR.w.2.1 _ finC_30).2.1) rfl 1 (by decide) (hts _ kw_851) (fun _ h9 => h9) rfl dX3_makeRoom_14 ?_
    refine lv_imul hx hb dX3_makeRoom_17 ?_
    refine lv_topi (fun z19 ez19 => ?_)
    obtain rfl : z19 = ((2 : Int32) * (qI S 52 1)) := ez19
    obtain ⟨a20, ea20⟩ : ∃ z, z = ((2 : Int32) * (qI S 52 1)) := ⟨_, rfl⟩
    rw [← ea20]
    replace h := h a20 ea20
    refine lv_istore_n (lv' := [(1, .int a20), (0, .ref (ad 52))]) hx hb dX3_makeRoom_18 rfl hl (by decide) rfl (fun ls hl => ?_)
    refine lv_aload_n hx hb dX3_makeRoom_19 rfl (lv_at hl 1 rfl) ?_
    refine lv_iload_n hx hb dX3_makeRoom_20 rfl (lv_at hl 0 rfl) ?_
    refine lv_iconst (v := 1) hx hb dX3_makeRoom_21 (by decide) ?_
    refine lv_iadd hx hb dX3_makeRoom_22 ?_
    refine lv_topi (fun z21 ez21 => ?_)
    obtain rfl : z21 = (a20 + (1 : Int32)) := ez21
    obtain ⟨hv22, h⟩ := h
    have e9 : KCC = 300000 := rfl
    have e8 : KSC = 3553400 := rfl
    have e7 : TXB = 10000000 := rfl
    have hTX : qn S < TXB := by have := hv22.2.1; omega
    refine va_newa (atype := .int) (ty := .int) (a0 := ((a20 + (1 : Int32)).toInt.toNat, .inl (fun _ => 0))) (N' := (a20 + (1 : Int32)).toInt.toNat) hx hb (hts (.arrayClass .int) kw_51) rfl hR.K hR.P hR.D hR.sS hA (fun _ => rfl) (fun q9 => absurd (k_lt (b := 0) rfl (by decide) q9) (Int.not_lt.mpr hv22.1)) rfl (by show ((a20 + (1 : Int32)).toInt.toNat) * 4 ≤ 536870912; have := hv22.2.2; omega) (show 0 + 1 ≤ KCC - qn S from hlg.c1 hv22.2.1) (show 0 + ((a20 + (1 : Int32)).toInt.toNat) ≤ KSC - qu S from hlg.s1 hv22.2.2) dX3_makeRoom_23 (fun q23 cA9 H hK9 hP hD hS => ?_)
    obtain rfl := cls_new3 hR.K hK9 (k := 1) rfl (fun _ h => by cases h)
    have hw8 := hR.w
    have hR := hR.new (t := 204) (n := (a20 + (1 : Int32)).toInt.toNat) (k := (a20 + (1 : Int32)).toInt.toNat) hTX (by decide) (by have := hv22.2.2; omega) (wN_CI (by decide)) hP hD hS
    have hk8 : adk ad (adx ad (qn S) q23) S := adk.rf.new (Nat.le_refl _) hTX
    have hak := hak.new (q := q23) hlg.2.2.1 hTX
    have hE := hE.ad hk8
    have hlg : lgC S (wN S 204 ((a20 + (1 : Int32)).toInt.toNat) ((a20 + (1 : Int32)).toInt.toNat)) (0 + 1) (0 + ((a20 + (1 : Int32)).toInt.toNat)) := hlg.new (t := 204) (n := (a20 + (1 : Int32)).toInt.toNat) ⟨hv22.2.1, hv22.2.2⟩
    have hs8 : shx S (wN S 204 ((a20 + (1 : Int32)).toInt.toNat) ((a20 + (1 : Int32)).toInt.toNat)) := shx.newC (t := 204) (n := (a20 + (1 : Int32)).toInt.toNat) (k := (a20 + (1 : Int32)).toInt.toNat) shx.rf hw8 hTX
    obtain ⟨am24, eam24⟩ : ∃ z, z = adx ad (qn S) q23 := ⟨_, rfl⟩
    have eq_q23 : am24 (qn S) = q23 := by rw [eam24]; exact if_pos rfl
    rw [← eam24] at hR hk8 hak hE
    obtain ⟨S25, eS25⟩ : ∃ z, z = wN S 204 ((a20 + (1 : Int32)).toInt.toNat) ((a20 + (1 : Int32)).toInt.toNat) := ⟨_, rfl⟩
    rw [← eS25] at hR hlg hs8
    replace h := h S25 eS25 hR.w
    have hsh := hsh.tr hs8
    have hT_b26 : qT S25 (qn S) = 204 := by rw [eS25]; exact if_pos rfl
    have ea_0 : am24 52 = ad 52 := hk8 _ (hw8.hd (hw8.2.1 _ finC_30).2.1 (by decide) (by decide))
    have hl : lv_has ls 2 [(1, .int a20), (0, .ref (am24 52))] := by simp only [ea_0]; exact hl
    refine W.eq (g2 := F0 m 25 ls [.ref (am24 (qn S)), .ref (am24 52)]) (by simp only [ea_0, eq_q23]) ?_
    clear hw8 hk8 hs8 hP hD hS e9 e8 e7 hTX
    refine va_put (D := rD g) (ci := 3) (v := .ref (am24 (qn S))) (ty := (.array .int)) (C := RX3) (T := TX3) (N := 16) hx hb hts inX3 tyX3 tyX3_ok nmX3 hown hR.K hR.P hR.D hR.sS 52 (hR.at43 (hR.w.2.1 _ finC_30).2.1) rfl 4 (by decide) (hts _ kw_885) (fun _ h9 => h9) rfl (by decide +kernel) rfl rfl (Nat.le_of_ble_eq_true rfl) dX3_makeRoom_25 (fun H locs hP hD hS => ?_)
    have hw9 : wfC (wR S25 52 4 (some (qn S))) := hR.w.put (fun b q9 => by cases q9; exact (hT_b26).trans (by rw [(hR.w.2.1 _ finC_30).2.1]; rfl)) (nofC_52_4) (by rw [(hR.w.2.1 _ finC_30).2.1]; decide) (fun b _ q9 => absurd (show otgC (qT S25 52) 4 = 0 by rw [(hR.w.2.1 _ finC_30).2.1]; decide) q9) (fun _ => Option.some_ne_none _)
    have hTk9 : qT S25 52 = 43 := (hR.w.2.1 _ finC_30).2.1
    have hR : RepC g am24 A s (wR S25 52 4 (some (qn S))) H locs := hR.pR43 (hR.w.2.1 _ finC_30).2.1 FX3_s4 hw9 hP hD hS
    obtain ⟨S27, eS27⟩ : ∃ z, z = wR S25 52 4 (some (qn S)) := ⟨_, rfl⟩
    rw [← eS27] at hR
    replace h := h S27 eS27 hTk9 hR.w
    have hsh : shx S S27 := by rw [eS27]; exact hsh
    have hlg : lgC S S27 (0 + 1) (0 + ((a20 + (1 : Int32)).toInt.toNat)) := by rw [eS27]; exact hlg
    refine lv_aload_n hx hb dX3_makeRoom_28 rfl (lv_at hl 1 rfl) ?_
    refine lv_iload_n hx hb dX3_makeRoom_29 rfl (lv_at hl 0 rfl) ?_
    refine lv_iconst (v := 1) hx hb dX3_makeRoom_30 (by decide) ?_
    refine lv_iadd hx hb dX3_makeRoom_31 ?_
    refine lv_topi (fun z28 ez28 => ?_)
    obtain rfl : z28 = (a20 + (1 : Int32)) := ez28
    obtain ⟨hv29, h⟩ := h
    have e9 : KCC = 300000 := rfl
    have e8 : KSC = 3553400 := rfl
    have e7 : TXB = 10000000 := rfl
    have hTX : qn S27 < TXB := by have := hv29.2.1; omega
    refine va_newa (atype := .int) (ty := .int) (a0 := ((a20 + (1 : Int32)).toInt.toNat, .inl (fun _ => 0))) (N' := (a20 + (1 : Int32)).toInt.toNat) hx hb (hts (.arrayClass .int) kw_51) rfl hR.K hR.P hR.D hR.sS hA (fun _ => rfl) (fun q9 => absurd (k_lt (b := 0) rfl (by decide) q9) (Int.not_lt.mpr hv29.1)) rfl (by show ((a20 + (1 : Int32)).toInt.toNat) * 4 ≤ 536870912; have := hv29.2.2; omega) (show 0 + 1 + 1 ≤ KCC - qn S from hlg.c1 hv29.2.1) (show 0 + ((a20 + (1 : Int32)).toInt.toNat) + ((a20 + (1 : Int32)).toInt.toNat) ≤ KSC - qu S from hlg.s1 hv29.2.2) dX3_makeRoom_32 (fun q30 cA9 H hK9 hP hD hS => ?_)
    obtain rfl := cls_new3 hR.K hK9 (k := 1) rfl (fun _ h => by cases h)
    have hw8 := hR.w
    have hR := hR.new (t := 206) (n := (a20 + (1 : Int32)).toInt.toNat) (k := (a20 + (1 : Int32)).toInt.toNat) hTX (by decide) (by have := hv29.2.2; omega) (wN_CI (by decide)) hP hD hS
    have hk8 : adk am24 (adx am24 (qn S27) q30) S27 := adk.rf.new (Nat.le_refl _) hTX
    have hak := hak.new (q := q30) hlg.2.2.1 hTX
    have hE := hE.ad hk8
    have hlg : lgC S (wN S27 206 ((a20 + (1 : Int32)).toInt.toNat) ((a20 + (1 : Int32)).toInt.toNat)) (0 + 1 + 1) (0 + ((a20 + (1 : Int32)).toInt.toNat) + ((a20 + (1 : Int32)).toInt.toNat)) := hlg.new (t := 206) (n := (a20 + (1 : Int32)).toInt.toNat) ⟨hv29.2.1, hv29.2.2⟩
    have hs8 : shx S27 (wN S27 206 ((a20 + (1 : Int32)).toInt.toNat) ((a20 + (1 : Int32)).toInt.toNat)) := shx.newC (t := 206) (n := (a20 + (1 : Int32)).toInt.toNat) (k := (a20 + (1 : Int32)).toInt.toNat) shx.rf hw8 hTX
    obtain ⟨am31, eam31⟩ : ∃ z, z = adx am24 (qn S27) q30 := ⟨_, rfl⟩
    have eq_q30 : am31 (qn S27) = q30 := by rw [eam31]; exact if_pos rfl
    rw [← eam31] at hR hk8 hak hE
    obtain ⟨S32, eS32⟩ : ∃ z, z = wN S27 206 ((a20 + (1 : Int32)).toInt.toNat) ((a20 + (1 : Int32)).toInt.toNat) := ⟨_, rfl⟩
    rw [← eS32] at hR hlg hs8
    replace h := h S32 eS32 hR.w
    have hsh := hsh.tr hs8
    have hT_b33 : qT S32 (qn S27) = 206 := by rw [eS32]; exact if_pos rfl
    have ea_0 : am31 52 = am24 52 := hk8 _ (hw8.hd (hw8.2.1 _ finC_30).2.1 (by decide) (by decide))
    have hl : lv_has ls 2 [(1, .int a20), (0, .ref (am31 52))] := by simp only [ea_0]; exact hl
    refine W.eq (g2 := F0 m 34 ls [.ref (am31 (qn S27)), .ref (am31 52)]) (by simp only [ea_0, eq_q30]) ?_
    clear hw8 hk8 hs8 hP hD hS e9 e8 e7 hTX
    refine va_put (D := rD g) (ci := 3) (v := .ref (am31 (qn S27))) (ty := (.array .int)) (C := RX3) (T := TX3) (N := 16) hx hb hts inX3 tyX3 tyX3_ok nmX3 hown hR.K hR.P hR.D hR.sS 52 (hR.at43 (hR.w.2.1 _ finC_30).2.1) rfl 6 (by decide) (hts _ kw_846) (fun _ h9 => h9) rfl (by decide +kernel) rfl rfl (Nat.le_of_ble_eq_true rfl) dX3_makeRoom_34 (fun H locs hP hD hS => ?_)
    have hw9 : wfC (wR S32 52 6 (some (qn S27))) := hR.w.put (fun b q9 => by cases q9; exact (hT_b33).trans (by rw [(hR.w.2.1 _ finC_30).2.1]; rfl)) (nofC_52_6) (by rw [(hR.w.2.1 _ finC_30).2.1]; decide) (fun b _ q9 => absurd (show otgC (qT S32 52) 6 = 0 by rw [(hR.w.2.1 _ finC_30).2.1]; decide) q9) (fun _ => Option.some_ne_none _)
    have hTk9 : qT S32 52 = 43 := (hR.w.2.1 _ finC_30).2.1
    have hR : RepC g am31 A s (wR S32 52 6 (some (qn S27))) H locs := hR.pR43 (hR.w.2.1 _ finC_30).2.1 FX3_s6 hw9 hP hD hS
    obtain ⟨S34, eS34⟩ : ∃ z, z = wR S32 52 6 (some (qn S27)) := ⟨_, rfl⟩
    rw [← eS34] at hR
    replace h := h S34 eS34 hTk9 hR.w
    have hsh : shx S S34 := by rw [eS34]; exact hsh
    have hlg : lgC S S34 (0 + 1 + 1) (0 + ((a20 + (1 : Int32)).toInt.toNat) + ((a20 + (1 : Int32)).toInt.toNat)) := by rw [eS34]; exact hlg
    refine lv_aload_n hx hb dX3_makeRoom_37 rfl (lv_at hl 1 rfl) ?_
    refine lv_iload_n hx hb dX3_makeRoom_38 rfl (lv_at hl 0 rfl) ?_
    obtain ⟨hv35, h⟩ := h
    have e9 : KCC = 300000 := rfl
    have e8 : KSC = 3553400 := rfl
    have e7 : TXB = 10000000 := rfl
    have hTX : qn S34 < TXB := by have := hv35.2.1; omega
    refine va_newa (atype := .boolean) (ty := .boolean) (a0 := (a20.toInt.toNat, .inl (fun _ => 0))) (N' := a20.toInt.toNat) hx hb (hts (.arrayClass .boolean) kw_553) rfl hR.K hR.P hR.D hR.sS hA (fun _ => rfl) (fun q9 => absurd (k_lt (b := 0) rfl (by decide) q9) (Int.not_lt.mpr hv35.1)) rfl (by show a20.toInt.toNat * 1 ≤ 536870912; have := hv35.2.2; omega) (show 0 + 1 + 1 + 1 ≤ KCC - qn S from hlg.c1 hv35.2.1) (show 0 + ((a20 + (1 : Int32)).toInt.toNat) + ((a20 + (1 : Int32)).toInt.toNat) + a20.toInt.toNat ≤ KSC - qu S from hlg.s1 hv35.2.2) dX3_makeRoom_39 (fun q36 cA9 H hK9 hP hD hS => ?_)
    obtain rfl := cls_new3 hR.K hK9 (k := 2) rfl (fun _ h => by cases h)
    have hw8 := hR.w
    have hR := hR.new (t := 303) (n := a20.toInt.toNat) (k := a20.toInt.toNat) hTX (by decide) (by have := hv35.2.2; omega) (wN_CZ (by decide)) hP hD hS
    have hk8 : adk am31 (adx am31 (qn S34) q36) S34 := adk.rf.new (Nat.le_refl _) hTX
    have hak := hak.new (q := q36) hlg.2.2.1 hTX
    have hE := hE.ad hk8
    have hlg : lgC S (wN S34 303 a20.toInt.toNat a20.toInt.toNat) (0 + 1 + 1 + 1) (0 + ((a20 + (1 : Int32)).toInt.toNat) + ((a20 + (1 : Int32)).toInt.toNat) + a20.toInt.toNat) := hlg.new (t := 303) (n := a20.toInt.toNat) ⟨hv35.2.1, hv35.2.2⟩
    have hs8 : shx S34 (wN S34 303 a20.toInt.toNat a20.toInt.toNat) := shx.newC (t := 303) (n := a20.toInt.toNat) (k := a20.toInt.toNat) shx.rf hw8 hTX
    obtain ⟨am37, eam37⟩ : ∃ z, z = adx am31 (qn S34) q36 := ⟨_, rfl⟩
    have eq_q36 : am37 (qn S34) = q36 := by rw [eam37]; exact if_pos rfl
    rw [← eam37] at hR hk8 hak hE
    obtain ⟨S38, eS38⟩ : ∃ z, z = wN S34 303 a20.toInt.toNat a20.toInt.toNat := ⟨_, rfl⟩
    rw [← eS38] at hR hlg hs8
    replace h := h S38 eS38 hR.w
    have hsh := hsh.tr hs8
    have hT_b39 : qT S38 (qn S34) = 303 := by rw [eS38]; exact if_pos rfl
    have ea_0 : am37 52 = am31 52 := hk8 _ (hw8.hd (hw8.2.1 _ finC_30).2.1 (by decide) (by decide))
    have hl : lv_has ls 2 [(1, .int a20), (0, .ref (am37 52))] := by simp only [ea_0]; exact hl
    refine W.eq (g2 := F0 m 41 ls [.ref (am37 (qn S34)), .ref (am37 52)]) (by simp only [ea_0, eq_q36]) ?_
    clear hw8 hk8 hs8 hP hD hS e9 e8 e7 hTX
    refine va_put (D := rD g) (ci := 3) (v := .ref (am37 (qn S34))) (ty := (.array .boolean)) (C := RX3) (T := TX3) (N := 16) hx hb hts inX3 tyX3 tyX3_ok nmX3 hown hR.K hR.P hR.D hR.sS 52 (hR.at43 (hR.w.2.1 _ finC_30).2.1) rfl 8 (by decide) (hts _ kw_847) (fun _ h9 => h9) rfl (by decide +kernel) rfl rfl (Nat.le_of_ble_eq_true rfl) dX3_makeRoom_41 (fun H locs hP hD hS => ?_)
    have hw9 : wfC (wR S38 52 8 (some (qn S34))) := hR.w.put (fun b q9 => by cases q9; exact (hT_b39).trans (by rw [(hR.w.2.1 _ finC_30).2.1]; rfl)) (nofC_52_8) (by rw [(hR.w.2.1 _ finC_30).2.1]; decide) (fun b _ q9 => absurd (show otgC (qT S38 52) 8 = 0 by rw [(hR.w.2.1 _ finC_30).2.1]; decide) q9) (fun _ => Option.some_ne_none _)
    have hTk9 : qT S38 52 = 43 := (hR.w.2.1 _ finC_30).2.1
    have hR : RepC g am37 A s (wR S38 52 8 (some (qn S34))) H locs := hR.pR43 (hR.w.2.1 _ finC_30).2.1 FX3_s8 hw9 hP hD hS
    obtain ⟨S40, eS40⟩ : ∃ z, z = wR S38 52 8 (some (qn S34)) := ⟨_, rfl⟩
    rw [← eS40] at hR
    replace h := h S40 eS40 hTk9 hR.w
    have hsh : shx S S40 := by rw [eS40]; exact hsh
    have hlg : lgC S S40 (0 + 1 + 1 + 1) (0 + ((a20 + (1 : Int32)).toInt.toNat) + ((a20 + (1 : Int32)).toInt.toNat) + a20.toInt.toNat) := by rw [eS40]; exact hlg
    refine lv_aload_n hx hb dX3_makeRoom_44 rfl (lv_at hl 1 rfl) ?_
    refine lv_iload_n hx hb dX3_makeRoom_45 rfl (lv_at hl 0 rfl) ?_
    obtain ⟨hv41, h⟩ := h
    have e9 : KCC = 300000 := rfl
    have e8 : KSC = 3553400 := rfl
    have e7 : TXB = 10000000 := rfl
    have hTX : qn S40 < TXB := by have := hv41.2.1; omega
    refine va_newa (atype := .int) (ty := .int) (a0 := (a20.toInt.toNat, .inl (fun _ => 0))) (N' := a20.toInt.toNat) hx hb (hts (.arrayClass .int) kw_51) rfl hR.K hR.P hR.D hR.sS hA (fun _ => rfl) (fun q9 => absurd (k_lt (b := 0) rfl (by decide) q9) (Int.not_lt.mpr hv41.1)) rfl (by show a20.toInt.toNat * 4 ≤ 536870912; have := hv41.2.2; omega) (show 0 + 1 + 1 + 1 + 1 ≤ KCC - qn S from hlg.c1 hv41.2.1) (show 0 + ((a20 + (1 : Int32)).toInt.toNat) + ((a20 + (1 : Int32)).toInt.toNat) + a20.toInt.toNat + a20.toInt.toNat ≤ KSC - qu S from hlg.s1 hv41.2.2) dX3_makeRoom_46 (fun q42 cA9 H hK9 hP hD hS => ?_)
    obtain rfl := cls_new3 hR.K hK9 (k := 1) rfl (fun _ h => by cases h)
    have hw8 := hR.w
    have hR := hR.new (t := 208) (n := a20.toInt.toNat) (k := a20.toInt.toNat) hTX (by decide) (by have := hv41.2.2; omega) (wN_CI (by decide)) hP hD hS
    have hk8 : adk am37 (adx am37 (qn S40) q42) S40 := adk.rf.new (Nat.le_refl _) hTX
    have hak := hak.new (q := q42) hlg.2.2.1 hTX
    have hE := hE.ad hk8
    have hlg : lgC S (wN S40 208 a20.toInt.toNat a20.toInt.toNat) (0 + 1 + 1 + 1 + 1) (0 + ((a20 + (1 : Int32)).toInt.toNat) + ((a20 + (1 : Int32)).toInt.toNat) + a20.toInt.toNat + a20.toInt.toNat) := hlg.new (t := 208) (n := a20.toInt.toNat) ⟨hv41.2.1, hv41.2.2⟩
    have hs8 : shx S40 (wN S40 208 a20.toInt.toNat a20.toInt.toNat) := shx.newC (t := 208) (n := a20.toInt.toNat) (k := a20.toInt.toNat) shx.rf hw8 hTX
    obtain ⟨am43, eam43⟩ : ∃ z, z = adx am37 (qn S40) q42 := ⟨_, rfl⟩
    have eq_q42 : am43 (qn S40) = q42 := by rw [eam43]; exact if_pos rfl
    rw [← eam43] at hR hk8 hak hE
    obtain ⟨S44, eS44⟩ : ∃ z, z = wN S40 208 a20.toInt.toNat a20.toInt.toNat := ⟨_, rfl⟩
    rw [← eS44] at hR hlg hs8
    replace h := h S44 eS44 hR.w
    have hsh := hsh.tr hs8
    have hT_b45 : qT S44 (qn S40) = 208 := by rw [eS44]; exact if_pos rfl
    have ea_0 : am43 52 = am37 52 := hk8 _ (hw8.hd (hw8.2.1 _ finC_30).2.1 (by decide) (by decide))
    have hl : lv_has ls 2 [(1, .int a20), (0, .ref (am43 52))] := by simp only [ea_0]; exact hl
    refine W.eq (g2 := F0 m 48 ls [.ref (am43 (qn S40)), .ref (am43 52)]) (by simp only [ea_0, eq_q42]) ?_
    clear hw8 hk8 hs8 hP hD hS e9 e8 e7 hTX
    refine va_put (D := rD g) (ci := 3) (v := .ref (am43 (qn S40))) (ty := (.array .int)) (C := RX3) (T := TX3) (N := 16) hx hb hts inX3 tyX3 tyX3_ok nmX3 hown hR.K hR.P hR.D hR.sS 52 (hR.at43 (hR.w.2.1 _ finC_30).2.1) rfl 11 (by decide) (hts _ kw_907) (fun _ h9 => h9) rfl (by decide +kernel) rfl rfl (Nat.le_of_ble_eq_true rfl) dX3_makeRoom_48 (fun H locs hP hD hS => ?_)
    have hw9 : wfC (wR S44 52 11 (some (qn S40))) := hR.w.put (fun b q9 => by cases q9; exact (hT_b45).trans (by rw [(hR.w.2.1 _ finC_30).2.1]; rfl)) (nofC_52_11) (by rw [(hR.w.2.1 _ finC_30).2.1]; decide) (fun b _ q9 => absurd (show otgC (qT S44 52) 11 = 0 by rw [(hR.w.2.1 _ finC_30).2.1]; decide) q9) (fun _ => Option.some_ne_none _)
    have hTk9 : qT S44 52 = 43 := (hR.w.2.1 _ finC_30).2.1
    have hR : RepC g am43 A s (wR S44 52 11 (some (qn S40))) H locs := hR.pR43 (hR.w.2.1 _ finC_30).2.1 FX3_s11 hw9 hP hD hS
    obtain ⟨S46, eS46⟩ : ∃ z, z = wR S44 52 11 (some (qn S40)) := ⟨_, rfl⟩
    rw [← eS46] at hR
    replace h := h S46 eS46 hTk9 hR.w
    have hsh : shx S S46 := by rw [eS46]; exact hsh
    have hlg : lgC S S46 (0 + 1 + 1 + 1 + 1) (0 + ((a20 + (1 : Int32)).toInt.toNat) + ((a20 + (1 : Int32)).toInt.toNat) + a20.toInt.toNat + a20.toInt.toNat) := by rw [eS46]; exact hlg
    refine lv_aload_n hx hb dX3_makeRoom_51 rfl (lv_at hl 1 rfl) ?_
    refine lv_iload_n hx hb dX3_makeRoom_52 rfl (lv_at hl 0 rfl) ?_
    obtain ⟨hv47, h⟩ := h
    have e9 : KCC = 300000 := rfl
    have e8 : KSC = 3553400 := rfl
    have e7 : TXB = 10000000 := rfl
    have hTX : qn S46 < TXB := by have := hv47.2.1; omega
    refine va_newa (atype := .int) (ty := .int) (a0 := (a20.toInt.toNat, .inl (fun _ => 0))) (N' := a20.toInt.toNat) hx hb (hts (.arrayClass .int) kw_51) rfl hR.K hR.P hR.D hR.sS hA (fun _ => rfl) (fun q9 => absurd (k_lt (b := 0) rfl (by decide) q9) (Int.not_lt.mpr hv47.1)) rfl (by show a20.toInt.toNat * 4 ≤ 536870912; have := hv47.2.2; omega) (show 0 + 1 + 1 + 1 + 1 + 1 ≤ KCC - qn S from hlg.c1 hv47.2.1) (show 0 + ((a20 + (1 : Int32)).toInt.toNat) + ((a20 + (1 : Int32)).toInt.toNat) + a20.toInt.toNat + a20.toInt.toNat + a20.toInt.toNat ≤ KSC - qu S from hlg.s1 hv47.2.2) dX3_makeRoom_53 (fun q48 cA9 H hK9 hP hD hS => ?_)
    obtain rfl := cls_new3 hR.K hK9 (k := 1) rfl (fun _ h => by cases h)
    have hw8 := hR.w
    have hR := hR.new (t := 209) (n := a20.toInt.toNat) (k := a20.toInt.toNat) hTX (by decide) (by have := hv47.2.2; omega) (wN_CI (by decide)) hP hD hS
    have hk8 : adk am43 (adx am43 (qn S46) q48) S46 := adk.rf.new (Nat.le_refl _) hTX
    have hak := hak.new (q := q48) hlg.2.2.1 hTX
    have hE := hE.ad hk8
    have hlg : lgC S (wN S46 209 a20.toInt.toNat a20.toInt.toNat) (0 + 1 + 1 + 1 + 1 + 1) (0 + ((a20 + (1 : Int32)).toInt.toNat) + ((a20 + (1 : Int32)).toInt.toNat) + a20.toInt.toNat + a20.toInt.toNat + a20.toInt.toNat) := hlg.new (t := 209) (n := a20.toInt.toNat) ⟨hv47.2.1, hv47.2.2⟩
    have hs8 : shx S46 (wN S46 209 a20.toInt.toNat a20.toInt.toNat) := shx.newC (t := 209) (n := a20.toInt.toNat) (k := a20.toInt.toNat) shx.rf hw8 hTX
    obtain ⟨am49, eam49⟩ : ∃ z, z = adx am43 (qn S46) q48 := ⟨_, rfl⟩
    have eq_q48 : am49 (qn S46) = q48 := by rw [eam49]; exact if_pos rfl
    rw [← eam49] at hR hk8 hak hE
    obtain ⟨S50, eS50⟩ : ∃ z, z = wN S46 209 a20.toInt.toNat a20.toInt.toNat := ⟨_, rfl⟩
    rw [← eS50] at hR hlg hs8
    replace h := h S50 eS50 hR.w
    have hsh := hsh.tr hs8
    have hT_b51 : qT S50 (qn S46) = 209 := by rw [eS50]; exact if_pos rfl
    have ea_0 : am49 52 = am43 52 := hk8 _ (hw8.hd (hw8.2.1 _ finC_30).2.1 (by decide) (by decide))
    have hl : lv_has ls 2 [(1, .int a20), (0, .ref (am49 52))] := by simp only [ea_0]; exact hl
    refine W.eq (g2 := F0 m 55 ls [.ref (am49 (qn S46)), .ref (am49 52)]) (by simp only [ea_0, eq_q48]) ?_
    clear hw8 hk8 hs8 hP hD hS e9 e8 e7 hTX
    refine va_put (D := rD g) (ci := 3) (v := .ref (am49 (qn S46))) (ty := (.array .int)) (C := RX3) (T := TX3) (N := 16) hx hb hts inX3 tyX3 tyX3_ok nmX3 hown hR.K hR.P hR.D hR.sS 52 (hR.at43 (hR.w.2.1 _ finC_30).2.1) rfl 12 (by decide) (hts _ kw_918) (fun _ h9 => h9) rfl (by decide +kernel) rfl rfl (Nat.le_of_ble_eq_true rfl) dX3_makeRoom_55 (fun H locs hP hD hS => ?_)
    have hw9 : wfC (wR S50 52 12 (some (qn S46))) := hR.w.put (fun b q9 => by cases q9; exact (hT_b51).trans (by rw [(hR.w.2.1 _ finC_30).2.1]; rfl)) (nofC_52_12) (by rw [(hR.w.2.1 _ finC_30).2.1]; decide) (fun b _ q9 => absurd (show otgC (qT S50 52) 12 = 0 by rw [(hR.w.2.1 _ finC_30).2.1]; decide) q9) (fun _ => Option.some_ne_none _)
    have hTk9 : qT S50 52 = 43 := (hR.w.2.1 _ finC_30).2.1
    have hR : RepC g am49 A s (wR S50 52 12 (some (qn S46))) H locs := hR.pR43 (hR.w.2.1 _ finC_30).2.1 FX3_s12 hw9 hP hD hS
    obtain ⟨S52, eS52⟩ : ∃ z, z = wR S50 52 12 (some (qn S46)) := ⟨_, rfl⟩
    rw [← eS52] at hR
    replace h := h S52 eS52 hTk9 hR.w
    have hsh : shx S S52 := by rw [eS52]; exact hsh
    have hlg : lgC S S52 (0 + 1 + 1 + 1 + 1 + 1) (0 + ((a20 + (1 : Int32)).toInt.toNat) + ((a20 + (1 : Int32)).toInt.toNat) + a20.toInt.toNat + a20.toInt.toNat + a20.toInt.toNat) := by rw [eS52]; exact hlg
    refine lv_aload_n hx hb dX3_makeRoom_58 rfl (lv_at hl 1 rfl) ?_
    refine lv_iload_n hx hb dX3_makeRoom_59 rfl (lv_at hl 0 rfl) ?_
    obtain ⟨hv53, h⟩ := h
    have e9 : KCC = 300000 := rfl
    have e8 : KSC = 3553400 := rfl
    have e7 : TXB = 10000000 := rfl
    have hTX : qn S52 < TXB := by have := hv53.2.1; omega
    refine va_newa (atype := .int) (ty := .int) (a0 := (a20.toInt.toNat, .inl (fun _ => 0))) (N' := a20.toInt.toNat) hx hb (hts (.arrayClass .int) kw_51) rfl hR.K hR.P hR.D hR.sS hA (fun _ => rfl) (fun q9 => absurd (k_lt (b := 0) rfl (by decide) q9) (Int.not_lt.mpr hv53.1)) rfl (by show a20.toInt.toNat * 4 ≤ 536870912; have := hv53.2.2; omega) (show 0 + 1 + 1 + 1 + 1 + 1 + 1 ≤ KCC - qn S from hlg.c1 hv53.2.1) (show 0 + ((a20 + (1 : Int32)).toInt.toNat) + ((a20 + (1 : Int32)).toInt.toNat) + a20.toInt.toNat + a20.toInt.toNat + a20.toInt.toNat + a20.toInt.toNat ≤ KSC - qu S from hlg.s1 hv53.2.2) dX3_makeRoom_60 (fun q54 cA9 H hK9 hP hD hS => ?_)
    obtain rfl := cls_new3 hR.K hK9 (k := 1) rfl (fun _ h => by cases h)
    have hw8 := hR.w
    have hR := hR.new (t := 210) (n := a20.toInt.toNat) (k := a20.toInt.toNat) hTX (by decide) (by have := hv53.2.2; omega) (wN_CI (by decide)) hP hD hS
    have hk8 : adk am49 (adx am49 (qn S52) q54) S52 := adk.rf.new (Nat.le_refl _) hTX
    have hak := hak.new (q := q54) hlg.2.2.1 hTX
    have hE := hE.ad hk8
    have hlg : lgC S (wN S52 210 a20.toInt.toNat a20.toInt.toNat) (0 + 1 + 1 + 1 + 1 + 1 + 1) (0 + ((a20 + (1 : Int32)).toInt.toNat) + ((a20 + (1 : Int32)).toInt.toNat) + a20.toInt.toNat + a20.toInt.toNat + a20.toInt.toNat + a20.toInt.toNat) := hlg.new (t := 210) (n := a20.toInt.toNat) ⟨hv53.2.1, hv53.2.2⟩
    have hs8 : shx S52 (wN S52 210 a20.toInt.toNat a20.toInt.toNat) := shx.newC (t := 210) (n := a20.toInt.toNat) (k := a20.toInt.toNat) shx.rf hw8 hTX
    obtain ⟨am55, eam55⟩ : ∃ z, z = adx am49 (qn S52) q54 := ⟨_, rfl⟩
    have eq_q54 : am55 (qn S52) = q54 := by rw [eam55]; exact if_pos rfl
    rw [← eam55] at hR hk8 hak hE
    obtain ⟨S56, eS56⟩ : ∃ z, z = wN S52 210 a20.toInt.toNat a20.toInt.toNat := ⟨_, rfl⟩
    rw [← eS56] at hR hlg hs8
    replace h := h S56 eS56 hR.w
    have hsh := hsh.tr hs8
    have hT_b57 : qT S56 (qn S52) = 210 := by rw [eS56]; exact if_pos rfl
    have ea_0 : am55 52 = am49 52 := hk8 _ (hw8.hd (hw8.2.1 _ finC_30).2.1 (by decide) (by decide))
    have hl : lv_has ls 2 [(1, .int a20), (0, .ref (am55 52))] := by simp only [ea_0]; exact hl
    refine W.eq (g2 := F0 m 62 ls [.ref (am55 (qn S52)), .ref (am55 52)]) (by simp only [ea_0, eq_q54]) ?_
    clear hw8 hk8 hs8 hP hD hS e9 e8 e7 hTX
    refine va_put (D := rD g) (ci := 3) (v := .ref (am55 (qn S52))) (ty := (.array .int)) (C := RX3) (T := TX3) (N := 16) hx hb hts inX3 tyX3 tyX3_ok nmX3 hown hR.K hR.P hR.D hR.sS 52 (hR.at43 (hR.w.2.1 _ finC_30).2.1) rfl 13 (by decide) (hts _ kw_845) (fun _ h9 => h9) rfl (by decide +kernel) rfl rfl (Nat.le_of_ble_eq_true rfl) dX3_makeRoom_62 (fun H locs hP hD hS => ?_)
    have hw9 : wfC (wR S56 52 13 (some (qn S52))) := hR.w.put (fun b q9 => by cases q9; exact (hT_b57).trans (by rw [(hR.w.2.1 _ finC_30).2.1]; rfl)) (nofC_52_13) (by rw [(hR.w.2.1 _ finC_30).2.1]; decide) (fun b _ q9 => absurd (show otgC (qT S56 52) 13 = 0 by rw [(hR.w.2.1 _ finC_30).2.1]; decide) q9) (fun _ => Option.some_ne_none _)
    have hTk9 : qT S56 52 = 43 := (hR.w.2.1 _ finC_30).2.1
    have hR : RepC g am55 A s (wR S56 52 13 (some (qn S52))) H locs := hR.pR43 (hR.w.2.1 _ finC_30).2.1 FX3_s13 hw9 hP hD hS
    obtain ⟨S58, eS58⟩ : ∃ z, z = wR S56 52 13 (some (qn S52)) := ⟨_, rfl⟩
    rw [← eS58] at hR
    replace h := h S58 eS58 hTk9 hR.w
    have hsh : shx S S58 := by rw [eS58]; exact hsh
    have hlg : lgC S S58 (0 + 1 + 1 + 1 + 1 + 1 + 1) (0 + ((a20 + (1 : Int32)).toInt.toNat) + ((a20 + (1 : Int32)).toInt.toNat) + a20.toInt.toNat + a20.toInt.toNat + a20.toInt.toNat + a20.toInt.toNat) := by rw [eS58]; exact hlg
    refine lv_aload_n hx hb dX3_makeRoom_65 rfl (lv_at hl 1 rfl) ?_
    refine lv_iload_n hx hb dX3_makeRoom_66 rfl (lv_at hl 0 rfl) ?_
    obtain ⟨hv59, h⟩ := h
    have e9 : KCC = 300000 := rfl
    have e8 : KSC = 3553400 := rfl
    have e7 : TXB = 10000000 := rfl
    have hTX : qn S58 < TXB := by have := hv59.2.1; omega
    refine va_newa (atype := .int) (ty := .int) (a0 := (a20.toInt.toNat, .inl (fun _ => 0))) (N' := a20.toInt.toNat) hx hb (hts (.arrayClass .int) kw_51) rfl hR.K hR.P hR.D hR.sS hA (fun _ => rfl) (fun q9 => absurd (k_lt (b := 0) rfl (by decide) q9) (Int.not_lt.mpr hv59.1)) rfl (by show a20.toInt.toNat * 4 ≤ 536870912; have := hv59.2.2; omega) (show 0 + 1 + 1 + 1 + 1 + 1 + 1 + 1 ≤ KCC - qn S from hlg.c1 hv59.2.1) (show 0 + ((a20 + (1 : Int32)).toInt.toNat) + ((a20 + (1 : Int32)).toInt.toNat) + a20.toInt.toNat + a20.toInt.toNat + a20.toInt.toNat + a20.toInt.toNat + a20.toInt.toNat ≤ KSC - qu S from hlg.s1 hv59.2.2) dX3_makeRoom_67 (fun q60 cA9 H hK9 hP hD hS => ?_)
    obtain rfl := cls_new3 hR.K hK9 (k := 1) rfl (fun _ h => by cases h)
    have hw8 := hR.w
    have hR := hR.new (t := 211) (n := a20.toInt.toNat) (k := a20.toInt.toNat) hTX (by decide) (by have := hv59.2.2; omega) (wN_CI (by decide)) hP hD hS
    have hk8 : adk am55 (adx am55 (qn S58) q60) S58 := adk.rf.new (Nat.le_refl _) hTX
    have hak := hak.new (q := q60) hlg.2.2.1 hTX
    have hE := hE.ad hk8
    have hlg : lgC S (wN S58 211 a20.toInt.toNat a20.toInt.toNat) (0 + 1 + 1 + 1 + 1 + 1 + 1 + 1) (0 + ((a20 + (1 : Int32)).toInt.toNat) + ((a20 + (1 : Int32)).toInt.toNat) + a20.toInt.toNat + a20.toInt.toNat + a20.toInt.toNat + a20.toInt.toNat + a20.toInt.toNat) := hlg.new (t := 211) (n := a20.toInt.toNat) ⟨hv59.2.1, hv59.2.2⟩
    have hs8 : shx S58 (wN S58 211 a20.toInt.toNat a20.toInt.toNat) := shx.newC (t := 211) (n := a20.toInt.toNat) (k := a20.toInt.toNat) shx.rf hw8 hTX
    obtain ⟨am61, eam61⟩ : ∃ z, z = adx am55 (qn S58) q60 := ⟨_, rfl⟩
    have eq_q60 : am61 (qn S58) = q60 := by rw [eam61]; exact if_pos rfl
    rw [← eam61] at hR hk8 hak hE
    obtain ⟨S62, eS62⟩ : ∃ z, z = wN S58 211 a20.toInt.toNat a20.toInt.toNat := ⟨_, rfl⟩
    rw [← eS62] at hR hlg hs8
    replace h := h S62 eS62 hR.w
    have hsh := hsh.tr hs8
    have hT_b63 : qT S62 (qn S58) = 211 := by rw [eS62]; exact if_pos rfl
    have ea_0 : am61 52 = am55 52 := hk8 _ (hw8.hd (hw8.2.1 _ finC_30).2.1 (by decide) (by decide))
    have hl : lv_has ls 2 [(1, .int a20), (0, .ref (am61 52))] := by simp only [ea_0]; exact hl
    refine W.eq (g2 := F0 m 69 ls [.ref (am61 (qn S58)), .ref (am61 52)]) (by simp only [ea_0, eq_q60]) ?_
    clear hw8 hk8 hs8 hP hD hS e9 e8 e7 hTX
    refine va_put (D := rD g) (ci := 3) (v := .ref (am61 (qn S58))) (ty := (.array .int)) (C := RX3) (T := TX3) (N := 16) hx hb hts inX3 tyX3 tyX3_ok nmX3 hown hR.K hR.P hR.D hR.sS 52 (hR.at43 (hR.w.2.1 _ finC_30).2.1) rfl 14 (by decide) (hts _ kw_838) (fun _ h9 => h9) rfl (by decide +kernel) rfl rfl (Nat.le_of_ble_eq_true rfl) dX3_makeRoom_69 (fun H locs hP hD hS => ?_)
    have hw9 : wfC (wR S62 52 14 (some (qn S58))) := hR.w.put (fun b q9 => by cases q9; exact (hT_b63).trans (by rw [(hR.w.2.1 _ finC_30).2.1]; rfl)) (nofC_52_14) (by rw [(hR.w.2.1 _ finC_30).2.1]; decide) (fun b _ q9 => absurd (show otgC (qT S62 52) 14 = 0 by rw [(hR.w.2.1 _ finC_30).2.1]; decide) q9) (fun _ => Option.some_ne_none _)
    have hTk9 : qT S62 52 = 43 := (hR.w.2.1 _ finC_30).2.1
    have hR : RepC g am61 A s (wR S62 52 14 (some (qn S58))) H locs := hR.pR43 (hR.w.2.1 _ finC_30).2.1 FX3_s14 hw9 hP hD hS
    obtain ⟨S64, eS64⟩ : ∃ z, z = wR S62 52 14 (some (qn S58)) := ⟨_, rfl⟩
    rw [← eS64] at hR
    replace h := h S64 eS64 hTk9 hR.w
    have hsh : shx S S64 := by rw [eS64]; exact hsh
    have hlg : lgC S S64 (0 + 1 + 1 + 1 + 1 + 1 + 1 + 1) (0 + ((a20 + (1 : Int32)).toInt.toNat) + ((a20 + (1 : Int32)).toInt.toNat) + a20.toInt.toNat + a20.toInt.toNat + a20.toInt.toNat + a20.toInt.toNat + a20.toInt.toNat) := by rw [eS64]; exact hlg
    refine lv_aload_n hx hb dX3_makeRoom_72 rfl (lv_at hl 1 rfl) ?_
    refine lv_iload_n hx hb dX3_makeRoom_73 rfl (lv_at hl 0 rfl) ?_
    obtain ⟨hv65, h⟩ := h
    have e9 : KCC = 300000 := rfl
    have e8 : KSC = 3553400 := rfl
    have e7 : TXB = 10000000 := rfl
    have hTX : qn S64 < TXB := by have := hv65.2.1; omega
    refine va_newa (atype := .int) (ty := .int) (a0 := (a20.toInt.toNat, .inl (fun _ => 0))) (N' := a20.toInt.toNat) hx hb (hts (.arrayClass .int) kw_51) rfl hR.K hR.P hR.D hR.sS hA (fun _ => rfl) (fun q9 => absurd (k_lt (b := 0) rfl (by decide) q9) (Int.not_lt.mpr hv65.1)) rfl (by show a20.toInt.toNat * 4 ≤ 536870912; have := hv65.2.2; omega) (show 0 + 1 + 1 + 1 + 1 + 1 + 1 + 1 + 1 ≤ KCC - qn S from hlg.c1 hv65.2.1) (show 0 + ((a20 + (1 : Int32)).toInt.toNat) + ((a20 + (1 : Int32)).toInt.toNat) + a20.toInt.toNat + a20.toInt.toNat + a20.toInt.toNat + a20.toInt.toNat + a20.toInt.toNat + a20.toInt.toNat ≤ KSC - qu S from hlg.s1 hv65.2.2) dX3_makeRoom_74 (fun q66 cA9 H hK9 hP hD hS => ?_)
    obtain rfl := cls_new3 hR.K hK9 (k := 1) rfl (fun _ h => by cases h)
    have hw8 := hR.w
    have hR := hR.new (t := 212) (n := a20.toInt.toNat) (k := a20.toInt.toNat) hTX (by decide) (by have := hv65.2.2; omega) (wN_CI (by decide)) hP hD hS
    have hk8 : adk am61 (adx am61 (qn S64) q66) S64 := adk.rf.new (Nat.le_refl _) hTX
    have hak := hak.new (q := q66) hlg.2.2.1 hTX
    have hE := hE.ad hk8
    have hlg : lgC S (wN S64 212 a20.toInt.toNat a20.toInt.toNat) (0 + 1 + 1 + 1 + 1 + 1 + 1 + 1 + 1) (0 + ((a20 + (1 : Int32)).toInt.toNat) + ((a20 + (1 : Int32)).toInt.toNat) + a20.toInt.toNat + a20.toInt.toNat + a20.toInt.toNat + a20.toInt.toNat + a20.toInt.toNat + a20.toInt.toNat) := hlg.new (t := 212) (n := a20.toInt.toNat) ⟨hv65.2.1, hv65.2.2⟩
    have hs8 : shx S64 (wN S64 212 a20.toInt.toNat a20.toInt.toNat) := shx.newC (t := 212) (n := a20.toInt.toNat) (k := a20.toInt.toNat) shx.rf hw8 hTX
    obtain ⟨am67, eam67⟩ : ∃ z, z = adx am61 (qn S64) q66 := ⟨_, rfl⟩
    have eq_q66 : am67 (qn S64) = q66 := by rw [eam67]; exact if_pos rfl
    rw [← eam67] at hR hk8 hak hE
    obtain ⟨S68, eS68⟩ : ∃ z, z = wN S64 212 a20.toInt.toNat a20.toInt.toNat := ⟨_, rfl⟩
    rw [← eS68] at hR hlg hs8
    replace h := h S68 eS68 hR.w
    have hsh := hsh.tr hs8
    have hT_b69 : qT S68 (qn S64) = 212 := by rw [eS68]; exact if_pos rfl
    have ea_0 : am67 52 = am61 52 := hk8 _ (hw8.hd (hw8.2.1 _ finC_30).2.1 (by decide) (by decide))
    have hl : lv_has ls 2 [(1, .int a20), (0, .ref (am67 52))] := by simp only [ea_0]; exact hl
    refine W.eq (g2 := F0 m 76 ls [.ref (am67 (qn S64)), .ref (am67 52)]) (by simp only [ea_0, eq_q66]) ?_
    clear hw8 hk8 hs8 hP hD hS e9 e8 e7 hTX
    refine va_put (D := rD g) (ci := 3) (v := .ref (am67 (qn S64))) (ty := (.array .int)) (C := RX3) (T := TX3) (N := 16) hx hb hts inX3 tyX3 tyX3_ok nmX3 hown hR.K hR.P hR.D hR.sS 52 (hR.at43 (hR.w.2.1 _ finC_30).2.1) rfl 15 (by decide) (hts _ kw_852) (fun _ h9 => h9) rfl (by decide +kernel) rfl rfl (Nat.le_of_ble_eq_true rfl) dX3_makeRoom_76 (fun H locs hP hD hS => ?_)
    have hw9 : wfC (wR S68 52 15 (some (qn S64))) := hR.w.put (fun b q9 => by cases q9; exact (hT_b69).trans (by rw [(hR.w.2.1 _ finC_30).2.1]; rfl)) (nofC_52_15) (by rw [(hR.w.2.1 _ finC_30).2.1]; decide) (fun b _ q9 => absurd (show otgC (qT S68 52) 15 = 0 by rw [(hR.w.2.1 _ finC_30).2.1]; decide) q9) (fun _ => Option.some_ne_none _)
    have hTk9 : qT S68 52 = 43 := (hR.w.2.1 _ finC_30).2.1
    have hR : RepC g am67 A s (wR S68 52 15 (some (qn S64))) H locs := hR.pR43 (hR.w.2.1 _ finC_30).2.1 FX3_s15 hw9 hP hD hS
    obtain ⟨S70, eS70⟩ : ∃ z, z = wR S68 52 15 (some (qn S64)) := ⟨_, rfl⟩
    rw [← eS70] at hR
    replace h := h S70 eS70 hTk9 hR.w
    have hsh : shx S S70 := by rw [eS70]; exact hsh
    have hlg : lgC S S70 (0 + 1 + 1 + 1 + 1 + 1 + 1 + 1 + 1) (0 + ((a20 + (1 : Int32)).toInt.toNat) + ((a20 + (1 : Int32)).toInt.toNat) + a20.toInt.toNat + a20.toInt.toNat + a20.toInt.toNat + a20.toInt.toNat + a20.toInt.toNat + a20.toInt.toNat) := by rw [eS70]; exact hlg
    exact J_79 am67 (0 + 1 + 1 + 1 + 1 + 1 + 1 + 1 + 1) (0 + ((a20 + (1 : Int32)).toInt.toNat) + ((a20 + (1 : Int32)).toInt.toNat) + a20.toInt.toNat + a20.toInt.toNat + a20.toInt.toNat + a20.toInt.toNat + a20.toInt.toNat + a20.toInt.toNat) S70 _ _ ls h  hsh hlg hak hE hR (lv_sub hl [1] rfl)
def fX3_lastOf (S : MS) (x1 : Int32) : Int32 := (if (qI S 52 1).toInt ≤ (x1 + (1 : Int32)).toInt then ((qI S (qO S 52 0) 2) - (1 : Int32)) else ((qI S (qO S 52 2) (((x1 + (1 : Int32)).toInt).toNat)) - (1 : Int32)))
def d_X3_lastOf (S : MS) (x1 : Int32) : Prop := (if (qI S 52 1).toInt ≤ (x1 + (1 : Int32)).toInt then ((qR S 52 0 = some (qO S 52 0)) ∧ True) else (((0 : Int) ≤ (x1 + (1 : Int32)).toInt ∧ (x1 + (1 : Int32)).toInt < (qN S (qO S 52 2) : Int)) ∧ True))
set_option maxHeartbeats 2000000 in
set_option maxRecDepth 100000 in
theorem rX3_lastOf (l : Launch) (g : Gr) (ad : Nat → Nat) (sz : Nat) (S : MS) (x1 : Int32) (hw : wfC S) (hd : d_X3_lastOf S x1) : Met l yX3_lastOf (wt yX3_lastOf cX3_lastOf 2 (some .int)) ({ frames := 0, cells := 0, slots := 0, locals := 0 }) (va_Pc [.ref (ad 52), .int x1] (st_C g ad sz S)) (va_Qi (fun (r : Int32) (_ : Unit) => r = fX3_lastOf S x1) (fun (_ : Unit) (t : State) => qEC g ad (va_A (WdC g ad S) sz) S t) (va_A (WdC g ad S) sz)) 0 0 (va_A (WdC g ad S) sz) := by
  refine Met.ofW (cc := cX3_lastOf) (maxL := 2) (ret := (some .int)) (by decide) rfl ?_
  intro p e s m args below meth c s₁ B hml hv
  obtain ⟨rfl, hsz, hP, hK, hD0, hex, hE⟩ := hv
  have hx := B.exec
  have hb := B.bytes
  have hr := B.returns
  have hts0 := atoms_spec (ws := wt yX3_lastOf cX3_lastOf 2 (some .int)) B.pre
  have hts : ∀ w ∈ tb, w.before _ s = true := fun w h => hts0 w (List.mem_cons_of_mem _ h)
  have hown : s.vm.findClass RX3 = some m.cls := findClass_of_methodNamed B.named
  subst hsz
  have hD := hD0.self (sz := s.heap.size)
  generalize hAe : va_A (WdC g ad S) s.heap.size = A at hD hE ⊢
  have hA : ∀ q : Nat, s.heap.size ≤ q → A q := fun q h => by rw [← hAe]; exact Or.inr h
  have hR : RepC g ad A s S s.heap [] := ⟨hK, hP, hD, va_S.rf, hw⟩
  clear hK hP hD hD0
  have hl := lv_entry ([.ref (ad 52), .int x1]) (n := 2) (Nat.le_of_ble_eq_true rfl)
  rw [lg_entry_eq]
  generalize (lg_sl ([.ref (ad 52), .int x1]) ++ List.replicate (2 - (lg_sl ([.ref (ad 52), .int x1])).length) Slot.unset).toArray = ls at hl ⊢
  have hl : lv_has ls 2 [(0, .ref (ad 52)), (1, .int x1)] := hl
  obtain ⟨r0, hf⟩ : ∃ r0, fX3_lastOf S x1 = r0 := ⟨_, rfl⟩
  have hf0 := hf
  unfold fX3_lastOf at hf
  unfold d_X3_lastOf at hd
  refine lv_iload_n hx hb dX3_lastOf_0 rfl (lv_at hl 1 rfl) ?_
  refine lv_iconst (v := 1) hx hb dX3_lastOf_1 (by decide) ?_
  refine lv_iadd hx hb dX3_lastOf_2 ?_
  refine lv_topi (fun z1 ez1 => ?_)
  obtain rfl : z1 = (x1 + (1 : Int32)) := ez1
  refine lv_aload_n hx hb dX3_lastOf_3 rfl (lv_at hl 0 rfl) ?_
  refine va_get (D := rD g) (ci := 3) (v := .int (qI S 52 1)) (C := RX3) (T := TX3) (N := 16) hx hb hts inX3 hown hR.K hR.P 52 (hR.at43 (hR.w.2.1 _ finC_30).2.1) rfl 1 (by decide) (hts _ kw_851) (fun _ h9 => h9) rfl dX3_lastOf_4 ?_
  refine lv_icmp_ge (tgt := 21) hx hb dX3_lastOf_7 (by decide) (fun c2 => ?_) (fun c2 => ?_)
  · rw [if_pos (k_le rfl rfl c2)] at hf
    (try rw [if_pos (k_le rfl rfl c2)] at hd)
    refine lv_aload_n hx hb dX3_lastOf_21 rfl (lv_at hl 0 rfl) ?_
    obtain ⟨hv4, hd⟩ := hd
    have hT_b3 : qT S (qO S 52 0) = 47 := hR.w.ref hv4 (hR.w.2.1 _ finC_30).2.1
    refine va_get (D := rD g) (ci := 3) (v := .ref (ad (qO S 52 0))) (C := RX3) (T := TX3) (N := 16) hx hb hts inX3 hown hR.K hR.P 52 (hR.at43 (hR.w.2.1 _ finC_30).2.1) rfl 0 (by decide) (hts _ kw_836) (fun _ h9 => h9) (congrArg (fun z => some (vf ad z)) hv4) dX3_lastOf_22 ?_
    refine va_get (D := rD g) (ci := 7) (v := .int (qI S (qO S 52 0) 2)) (C := RX8) (T := TX8) (N := 15) hx hb hts inX8 hown hR.K hR.P (qO S 52 0) (hR.at47 hT_b3) rfl 2 (by decide) (hts _ kw_837) (fun _ h9 => h9) rfl dX3_lastOf_25 ?_
    refine lv_iconst (v := 1) hx hb dX3_lastOf_28 (by decide) ?_
    refine lv_isub hx hb dX3_lastOf_29 ?_
    refine lv_topi (fun z5 ez5 => ?_)
    obtain rfl : z5 = ((qI S (qO S 52 0) 2) - (1 : Int32)) := ez5
    exact W.iret (v := ((qI S (qO S 52 0) 2) - (1 : Int32))) hx hb hr (fun t9 ht9 hW9 => ⟨⟨_, (), rfl, hf.trans hf0.symm, ⟨by rw [ht9]; exact hR.P, hR.D⟩⟩, hR.sS.F ht9⟩) hR.sS.2.2 dX3_lastOf_30
  · rw [if_neg (k_nle rfl rfl c2)] at hf
    (try rw [if_neg (k_nle rfl rfl c2)] at hd)
    refine lv_aload_n hx hb dX3_lastOf_10 rfl (lv_at hl 0 rfl) ?_
    have hT_b6 : qT S (qO S 52 2) = 202 := hR.w.ref (hR.w.ptr ptrC_22) (hR.w.2.1 _ finC_30).2.1
    refine va_get (D := rD g) (ci := 3) (v := .ref (ad (qO S 52 2))) (C := RX3) (T := TX3) (N := 16) hx hb hts inX3 hown hR.K hR.P 52 (hR.at43 (hR.w.2.1 _ finC_30).2.1) rfl 2 (by decide) (hts _ kw_862) (fun _ h9 => h9) (congrArg (fun z => some (vf ad z)) (hR.w.ptr ptrC_22)) dX3_lastOf_11 ?_
    refine lv_iload_n hx hb dX3_lastOf_14 rfl (lv_at hl 1 rfl) ?_
    refine lv_iconst (v := 1) hx hb dX3_lastOf_15 (by decide) ?_
    refine lv_iadd hx hb dX3_lastOf_16 ?_
    refine lv_topi (fun z7 ez7 => ?_)
    obtain rfl : z7 = (x1 + (1 : Int32)) := ez7
    obtain ⟨hv8, hd⟩ := hd
    refine va_iald hx hb hR.K hR.P (qO S 52 2) 1 (hR.atI hT_b6 (by decide)) rfl (k_ix (x := (x1 + (1 : Int32))) (a := (x1 + (1 : Int32)).toInt) rfl hv8) dX3_lastOf_17 ?_
    refine lv_topi (fun z9 ez9 => ?_)
    obtain rfl : z9 = (qI S (qO S 52 2) (((x1 + (1 : Int32)).toInt).toNat)) := ez9
    refine lv_goto (tgt := 28) hx hb dX3_lastOf_18 (by decide) ?_
    refine lv_iconst (v := 1) hx hb dX3_lastOf_28 (by decide) ?_
    refine lv_isub hx hb dX3_lastOf_29 ?_
    refine lv_topi (fun z10 ez10 => ?_)
    obtain rfl : z10 = ((qI S (qO S 52 2) (((x1 + (1 : Int32)).toInt).toNat)) - (1 : Int32)) := ez10
    exact W.iret (v := ((qI S (qO S 52 2) (((x1 + (1 : Int32)).toInt).toNat)) - (1 : Int32))) hx hb hr (fun t9 ht9 hW9 => ⟨⟨_, (), rfl, hf.trans hf0.symm, ⟨by rw [ht9]; exact hR.P, hR.D⟩⟩, hR.sS.F ht9⟩) hR.sS.2.2 dX3_lastOf_30
def w_X3_addEdge_J59 (Q : Int32 → MS → Prop) (U59 : MS) (v59_1 : Int32) (v59_2 : Int32) (v59_3 : Int32) : Prop := (wfC U59 → (((0 : Int) ≤ v59_2.toInt ∧ v59_2.toInt < (qN U59 (qO U59 52 3) : Int)) ∧ (((0 : Int) ≤ (qI U59 (qO U59 52 3) v59_2.toInt.toNat).toInt ∧ (qI U59 (qO U59 52 3) v59_2.toInt.toNat).toInt < (qN U59 (qO U59 52 14) : Int)) ∧ (∀ S19, S19 = wI U59 (qO U59 52 14) (((qI U59 (qO U59 52 3) v59_2.toInt.toNat).toInt).toNat) v59_1 → qT U59 (qO U59 52 14) = 211 → wfC S19 → (((0 : Int) ≤ v59_2.toInt ∧ v59_2.toInt < (qN S19 (qO S19 52 3) : Int)) ∧ (((0 : Int) ≤ v59_3.toInt ∧ v59_3.toInt < (qN S19 (qO S19 52 5) : Int)) ∧ (∀ S25, S25 = wI S19 (qO S19 52 5) v59_3.toInt.toNat (qI S19 (qO S19 52 3) v59_2.toInt.toNat) → qT S19 (qO S19 52 5) = 205 → wfC S25 → Q (v59_3 + (1 : Int32)) S25)))))))
def wX3_addEdge (S : MS) (x1 : Int32) (x2 : Int32) (x3 : Int32) (Q : Int32 → MS → Prop) : Prop := ((x2.toInt < 0 → Q x3 S) ∧ (¬ x2.toInt < 0 → ((qR S 52 0 = some (qO S 52 0)) ∧ (((qI S (qO S 52 0) 2).toInt ≤ x2.toInt → Q x3 S) ∧ (¬ (qI S (qO S 52 0) 2).toInt ≤ x2.toInt → (((0 : Int) ≤ x2.toInt ∧ x2.toInt < (qN S (qO S 52 3) : Int)) ∧ (((0 : Int) ≤ (qI S (qO S 52 3) x2.toInt.toNat).toInt ∧ (qI S (qO S 52 3) x2.toInt.toNat).toInt < (qN S (qO S 52 14) : Int)) ∧ (((qI S (qO S 52 14) (((qI S (qO S 52 3) x2.toInt.toNat).toInt).toNat)).toInt = x1.toInt → Q x3 S) ∧ (¬ (qI S (qO S 52 14) (((qI S (qO S 52 3) x2.toInt.toNat).toInt).toNat)).toInt = x1.toInt → ((x3.toInt < (qN S (qO S 52 5) : Int) → w_X3_addEdge_J59 Q S x1 x2 x3) ∧ (¬ x3.toInt < (qN S (qO S 52 5) : Int) → (qT S (qO S 52 5) = 205 → (∃ Q32, wJ7_copyOf_59c91 S 205 (qO S 52 5) ((2 : Int32) * (Int32.ofNat (qN S (qO S 52 5)))) Q32 ∧ ∀ b37 S34, Q32 b37 S34 → wfC S34 → shx S S34 → qT S34 b37 = 205 → (∀ S38, S38 = wR S34 52 5 (some b37) → qT S34 52 = 43 → wfC S38 → w_X3_addEdge_J59 Q S38 x1 x2 x3))))))))))))))
set_option maxHeartbeats 2000000 in
set_option maxRecDepth 100000 in
theorem rX3_addEdge (l : Launch) (g : Gr) (ad : Nat → Nat) (H0 : Heap) (S : MS) (x1 : Int32) (x2 : Int32) (x3 : Int32) (hw : wfC S) (Q : Int32 → MS → Prop) (h : wX3_addEdge S x1 x2 x3 Q) : Met l yX3_addEdge (wt yX3_addEdge cX3_addEdge 4 (some .int)) ({ frames := 2, cells := KCC - qn S, slots := KSC - qu S, locals := 62 }) (va_Pc [.ref (ad 52), .int x1, .int x2, .int x3] (st_CH g ad H0 S)) (va_Qi (fun (r : Int32) (u : MS × (Nat → Nat)) => Q r u.1 ∧ wfC u.1 ∧ shx S u.1 ∧ adk ad u.2 S) (fun (u : MS × (Nat → Nat)) (t : State) => qEHC g (va_A (WdC g ad S) H0.size) S H0 u t) (va_A (WdC g ad S) H0.size)) (KCC - qn S) (KSC - qu S) (va_A (WdC g ad S) H0.size) := by
  refine Met.ofW (cc := cX3_addEdge) (maxL := 4) (ret := (some .int)) (by decide) rfl ?_
  intro p e s m args below meth c s₁ B hml hv
  obtain ⟨rfl, hH0, hsz, hP, hK, hD0, hex, hE⟩ := hv
  have hx := B.exec
  have hb := B.bytes
  have hr := B.returns
  have hts0 := atoms_spec (ws := wt yX3_addEdge cX3_addEdge 4 (some .int)) B.pre
  have hts : ∀ w ∈ tb, w.before _ s = true := fun w h => hts0 w (List.mem_cons_of_mem _ h)
  have hown : s.vm.findClass RX3 = some m.cls := findClass_of_methodNamed B.named
  subst hH0
  have hD := hD0.self (sz := s.heap.size)
  generalize hAe : va_A (WdC g ad S) s.heap.size = A at hD hE ⊢
  have hA : ∀ q : Nat, s.heap.size ≤ q → A q := fun q h => by rw [← hAe]; exact Or.inr h
  have hR : RepC g ad A s S s.heap [] := ⟨hK, hP, hD, va_S.rf, hw⟩
  clear hK hP hD hD0
  have hl := lv_entry ([.ref (ad 52), .int x1, .int x2, .int x3]) (n := 4) (Nat.le_of_ble_eq_true rfl)
  rw [lg_entry_eq]
  generalize (lg_sl ([.ref (ad 52), .int x1, .int x2, .int x3]) ++ List.replicate (4 - (lg_sl ([.ref (ad 52), .int x1, .int x2, .int x3])).length) Slot.unset).toArray = ls at hl ⊢
  have hlg : lgC S S 0 0 := lgC.rf
  have hak : adk ad ad S := adk.rf
  have hl : lv_has ls 4 [(0, .ref (ad 52)), (1, .int x1), (2, .int x2), (3, .int x3)] := hl
  have hsh : shx S S := shx.rf
  unfold wX3_addEdge at h
  refine lv_iload_n hx hb dX3_addEdge_0 rfl (lv_at hl 2 rfl) ?_
  refine lv_if_lt (tgt := 30) hx hb dX3_addEdge_1 (by decide) (fun c1 => ?_) (fun c1 => ?_)
  · replace h := h.1 (k_lt rfl (by decide) c1)
    refine lv_iload_n hx hb dX3_addEdge_30 rfl (lv_at hl 3 rfl) ?_
    refine W_led2 (fun hLd => ?_)
    refine W.widen (k := KCC - qn S) (n := KSC - qu S) hlg.c hlg.s ?_
    exact W.iret (v := x3) hx hb hr (fun t9 ht9 hW9 => ⟨⟨_, (S, ad), rfl, ⟨h, hR.w, hsh, hak⟩, ⟨⟨by rw [ht9]; exact hR.P, hR.D⟩, _, _, by rw [ht9]; exact hLd, hlg⟩⟩, hR.sS.F ht9⟩) hR.sS.2.2 dX3_addEdge_31
  · replace h := h.2 (k_nlt rfl (by decide) c1)
    refine lv_iload_n hx hb dX3_addEdge_4 rfl (lv_at hl 2 rfl) ?_
    refine lv_aload_n hx hb dX3_addEdge_5 rfl (lv_at hl 0 rfl) ?_
    obtain ⟨hv3, h⟩ := h
    have hT_b2 : qT S (qO S 52 0) = 47 := hR.w.ref hv3 (hR.w.2.1 _ finC_30).2.1
    refine va_get (D := rD g) (ci := 3) (v := .ref (ad (qO S 52 0))) (C := RX3) (T := TX3) (N := 16) hx hb hts inX3 hown hR.K hR.P 52 (hR.at43 (hR.w.2.1 _ finC_30).2.1) rfl 0 (by decide) (hts _ kw_836) (fun _ h9 => h9) (congrArg (fun z => some (vf ad z)) hv3) dX3_addEdge_6 ?_
    refine va_get (D := rD g) (ci := 7) (v := .int (qI S (qO S 52 0) 2)) (C := RX8) (T := TX8) (N := 15) hx hb hts inX8 hown hR.K hR.P (qO S 52 0) (hR.at47 hT_b2) rfl 2 (by decide) (hts _ kw_837) (fun _ h9 => h9) rfl dX3_addEdge_9 ?_
    refine lv_icmp_ge (tgt := 30) hx hb dX3_addEdge_12 (by decide) (fun c4 => ?_) (fun c4 => ?_)
    · replace h := h.1 (k_le rfl rfl c4)
      refine lv_iload_n hx hb dX3_addEdge_30 rfl (lv_at hl 3 rfl) ?_
      refine W_led2 (fun hLd => ?_)
      refine W.widen (k := KCC - qn S) (n := KSC - qu S) hlg.c hlg.s ?_
      exact W.iret (v := x3) hx hb hr (fun t9 ht9 hW9 => ⟨⟨_, (S, ad), rfl, ⟨h, hR.w, hsh, hak⟩, ⟨⟨by rw [ht9]; exact hR.P, hR.D⟩, _, _, by rw [ht9]; exact hLd, hlg⟩⟩, hR.sS.F ht9⟩) hR.sS.2.2 dX3_addEdge_31
    · replace h := h.2 (k_nle rfl rfl c4)
      refine lv_aload_n hx hb dX3_addEdge_15 rfl (lv_at hl 0 rfl) ?_
      have hT_b5 : qT S (qO S 52 14) = 211 := hR.w.ref (hR.w.ptr ptrC_33) (hR.w.2.1 _ finC_30).2.1
      refine va_get (D := rD g) (ci := 3) (v := .ref (ad (qO S 52 14))) (C := RX3) (T := TX3) (N := 16) hx hb hts inX3 hown hR.K hR.P 52 (hR.at43 (hR.w.2.1 _ finC_30).2.1) rfl 14 (by decide) (hts _ kw_838) (fun _ h9 => h9) (congrArg (fun z => some (vf ad z)) (hR.w.ptr ptrC_33)) dX3_addEdge_16 ?_
      refine lv_aload_n hx hb dX3_addEdge_19 rfl (lv_at hl 0 rfl) ?_
      have hT_b6 : qT S (qO S 52 3) = 203 := hR.w.ref (hR.w.ptr ptrC_23) (hR.w.2.1 _ finC_30).2.1
      refine va_get (D := rD g) (ci := 3) (v := .ref (ad (qO S 52 3))) (C := RX3) (T := TX3) (N := 16) hx hb hts inX3 hown hR.K hR.P 52 (hR.at43 (hR.w.2.1 _ finC_30).2.1) rfl 3 (by decide) (hts _ kw_839) (fun _ h9 => h9) (congrArg (fun z => some (vf ad z)) (hR.w.ptr ptrC_23)) dX3_addEdge_20 ?_
      refine lv_iload_n hx hb dX3_addEdge_23 rfl (lv_at hl 2 rfl) ?_
      obtain ⟨hv7, h⟩ := h
      refine va_iald hx hb hR.K hR.P (qO S 52 3) 1 (hR.atI hT_b6 (by decide)) rfl (k_ix (x := x2) (a := x2.toInt) rfl hv7) dX3_addEdge_24 ?_
      refine lv_topi (fun z8 ez8 => ?_)
      obtain rfl : z8 = (qI S (qO S 52 3) x2.toInt.toNat) := ez8
      obtain ⟨hv9, h⟩ := h
      refine va_iald hx hb hR.K hR.P (qO S 52 14) 1 (hR.atI hT_b5 (by decide)) rfl (k_ix (x := (qI S (qO S 52 3) x2.toInt.toNat)) (a := (qI S (qO S 52 3) x2.toInt.toNat).toInt) rfl hv9) dX3_addEdge_25 ?_
      refine lv_topi (fun z10 ez10 => ?_)
      obtain rfl : z10 = (qI S (qO S 52 14) (((qI S (qO S 52 3) x2.toInt.toNat).toInt).toNat)) := ez10
      refine lv_iload_n hx hb dX3_addEdge_26 rfl (lv_at hl 1 rfl) ?_
      refine lv_icmp_ne (tgt := 32) hx hb dX3_addEdge_27 (by decide) (fun c11 => ?_) (fun c11 => ?_)
      · replace h := h.2 (k_ne rfl rfl c11)
        refine lv_iload_n hx hb dX3_addEdge_32 rfl (lv_at hl 3 rfl) ?_
        refine lv_aload_n hx hb dX3_addEdge_33 rfl (lv_at hl 0 rfl) ?_
        have hT_b12 : qT S (qO S 52 5) = 205 := hR.w.ref (hR.w.ptr ptrC_25) (hR.w.2.1 _ finC_30).2.1
        refine va_get (D := rD g) (ci := 3) (v := .ref (ad (qO S 52 5))) (C := RX3) (T := TX3) (N := 16) hx hb hts inX3 hown hR.K hR.P 52 (hR.at43 (hR.w.2.1 _ finC_30).2.1) rfl 5 (by decide) (hts _ kw_840) (fun _ h9 => h9) (congrArg (fun z => some (vf ad z)) (hR.w.ptr ptrC_25)) dX3_addEdge_34 ?_
        refine va_alen (v := (Int32.ofNat (qN S (qO S 52 5)))) hx hb hR.K hR.P (qO S 52 5) 1 (hR.atI hT_b12 (by decide)) rfl rfl dX3_addEdge_37 ?_
        have hln13 : (Int32.ofNat (qN S (qO S 52 5))).toInt = (qN S (qO S 52 5) : Int) := toI_len (hR.w.len9 (hT_b12) (by decide))
        have J_59 : ∀ (ad59 : Nat → Nat) (dc59 ds59 : Nat) (U59 : MS) (v59_1 : Int32) (v59_2 : Int32) (v59_3 : Int32) (H : Heap) (locs : List Loc) (ls : Array Slot), w_X3_addEdge_J59 Q U59 v59_1 v59_2 v59_3 → shx S U59 → lgC S U59 dc59 ds59 → adk ad ad59 S → ogC ad59 A s s.heap → RepC g ad59 A s U59 H locs → lv_has ls 4 [(0, .ref (ad59 52)), (1, .int v59_1), (2, .int v59_2), (3, .int v59_3)] → W p l e (headSpec (wt yX3_addEdge cX3_addEdge 4 (some .int)) ({ frames := 2, cells := KCC - qn S, slots := KSC - qu S, locals := 62 })).room s m ([.ref (ad 52), .int x1, .int x2, .int x3] : List Value).toArray below meth c H locs dc59 ds59 (MQ below (va_Qi (fun (r : Int32) (u : MS × (Nat → Nat)) => Q r u.1 ∧ wfC u.1 ∧ shx S u.1 ∧ adk ad u.2 S) (fun (u : MS × (Nat → Nat)) (t : State) => qEHC g A S s.heap u t) A) ([.ref (ad 52), .int x1, .int x2, .int x3] : List Value).toArray s (KCC - qn S) (KSC - qu S) A) (F0 m 59 ls []) := by
          intro ad59 dc59 ds59 U59 v59_1 v59_2 v59_3 H locs ls h hsh hlg hak hE hR hl
          unfold w_X3_addEdge_J59 at h
          replace h := h hR.w
          refine lv_aload_n hx hb dX3_addEdge_59 rfl (lv_at hl 0 rfl) ?_
          have hT_b14 : qT U59 (qO U59 52 14) = 211 := hR.w.ref (hR.w.ptr ptrC_33) (hR.w.2.1 _ finC_30).2.1
          refine va_get (D := rD g) (ci := 3) (v := .ref (ad59 (qO U59 52 14))) (C := RX3) (T := TX3) (N := 16) hx hb hts inX3 hown hR.K hR.P 52 (hR.at43 (hR.w.2.1 _ finC_30).2.1) rfl 14 (by decide) (hts _ kw_838) (fun _ h9 => h9) (congrArg (fun z => some (vf ad59 z)) (hR.w.ptr ptrC_33)) dX3_addEdge_60 ?_
          refine lv_aload_n hx hb dX3_addEdge_63 rfl (lv_at hl 0 rfl) ?_
          have hT_b15 : qT U59 (qO U59 52 3) = 203 := hR.w.ref (hR.w.ptr ptrC_23) (hR.w.2.1 _ finC_30).2.1
          refine va_get (D := rD g) (ci := 3) (v := .ref (ad59 (qO U59 52 3))) (C := RX3) (T := TX3) (N := 16) hx hb hts inX3 hown hR.K hR.P 52 (hR.at43 (hR.w.2.1 _ finC_30).2.1) rfl 3 (by decide) (hts _ kw_839) (fun _ h9 => h9) (congrArg (fun z => some (vf ad59 z)) (hR.w.ptr ptrC_23)) dX3_addEdge_64 ?_
          refine lv_iload_n hx hb dX3_addEdge_67 rfl (lv_at hl 2 rfl) ?_
          obtain ⟨hv16, h⟩ := h
          refine va_iald hx hb hR.K hR.P (qO U59 52 3) 1 (hR.atI hT_b15 (by decide)) rfl (k_ix (x := v59_2) (a := v59_2.toInt) rfl hv16) dX3_addEdge_68 ?_
          refine lv_topi (fun z17 ez17 => ?_)
          obtain rfl : z17 = (qI U59 (qO U59 52 3) v59_2.toInt.toNat) := ez17
          refine lv_iload_n hx hb dX3_addEdge_69 rfl (lv_at hl 1 rfl) ?_
          obtain ⟨hv18, h⟩ := h
          refine va_iast hx hb hR.K hR.P hR.D hR.sS (qO U59 52 14) 1 (hR.atI hT_b14 (by decide)) rfl (k_ix (x := (qI U59 (qO U59 52 3) v59_2.toInt.toNat)) (a := (qI U59 (qO U59 52 3) v59_2.toInt.toNat).toInt) rfl hv18) dX3_addEdge_70 (fun H locs hP hD hS => ?_)
          have hTk9 : qT U59 (qO U59 52 14) = 211 := hT_b14
          have hR : RepC g ad59 A s (wI U59 (qO U59 52 14) (((qI U59 (qO U59 52 3) v59_2.toInt.toNat).toInt).toNat) v59_1) H locs := hR.aI hT_b14 (by decide) hP hD hS
          obtain ⟨S19, eS19⟩ : ∃ z, z = wI U59 (qO U59 52 14) (((qI U59 (qO U59 52 3) v59_2.toInt.toNat).toInt).toNat) v59_1 := ⟨_, rfl⟩
          rw [← eS19] at hR
          replace h := h S19 eS19 hTk9 hR.w
          have hsh : shx S S19 := by rw [eS19]; exact hsh
          have hlg : lgC S S19 (dc59) (ds59) := by rw [eS19]; exact hlg
          refine lv_aload_n hx hb dX3_addEdge_71 rfl (lv_at hl 0 rfl) ?_
          have hT_b20 : qT S19 (qO S19 52 5) = 205 := hR.w.ref (hR.w.ptr ptrC_25) (hR.w.2.1 _ finC_30).2.1
          refine va_get (D := rD g) (ci := 3) (v := .ref (ad59 (qO S19 52 5))) (C := RX3) (T := TX3) (N := 16) hx hb hts inX3 hown hR.K hR.P 52 (hR.at43 (hR.w.2.1 _ finC_30).2.1) rfl 5 (by decide) (hts _ kw_840) (fun _ h9 => h9) (congrArg (fun z => some (vf ad59 z)) (hR.w.ptr ptrC_25)) dX3_addEdge_72 ?_
          refine lv_iload_n hx hb dX3_addEdge_75 rfl (lv_at hl 3 rfl) ?_
          refine lv_aload_n hx hb dX3_addEdge_76 rfl (lv_at hl 0 rfl) ?_
          have hT_b21 : qT S19 (qO S19 52 3) = 203 := hR.w.ref (hR.w.ptr ptrC_23) (hR.w.2.1 _ finC_30).2.1
          refine va_get (D := rD g) (ci := 3) (v := .ref (ad59 (qO S19 52 3))) (C := RX3) (T := TX3) (N := 16) hx hb hts inX3 hown hR.K hR.P 52 (hR.at43 (hR.w.2.1 _ finC_30).2.1) rfl 3 (by decide) (hts _ kw_839) (fun _ h9 => h9) (congrArg (fun z => some (vf ad59 z)) (hR.w.ptr ptrC_23)) dX3_addEdge_77 ?_
          refine lv_iload_n hx hb dX3_addEdge_80 rfl (lv_at hl 2 rfl) ?_
          obtain ⟨hv22, h⟩ := h
          refine va_iald hx hb hR.K hR.P (qO S19 52 3) 1 (hR.atI hT_b21 (by decide)) rfl (k_ix (x := v59_2) (a := v59_2.toInt) rfl hv22) dX3_addEdge_81 ?_
          refine lv_topi (fun z23 ez23 => ?_)
          obtain rfl : z23 = (qI S19 (qO S19 52 3) v59_2.toInt.toNat) := ez23
          obtain ⟨hv24, h⟩ := h
          refine va_iast hx hb hR.K hR.P hR.D hR.sS (qO S19 52 5) 1 (hR.atI hT_b20 (by decide)) rfl (k_ix (x := v59_3) (a := v59_3.toInt) rfl hv24) dX3_addEdge_82 (fun H locs hP hD hS => ?_)
          have hTk9 : qT S19 (qO S19 52 5) = 205 := hT_b20
          have hR : RepC g ad59 A s (wI S19 (qO S19 52 5) v59_3.toInt.toNat (qI S19 (qO S19 52 3) v59_2.toInt.toNat)) H locs := hR.aI hT_b20 (by decide) hP hD hS
          obtain ⟨S25, eS25⟩ : ∃ z, z = wI S19 (qO S19 52 5) v59_3.toInt.toNat (qI S19 (qO S19 52 3) v59_2.toInt.toNat) := ⟨_, rfl⟩
          rw [← eS25] at hR
          replace h := h S25 eS25 hTk9 hR.w
          have hsh : shx S S25 := by rw [eS25]; exact hsh
          have hlg : lgC S S25 (dc59) (ds59) := by rw [eS25]; exact hlg
          refine lv_iload_n hx hb dX3_addEdge_83 rfl (lv_at hl 3 rfl) ?_
          refine lv_iconst (v := 1) hx hb dX3_addEdge_84 (by decide) ?_
          refine lv_iadd hx hb dX3_addEdge_85 ?_
          refine lv_topi (fun z26 ez26 => ?_)
          obtain rfl : z26 = (v59_3 + (1 : Int32)) := ez26
          refine W_led2 (fun hLd => ?_)
          refine W.widen (k := KCC - qn S) (n := KSC - qu S) hlg.c hlg.s ?_
          exact W.iret (v := (v59_3 + (1 : Int32))) hx hb hr (fun t9 ht9 hW9 => ⟨⟨_, (S25, ad59), rfl, ⟨h, hR.w, hsh, hak⟩, ⟨⟨by rw [ht9]; exact hR.P, hR.D⟩, _, _, by rw [ht9]; exact hLd, hlg⟩⟩, hR.sS.F ht9⟩) hR.sS.2.2 dX3_addEdge_86
        refine lv_icmp_lt (tgt := 59) hx hb dX3_addEdge_38 (by decide) (fun c27 => ?_) (fun c27 => ?_)
        · replace h := h.1 (k_lt rfl hln13 c27)
          exact J_59 ad (0) (0) S x1 x2 x3 _ _ ls h  hsh hlg hak hE hR (lv_sub hl [0, 1, 2, 3] rfl)
        · replace h := h.2 (k_nlt rfl hln13 c27)
          refine lv_aload_n hx hb dX3_addEdge_41 rfl (lv_at hl 0 rfl) ?_
          refine lv_aload_n hx hb dX3_addEdge_42 rfl (lv_at hl 0 rfl) ?_
          have hT_b28 : qT S (qO S 52 5) = 205 := hR.w.ref (hR.w.ptr ptrC_25) (hR.w.2.1 _ finC_30).2.1
          refine va_get (D := rD g) (ci := 3) (v := .ref (ad (qO S 52 5))) (C := RX3) (T := TX3) (N := 16) hx hb hts inX3 hown hR.K hR.P 52 (hR.at43 (hR.w.2.1 _ finC_30).2.1) rfl 5 (by decide) (hts _ kw_840) (fun _ h9 => h9) (congrArg (fun z => some (vf ad z)) (hR.w.ptr ptrC_25)) dX3_addEdge_43 ?_
          refine lv_iconst (v := 2) hx hb dX3_addEdge_46 (by decide) ?_
          refine lv_aload_n hx hb dX3_addEdge_47 rfl (lv_at hl 0 rfl) ?_
          have hT_b29 : qT S (qO S 52 5) = 205 := hR.w.ref (hR.w.ptr ptrC_25) (hR.w.2.1 _ finC_30).2.1
          refine va_get (D := rD g) (ci := 3) (v := .ref (ad (qO S 52 5))) (C := RX3) (T := TX3) (N := 16) hx hb hts inX3 hown hR.K hR.P 52 (hR.at43 (hR.w.2.1 _ finC_30).2.1) rfl 5 (by decide) (hts _ kw_840) (fun _ h9 => h9) (congrArg (fun z => some (vf ad z)) (hR.w.ptr ptrC_25)) dX3_addEdge_48 ?_
          refine va_alen (v := (Int32.ofNat (qN S (qO S 52 5)))) hx hb hR.K hR.P (qO S 52 5) 1 (hR.atI hT_b29 (by decide)) rfl rfl dX3_addEdge_51 ?_
          have hln30 : (Int32.ofNat (qN S (qO S 52 5))).toInt = (qN S (qO S 52 5) : Int) := toI_len (hR.w.len9 (hT_b29) (by decide))
          refine lv_imul hx hb dX3_addEdge_52 ?_
          refine lv_topi (fun z31 ez31 => ?_)
          obtain rfl : z31 = ((2 : Int32) * (Int32.ofNat (qN S (qO S 52 5)))) := ez31
          replace h := h (hT_b28)
          obtain ⟨Q32, h0, h⟩ := h
          have hFc := cfree hR hA
          refine W_led2 (fun hL0 => ?_)
          refine va_callq (va_runS (As := [.ref (ad (qO S 52 5)), .int ((2 : Int32) * (Int32.ofNat (qN S (qO S 52 5))))]) (rest := [.ref (ad 52)]) ⟨hx, hb, hml, hown, hts⟩ (rJ7_copyOf_59c91 l g ad s.heap S 205 (qO S 52 5) ((2 : Int32) * (Int32.ofNat (qN S (qO S 52 5)))) hR.w (by decide) (by decide) hT_b28 Q32 h0) (va_cwS 2 hts (gd_S kw_841 kw_1745 kw_1723 kw_1744) rfl rfl rfl (by decide +kernel) ⟨Nat.le_of_ble_eq_true rfl, Nat.le_of_ble_eq_true rfl⟩) ⟨cblindH, fun U hU hW9 => cmkH hU hW9 hR hex hE hFc⟩ rfl rfl hl.1 rfl (lv_room (Nat.le_of_ble_eq_true rfl)) dX3_addEdge_53 ⟨(show 0 + (KCC - qn S) ≤ KCC - qn S from hlg.cm), (show 0 + (KSC - qu S) ≤ KSC - qu S from hlg.sm)⟩) hR.sS (fun q _ h => hFc q h) hFc (fun r33 S34 t9 H1 locs ht9 hvm9 hw9 hB9 hz9 hk9 hS => ?_)
          rcases S34 with ⟨S34, ak36⟩
          obtain ⟨hB9, dc9, ds9, hL9, hl9⟩ := hB9
          dsimp only at hw9 hB9 hl9
          rw [ht9] at hL9
          obtain ⟨b37, rfl, hq35, hw9, hs9, hk8, hT_b37⟩ := hw9
          have hw8 := hR.w
          have hak := hak.tr hk8 hlg.2.2.1
          have hE := hE.ad hk8
          have hR : RepC g ak36 A s S34 H1 locs := hR.callH ht9 hB9 hw9 hS hFc
          have hsh := hsh.tr hs9
          refine W_tight2 (hL0.tr hL9).1 (hL0.tr hL9).2.1 ?_
          have hlg := hlg.call hl9
          replace h := h b37 S34 hq35 hw9 hs9 hT_b37
          have ea_0 : ak36 52 = ad 52 := hk8 _ (hw8.hd (hw8.2.1 _ finC_30).2.1 (by decide) (by decide))
          have hl : lv_has ls 4 [(0, .ref (ak36 52)), (1, .int x1), (2, .int x2), (3, .int x3)] := by simp only [ea_0]; exact hl
          refine W.eq (g2 := F0 m 56 ls (.ref (ak36 b37) :: [.ref (ak36 52)])) (by first | (simp only [ea_0]; rfl) | simp only [ea_0]) ?_
          clear hB9 hz9 hk9 hvm9 ht9 hw9 hs9 hS hL0 hL9
          generalize H1 = H at hR ⊢
          generalize dc9 = dc_ak36, ds9 = ds_ak36 at hlg ⊢
          refine va_put (D := rD g) (ci := 3) (v := .ref (ak36 b37)) (ty := (.array .int)) (C := RX3) (T := TX3) (N := 16) hx hb hts inX3 tyX3 tyX3_ok nmX3 hown hR.K hR.P hR.D hR.sS 52 (hR.at43 (hR.w.2.1 _ finC_30).2.1) rfl 5 (by decide) (hts _ kw_840) (fun _ h9 => h9) rfl (by decide +kernel) rfl rfl (Nat.le_of_ble_eq_true rfl) dX3_addEdge_56 (fun H locs hP hD hS => ?_)
          have hw9 : wfC (wR S34 52 5 (some b37)) := hR.w.put (fun b q9 => by cases q9; exact (hT_b37).trans (by rw [(hR.w.2.1 _ finC_30).2.1]; rfl)) (nofC_52_5) (by rw [(hR.w.2.1 _ finC_30).2.1]; decide) (fun b _ q9 => absurd (show otgC (qT S34 52) 5 = 0 by rw [(hR.w.2.1 _ finC_30).2.1]; decide) q9) (fun _ => Option.some_ne_none _)
          have hTk9 : qT S34 52 = 43 := (hR.w.2.1 _ finC_30).2.1
          have hR : RepC g ak36 A s (wR S34 52 5 (some b37)) H locs := hR.pR43 (hR.w.2.1 _ finC_30).2.1 FX3_s5 hw9 hP hD hS
          obtain ⟨S38, eS38⟩ : ∃ z, z = wR S34 52 5 (some b37) := ⟨_, rfl⟩
          rw [← eS38] at hR
          replace h := h S38 eS38 hTk9 hR.w
          have hsh : shx S S38 := by rw [eS38]; exact hsh
          have hlg : lgC S S38 (0 + dc_ak36) (0 + ds_ak36) := by rw [eS38]; exact hlg
          exact J_59 ak36 (0 + dc_ak36) (0 + ds_ak36) S38 x1 x2 x3 _ _ ls h  hsh hlg hak hE hR (lv_sub hl [0, 1, 2, 3] rfl)
      · replace h := h.1 (k_eq rfl rfl c11)
        refine lv_iload_n hx hb dX3_addEdge_30 rfl (lv_at hl 3 rfl) ?_
        refine W_led2 (fun hLd => ?_)
        refine W.widen (k := KCC - qn S) (n := KSC - qu S) hlg.c hlg.s ?_
        exact W.iret (v := x3) hx hb hr (fun t9 ht9 hW9 => ⟨⟨_, (S, ad), rfl, ⟨h, hR.w, hsh, hak⟩, ⟨⟨by rw [ht9]; exact hR.P, hR.D⟩, _, _, by rw [ht9]; exact hLd, hlg⟩⟩, hR.sS.F ht9⟩) hR.sS.2.2 dX3_addEdge_31
def w_X3_findBacks_L135 (Q : MS → Prop) (k120 : MS → Int32 → Prop) : Nat → MS → Int32 → Int32 → Prop
  | 0, _, _, _ => False
  | n135 + 1, U135, v135_2, v135_3 => (wfC U135 → (((0 : Int) ≤ (v135_2 + (1 : Int32)).toInt ∧ (v135_2 + (1 : Int32)).toInt < (qN U135 (qO U135 52 4) : Int)) ∧ (((qI U135 (qO U135 52 4) (((v135_2 + (1 : Int32)).toInt).toNat)).toInt ≤ v135_3.toInt → (∀ a27 : Int32, a27 = (v135_2 + Int32.ofInt 1) → k120 U135 a27)) ∧ (¬ (qI U135 (qO U135 52 4) (((v135_2 + (1 : Int32)).toInt).toNat)).toInt ≤ v135_3.toInt → (((0 : Int) ≤ v135_3.toInt ∧ v135_3.toInt < (qN U135 (qO U135 52 5) : Int)) ∧ (((0 : Int) ≤ (qI U135 (qO U135 52 5) v135_3.toInt.toNat).toInt ∧ (qI U135 (qO U135 52 5) v135_3.toInt.toNat).toInt < (qN U135 (qO U135 52 14) : Int)) ∧ (∀ a34 : Int32, a34 = (qI U135 (qO U135 52 14) (((qI U135 (qO U135 52 5) v135_3.toInt.toNat).toInt).toNat)) → (((0 : Int) ≤ a34.toInt ∧ a34.toInt < (qN U135 (qO U135 52 7) : Int)) ∧ (∀ S37, S37 = wI U135 (qO U135 52 7) a34.toInt.toNat v135_2 → qT U135 (qO U135 52 7) = 207 → wfC S37 → (((0 : Int) ≤ v135_3.toInt ∧ v135_3.toInt < (qN S37 (qO S37 52 5) : Int)) ∧ (((0 : Int) ≤ (qI S37 (qO S37 52 5) v135_3.toInt.toNat).toInt ∧ (qI S37 (qO S37 52 5) v135_3.toInt.toNat).toInt < (qN S37 (qO S37 52 14) : Int)) ∧ (((0 : Int) ≤ (qI S37 (qO S37 52 5) v135_3.toInt.toNat).toInt ∧ (qI S37 (qO S37 52 5) v135_3.toInt.toNat).toInt < (qN S37 (qO S37 52 14) : Int)) ∧ (∀ S46, S46 = wI S37 (qO S37 52 14) (((qI S37 (qO S37 52 5) v135_3.toInt.toNat).toInt).toNat) ((qI S37 (qO S37 52 14) (((qI S37 (qO S37 52 5) v135_3.toInt.toNat).toInt).toNat)) + (1 : Int32)) → qT S37 (qO S37 52 14) = 211 → wfC S46 → (∀ a47 : Int32, a47 = (v135_3 + Int32.ofInt 1) → (w_X3_findBacks_L135 Q k120 n135) S46 v135_2 a47))))))))))))))
def w_X3_findBacks_L120 (Q : MS → Prop) : Nat → MS → Int32 → Prop
  | 0, _, _ => False
  | n120 + 1, U120, v120_2 => (wfC U120 → (((qI U120 52 1).toInt ≤ v120_2.toInt → Q U120) ∧ (¬ (qI U120 52 1).toInt ≤ v120_2.toInt → (((0 : Int) ≤ v120_2.toInt ∧ v120_2.toInt < (qN U120 (qO U120 52 4) : Int)) ∧ (∀ a21 : Int32, a21 = (qI U120 (qO U120 52 4) v120_2.toInt.toNat) → (∃ n, w_X3_findBacks_L135 Q (w_X3_findBacks_L120 Q n120) n U120 v120_2 a21))))))
def w_X3_findBacks_L70 (Q : MS → Prop) : Nat → MS → Int32 → Prop
  | 0, _, _ => False
  | n70 + 1, U70, v70_2 => (wfC U70 → (((qI U70 52 1).toInt ≤ v70_2.toInt → ((¬ (0 : Int32) < 0 ∧ ¬ (0 : Int32) < 0 ∧ ¬ (qI U70 52 1) < 0 ∧ (0 : Int32).toNatClampNeg + (qI U70 52 1).toNatClampNeg ≤ qN U70 (qO U70 52 6) ∧ (0 : Int32).toNatClampNeg + (qI U70 52 1).toNatClampNeg ≤ qN U70 (qO U70 52 14)) ∧ (∀ S16, S16 = wC U70 (qO U70 52 14) (va_cpy (qI U70 (qO U70 52 6)) (qI U70 (qO U70 52 14)) (0 : Int32).toNatClampNeg (0 : Int32).toNatClampNeg (qI U70 52 1).toNatClampNeg) → qT U70 (qO U70 52 14) = 211 → wfC S16 → (∃ n, w_X3_findBacks_L120 Q n S16 0)))) ∧ (¬ (qI U70 52 1).toInt ≤ v70_2.toInt → (((0 : Int) ≤ (v70_2 + (1 : Int32)).toInt ∧ (v70_2 + (1 : Int32)).toInt < (qN U70 (qO U70 52 6) : Int)) ∧ (((0 : Int) ≤ v70_2.toInt ∧ v70_2.toInt < (qN U70 (qO U70 52 6) : Int)) ∧ (((0 : Int) ≤ (v70_2 + (1 : Int32)).toInt ∧ (v70_2 + (1 : Int32)).toInt < (qN U70 (qO U70 52 6) : Int)) ∧ (∀ S57, S57 = wI U70 (qO U70 52 6) (((v70_2 + (1 : Int32)).toInt).toNat) ((qI U70 (qO U70 52 6) (((v70_2 + (1 : Int32)).toInt).toNat)) + (qI U70 (qO U70 52 6) v70_2.toInt.toNat)) → qT U70 (qO U70 52 6) = 206 → wfC S57 → (∀ a58 : Int32, a58 = (v70_2 + Int32.ofInt 1) → (w_X3_findBacks_L70 Q n70) S57 a58))))))))
def w_X3_findBacks_L40 (Q : MS → Prop) : Nat → MS → Int32 → Int32 → Prop
  | 0, _, _, _ => False
  | n40 + 1, U40, v40_1, v40_2 => (wfC U40 → ((v40_1.toInt ≤ v40_2.toInt → (∃ n, w_X3_findBacks_L70 Q n U40 0)) ∧ (¬ v40_1.toInt ≤ v40_2.toInt → (((0 : Int) ≤ v40_2.toInt ∧ v40_2.toInt < (qN U40 (qO U40 52 5) : Int)) ∧ (((0 : Int) ≤ ((qI U40 (qO U40 52 5) v40_2.toInt.toNat) + (1 : Int32)).toInt ∧ ((qI U40 (qO U40 52 5) v40_2.toInt.toNat) + (1 : Int32)).toInt < (qN U40 (qO U40 52 6) : Int)) ∧ (((0 : Int) ≤ ((qI U40 (qO U40 52 5) v40_2.toInt.toNat) + (1 : Int32)).toInt ∧ ((qI U40 (qO U40 52 5) v40_2.toInt.toNat) + (1 : Int32)).toInt < (qN U40 (qO U40 52 6) : Int)) ∧ (∀ S68, S68 = wI U40 (qO U40 52 6) ((((qI U40 (qO U40 52 5) v40_2.toInt.toNat) + (1 : Int32)).toInt).toNat) ((qI U40 (qO U40 52 6) ((((qI U40 (qO U40 52 5) v40_2.toInt.toNat) + (1 : Int32)).toInt).toNat)) + (1 : Int32)) → qT U40 (qO U40 52 6) = 206 → wfC S68 → (∀ a69 : Int32, a69 = (v40_2 + Int32.ofInt 1) → (w_X3_findBacks_L40 Q n40) S68 v40_1 a69))))))))
def w_X3_findBacks_J30 (Q : MS → Prop) (U30 : MS) (v30_1 : Int32) : Prop := (wfC U30 → (qT U30 (qO U30 52 6) = 206 → (∃ Q8, wJ7_fill_53178 U30 (qO U30 52 6) (0 : Int32) Q8 ∧ ∀ S9, Q8 S9 → wfC S9 → shy U30 S9 → (∃ n, w_X3_findBacks_L40 Q n S9 v30_1 0))))
def wX3_findBacks (S : MS) (Q : MS → Prop) : Prop := (((0 : Int) ≤ (qI S 52 1).toInt ∧ (qI S 52 1).toInt < (qN S (qO S 52 4) : Int)) ∧ (∀ a4 : Int32, a4 = (qI S (qO S 52 4) (((qI S 52 1).toInt).toNat)) → ((a4.toInt ≤ (qN S (qO S 52 7) : Int) → w_X3_findBacks_J30 Q S a4) ∧ (¬ a4.toInt ≤ (qN S (qO S 52 7) : Int) → (((0 : Int) ≤ (Int32.ofNat (qN S (qO S 52 5))).toInt ∧ (qn S + 1 ≤ KCC ∧ qu S + (Int32.ofNat (qN S (qO S 52 5))).toInt.toNat ≤ KSC)) ∧ (∀ S76, S76 = wN S 207 ((Int32.ofNat (qN S (qO S 52 5))).toInt.toNat) ((Int32.ofNat (qN S (qO S 52 5))).toInt.toNat) → wfC S76 → (∀ S78, S78 = wR S76 52 7 (some (qn S)) → qT S76 52 = 43 → wfC S78 → w_X3_findBacks_J30 Q S78 a4)))))))
set_option maxHeartbeats 2000000 in
set_option maxRecDepth 100000 in
theorem rX3_findBacks (l : Launch) (g : Gr) (ad : Nat → Nat) (H0 : Heap) (S : MS) (hw : wfC S) (Q : MS → Prop) (h : wX3_findBacks S Q) : Met l yX3_findBacks (wt yX3_findBacks cX3_findBacks 5 none) ({ frames := 1, cells := KCC - qn S, slots := KSC - qu S, locals := 40 }) (va_Pc [.ref (ad 52)] (st_CH g ad H0 S)) (va_Qv (fun (u : MS × (Nat → Nat)) => Q u.1 ∧ wfC u.1 ∧ shx S u.1 ∧ adk ad u.2 S) (fun (u : MS × (Nat → Nat)) (t : State) => qEHC g (va_A (WdC g ad S) H0.size) S H0 u t) (va_A (WdC g ad S) H0.size)) (KCC - qn S) (KSC - qu S) (va_A (WdC g ad S) H0.size) := by
  refine Met.ofW (cc := cX3_findBacks) (maxL := 5) (ret := none) (by decide) rfl ?_
  intro p e s m args below meth c s₁ B hml hv
  obtain ⟨rfl, hH0, hsz, hP, hK, hD0, hex, hE⟩ := hv
  have hx := B.exec
  have hb := B.bytes
  have hr := B.returns
  have hts0 := atoms_spec (ws := wt yX3_findBacks cX3_findBacks 5 none) B.pre
  have hts : ∀ w ∈ tb, w.before _ s = true := fun w h => hts0 w (List.mem_cons_of_mem _ h)
  have hown : s.vm.findClass RX3 = some m.cls := findClass_of_methodNamed B.named
  subst hH0
  have hD := hD0.self (sz := s.heap.size)
  generalize hAe : va_A (WdC g ad S) s.heap.size = A at hD hE ⊢
  have hA : ∀ q : Nat, s.heap.size ≤ q → A q := fun q h => by rw [← hAe]; exact Or.inr h
  have hR : RepC g ad A s S s.heap [] := ⟨hK, hP, hD, va_S.rf, hw⟩
  clear hK hP hD hD0
  have hl := lv_entry ([.ref (ad 52)]) (n := 5) (Nat.le_of_ble_eq_true rfl)
  rw [lg_entry_eq]
  generalize (lg_sl ([.ref (ad 52)]) ++ List.replicate (5 - (lg_sl ([.ref (ad 52)])).length) Slot.unset).toArray = ls at hl ⊢
  have hlg : lgC S S 0 0 := lgC.rf
  have hak : adk ad ad S := adk.rf
  have hl : lv_has ls 5 [(0, .ref (ad 52))] := hl
  have hsh : shx S S := shx.rf
  unfold wX3_findBacks at h
  refine lv_aload_n hx hb dX3_findBacks_0 rfl (lv_at hl 0 rfl) ?_
  have hT_b1 : qT S (qO S 52 4) = 204 := hR.w.ref (hR.w.ptr ptrC_24) (hR.w.2.1 _ finC_30).2.1
  refine va_get (D := rD g) (ci := 3) (v := .ref (ad (qO S 52 4))) (C := RX3) (T := TX3) (N := 16) hx hb hts inX3 hown hR.K hR.P 52 (hR.at43 (hR.w.2.1 _ finC_30).2.1) rfl 4 (by decide) (hts _ kw_885) (fun _ h9 => h9) (congrArg (fun z => some (vf ad z)) (hR.w.ptr ptrC_24)) dX3_findBacks_1 ?_
  refine lv_aload_n hx hb dX3_findBacks_4 rfl (lv_at hl 0 rfl) ?_
  refine va_get (D := rD g) (ci := 3) (v := .int (qI S 52 1)) (C := RX3) (T := TX3) (N := 16) hx hb hts inX3 hown hR.K hR.P 52 (hR.at43 (hR.w.2.1 _ finC_30).2.1) rfl 1 (by decide) (hts _ kw_851) (fun _ h9 => h9) rfl dX3_findBacks_5 ?_
  obtain ⟨hv2, h⟩ := h
  refine va_iald hx hb hR.K hR.P (qO S 52 4) 1 (hR.atI hT_b1 (by decide)) rfl (k_ix (x := (qI S 52 1)) (a := (qI S 52 1).toInt) rfl hv2) dX3_findBacks_8 ?_
  refine lv_topi (fun z3 ez3 => ?_)
  obtain rfl : z3 = (qI S (qO S 52 4) (((qI S 52 1).toInt).toNat)) := ez3
  obtain ⟨a4, ea4⟩ : ∃ z, z = (qI S (qO S 52 4) (((qI S 52 1).toInt).toNat)) := ⟨_, rfl⟩
  rw [← ea4]
  replace h := h a4 ea4
  refine lv_istore_n (lv' := [(1, .int a4), (0, .ref (ad 52))]) hx hb dX3_findBacks_9 rfl hl (by decide) rfl (fun ls hl => ?_)
  refine lv_aload_n hx hb dX3_findBacks_10 rfl (lv_at hl 1 rfl) ?_
  have hT_b5 : qT S (qO S 52 7) = 207 := hR.w.ref (hR.w.ptr ptrC_27) (hR.w.2.1 _ finC_30).2.1
  refine va_get (D := rD g) (ci := 3) (v := .ref (ad (qO S 52 7))) (C := RX3) (T := TX3) (N := 16) hx hb hts inX3 hown hR.K hR.P 52 (hR.at43 (hR.w.2.1 _ finC_30).2.1) rfl 7 (by decide) (hts _ kw_848) (fun _ h9 => h9) (congrArg (fun z => some (vf ad z)) (hR.w.ptr ptrC_27)) dX3_findBacks_11 ?_
  refine va_alen (v := (Int32.ofNat (qN S (qO S 52 7)))) hx hb hR.K hR.P (qO S 52 7) 1 (hR.atI hT_b5 (by decide)) rfl rfl dX3_findBacks_14 ?_
  have hln6 : (Int32.ofNat (qN S (qO S 52 7))).toInt = (qN S (qO S 52 7) : Int) := toI_len (hR.w.len9 (hT_b5) (by decide))
  refine lv_iload_n hx hb dX3_findBacks_15 rfl (lv_at hl 0 rfl) ?_
  have J_30 : ∀ (ad30 : Nat → Nat) (dc30 ds30 : Nat) (U30 : MS) (v30_1 : Int32) (H : Heap) (locs : List Loc) (ls : Array Slot), w_X3_findBacks_J30 Q U30 v30_1 → shx S U30 → lgC S U30 dc30 ds30 → adk ad ad30 S → ogC ad30 A s s.heap → RepC g ad30 A s U30 H locs → lv_has ls 5 [(0, .ref (ad30 52)), (1, .int v30_1)] → W p l e (headSpec (wt yX3_findBacks cX3_findBacks 5 none) ({ frames := 1, cells := KCC - qn S, slots := KSC - qu S, locals := 40 })).room s m ([.ref (ad 52)] : List Value).toArray below meth c H locs dc30 ds30 (MQ below (va_Qv (fun (u : MS × (Nat → Nat)) => Q u.1 ∧ wfC u.1 ∧ shx S u.1 ∧ adk ad u.2 S) (fun (u : MS × (Nat → Nat)) (t : State) => qEHC g A S s.heap u t) A) ([.ref (ad 52)] : List Value).toArray s (KCC - qn S) (KSC - qu S) A) (F0 m 30 ls []) := by
    intro ad30 dc30 ds30 U30 v30_1 H locs ls h hsh hlg hak hE hR hl
    unfold w_X3_findBacks_J30 at h
    replace h := h hR.w
    refine lv_aload_n hx hb dX3_findBacks_30 rfl (lv_at hl 0 rfl) ?_
    have hT_b7 : qT U30 (qO U30 52 6) = 206 := hR.w.ref (hR.w.ptr ptrC_26) (hR.w.2.1 _ finC_30).2.1
    refine va_get (D := rD g) (ci := 3) (v := .ref (ad30 (qO U30 52 6))) (C := RX3) (T := TX3) (N := 16) hx hb hts inX3 hown hR.K hR.P 52 (hR.at43 (hR.w.2.1 _ finC_30).2.1) rfl 6 (by decide) (hts _ kw_846) (fun _ h9 => h9) (congrArg (fun z => some (vf ad30 z)) (hR.w.ptr ptrC_26)) dX3_findBacks_31 ?_
    refine lv_iconst (v := 0) hx hb dX3_findBacks_34 (by decide) ?_
    replace h := h (hT_b7)
    obtain ⟨Q8, h0, h⟩ := h
    have hFc := cfree hR hA
    refine va_callv (va_runS (As := [.ref (ad30 (qO U30 52 6)), .int 0]) (rest := []) ⟨hx, hb, hml, hown, hts⟩ (rJ7_fill_53178 l g ad30 H.size U30 (qO U30 52 6) (0 : Int32) hR.w (by decide) hT_b7 Q8 h0) (va_cwS 2 hts (gd_S kw_886 kw_1722 kw_1723 kw_1721) rfl rfl rfl (by decide +kernel) ⟨Nat.le_of_ble_eq_true rfl, Nat.le_of_ble_eq_true rfl⟩) ⟨cblind, fun U hU hW9 => cmk hU hW9 hR hex hE hFc⟩ rfl rfl hl.1 rfl (lv_room (Nat.le_of_ble_eq_true rfl)) dX3_findBacks_35 ⟨(show dc30 + 0 ≤ KCC - qn S from hlg.c), (show ds30 + 0 ≤ KSC - qu S from hlg.s)⟩) hR.sS (fun q _ h => hFc q h) hFc (fun  S9 t9 H1 locs ht9 hvm9 hw9 hB9 hz9 hk9 hS => ?_)
    obtain ⟨hq10, hw9, hs9⟩ := hw9
    have hR : RepC g ad30 A s S9 H1 locs := hR.call ht9 hB9 hw9 hS hFc
    have hsh := hsh.tr hs9.1
    have hlg : lgC S S9 (dc30) (ds30) := hlg.same hs9
    replace h := h  S9 hq10 hw9 hs9
    clear hB9 hz9 hk9 hvm9 ht9 hw9 hs9 hS
    generalize H1 = H at hR ⊢
    refine lv_iconst (v := 0) hx hb dX3_findBacks_38 (by decide) ?_
    refine lv_istore_n (lv' := [(2, .int 0), (0, .ref (ad30 52)), (1, .int v30_1)]) hx hb dX3_findBacks_39 rfl hl (by decide) rfl (fun ls hl => ?_)
    have J_40 : ∀ (n40 : Nat) (ad40 : Nat → Nat) (dc40 ds40 : Nat) (U40 : MS) (v40_1 : Int32) (v40_2 : Int32) (H : Heap) (locs : List Loc) (ls : Array Slot), w_X3_findBacks_L40 Q n40 U40 v40_1 v40_2 → shx S U40 → lgC S U40 dc40 ds40 → adk ad ad40 S → ogC ad40 A s s.heap → RepC g ad40 A s U40 H locs → lv_has ls 5 [(0, .ref (ad40 52)), (1, .int v40_1), (2, .int v40_2)] → W p l e (headSpec (wt yX3_findBacks cX3_findBacks 5 none) ({ frames := 1, cells := KCC - qn S, slots := KSC - qu S, locals := 40 })).room s m ([.ref (ad 52)] : List Value).toArray below meth c H locs dc40 ds40 (MQ below (va_Qv (fun (u : MS × (Nat → Nat)) => Q u.1 ∧ wfC u.1 ∧ shx S u.1 ∧ adk ad u.2 S) (fun (u : MS × (Nat → Nat)) (t : State) => qEHC g A S s.heap u t) A) ([.ref (ad 52)] : List Value).toArray s (KCC - qn S) (KSC - qu S) A) (F0 m 40 ls []) := by
      intro n40
      induction n40 with
      | zero => intro ad40 dc40 ds40 U40 v40_1 v40_2 H locs ls h hsh hlg hak hE hR hl; unfold w_X3_findBacks_L40 at h; exact h.elim
      | succ n40 ih_40 =>
        intro ad40 dc40 ds40 U40 v40_1 v40_2 H locs ls h hsh hlg hak hE hR hl
        unfold w_X3_findBacks_L40 at h
        replace h := h hR.w
        refine lv_iload_n hx hb dX3_findBacks_40 rfl (lv_at hl 2 rfl) ?_
        refine lv_iload_n hx hb dX3_findBacks_41 rfl (lv_at hl 1 rfl) ?_
        refine lv_icmp_ge (tgt := 68) hx hb dX3_findBacks_42 (by decide) (fun c11 => ?_) (fun c11 => ?_)
        · replace h := h.1 (k_le rfl rfl c11)
          refine lv_iconst (v := 0) hx hb dX3_findBacks_68 (by decide) ?_
          refine lv_istore_n (lv' := [(2, .int 0), (0, .ref (ad40 52)), (1, .int v40_1)]) hx hb dX3_findBacks_69 rfl hl (by decide) rfl (fun ls hl => ?_)
          have J_70 : ∀ (n70 : Nat) (ad70 : Nat → Nat) (dc70 ds70 : Nat) (U70 : MS) (v70_2 : Int32) (H : Heap) (locs : List Loc) (ls : Array Slot), w_X3_findBacks_L70 Q n70 U70 v70_2 → shx S U70 → lgC S U70 dc70 ds70 → adk ad ad70 S → ogC ad70 A s s.heap → RepC g ad70 A s U70 H locs → lv_has ls 5 [(0, .ref (ad70 52)), (2, .int v70_2)] → W p l e (headSpec (wt yX3_findBacks cX3_findBacks 5 none) ({ frames := 1, cells := KCC - qn S, slots := KSC - qu S, locals := 40 })).room s m ([.ref (ad 52)] : List Value).toArray below meth c H locs dc70 ds70 (MQ below (va_Qv (fun (u : MS × (Nat → Nat)) => Q u.1 ∧ wfC u.1 ∧ shx S u.1 ∧ adk ad u.2 S) (fun (u : MS × (Nat → Nat)) (t : State) => qEHC g A S s.heap u t) A) ([.ref (ad 52)] : List Value).toArray s (KCC - qn S) (KSC - qu S) A) (F0 m 70 ls []) := by
            intro n70
            induction n70 with
            | zero => intro ad70 dc70 ds70 U70 v70_2 H locs ls h hsh hlg hak hE hR hl; unfold w_X3_findBacks_L70 at h; exact h.elim
            | succ n70 ih_70 =>
              intro ad70 dc70 ds70 U70 v70_2 H locs ls h hsh hlg hak hE hR hl
              unfold w_X3_findBacks_L70 at h
              replace h := h hR.w
              refine lv_iload_n hx hb dX3_findBacks_70 rfl (lv_at hl 1 rfl) ?_
              refine lv_aload_n hx hb dX3_findBacks_71 rfl (lv_at hl 0 rfl) ?_
              refine va_get (D := rD g) (ci := 3) (v := .int (qI U70 52 1)) (C := RX3) (T := TX3) (N := 16) hx hb hts inX3 hown hR.K hR.P 52 (hR.at43 (hR.w.2.1 _ finC_30).2.1) rfl 1 (by decide) (hts _ kw_851) (fun _ h9 => h9) rfl dX3_findBacks_72 ?_
              refine lv_icmp_ge (tgt := 101) hx hb dX3_findBacks_75 (by decide) (fun c12 => ?_) (fun c12 => ?_)
              · replace h := h.1 (k_le rfl rfl c12)
                refine lv_aload_n hx hb dX3_findBacks_101 rfl (lv_at hl 0 rfl) ?_
                have hT_b13 : qT U70 (qO U70 52 6) = 206 := hR.w.ref (hR.w.ptr ptrC_26) (hR.w.2.1 _ finC_30).2.1
                refine va_get (D := rD g) (ci := 3) (v := .ref (ad70 (qO U70 52 6))) (C := RX3) (T := TX3) (N := 16) hx hb hts inX3 hown hR.K hR.P 52 (hR.at43 (hR.w.2.1 _ finC_30).2.1) rfl 6 (by decide) (hts _ kw_846) (fun _ h9 => h9) (congrArg (fun z => some (vf ad70 z)) (hR.w.ptr ptrC_26)) dX3_findBacks_102 ?_
                refine lv_iconst (v := 0) hx hb dX3_findBacks_105 (by decide) ?_
                refine lv_aload_n hx hb dX3_findBacks_106 rfl (lv_at hl 0 rfl) ?_
                have hT_b14 : qT U70 (qO U70 52 14) = 211 := hR.w.ref (hR.w.ptr ptrC_33) (hR.w.2.1 _ finC_30).2.1
                refine va_get (D := rD g) (ci := 3) (v := .ref (ad70 (qO U70 52 14))) (C := RX3) (T := TX3) (N := 16) hx hb hts inX3 hown hR.K hR.P 52 (hR.at43 (hR.w.2.1 _ finC_30).2.1) rfl 14 (by decide) (hts _ kw_838) (fun _ h9 => h9) (congrArg (fun z => some (vf ad70 z)) (hR.w.ptr ptrC_33)) dX3_findBacks_107 ?_
                refine lv_iconst (v := 0) hx hb dX3_findBacks_110 (by decide) ?_
                refine lv_aload_n hx hb dX3_findBacks_111 rfl (lv_at hl 0 rfl) ?_
                refine va_get (D := rD g) (ci := 3) (v := .int (qI U70 52 1)) (C := RX3) (T := TX3) (N := 16) hx hb hts inX3 hown hR.K hR.P 52 (hR.at43 (hR.w.2.1 _ finC_30).2.1) rfl 1 (by decide) (hts _ kw_851) (fun _ h9 => h9) rfl dX3_findBacks_112 ?_
                obtain ⟨hv15, h⟩ := h
                refine va_copyi hx hb (by rw [hml]; exact hl.1.symm) hown (hts _ kw_887) (hts _ kw_28) (hts _ kw_29) (hts _ kw_30) hR.K hR.P hR.D hR.sS (qO U70 52 6) (qO U70 52 14) 1 1 (hR.atI hT_b13 (by decide)) (hR.atI hT_b14 (by decide)) rfl rfl rfl hv15.1 hv15.2.1 hv15.2.2.1 hv15.2.2.2.1 hv15.2.2.2.2 (fun i _ => rfl) (Nat.le_of_ble_eq_true rfl) (Nat.le_of_ble_eq_true rfl) dX3_findBacks_115 (fun H locs hP hD hS => ?_)
                have hTk9 : qT U70 (qO U70 52 14) = 211 := hT_b14
                have hR : RepC g ad70 A s (wC U70 (qO U70 52 14) (va_cpy (qI U70 (qO U70 52 6)) (qI U70 (qO U70 52 14)) (0 : Int32).toNatClampNeg (0 : Int32).toNatClampNeg (qI U70 52 1).toNatClampNeg)) H locs := hR.cI hT_b14 (by decide) hP hD hS
                obtain ⟨S16, eS16⟩ : ∃ z, z = wC U70 (qO U70 52 14) (va_cpy (qI U70 (qO U70 52 6)) (qI U70 (qO U70 52 14)) (0 : Int32).toNatClampNeg (0 : Int32).toNatClampNeg (qI U70 52 1).toNatClampNeg) := ⟨_, rfl⟩
                rw [← eS16] at hR
                replace h := h S16 eS16 hTk9 hR.w
                have hsh : shx S S16 := by rw [eS16]; exact hsh
                have hlg : lgC S S16 (dc70) (ds70) := by rw [eS16]; exact hlg
                refine lv_iconst (v := 0) hx hb dX3_findBacks_118 (by decide) ?_
                refine lv_istore_n (lv' := [(2, .int 0), (0, .ref (ad70 52))]) hx hb dX3_findBacks_119 rfl hl (by decide) rfl (fun ls hl => ?_)
                have J_120 : ∀ (n120 : Nat) (ad120 : Nat → Nat) (dc120 ds120 : Nat) (U120 : MS) (v120_2 : Int32) (H : Heap) (locs : List Loc) (ls : Array Slot), w_X3_findBacks_L120 Q n120 U120 v120_2 → shx S U120 → lgC S U120 dc120 ds120 → adk ad ad120 S → ogC ad120 A s s.heap → RepC g ad120 A s U120 H locs → lv_has ls 5 [(0, .ref (ad120 52)), (2, .int v120_2)] → W p l e (headSpec (wt yX3_findBacks cX3_findBacks 5 none) ({ frames := 1, cells := KCC - qn S, slots := KSC - qu S, locals := 40 })).room s m ([.ref (ad 52)] : List Value).toArray below meth c H locs dc120 ds120 (MQ below (va_Qv (fun (u : MS × (Nat → Nat)) => Q u.1 ∧ wfC u.1 ∧ shx S u.1 ∧ adk ad u.2 S) (fun (u : MS × (Nat → Nat)) (t : State) => qEHC g A S s.heap u t) A) ([.ref (ad 52)] : List Value).toArray s (KCC - qn S) (KSC - qu S) A) (F0 m 120 ls []) := by
                  intro n120
                  induction n120 with
                  | zero => intro ad120 dc120 ds120 U120 v120_2 H locs ls h hsh hlg hak hE hR hl; unfold w_X3_findBacks_L120 at h; exact h.elim
                  | succ n120 ih_120 =>
                    intro ad120 dc120 ds120 U120 v120_2 H locs ls h hsh hlg hak hE hR hl
                    unfold w_X3_findBacks_L120 at h
                    replace h := h hR.w
                    refine lv_iload_n hx hb dX3_findBacks_120 rfl (lv_at hl 1 rfl) ?_
                    refine lv_aload_n hx hb dX3_findBacks_121 rfl (lv_at hl 0 rfl) ?_
                    refine va_get (D := rD g) (ci := 3) (v := .int (qI U120 52 1)) (C := RX3) (T := TX3) (N := 16) hx hb hts inX3 hown hR.K hR.P 52 (hR.at43 (hR.w.2.1 _ finC_30).2.1) rfl 1 (by decide) (hts _ kw_851) (fun _ h9 => h9) rfl dX3_findBacks_122 ?_
                    refine lv_icmp_ge (tgt := 195) hx hb dX3_findBacks_125 (by decide) (fun c17 => ?_) (fun c17 => ?_)
                    · replace h := h.1 (k_le rfl rfl c17)
                      refine W_led2 (fun hLd => ?_)
                      refine W.widen (k := KCC - qn S) (n := KSC - qu S) hlg.c hlg.s ?_
                      exact W.vret hx hb hr (fun t9 ht9 hW9 => ⟨⟨(U120, ad120), rfl, ⟨h, hR.w, hsh, hak⟩, ⟨⟨by rw [ht9]; exact hR.P, hR.D⟩, _, _, by rw [ht9]; exact hLd, hlg⟩⟩, hR.sS.F ht9⟩) hR.sS.2.2 dX3_findBacks_195
                    · replace h := h.2 (k_nle rfl rfl c17)
                      refine lv_aload_n hx hb dX3_findBacks_128 rfl (lv_at hl 0 rfl) ?_
                      have hT_b18 : qT U120 (qO U120 52 4) = 204 := hR.w.ref (hR.w.ptr ptrC_24) (hR.w.2.1 _ finC_30).2.1
                      refine va_get (D := rD g) (ci := 3) (v := .ref (ad120 (qO U120 52 4))) (C := RX3) (T := TX3) (N := 16) hx hb hts inX3 hown hR.K hR.P 52 (hR.at43 (hR.w.2.1 _ finC_30).2.1) rfl 4 (by decide) (hts _ kw_885) (fun _ h9 => h9) (congrArg (fun z => some (vf ad120 z)) (hR.w.ptr ptrC_24)) dX3_findBacks_129 ?_
                      refine lv_iload_n hx hb dX3_findBacks_132 rfl (lv_at hl 1 rfl) ?_
                      obtain ⟨hv19, h⟩ := h
                      refine va_iald hx hb hR.K hR.P (qO U120 52 4) 1 (hR.atI hT_b18 (by decide)) rfl (k_ix (x := v120_2) (a := v120_2.toInt) rfl hv19) dX3_findBacks_133 ?_
                      refine lv_topi (fun z20 ez20 => ?_)
                      obtain rfl : z20 = (qI U120 (qO U120 52 4) v120_2.toInt.toNat) := ez20
                      obtain ⟨a21, ea21⟩ : ∃ z, z = (qI U120 (qO U120 52 4) v120_2.toInt.toNat) := ⟨_, rfl⟩
                      rw [← ea21]
                      replace h := h a21 ea21
                      refine lv_istore_n (lv' := [(3, .int a21), (0, .ref (ad120 52)), (2, .int v120_2)]) hx hb dX3_findBacks_134 rfl hl (by decide) rfl (fun ls hl => ?_)
                      have J_135 : ∀ (n135 : Nat) (ad135 : Nat → Nat) (dc135 ds135 : Nat) (U135 : MS) (v135_2 : Int32) (v135_3 : Int32) (H : Heap) (locs : List Loc) (ls : Array Slot), w_X3_findBacks_L135 Q (w_X3_findBacks_L120 Q n120) n135 U135 v135_2 v135_3 → shx S U135 → lgC S U135 dc135 ds135 → adk ad ad135 S → ogC ad135 A s s.heap → RepC g ad135 A s U135 H locs → lv_has ls 5 [(0, .ref (ad135 52)), (2, .int v135_2), (3, .int v135_3)] → W p l e (headSpec (wt yX3_findBacks cX3_findBacks 5 none) ({ frames := 1, cells := KCC - qn S, slots := KSC - qu S, locals := 40 })).room s m ([.ref (ad 52)] : List Value).toArray below meth c H locs dc135 ds135 (MQ below (va_Qv (fun (u : MS × (Nat → Nat)) => Q u.1 ∧ wfC u.1 ∧ shx S u.1 ∧ adk ad u.2 S) (fun (u : MS × (Nat → Nat)) (t : State) => qEHC g A S s.heap u t) A) ([.ref (ad 52)] : List Value).toArray s (KCC - qn S) (KSC - qu S) A) (F0 m 135 ls []) := by
                        intro n135
                        induction n135 with
                        | zero => intro ad135 dc135 ds135 U135 v135_2 v135_3 H locs ls h hsh hlg hak hE hR hl; unfold w_X3_findBacks_L135 at h; exact h.elim
                        | succ n135 ih_135 =>
                          intro ad135 dc135 ds135 U135 v135_2 v135_3 H locs ls h hsh hlg hak hE hR hl
                          unfold w_X3_findBacks_L135 at h
                          replace h := h hR.w
                          refine lv_iload_n hx hb dX3_findBacks_135 rfl (lv_at hl 2 rfl) ?_
                          refine lv_aload_n hx hb dX3_findBacks_136 rfl (lv_at hl 0 rfl) ?_
                          have hT_b22 : qT U135 (qO U135 52 4) = 204 := hR.w.ref (hR.w.ptr ptrC_24) (hR.w.2.1 _ finC_30).2.1
                          refine va_get (D := rD g) (ci := 3) (v := .ref (ad135 (qO U135 52 4))) (C := RX3) (T := TX3) (N := 16) hx hb hts inX3 hown hR.K hR.P 52 (hR.at43 (hR.w.2.1 _ finC_30).2.1) rfl 4 (by decide) (hts _ kw_885) (fun _ h9 => h9) (congrArg (fun z => some (vf ad135 z)) (hR.w.ptr ptrC_24)) dX3_findBacks_137 ?_
                          refine lv_iload_n hx hb dX3_findBacks_140 rfl (lv_at hl 1 rfl) ?_
                          refine lv_iconst (v := 1) hx hb dX3_findBacks_141 (by decide) ?_
                          refine lv_iadd hx hb dX3_findBacks_142 ?_
                          refine lv_topi (fun z23 ez23 => ?_)
                          obtain rfl : z23 = (v135_2 + (1 : Int32)) := ez23
                          obtain ⟨hv24, h⟩ := h
                          refine va_iald hx hb hR.K hR.P (qO U135 52 4) 1 (hR.atI hT_b22 (by decide)) rfl (k_ix (x := (v135_2 + (1 : Int32))) (a := (v135_2 + (1 : Int32)).toInt) rfl hv24) dX3_findBacks_143 ?_
                          refine lv_topi (fun z25 ez25 => ?_)
                          obtain rfl : z25 = (qI U135 (qO U135 52 4) (((v135_2 + (1 : Int32)).toInt).toNat)) := ez25
                          refine lv_icmp_ge (tgt := 189) hx hb dX3_findBacks_144 (by decide) (fun c26 => ?_) (fun c26 => ?_)
                          · replace h := h.1 (k_le rfl rfl c26)
                            obtain ⟨a27, ea27⟩ : ∃ z, z = (v135_2 + Int32.ofInt 1) := ⟨_, rfl⟩
                            replace h := h a27 ea27
                            refine lv_iinc (v := a27) (lv' := [(2, .int a27), (0, .ref (ad135 52)), (3, .int v135_3)]) hx hb dX3_findBacks_189 hl (k := 1) rfl ea27.symm (by decide) rfl (fun ls hl => ?_)
                            refine lv_goto (tgt := 120) hx hb dX3_findBacks_192 (by decide) ?_
                            exact ih_120 ad135 (dc135) (ds135) U135 a27 _ _ ls h  hsh hlg hak hE hR (lv_sub hl [1, 0] rfl)
                          · replace h := h.2 (k_nle rfl rfl c26)
                            refine lv_aload_n hx hb dX3_findBacks_147 rfl (lv_at hl 0 rfl) ?_
                            have hT_b28 : qT U135 (qO U135 52 14) = 211 := hR.w.ref (hR.w.ptr ptrC_33) (hR.w.2.1 _ finC_30).2.1
                            refine va_get (D := rD g) (ci := 3) (v := .ref (ad135 (qO U135 52 14))) (C := RX3) (T := TX3) (N := 16) hx hb hts inX3 hown hR.K hR.P 52 (hR.at43 (hR.w.2.1 _ finC_30).2.1) rfl 14 (by decide) (hts _ kw_838) (fun _ h9 => h9) (congrArg (fun z => some (vf ad135 z)) (hR.w.ptr ptrC_33)) dX3_findBacks_148 ?_
                            refine lv_aload_n hx hb dX3_findBacks_151 rfl (lv_at hl 0 rfl) ?_
                            have hT_b29 : qT U135 (qO U135 52 5) = 205 := hR.w.ref (hR.w.ptr ptrC_25) (hR.w.2.1 _ finC_30).2.1
                            refine va_get (D := rD g) (ci := 3) (v := .ref (ad135 (qO U135 52 5))) (C := RX3) (T := TX3) (N := 16) hx hb hts inX3 hown hR.K hR.P 52 (hR.at43 (hR.w.2.1 _ finC_30).2.1) rfl 5 (by decide) (hts _ kw_840) (fun _ h9 => h9) (congrArg (fun z => some (vf ad135 z)) (hR.w.ptr ptrC_25)) dX3_findBacks_152 ?_
                            refine lv_iload_n hx hb dX3_findBacks_155 rfl (lv_at hl 2 rfl) ?_
                            obtain ⟨hv30, h⟩ := h
                            refine va_iald hx hb hR.K hR.P (qO U135 52 5) 1 (hR.atI hT_b29 (by decide)) rfl (k_ix (x := v135_3) (a := v135_3.toInt) rfl hv30) dX3_findBacks_156 ?_
                            refine lv_topi (fun z31 ez31 => ?_)
                            obtain rfl : z31 = (qI U135 (qO U135 52 5) v135_3.toInt.toNat) := ez31
                            obtain ⟨hv32, h⟩ := h
                            refine va_iald hx hb hR.K hR.P (qO U135 52 14) 1 (hR.atI hT_b28 (by decide)) rfl (k_ix (x := (qI U135 (qO U135 52 5) v135_3.toInt.toNat)) (a := (qI U135 (qO U135 52 5) v135_3.toInt.toNat).toInt) rfl hv32) dX3_findBacks_157 ?_
                            refine lv_topi (fun z33 ez33 => ?_)
                            obtain rfl : z33 = (qI U135 (qO U135 52 14) (((qI U135 (qO U135 52 5) v135_3.toInt.toNat).toInt).toNat)) := ez33
                            obtain ⟨a34, ea34⟩ : ∃ z, z = (qI U135 (qO U135 52 14) (((qI U135 (qO U135 52 5) v135_3.toInt.toNat).toInt).toNat)) := ⟨_, rfl⟩
                            rw [← ea34]
                            replace h := h a34 ea34
                            refine lv_istore (lv' := [(4, .int a34), (0, .ref (ad135 52)), (2, .int v135_2), (3, .int v135_3)]) hx hb dX3_findBacks_158 hl (by decide) rfl (fun ls hl => ?_)
                            refine lv_aload_n hx hb dX3_findBacks_160 rfl (lv_at hl 1 rfl) ?_
                            have hT_b35 : qT U135 (qO U135 52 7) = 207 := hR.w.ref (hR.w.ptr ptrC_27) (hR.w.2.1 _ finC_30).2.1
                            refine va_get (D := rD g) (ci := 3) (v := .ref (ad135 (qO U135 52 7))) (C := RX3) (T := TX3) (N := 16) hx hb hts inX3 hown hR.K hR.P 52 (hR.at43 (hR.w.2.1 _ finC_30).2.1) rfl 7 (by decide) (hts _ kw_848) (fun _ h9 => h9) (congrArg (fun z => some (vf ad135 z)) (hR.w.ptr ptrC_27)) dX3_findBacks_161 ?_
                            refine lv_iload hx hb dX3_findBacks_164 (lv_at hl 0 rfl) ?_
                            refine lv_iload_n hx hb dX3_findBacks_166 rfl (lv_at hl 2 rfl) ?_
                            obtain ⟨hv36, h⟩ := h
                            refine va_iast hx hb hR.K hR.P hR.D hR.sS (qO U135 52 7) 1 (hR.atI hT_b35 (by decide)) rfl (k_ix (x := a34) (a := a34.toInt) rfl hv36) dX3_findBacks_167 (fun H locs hP hD hS => ?_)
                            have hTk9 : qT U135 (qO U135 52 7) = 207 := hT_b35
                            have hR : RepC g ad135 A s (wI U135 (qO U135 52 7) a34.toInt.toNat v135_2) H locs := hR.aI hT_b35 (by decide) hP hD hS
                            obtain ⟨S37, eS37⟩ : ∃ z, z = wI U135 (qO U135 52 7) a34.toInt.toNat v135_2 := ⟨_, rfl⟩
                            rw [← eS37] at hR
                            replace h := h S37 eS37 hTk9 hR.w
                            have hsh : shx S S37 := by rw [eS37]; exact hsh
                            have hlg : lgC S S37 (dc135) (ds135) := by rw [eS37]; exact hlg
                            refine lv_aload_n hx hb dX3_findBacks_168 rfl (lv_at hl 1 rfl) ?_
                            have hT_b38 : qT S37 (qO S37 52 14) = 211 := hR.w.ref (hR.w.ptr ptrC_33) (hR.w.2.1 _ finC_30).2.1
                            refine va_get (D := rD g) (ci := 3) (v := .ref (ad135 (qO S37 52 14))) (C := RX3) (T := TX3) (N := 16) hx hb hts inX3 hown hR.K hR.P 52 (hR.at43 (hR.w.2.1 _ finC_30).2.1) rfl 14 (by decide) (hts _ kw_838) (fun _ h9 => h9) (congrArg (fun z => some (vf ad135 z)) (hR.w.ptr ptrC_33)) dX3_findBacks_169 ?_
                            refine lv_aload_n hx hb dX3_findBacks_172 rfl (lv_at hl 1 rfl) ?_
                            have hT_b39 : qT S37 (qO S37 52 5) = 205 := hR.w.ref (hR.w.ptr ptrC_25) (hR.w.2.1 _ finC_30).2.1
                            refine va_get (D := rD g) (ci := 3) (v := .ref (ad135 (qO S37 52 5))) (C := RX3) (T := TX3) (N := 16) hx hb hts inX3 hown hR.K hR.P 52 (hR.at43 (hR.w.2.1 _ finC_30).2.1) rfl 5 (by decide) (hts _ kw_840) (fun _ h9 => h9) (congrArg (fun z => some (vf ad135 z)) (hR.w.ptr ptrC_25)) dX3_findBacks_173 ?_
                            refine lv_iload_n hx hb dX3_findBacks_176 rfl (lv_at hl 3 rfl) ?_
                            obtain ⟨hv40, h⟩ := h
                            refine va_iald hx hb hR.K hR.P (qO S37 52 5) 1 (hR.atI hT_b39 (by decide)) rfl (k_ix (x := v135_3) (a := v135_3.toInt) rfl hv40) dX3_findBacks_177 ?_
                            refine lv_topi (fun z41 ez41 => ?_)
                            obtain rfl : z41 = (qI S37 (qO S37 52 5) v135_3.toInt.toNat) := ez41
                            refine lv_dup2_11 hx hb dX3_findBacks_178 rfl rfl ?_
                            obtain ⟨hv42, h⟩ := h
                            refine va_iald hx hb hR.K hR.P (qO S37 52 14) 1 (hR.atI hT_b38 (by decide)) rfl (k_ix (x := (qI S37 (qO S37 52 5) v135_3.toInt.toNat)) (a := (qI S37 (qO S37 52 5) v135_3.toInt.toNat).toInt) rfl hv42) dX3_findBacks_179 ?_
                            refine lv_topi (fun z43 ez43 => ?_)
                            obtain rfl : z43 = (qI S37 (qO S37 52 14) (((qI S37 (qO S37 52 5) v135_3.toInt.toNat).toInt).toNat)) := ez43
                            refine lv_iconst (v := 1) hx hb dX3_findBacks_180 (by decide) ?_
                            refine lv_iadd hx hb dX3_findBacks_181 ?_
                            refine lv_topi (fun z44 ez44 => ?_)
                            obtain rfl : z44 = ((qI S37 (qO S37 52 14) (((qI S37 (qO S37 52 5) v135_3.toInt.toNat).toInt).toNat)) + (1 : Int32)) := ez44
                            obtain ⟨hv45, h⟩ := h
                            refine va_iast hx hb hR.K hR.P hR.D hR.sS (qO S37 52 14) 1 (hR.atI hT_b38 (by decide)) rfl (k_ix (x := (qI S37 (qO S37 52 5) v135_3.toInt.toNat)) (a := (qI S37 (qO S37 52 5) v135_3.toInt.toNat).toInt) rfl hv45) dX3_findBacks_182 (fun H locs hP hD hS => ?_)
                            have hTk9 : qT S37 (qO S37 52 14) = 211 := hT_b38
                            have hR : RepC g ad135 A s (wI S37 (qO S37 52 14) (((qI S37 (qO S37 52 5) v135_3.toInt.toNat).toInt).toNat) ((qI S37 (qO S37 52 14) (((qI S37 (qO S37 52 5) v135_3.toInt.toNat).toInt).toNat)) + (1 : Int32))) H locs := hR.aI hT_b38 (by decide) hP hD hS
                            obtain ⟨S46, eS46⟩ : ∃ z, z = wI S37 (qO S37 52 14) (((qI S37 (qO S37 52 5) v135_3.toInt.toNat).toInt).toNat) ((qI S37 (qO S37 52 14) (((qI S37 (qO S37 52 5) v135_3.toInt.toNat).toInt).toNat)) + (1 : Int32)) := ⟨_, rfl⟩
                            rw [← eS46] at hR
                            replace h := h S46 eS46 hTk9 hR.w
                            have hsh : shx S S46 := by rw [eS46]; exact hsh
                            have hlg : lgC S S46 (dc135) (ds135) := by rw [eS46]; exact hlg
                            obtain ⟨a47, ea47⟩ : ∃ z, z = (v135_3 + Int32.ofInt 1) := ⟨_, rfl⟩
                            replace h := h a47 ea47
                            refine lv_iinc (v := a47) (lv' := [(3, .int a47), (4, .int a34), (0, .ref (ad135 52)), (2, .int v135_2)]) hx hb dX3_findBacks_183 hl (k := 3) rfl ea47.symm (by decide) rfl (fun ls hl => ?_)
                            refine lv_goto (tgt := 135) hx hb dX3_findBacks_186 (by decide) ?_
                            exact ih_135 ad135 (dc135) (ds135) S46 v135_2 a47 _ _ ls h  hsh hlg hak hE hR (lv_sub hl [2, 3, 0] rfl)
                      obtain ⟨n9, h⟩ := h
                      exact J_135 n9 ad120 (dc120) (ds120) U120 v120_2 a21 _ _ ls h  hsh hlg hak hE hR (lv_sub hl [1, 2, 0] rfl)
                obtain ⟨n9, h⟩ := h
                exact J_120 n9 ad70 (dc70) (ds70) S16 0 _ _ ls h  hsh hlg hak hE hR (lv_sub hl [1, 0] rfl)
              · replace h := h.2 (k_nle rfl rfl c12)
                refine lv_aload_n hx hb dX3_findBacks_78 rfl (lv_at hl 0 rfl) ?_
                have hT_b48 : qT U70 (qO U70 52 6) = 206 := hR.w.ref (hR.w.ptr ptrC_26) (hR.w.2.1 _ finC_30).2.1
                refine va_get (D := rD g) (ci := 3) (v := .ref (ad70 (qO U70 52 6))) (C := RX3) (T := TX3) (N := 16) hx hb hts inX3 hown hR.K hR.P 52 (hR.at43 (hR.w.2.1 _ finC_30).2.1) rfl 6 (by decide) (hts _ kw_846) (fun _ h9 => h9) (congrArg (fun z => some (vf ad70 z)) (hR.w.ptr ptrC_26)) dX3_findBacks_79 ?_
                refine lv_iload_n hx hb dX3_findBacks_82 rfl (lv_at hl 1 rfl) ?_
                refine lv_iconst (v := 1) hx hb dX3_findBacks_83 (by decide) ?_
                refine lv_iadd hx hb dX3_findBacks_84 ?_
                refine lv_topi (fun z49 ez49 => ?_)
                obtain rfl : z49 = (v70_2 + (1 : Int32)) := ez49
                refine lv_dup2_11 hx hb dX3_findBacks_85 rfl rfl ?_
                obtain ⟨hv50, h⟩ := h
                refine va_iald hx hb hR.K hR.P (qO U70 52 6) 1 (hR.atI hT_b48 (by decide)) rfl (k_ix (x := (v70_2 + (1 : Int32))) (a := (v70_2 + (1 : Int32)).toInt) rfl hv50) dX3_findBacks_86 ?_
                refine lv_topi (fun z51 ez51 => ?_)
                obtain rfl : z51 = (qI U70 (qO U70 52 6) (((v70_2 + (1 : Int32)).toInt).toNat)) := ez51
                refine lv_aload_n hx hb dX3_findBacks_87 rfl (lv_at hl 0 rfl) ?_
                have hT_b52 : qT U70 (qO U70 52 6) = 206 := hR.w.ref (hR.w.ptr ptrC_26) (hR.w.2.1 _ finC_30).2.1
                refine va_get (D := rD g) (ci := 3) (v := .ref (ad70 (qO U70 52 6))) (C := RX3) (T := TX3) (N := 16) hx hb hts inX3 hown hR.K hR.P 52 (hR.at43 (hR.w.2.1 _ finC_30).2.1) rfl 6 (by decide) (hts _ kw_846) (fun _ h9 => h9) (congrArg (fun z => some (vf ad70 z)) (hR.w.ptr ptrC_26)) dX3_findBacks_88 ?_
                refine lv_iload_n hx hb dX3_findBacks_91 rfl (lv_at hl 1 rfl) ?_
                obtain ⟨hv53, h⟩ := h
                refine va_iald hx hb hR.K hR.P (qO U70 52 6) 1 (hR.atI hT_b52 (by decide)) rfl (k_ix (x := v70_2) (a := v70_2.toInt) rfl hv53) dX3_findBacks_92 ?_
                refine lv_topi (fun z54 ez54 => ?_)
                obtain rfl : z54 = (qI U70 (qO U70 52 6) v70_2.toInt.toNat) := ez54
                refine lv_iadd hx hb dX3_findBacks_93 ?_
                refine lv_topi (fun z55 ez55 => ?_)
                obtain rfl : z55 = ((qI U70 (qO U70 52 6) (((v70_2 + (1 : Int32)).toInt).toNat)) + (qI U70 (qO U70 52 6) v70_2.toInt.toNat)) := ez55
                obtain ⟨hv56, h⟩ := h
                refine va_iast hx hb hR.K hR.P hR.D hR.sS (qO U70 52 6) 1 (hR.atI hT_b48 (by decide)) rfl (k_ix (x := (v70_2 + (1 : Int32))) (a := (v70_2 + (1 : Int32)).toInt) rfl hv56) dX3_findBacks_94 (fun H locs hP hD hS => ?_)
                have hTk9 : qT U70 (qO U70 52 6) = 206 := hT_b48
                have hR : RepC g ad70 A s (wI U70 (qO U70 52 6) (((v70_2 + (1 : Int32)).toInt).toNat) ((qI U70 (qO U70 52 6) (((v70_2 + (1 : Int32)).toInt).toNat)) + (qI U70 (qO U70 52 6) v70_2.toInt.toNat))) H locs := hR.aI hT_b48 (by decide) hP hD hS
                obtain ⟨S57, eS57⟩ : ∃ z, z = wI U70 (qO U70 52 6) (((v70_2 + (1 : Int32)).toInt).toNat) ((qI U70 (qO U70 52 6) (((v70_2 + (1 : Int32)).toInt).toNat)) + (qI U70 (qO U70 52 6) v70_2.toInt.toNat)) := ⟨_, rfl⟩
                rw [← eS57] at hR
                replace h := h S57 eS57 hTk9 hR.w
                have hsh : shx S S57 := by rw [eS57]; exact hsh
                have hlg : lgC S S57 (dc70) (ds70) := by rw [eS57]; exact hlg
                obtain ⟨a58, ea58⟩ : ∃ z, z = (v70_2 + Int32.ofInt 1) := ⟨_, rfl⟩
                replace h := h a58 ea58
                refine lv_iinc (v := a58) (lv' := [(2, .int a58), (0, .ref (ad70 52))]) hx hb dX3_findBacks_95 hl (k := 1) rfl ea58.symm (by decide) rfl (fun ls hl => ?_)
                refine lv_goto (tgt := 70) hx hb dX3_findBacks_98 (by decide) ?_
                exact ih_70 ad70 (dc70) (ds70) S57 a58 _ _ ls h  hsh hlg hak hE hR (lv_sub hl [1, 0] rfl)
          obtain ⟨n9, h⟩ := h
          exact J_70 n9 ad40 (dc40) (ds40) U40 0 _ _ ls h  hsh hlg hak hE hR (lv_sub hl [1, 0] rfl)
        · replace h := h.2 (k_nle rfl rfl c11)
          refine lv_aload_n hx hb dX3_findBacks_45 rfl (lv_at hl 0 rfl) ?_
          have hT_b59 : qT U40 (qO U40 52 6) = 206 := hR.w.ref (hR.w.ptr ptrC_26) (hR.w.2.1 _ finC_30).2.1
          refine va_get (D := rD g) (ci := 3) (v := .ref (ad40 (qO U40 52 6))) (C := RX3) (T := TX3) (N := 16) hx hb hts inX3 hown hR.K hR.P 52 (hR.at43 (hR.w.2.1 _ finC_30).2.1) rfl 6 (by decide) (hts _ kw_846) (fun _ h9 => h9) (congrArg (fun z => some (vf ad40 z)) (hR.w.ptr ptrC_26)) dX3_findBacks_46 ?_
          refine lv_aload_n hx hb dX3_findBacks_49 rfl (lv_at hl 0 rfl) ?_
          have hT_b60 : qT U40 (qO U40 52 5) = 205 := hR.w.ref (hR.w.ptr ptrC_25) (hR.w.2.1 _ finC_30).2.1
          refine va_get (D := rD g) (ci := 3) (v := .ref (ad40 (qO U40 52 5))) (C := RX3) (T := TX3) (N := 16) hx hb hts inX3 hown hR.K hR.P 52 (hR.at43 (hR.w.2.1 _ finC_30).2.1) rfl 5 (by decide) (hts _ kw_840) (fun _ h9 => h9) (congrArg (fun z => some (vf ad40 z)) (hR.w.ptr ptrC_25)) dX3_findBacks_50 ?_
          refine lv_iload_n hx hb dX3_findBacks_53 rfl (lv_at hl 2 rfl) ?_
          obtain ⟨hv61, h⟩ := h
          refine va_iald hx hb hR.K hR.P (qO U40 52 5) 1 (hR.atI hT_b60 (by decide)) rfl (k_ix (x := v40_2) (a := v40_2.toInt) rfl hv61) dX3_findBacks_54 ?_
          refine lv_topi (fun z62 ez62 => ?_)
          obtain rfl : z62 = (qI U40 (qO U40 52 5) v40_2.toInt.toNat) := ez62
          refine lv_iconst (v := 1) hx hb dX3_findBacks_55 (by decide) ?_
          refine lv_iadd hx hb dX3_findBacks_56 ?_
          refine lv_topi (fun z63 ez63 => ?_)
          obtain rfl : z63 = ((qI U40 (qO U40 52 5) v40_2.toInt.toNat) + (1 : Int32)) := ez63
          refine lv_dup2_11 hx hb dX3_findBacks_57 rfl rfl ?_
          obtain ⟨hv64, h⟩ := h
          refine va_iald hx hb hR.K hR.P (qO U40 52 6) 1 (hR.atI hT_b59 (by decide)) rfl (k_ix (x := ((qI U40 (qO U40 52 5) v40_2.toInt.toNat) + (1 : Int32))) (a := ((qI U40 (qO U40 52 5) v40_2.toInt.toNat) + (1 : Int32)).toInt) rfl hv64) dX3_findBacks_58 ?_
          refine lv_topi (fun z65 ez65 => ?_)
          obtain rfl : z65 = (qI U40 (qO U40 52 6) ((((qI U40 (qO U40 52 5) v40_2.toInt.toNat) + (1 : Int32)).toInt).toNat)) := ez65
          refine lv_iconst (v := 1) hx hb dX3_findBacks_59 (by decide) ?_
          refine lv_iadd hx hb dX3_findBacks_60 ?_
          refine lv_topi (fun z66 ez66 => ?_)
          obtain rfl : z66 = ((qI U40 (qO U40 52 6) ((((qI U40 (qO U40 52 5) v40_2.toInt.toNat) + (1 : Int32)).toInt).toNat)) + (1 : Int32)) := ez66
          obtain ⟨hv67, h⟩ := h
          refine va_iast hx hb hR.K hR.P hR.D hR.sS (qO U40 52 6) 1 (hR.atI hT_b59 (by decide)) rfl (k_ix (x := ((qI U40 (qO U40 52 5) v40_2.toInt.toNat) + (1 : Int32))) (a := ((qI U40 (qO U40 52 5) v40_2.toInt.toNat) + (1 : Int32)).toInt) rfl hv67) dX3_findBacks_61 (fun H locs hP hD hS => ?_)
          have hTk9 : qT U40 (qO U40 52 6) = 206 := hT_b59
          have hR : RepC g ad40 A s (wI U40 (qO U40 52 6) ((((qI U40 (qO U40 52 5) v40_2.toInt.toNat) + (1 : Int32)).toInt).toNat) ((qI U40 (qO U40 52 6) ((((qI U40 (qO U40 52 5) v40_2.toInt.toNat) + (1 : Int32)).toInt).toNat)) + (1 : Int32))) H locs := hR.aI hT_b59 (by decide) hP hD hS
          obtain ⟨S68, eS68⟩ : ∃ z, z = wI U40 (qO U40 52 6) ((((qI U40 (qO U40 52 5) v40_2.toInt.toNat) + (1 : Int32)).toInt).toNat) ((qI U40 (qO U40 52 6) ((((qI U40 (qO U40 52 5) v40_2.toInt.toNat) + (1 : Int32)).toInt).toNat)) + (1 : Int32)) := ⟨_, rfl⟩
          rw [← eS68] at hR
          replace h := h S68 eS68 hTk9 hR.w
          have hsh : shx S S68 := by rw [eS68]; exact hsh
          have hlg : lgC S S68 (dc40) (ds40) := by rw [eS68]; exact hlg
          obtain ⟨a69, ea69⟩ : ∃ z, z = (v40_2 + Int32.ofInt 1) := ⟨_, rfl⟩
          replace h := h a69 ea69
          refine lv_iinc (v := a69) (lv' := [(2, .int a69), (0, .ref (ad40 52)), (1, .int v40_1)]) hx hb dX3_findBacks_62 hl (k := 2) rfl ea69.symm (by decide) rfl (fun ls hl => ?_)
          refine lv_goto (tgt := 40) hx hb dX3_findBacks_65 (by decide) ?_
          exact ih_40 ad40 (dc40) (ds40) S68 v40_1 a69 _ _ ls h  hsh hlg hak hE hR (lv_sub hl [1, 2, 0] rfl)
    obtain ⟨n9, h⟩ := h
    exact J_40 n9 ad30 (dc30) (ds30) S9 v30_1 0 _ _ ls h  hsh hlg hak hE hR (lv_sub hl [1, 2, 0] rfl)
  refine lv_icmp_ge (tgt := 30) hx hb dX3_findBacks_16 (by decide) (fun c70 => ?_) (fun c70 => ?_)
  · replace h := h.1 (k_le rfl hln6 c70)
    exact J_30 ad (0) (0) S a4 _ _ ls h  hsh hlg hak hE hR (lv_sub hl [1, 0] rfl)
  · replace h := h.2 (k_nle rfl hln6 c70)
    refine lv_aload_n hx hb dX3_findBacks_19 rfl (lv_at hl 1 rfl) ?_
    refine lv_aload_n hx hb dX3_findBacks_20 rfl (lv_at hl 1 rfl) ?_
    have hT_b71 : qT S (qO S 52 5) = 205 := hR.w.ref (hR.w.ptr ptrC_25) (hR.w.2.1 _ finC_30).2.1
    refine va_get (D := rD g) (ci := 3) (v := .ref (ad (qO S 52 5))) (C := RX3) (T := TX3) (N := 16) hx hb hts inX3 hown hR.K hR.P 52 (hR.at43 (hR.w.2.1 _ finC_30).2.1) rfl 5 (by decide) (hts _ kw_840) (fun _ h9 => h9) (congrArg (fun z => some (vf ad z)) (hR.w.ptr ptrC_25)) dX3_findBacks_21 ?_
    refine va_alen (v := (Int32.ofNat (qN S (qO S 52 5)))) hx hb hR.K hR.P (qO S 52 5) 1 (hR.atI hT_b71 (by decide)) rfl rfl dX3_findBacks_24 ?_
    have hln72 : (Int32.ofNat (qN S (qO S 52 5))).toInt = (qN S (qO S 52 5) : Int) := toI_len (hR.w.len9 (hT_b71) (by decide))
    obtain ⟨hv73, h⟩ := h
    have e9 : KCC = 300000 := rfl
    have e8 : KSC = 3553400 := rfl
    have e7 : TXB = 10000000 := rfl
    have hTX : qn S < TXB := by have := hv73.2.1; omega
    refine va_newa (atype := .int) (ty := .int) (a0 := ((Int32.ofNat (qN S (qO S 52 5))).toInt.toNat, .inl (fun _ => 0))) (N' := (Int32.ofNat (qN S (qO S 52 5))).toInt.toNat) hx hb (hts (.arrayClass .int) kw_51) rfl hR.K hR.P hR.D hR.sS hA (fun _ => rfl) (fun q9 => absurd (k_lt (b := 0) rfl (by decide) q9) (Int.not_lt.mpr hv73.1)) rfl (by show ((Int32.ofNat (qN S (qO S 52 5))).toInt.toNat) * 4 ≤ 536870912; have := hv73.2.2; omega) (show 0 + 1 ≤ KCC - qn S from hlg.c1 hv73.2.1) (show 0 + ((Int32.ofNat (qN S (qO S 52 5))).toInt.toNat) ≤ KSC - qu S from hlg.s1 hv73.2.2) dX3_findBacks_25 (fun q74 cA9 H hK9 hP hD hS => ?_)
    obtain rfl := cls_new3 hR.K hK9 (k := 1) rfl (fun _ h => by cases h)
    have hw8 := hR.w
    have hR := hR.new (t := 207) (n := (Int32.ofNat (qN S (qO S 52 5))).toInt.toNat) (k := (Int32.ofNat (qN S (qO S 52 5))).toInt.toNat) hTX (by decide) (by have := hv73.2.2; omega) (wN_CI (by decide)) hP hD hS
    have hk8 : adk ad (adx ad (qn S) q74) S := adk.rf.new (Nat.le_refl _) hTX
    have hak := hak.new (q := q74) hlg.2.2.1 hTX
    have hE := hE.ad hk8
    have hlg : lgC S (wN S 207 ((Int32.ofNat (qN S (qO S 52 5))).toInt.toNat) ((Int32.ofNat (qN S (qO S 52 5))).toInt.toNat)) (0 + 1) (0 + ((Int32.ofNat (qN S (qO S 52 5))).toInt.toNat)) := hlg.new (t := 207) (n := (Int32.ofNat (qN S (qO S 52 5))).toInt.toNat) ⟨hv73.2.1, hv73.2.2⟩
    have hs8 : shx S (wN S 207 ((Int32.ofNat (qN S (qO S 52 5))).toInt.toNat) ((Int32.ofNat (qN S (qO S 52 5))).toInt.toNat)) := shx.newC (t := 207) (n := (Int32.ofNat (qN S (qO S 52 5))).toInt.toNat) (k := (Int32.ofNat (qN S (qO S 52 5))).toInt.toNat) shx.rf hw8 hTX
    obtain ⟨am75, eam75⟩ : ∃ z, z = adx ad (qn S) q74 := ⟨_, rfl⟩
    have eq_q74 : am75 (qn S) = q74 := by rw [eam75]; exact if_pos rfl
    rw [← eam75] at hR hk8 hak hE
    obtain ⟨S76, eS76⟩ : ∃ z, z = wN S 207 ((Int32.ofNat (qN S (qO S 52 5))).toInt.toNat) ((Int32.ofNat (qN S (qO S 52 5))).toInt.toNat) := ⟨_, rfl⟩
    rw [← eS76] at hR hlg hs8
    replace h := h S76 eS76 hR.w
    have hsh := hsh.tr hs8
    have hT_b77 : qT S76 (qn S) = 207 := by rw [eS76]; exact if_pos rfl
    have ea_0 : am75 52 = ad 52 := hk8 _ (hw8.hd (hw8.2.1 _ finC_30).2.1 (by decide) (by decide))
    have hl : lv_has ls 5 [(1, .int a4), (0, .ref (am75 52))] := by simp only [ea_0]; exact hl
    refine W.eq (g2 := F0 m 27 ls [.ref (am75 (qn S)), .ref (am75 52)]) (by simp only [ea_0, eq_q74]) ?_
    clear hw8 hk8 hs8 hP hD hS e9 e8 e7 hTX
    refine va_put (D := rD g) (ci := 3) (v := .ref (am75 (qn S))) (ty := (.array .int)) (C := RX3) (T := TX3) (N := 16) hx hb hts inX3 tyX3 tyX3_ok nmX3 hown hR.K hR.P hR.D hR.sS 52 (hR.at43 (hR.w.2.1 _ finC_30).2.1) rfl 7 (by decide) (hts _ kw_848) (fun _ h9 => h9) rfl (by decide +kernel) rfl rfl (Nat.le_of_ble_eq_true rfl) dX3_findBacks_27 (fun H locs hP hD hS => ?_)
    have hw9 : wfC (wR S76 52 7 (some (qn S))) := hR.w.put (fun b q9 => by cases q9; exact (hT_b77).trans (by rw [(hR.w.2.1 _ finC_30).2.1]; rfl)) (nofC_52_7) (by rw [(hR.w.2.1 _ finC_30).2.1]; decide) (fun b _ q9 => absurd (show otgC (qT S76 52) 7 = 0 by rw [(hR.w.2.1 _ finC_30).2.1]; decide) q9) (fun _ => Option.some_ne_none _)
    have hTk9 : qT S76 52 = 43 := (hR.w.2.1 _ finC_30).2.1
    have hR : RepC g am75 A s (wR S76 52 7 (some (qn S))) H locs := hR.pR43 (hR.w.2.1 _ finC_30).2.1 FX3_s7 hw9 hP hD hS
    obtain ⟨S78, eS78⟩ : ∃ z, z = wR S76 52 7 (some (qn S)) := ⟨_, rfl⟩
    rw [← eS78] at hR
    replace h := h S78 eS78 hTk9 hR.w
    have hsh : shx S S78 := by rw [eS78]; exact hsh
    have hlg : lgC S S78 (0 + 1) (0 + ((Int32.ofNat (qN S (qO S 52 5))).toInt.toNat)) := by rw [eS78]; exact hlg
    exact J_30 am75 (0 + 1) (0 + ((Int32.ofNat (qN S (qO S 52 5))).toInt.toNat)) S78 a4 _ _ ls h  hsh hlg hak hE hR (lv_sub hl [1, 0] rfl)
