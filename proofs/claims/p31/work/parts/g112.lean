def f_longWork (S : MS) (x0 : Int32) (y1 : Int64) (y3 : Int64) : Int64 := (if x0.toInt = 97 then (y1 + y3) else (if x0.toInt = 98 then (y1 ^^^ y3) else (if x0.toInt = 99 then (y1 ^^^ y3) else (if x0.toInt = 100 then (y1 ^^^ y3) else (if x0.toInt = 101 then (y1 - y3) else (if x0.toInt = 102 then (y1 ^^^ y3) else (if x0.toInt = 103 then (y1 ^^^ y3) else (if x0.toInt = 104 then (y1 ^^^ y3) else (if x0.toInt = 105 then (y1 * y3) else (if x0.toInt = 106 then (y1 ^^^ y3) else (if x0.toInt = 107 then (y1 ^^^ y3) else (if x0.toInt = 108 then (y1 ^^^ y3) else (if x0.toInt = 109 then (if (lg_cmp y3 (-1 : Int64)).toInt = 0 then (-y1) else (y1 / y3)) else (if x0.toInt = 110 then (y1 ^^^ y3) else (if x0.toInt = 111 then (y1 ^^^ y3) else (if x0.toInt = 112 then (y1 ^^^ y3) else (if x0.toInt = 113 then (if (lg_cmp y3 (-1 : Int64)).toInt = 0 then 0 else (y1 - y1 / y3 * y3)) else (if x0.toInt = 114 then (y1 ^^^ y3) else (if x0.toInt = 115 then (y1 ^^^ y3) else (if x0.toInt = 116 then (y1 ^^^ y3) else (if x0.toInt = 117 then (y1 ^^^ y3) else (if x0.toInt = 118 then (y1 ^^^ y3) else (if x0.toInt = 119 then (y1 ^^^ y3) else (if x0.toInt = 120 then (y1 ^^^ y3) else (if x0.toInt = 121 then (y1 <<< (((y3.toInt32) &&& (63 : Int32)).toInt64 &&& 63)) else (if x0.toInt = 122 then (y1 ^^^ y3) else (if x0.toInt = 123 then (y1 >>> (((y3.toInt32) &&& (63 : Int32)).toInt64 &&& 63)) else (if x0.toInt = 124 then (y1 ^^^ y3) else (if x0.toInt = 125 then ((y1.toUInt64 >>> (((y3.toInt32) &&& (63 : Int32)).toInt64.toUInt64 &&& Int64.toUInt64 63)).toInt64) else (if x0.toInt = 126 then (y1 ^^^ y3) else (if x0.toInt = 127 then (y1 &&& y3) else (if x0.toInt = 128 then (y1 ^^^ y3) else (if x0.toInt = 129 then (y1 ||| y3) else (y1 ^^^ y3))))))))))))))))))))))))))))))))))
def d_longWork (S : MS) (x0 : Int32) (y1 : Int64) (y3 : Int64) : Prop := (if x0.toInt = 97 then True else (if x0.toInt = 98 then True else (if x0.toInt = 99 then True else (if x0.toInt = 100 then True else (if x0.toInt = 101 then True else (if x0.toInt = 102 then True else (if x0.toInt = 103 then True else (if x0.toInt = 104 then True else (if x0.toInt = 105 then True else (if x0.toInt = 106 then True else (if x0.toInt = 107 then True else (if x0.toInt = 108 then True else (if x0.toInt = 109 then (if (lg_cmp y3 (-1 : Int64)).toInt = 0 then True else ((¬ y3 = 0) ∧ True)) else (if x0.toInt = 110 then True else (if x0.toInt = 111 then True else (if x0.toInt = 112 then True else (if x0.toInt = 113 then (if (lg_cmp y3 (-1 : Int64)).toInt = 0 then True else ((¬ y3 = 0) ∧ True)) else True)))))))))))))))))
set_option maxHeartbeats 2000000 in
set_option maxRecDepth 100000 in
theorem r_longWork (l : Launch) (g : Gr) (ad : Nat → Nat) (sz : Nat) (S : MS) (x0 : Int32) (y1 : Int64) (y3 : Int64) (hw : wfM S) (hd : d_longWork S x0 y1 y3) : Met l yX14_longWork (wt2 yX14_longWork cX14_longWork 6 (some .long)) ({ frames := 0, cells := 0, slots := 0, locals := 0 }) (va_Pc [.int x0, .long y1, .long y3] (st_R g ad sz S)) (va_Ql (fun (r : Int64) (_ : Unit) => r = f_longWork S x0 y1 y3) (fun (_ : Unit) (t : State) => qE g ad (va_A (Wd g ad S) sz) S t) (va_A (Wd g ad S) sz)) 0 0 (va_A (Wd g ad S) sz) := by
  refine Met.ofW (cc := cX14_longWork) (maxL := 6) (ret := (some .long)) (by decide) rfl ?_
  intro p e s m args below meth c s₁ B hml hv
  obtain ⟨rfl, hsz, hP, hK, hD0, hex, hE⟩ := hv
  have hx := B.exec
  have hb := B.bytes
  have hr := B.returns
  have hts0 := atoms_spec (ws := wt2 yX14_longWork cX14_longWork 6 (some .long)) B.pre
  have hts : ∀ w ∈ tb2, w.before _ s = true := fun w h => hts0 w (List.mem_cons_of_mem _ h)
  have hown : s.vm.findClass RX14 = some m.cls := findClass_of_methodNamed B.named
  subst hsz
  have hD := hD0.self (sz := s.heap.size)
  generalize hAe : va_A (Wd g ad S) s.heap.size = A at hD hE ⊢
  have hA : ∀ q : Nat, s.heap.size ≤ q → A q := fun q h => by rw [← hAe]; exact Or.inr h
  have hR : Rep g ad A s S s.heap [] := ⟨hK, hP, hD, va_S.rf, hw⟩
  clear hK hP hD hD0
  have hl := lv_entry ([.int x0, .long y1, .long y3]) (n := 6) (Nat.le_of_ble_eq_true rfl)
  rw [lg_entry_eq]
  generalize (lg_sl ([.int x0, .long y1, .long y3]) ++ List.replicate (6 - (lg_sl ([.int x0, .long y1, .long y3])).length) Slot.unset).toArray = ls at hl ⊢
  have hl : lv_has ls 6 [(0, .int x0), (1, .long y1), (3, .long y3)] := hl
  obtain ⟨r0, hf⟩ : ∃ r0, f_longWork S x0 y1 y3 = r0 := ⟨_, rfl⟩
  have hf0 := hf
  unfold f_longWork at hf
  unfold d_longWork at hd
  refine lv_lload_n hx hb dX14_longWork_0 rfl (lv_at hl 2 rfl) ?_
  refine lv_l2i (v := (y3.toInt32)) hx hb dX14_longWork_1 rfl ?_
  refine lv_bipush (v := 63) hx hb dX14_longWork_2 (by decide) ?_
  refine lv_iand hx hb dX14_longWork_4 ?_
  refine lv_topi (fun z1 ez1 => ?_)
  obtain rfl : z1 = ((y3.toInt32) &&& (63 : Int32)) := ez1
  refine lv_istore (lv' := [(5, .int ((y3.toInt32) &&& (63 : Int32))), (0, .int x0), (1, .long y1), (3, .long y3)]) hx hb dX14_longWork_5 hl (by decide) rfl (fun ls hl => ?_)
  refine lv_iload_n hx hb dX14_longWork_7 rfl (lv_at hl 1 rfl) ?_
  by_cases c9_97 : x0.toInt = 97
  · refine lv_tableIn (off := 148) (tgt := 156) hx hb dX14_longWork_8 (by rw [c9_97]; decide) (by rw [c9_97]; decide) (by rw [c9_97]; rfl) (by decide) ?_
    rw [if_pos (c9_97)] at hf
    (try rw [if_pos (c9_97)] at hd)
    refine lv_lload_n hx hb dX14_longWork_156 rfl (lv_at hl 2 rfl) ?_
    refine lv_lload_n hx hb dX14_longWork_157 rfl (lv_at hl 3 rfl) ?_
    refine lv_ladd hx hb dX14_longWork_158 ?_
    refine lv_topl (fun z2 ez2 => ?_)
    obtain rfl : z2 = (y1 + y3) := ez2
    exact W.lret (v := (y1 + y3)) hx hb hr (fun t9 ht9 hW9 => ⟨⟨_, (), rfl, hf.trans hf0.symm, ⟨by rw [ht9]; exact hR.P, hR.D⟩⟩, hR.sS.F ht9⟩) hR.sS.2.2 dX14_longWork_159
  rw [if_neg c9_97] at hf
  (try rw [if_neg c9_97] at hd)
  by_cases c9_98 : x0.toInt = 98
  · refine lv_tableIn (off := 216) (tgt := 224) hx hb dX14_longWork_8 (by rw [c9_98]; decide) (by rw [c9_98]; decide) (by rw [c9_98]; rfl) (by decide) ?_
    rw [if_pos (c9_98)] at hf
    (try rw [if_pos (c9_98)] at hd)
    refine lv_lload_n hx hb dX14_longWork_224 rfl (lv_at hl 2 rfl) ?_
    refine lv_lload_n hx hb dX14_longWork_225 rfl (lv_at hl 3 rfl) ?_
    refine lv_lxor hx hb dX14_longWork_226 ?_
    refine lv_topl (fun z3 ez3 => ?_)
    obtain rfl : z3 = (y1 ^^^ y3) := ez3
    exact W.lret (v := (y1 ^^^ y3)) hx hb hr (fun t9 ht9 hW9 => ⟨⟨_, (), rfl, hf.trans hf0.symm, ⟨by rw [ht9]; exact hR.P, hR.D⟩⟩, hR.sS.F ht9⟩) hR.sS.2.2 dX14_longWork_227
  rw [if_neg c9_98] at hf
  (try rw [if_neg c9_98] at hd)
  by_cases c9_99 : x0.toInt = 99
  · refine lv_tableIn (off := 216) (tgt := 224) hx hb dX14_longWork_8 (by rw [c9_99]; decide) (by rw [c9_99]; decide) (by rw [c9_99]; rfl) (by decide) ?_
    rw [if_pos (c9_99)] at hf
    (try rw [if_pos (c9_99)] at hd)
    refine lv_lload_n hx hb dX14_longWork_224 rfl (lv_at hl 2 rfl) ?_
    refine lv_lload_n hx hb dX14_longWork_225 rfl (lv_at hl 3 rfl) ?_
    refine lv_lxor hx hb dX14_longWork_226 ?_
    refine lv_topl (fun z4 ez4 => ?_)
    obtain rfl : z4 = (y1 ^^^ y3) := ez4
    exact W.lret (v := (y1 ^^^ y3)) hx hb hr (fun t9 ht9 hW9 => ⟨⟨_, (), rfl, hf.trans hf0.symm, ⟨by rw [ht9]; exact hR.P, hR.D⟩⟩, hR.sS.F ht9⟩) hR.sS.2.2 dX14_longWork_227
  rw [if_neg c9_99] at hf
  (try rw [if_neg c9_99] at hd)
  by_cases c9_100 : x0.toInt = 100
  · refine lv_tableIn (off := 216) (tgt := 224) hx hb dX14_longWork_8 (by rw [c9_100]; decide) (by rw [c9_100]; decide) (by rw [c9_100]; rfl) (by decide) ?_
    rw [if_pos (c9_100)] at hf
    (try rw [if_pos (c9_100)] at hd)
    refine lv_lload_n hx hb dX14_longWork_224 rfl (lv_at hl 2 rfl) ?_
    refine lv_lload_n hx hb dX14_longWork_225 rfl (lv_at hl 3 rfl) ?_
    refine lv_lxor hx hb dX14_longWork_226 ?_
    refine lv_topl (fun z5 ez5 => ?_)
    obtain rfl : z5 = (y1 ^^^ y3) := ez5
    exact W.lret (v := (y1 ^^^ y3)) hx hb hr (fun t9 ht9 hW9 => ⟨⟨_, (), rfl, hf.trans hf0.symm, ⟨by rw [ht9]; exact hR.P, hR.D⟩⟩, hR.sS.F ht9⟩) hR.sS.2.2 dX14_longWork_227
  rw [if_neg c9_100] at hf
  (try rw [if_neg c9_100] at hd)
  by_cases c9_101 : x0.toInt = 101
  · refine lv_tableIn (off := 152) (tgt := 160) hx hb dX14_longWork_8 (by rw [c9_101]; decide) (by rw [c9_101]; decide) (by rw [c9_101]; rfl) (by decide) ?_
    rw [if_pos (c9_101)] at hf
    (try rw [if_pos (c9_101)] at hd)
    refine lv_lload_n hx hb dX14_longWork_160 rfl (lv_at hl 2 rfl) ?_
    refine lv_lload_n hx hb dX14_longWork_161 rfl (lv_at hl 3 rfl) ?_
    refine lv_lsub hx hb dX14_longWork_162 ?_
    refine lv_topl (fun z6 ez6 => ?_)
    obtain rfl : z6 = (y1 - y3) := ez6
    exact W.lret (v := (y1 - y3)) hx hb hr (fun t9 ht9 hW9 => ⟨⟨_, (), rfl, hf.trans hf0.symm, ⟨by rw [ht9]; exact hR.P, hR.D⟩⟩, hR.sS.F ht9⟩) hR.sS.2.2 dX14_longWork_163
  rw [if_neg c9_101] at hf
  (try rw [if_neg c9_101] at hd)
  by_cases c9_102 : x0.toInt = 102
  · refine lv_tableIn (off := 216) (tgt := 224) hx hb dX14_longWork_8 (by rw [c9_102]; decide) (by rw [c9_102]; decide) (by rw [c9_102]; rfl) (by decide) ?_
    rw [if_pos (c9_102)] at hf
    (try rw [if_pos (c9_102)] at hd)
    refine lv_lload_n hx hb dX14_longWork_224 rfl (lv_at hl 2 rfl) ?_
    refine lv_lload_n hx hb dX14_longWork_225 rfl (lv_at hl 3 rfl) ?_
    refine lv_lxor hx hb dX14_longWork_226 ?_
    refine lv_topl (fun z7 ez7 => ?_)
    obtain rfl : z7 = (y1 ^^^ y3) := ez7
    exact W.lret (v := (y1 ^^^ y3)) hx hb hr (fun t9 ht9 hW9 => ⟨⟨_, (), rfl, hf.trans hf0.symm, ⟨by rw [ht9]; exact hR.P, hR.D⟩⟩, hR.sS.F ht9⟩) hR.sS.2.2 dX14_longWork_227
  rw [if_neg c9_102] at hf
  (try rw [if_neg c9_102] at hd)
  by_cases c9_103 : x0.toInt = 103
  · refine lv_tableIn (off := 216) (tgt := 224) hx hb dX14_longWork_8 (by rw [c9_103]; decide) (by rw [c9_103]; decide) (by rw [c9_103]; rfl) (by decide) ?_
    rw [if_pos (c9_103)] at hf
    (try rw [if_pos (c9_103)] at hd)
    refine lv_lload_n hx hb dX14_longWork_224 rfl (lv_at hl 2 rfl) ?_
    refine lv_lload_n hx hb dX14_longWork_225 rfl (lv_at hl 3 rfl) ?_
    refine lv_lxor hx hb dX14_longWork_226 ?_
    refine lv_topl (fun z8 ez8 => ?_)
    obtain rfl : z8 = (y1 ^^^ y3) := ez8
    exact W.lret (v := (y1 ^^^ y3)) hx hb hr (fun t9 ht9 hW9 => ⟨⟨_, (), rfl, hf.trans hf0.symm, ⟨by rw [ht9]; exact hR.P, hR.D⟩⟩, hR.sS.F ht9⟩) hR.sS.2.2 dX14_longWork_227
  rw [if_neg c9_103] at hf
  (try rw [if_neg c9_103] at hd)
  by_cases c9_104 : x0.toInt = 104
  · refine lv_tableIn (off := 216) (tgt := 224) hx hb dX14_longWork_8 (by rw [c9_104]; decide) (by rw [c9_104]; decide) (by rw [c9_104]; rfl) (by decide) ?_
    rw [if_pos (c9_104)] at hf
    (try rw [if_pos (c9_104)] at hd)
    refine lv_lload_n hx hb dX14_longWork_224 rfl (lv_at hl 2 rfl) ?_
    refine lv_lload_n hx hb dX14_longWork_225 rfl (lv_at hl 3 rfl) ?_
    refine lv_lxor hx hb dX14_longWork_226 ?_
    refine lv_topl (fun z9 ez9 => ?_)
    obtain rfl : z9 = (y1 ^^^ y3) := ez9
    exact W.lret (v := (y1 ^^^ y3)) hx hb hr (fun t9 ht9 hW9 => ⟨⟨_, (), rfl, hf.trans hf0.symm, ⟨by rw [ht9]; exact hR.P, hR.D⟩⟩, hR.sS.F ht9⟩) hR.sS.2.2 dX14_longWork_227
  rw [if_neg c9_104] at hf
  (try rw [if_neg c9_104] at hd)
  by_cases c9_105 : x0.toInt = 105
  · refine lv_tableIn (off := 156) (tgt := 164) hx hb dX14_longWork_8 (by rw [c9_105]; decide) (by rw [c9_105]; decide) (by rw [c9_105]; rfl) (by decide) ?_
    rw [if_pos (c9_105)] at hf
    (try rw [if_pos (c9_105)] at hd)
    refine lv_lload_n hx hb dX14_longWork_164 rfl (lv_at hl 2 rfl) ?_
    refine lv_lload_n hx hb dX14_longWork_165 rfl (lv_at hl 3 rfl) ?_
    refine lv_lmul hx hb dX14_longWork_166 ?_
    refine lv_topl (fun z10 ez10 => ?_)
    obtain rfl : z10 = (y1 * y3) := ez10
    exact W.lret (v := (y1 * y3)) hx hb hr (fun t9 ht9 hW9 => ⟨⟨_, (), rfl, hf.trans hf0.symm, ⟨by rw [ht9]; exact hR.P, hR.D⟩⟩, hR.sS.F ht9⟩) hR.sS.2.2 dX14_longWork_167
  rw [if_neg c9_105] at hf
  (try rw [if_neg c9_105] at hd)
  by_cases c9_106 : x0.toInt = 106
  · refine lv_tableIn (off := 216) (tgt := 224) hx hb dX14_longWork_8 (by rw [c9_106]; decide) (by rw [c9_106]; decide) (by rw [c9_106]; rfl) (by decide) ?_
    rw [if_pos (c9_106)] at hf
    (try rw [if_pos (c9_106)] at hd)
    refine lv_lload_n hx hb dX14_longWork_224 rfl (lv_at hl 2 rfl) ?_
    refine lv_lload_n hx hb dX14_longWork_225 rfl (lv_at hl 3 rfl) ?_
    refine lv_lxor hx hb dX14_longWork_226 ?_
    refine lv_topl (fun z11 ez11 => ?_)
    obtain rfl : z11 = (y1 ^^^ y3) := ez11
    exact W.lret (v := (y1 ^^^ y3)) hx hb hr (fun t9 ht9 hW9 => ⟨⟨_, (), rfl, hf.trans hf0.symm, ⟨by rw [ht9]; exact hR.P, hR.D⟩⟩, hR.sS.F ht9⟩) hR.sS.2.2 dX14_longWork_227
  rw [if_neg c9_106] at hf
  (try rw [if_neg c9_106] at hd)
  by_cases c9_107 : x0.toInt = 107
  · refine lv_tableIn (off := 216) (tgt := 224) hx hb dX14_longWork_8 (by rw [c9_107]; decide) (by rw [c9_107]; decide) (by rw [c9_107]; rfl) (by decide) ?_
    rw [if_pos (c9_107)] at hf
    (try rw [if_pos (c9_107)] at hd)
    refine lv_lload_n hx hb dX14_longWork_224 rfl (lv_at hl 2 rfl) ?_
    refine lv_lload_n hx hb dX14_longWork_225 rfl (lv_at hl 3 rfl) ?_
    refine lv_lxor hx hb dX14_longWork_226 ?_
    refine lv_topl (fun z12 ez12 => ?_)
    obtain rfl : z12 = (y1 ^^^ y3) := ez12
    exact W.lret (v := (y1 ^^^ y3)) hx hb hr (fun t9 ht9 hW9 => ⟨⟨_, (), rfl, hf.trans hf0.symm, ⟨by rw [ht9]; exact hR.P, hR.D⟩⟩, hR.sS.F ht9⟩) hR.sS.2.2 dX14_longWork_227
  rw [if_neg c9_107] at hf
  (try rw [if_neg c9_107] at hd)
  by_cases c9_108 : x0.toInt = 108
  · refine lv_tableIn (off := 216) (tgt := 224) hx hb dX14_longWork_8 (by rw [c9_108]; decide) (by rw [c9_108]; decide) (by rw [c9_108]; rfl) (by decide) ?_
    rw [if_pos (c9_108)] at hf
    (try rw [if_pos (c9_108)] at hd)
    refine lv_lload_n hx hb dX14_longWork_224 rfl (lv_at hl 2 rfl) ?_
    refine lv_lload_n hx hb dX14_longWork_225 rfl (lv_at hl 3 rfl) ?_
    refine lv_lxor hx hb dX14_longWork_226 ?_
    refine lv_topl (fun z13 ez13 => ?_)
    obtain rfl : z13 = (y1 ^^^ y3) := ez13
    exact W.lret (v := (y1 ^^^ y3)) hx hb hr (fun t9 ht9 hW9 => ⟨⟨_, (), rfl, hf.trans hf0.symm, ⟨by rw [ht9]; exact hR.P, hR.D⟩⟩, hR.sS.F ht9⟩) hR.sS.2.2 dX14_longWork_227
  rw [if_neg c9_108] at hf
  (try rw [if_neg c9_108] at hd)
  by_cases c9_109 : x0.toInt = 109
  · refine lv_tableIn (off := 160) (tgt := 168) hx hb dX14_longWork_8 (by rw [c9_109]; decide) (by rw [c9_109]; decide) (by rw [c9_109]; rfl) (by decide) ?_
    rw [if_pos (c9_109)] at hf
    (try rw [if_pos (c9_109)] at hd)
    refine lv_lload_n hx hb dX14_longWork_168 rfl (lv_at hl 3 rfl) ?_
    refine lv_ldc2 hx hb hown (hts _ kx_656) dX14_longWork_169 ?_
    refine W.lcmp hx hb dX14_longWork_172 ?_
    refine lv_topi (fun z14 ez14 => ?_)
    obtain rfl : z14 = (lg_cmp y3 (-1 : Int64)) := ez14
    refine lv_if_ne (tgt := 181) hx hb dX14_longWork_173 (by decide) (fun c15 => ?_) (fun c15 => ?_)
    · rw [if_neg (k_ne rfl (by decide) c15)] at hf
      (try rw [if_neg (k_ne rfl (by decide) c15)] at hd)
      refine lv_lload_n hx hb dX14_longWork_181 rfl (lv_at hl 2 rfl) ?_
      refine lv_lload_n hx hb dX14_longWork_182 rfl (lv_at hl 3 rfl) ?_
      obtain ⟨hv16, hd⟩ := hd
      refine lv_ldiv hx hb dX14_longWork_183 hv16 ?_
      refine lv_topl (fun z17 ez17 => ?_)
      obtain rfl : z17 = (y1 / y3) := ez17
      exact W.lret (v := (y1 / y3)) hx hb hr (fun t9 ht9 hW9 => ⟨⟨_, (), rfl, hf.trans hf0.symm, ⟨by rw [ht9]; exact hR.P, hR.D⟩⟩, hR.sS.F ht9⟩) hR.sS.2.2 dX14_longWork_184
    · rw [if_pos (k_eq rfl (by decide) c15)] at hf
      (try rw [if_pos (k_eq rfl (by decide) c15)] at hd)
      refine lv_lload_n hx hb dX14_longWork_176 rfl (lv_at hl 2 rfl) ?_
      refine lv_lneg hx hb dX14_longWork_177 ?_
      refine lv_topl (fun z18 ez18 => ?_)
      obtain rfl : z18 = (-y1) := ez18
      refine lv_goto (tgt := 184) hx hb dX14_longWork_178 (by decide) ?_
      exact W.lret (v := (-y1)) hx hb hr (fun t9 ht9 hW9 => ⟨⟨_, (), rfl, hf.trans hf0.symm, ⟨by rw [ht9]; exact hR.P, hR.D⟩⟩, hR.sS.F ht9⟩) hR.sS.2.2 dX14_longWork_184
  rw [if_neg c9_109] at hf
  (try rw [if_neg c9_109] at hd)
  by_cases c9_110 : x0.toInt = 110
  · refine lv_tableIn (off := 216) (tgt := 224) hx hb dX14_longWork_8 (by rw [c9_110]; decide) (by rw [c9_110]; decide) (by rw [c9_110]; rfl) (by decide) ?_
    rw [if_pos (c9_110)] at hf
    (try rw [if_pos (c9_110)] at hd)
    refine lv_lload_n hx hb dX14_longWork_224 rfl (lv_at hl 2 rfl) ?_
    refine lv_lload_n hx hb dX14_longWork_225 rfl (lv_at hl 3 rfl) ?_
    refine lv_lxor hx hb dX14_longWork_226 ?_
    refine lv_topl (fun z19 ez19 => ?_)
    obtain rfl : z19 = (y1 ^^^ y3) := ez19
    exact W.lret (v := (y1 ^^^ y3)) hx hb hr (fun t9 ht9 hW9 => ⟨⟨_, (), rfl, hf.trans hf0.symm, ⟨by rw [ht9]; exact hR.P, hR.D⟩⟩, hR.sS.F ht9⟩) hR.sS.2.2 dX14_longWork_227
  rw [if_neg c9_110] at hf
  (try rw [if_neg c9_110] at hd)
  by_cases c9_111 : x0.toInt = 111
  · refine lv_tableIn (off := 216) (tgt := 224) hx hb dX14_longWork_8 (by rw [c9_111]; decide) (by rw [c9_111]; decide) (by rw [c9_111]; rfl) (by decide) ?_
    rw [if_pos (c9_111)] at hf
    (try rw [if_pos (c9_111)] at hd)
    refine lv_lload_n hx hb dX14_longWork_224 rfl (lv_at hl 2 rfl) ?_
    refine lv_lload_n hx hb dX14_longWork_225 rfl (lv_at hl 3 rfl) ?_
    refine lv_lxor hx hb dX14_longWork_226 ?_
    refine lv_topl (fun z20 ez20 => ?_)
    obtain rfl : z20 = (y1 ^^^ y3) := ez20
    exact W.lret (v := (y1 ^^^ y3)) hx hb hr (fun t9 ht9 hW9 => ⟨⟨_, (), rfl, hf.trans hf0.symm, ⟨by rw [ht9]; exact hR.P, hR.D⟩⟩, hR.sS.F ht9⟩) hR.sS.2.2 dX14_longWork_227
  rw [if_neg c9_111] at hf
  (try rw [if_neg c9_111] at hd)
  by_cases c9_112 : x0.toInt = 112
  · refine lv_tableIn (off := 216) (tgt := 224) hx hb dX14_longWork_8 (by rw [c9_112]; decide) (by rw [c9_112]; decide) (by rw [c9_112]; rfl) (by decide) ?_
    rw [if_pos (c9_112)] at hf
    (try rw [if_pos (c9_112)] at hd)
    refine lv_lload_n hx hb dX14_longWork_224 rfl (lv_at hl 2 rfl) ?_
    refine lv_lload_n hx hb dX14_longWork_225 rfl (lv_at hl 3 rfl) ?_
    refine lv_lxor hx hb dX14_longWork_226 ?_
    refine lv_topl (fun z21 ez21 => ?_)
    obtain rfl : z21 = (y1 ^^^ y3) := ez21
    exact W.lret (v := (y1 ^^^ y3)) hx hb hr (fun t9 ht9 hW9 => ⟨⟨_, (), rfl, hf.trans hf0.symm, ⟨by rw [ht9]; exact hR.P, hR.D⟩⟩, hR.sS.F ht9⟩) hR.sS.2.2 dX14_longWork_227
  rw [if_neg c9_112] at hf
  (try rw [if_neg c9_112] at hd)
  by_cases c9_113 : x0.toInt = 113
  · refine lv_tableIn (off := 177) (tgt := 185) hx hb dX14_longWork_8 (by rw [c9_113]; decide) (by rw [c9_113]; decide) (by rw [c9_113]; rfl) (by decide) ?_
    rw [if_pos (c9_113)] at hf
    (try rw [if_pos (c9_113)] at hd)
    refine lv_lload_n hx hb dX14_longWork_185 rfl (lv_at hl 3 rfl) ?_
    refine lv_ldc2 hx hb hown (hts _ kx_656) dX14_longWork_186 ?_
    refine W.lcmp hx hb dX14_longWork_189 ?_
    refine lv_topi (fun z22 ez22 => ?_)
    obtain rfl : z22 = (lg_cmp y3 (-1 : Int64)) := ez22
    refine lv_if_ne (tgt := 197) hx hb dX14_longWork_190 (by decide) (fun c23 => ?_) (fun c23 => ?_)
    · rw [if_neg (k_ne rfl (by decide) c23)] at hf
      (try rw [if_neg (k_ne rfl (by decide) c23)] at hd)
      refine lv_lload_n hx hb dX14_longWork_197 rfl (lv_at hl 2 rfl) ?_
      refine lv_lload_n hx hb dX14_longWork_198 rfl (lv_at hl 3 rfl) ?_
      obtain ⟨hv24, hd⟩ := hd
      refine lv_lrem hx hb dX14_longWork_199 hv24 ?_
      refine lv_topl (fun z25 ez25 => ?_)
      obtain rfl : z25 = (y1 - y1 / y3 * y3) := ez25
      exact W.lret (v := (y1 - y1 / y3 * y3)) hx hb hr (fun t9 ht9 hW9 => ⟨⟨_, (), rfl, hf.trans hf0.symm, ⟨by rw [ht9]; exact hR.P, hR.D⟩⟩, hR.sS.F ht9⟩) hR.sS.2.2 dX14_longWork_200
    · rw [if_pos (k_eq rfl (by decide) c23)] at hf
      (try rw [if_pos (k_eq rfl (by decide) c23)] at hd)
      refine lv_lconst (v := 0) hx hb dX14_longWork_193 (by decide) ?_
      refine lv_goto (tgt := 200) hx hb dX14_longWork_194 (by decide) ?_
      exact W.lret (v := 0) hx hb hr (fun t9 ht9 hW9 => ⟨⟨_, (), rfl, hf.trans hf0.symm, ⟨by rw [ht9]; exact hR.P, hR.D⟩⟩, hR.sS.F ht9⟩) hR.sS.2.2 dX14_longWork_200
  rw [if_neg c9_113] at hf
  (try rw [if_neg c9_113] at hd)
  by_cases c9_114 : x0.toInt = 114
  · refine lv_tableIn (off := 216) (tgt := 224) hx hb dX14_longWork_8 (by rw [c9_114]; decide) (by rw [c9_114]; decide) (by rw [c9_114]; rfl) (by decide) ?_
    rw [if_pos (c9_114)] at hf
    (try rw [if_pos (c9_114)] at hd)
    refine lv_lload_n hx hb dX14_longWork_224 rfl (lv_at hl 2 rfl) ?_
    refine lv_lload_n hx hb dX14_longWork_225 rfl (lv_at hl 3 rfl) ?_
    refine lv_lxor hx hb dX14_longWork_226 ?_
    refine lv_topl (fun z26 ez26 => ?_)
    obtain rfl : z26 = (y1 ^^^ y3) := ez26
    exact W.lret (v := (y1 ^^^ y3)) hx hb hr (fun t9 ht9 hW9 => ⟨⟨_, (), rfl, hf.trans hf0.symm, ⟨by rw [ht9]; exact hR.P, hR.D⟩⟩, hR.sS.F ht9⟩) hR.sS.2.2 dX14_longWork_227
  rw [if_neg c9_114] at hf
  (try rw [if_neg c9_114] at hd)
  by_cases c9_115 : x0.toInt = 115
  · refine lv_tableIn (off := 216) (tgt := 224) hx hb dX14_longWork_8 (by rw [c9_115]; decide) (by rw [c9_115]; decide) (by rw [c9_115]; rfl) (by decide) ?_
    rw [if_pos (c9_115)] at hf
    (try rw [if_pos (c9_115)] at hd)
    refine lv_lload_n hx hb dX14_longWork_224 rfl (lv_at hl 2 rfl) ?_
    refine lv_lload_n hx hb dX14_longWork_225 rfl (lv_at hl 3 rfl) ?_
    refine lv_lxor hx hb dX14_longWork_226 ?_
    refine lv_topl (fun z27 ez27 => ?_)
    obtain rfl : z27 = (y1 ^^^ y3) := ez27
    exact W.lret (v := (y1 ^^^ y3)) hx hb hr (fun t9 ht9 hW9 => ⟨⟨_, (), rfl, hf.trans hf0.symm, ⟨by rw [ht9]; exact hR.P, hR.D⟩⟩, hR.sS.F ht9⟩) hR.sS.2.2 dX14_longWork_227
  rw [if_neg c9_115] at hf
  (try rw [if_neg c9_115] at hd)
  by_cases c9_116 : x0.toInt = 116
  · refine lv_tableIn (off := 216) (tgt := 224) hx hb dX14_longWork_8 (by rw [c9_116]; decide) (by rw [c9_116]; decide) (by rw [c9_116]; rfl) (by decide) ?_
    rw [if_pos (c9_116)] at hf
    (try rw [if_pos (c9_116)] at hd)
    refine lv_lload_n hx hb dX14_longWork_224 rfl (lv_at hl 2 rfl) ?_
    refine lv_lload_n hx hb dX14_longWork_225 rfl (lv_at hl 3 rfl) ?_
    refine lv_lxor hx hb dX14_longWork_226 ?_
    refine lv_topl (fun z28 ez28 => ?_)
    obtain rfl : z28 = (y1 ^^^ y3) := ez28
    exact W.lret (v := (y1 ^^^ y3)) hx hb hr (fun t9 ht9 hW9 => ⟨⟨_, (), rfl, hf.trans hf0.symm, ⟨by rw [ht9]; exact hR.P, hR.D⟩⟩, hR.sS.F ht9⟩) hR.sS.2.2 dX14_longWork_227
  rw [if_neg c9_116] at hf
  (try rw [if_neg c9_116] at hd)
  by_cases c9_117 : x0.toInt = 117
  · refine lv_tableIn (off := 216) (tgt := 224) hx hb dX14_longWork_8 (by rw [c9_117]; decide) (by rw [c9_117]; decide) (by rw [c9_117]; rfl) (by decide) ?_
    rw [if_pos (c9_117)] at hf
    (try rw [if_pos (c9_117)] at hd)
    refine lv_lload_n hx hb dX14_longWork_224 rfl (lv_at hl 2 rfl) ?_
    refine lv_lload_n hx hb dX14_longWork_225 rfl (lv_at hl 3 rfl) ?_
    refine lv_lxor hx hb dX14_longWork_226 ?_
    refine lv_topl (fun z29 ez29 => ?_)
    obtain rfl : z29 = (y1 ^^^ y3) := ez29
    exact W.lret (v := (y1 ^^^ y3)) hx hb hr (fun t9 ht9 hW9 => ⟨⟨_, (), rfl, hf.trans hf0.symm, ⟨by rw [ht9]; exact hR.P, hR.D⟩⟩, hR.sS.F ht9⟩) hR.sS.2.2 dX14_longWork_227
  rw [if_neg c9_117] at hf
  (try rw [if_neg c9_117] at hd)
  by_cases c9_118 : x0.toInt = 118
  · refine lv_tableIn (off := 216) (tgt := 224) hx hb dX14_longWork_8 (by rw [c9_118]; decide) (by rw [c9_118]; decide) (by rw [c9_118]; rfl) (by decide) ?_
    rw [if_pos (c9_118)] at hf
    (try rw [if_pos (c9_118)] at hd)
    refine lv_lload_n hx hb dX14_longWork_224 rfl (lv_at hl 2 rfl) ?_
    refine lv_lload_n hx hb dX14_longWork_225 rfl (lv_at hl 3 rfl) ?_
    refine lv_lxor hx hb dX14_longWork_226 ?_
    refine lv_topl (fun z30 ez30 => ?_)
    obtain rfl : z30 = (y1 ^^^ y3) := ez30
    exact W.lret (v := (y1 ^^^ y3)) hx hb hr (fun t9 ht9 hW9 => ⟨⟨_, (), rfl, hf.trans hf0.symm, ⟨by rw [ht9]; exact hR.P, hR.D⟩⟩, hR.sS.F ht9⟩) hR.sS.2.2 dX14_longWork_227
  rw [if_neg c9_118] at hf
  (try rw [if_neg c9_118] at hd)
  by_cases c9_119 : x0.toInt = 119
  · refine lv_tableIn (off := 216) (tgt := 224) hx hb dX14_longWork_8 (by rw [c9_119]; decide) (by rw [c9_119]; decide) (by rw [c9_119]; rfl) (by decide) ?_
    rw [if_pos (c9_119)] at hf
    (try rw [if_pos (c9_119)] at hd)
    refine lv_lload_n hx hb dX14_longWork_224 rfl (lv_at hl 2 rfl) ?_
    refine lv_lload_n hx hb dX14_longWork_225 rfl (lv_at hl 3 rfl) ?_
    refine lv_lxor hx hb dX14_longWork_226 ?_
    refine lv_topl (fun z31 ez31 => ?_)
    obtain rfl : z31 = (y1 ^^^ y3) := ez31
    exact W.lret (v := (y1 ^^^ y3)) hx hb hr (fun t9 ht9 hW9 => ⟨⟨_, (), rfl, hf.trans hf0.symm, ⟨by rw [ht9]; exact hR.P, hR.D⟩⟩, hR.sS.F ht9⟩) hR.sS.2.2 dX14_longWork_227
  rw [if_neg c9_119] at hf
  (try rw [if_neg c9_119] at hd)
  by_cases c9_120 : x0.toInt = 120
  · refine lv_tableIn (off := 216) (tgt := 224) hx hb dX14_longWork_8 (by rw [c9_120]; decide) (by rw [c9_120]; decide) (by rw [c9_120]; rfl) (by decide) ?_
    rw [if_pos (c9_120)] at hf
    (try rw [if_pos (c9_120)] at hd)
    refine lv_lload_n hx hb dX14_longWork_224 rfl (lv_at hl 2 rfl) ?_
    refine lv_lload_n hx hb dX14_longWork_225 rfl (lv_at hl 3 rfl) ?_
    refine lv_lxor hx hb dX14_longWork_226 ?_
    refine lv_topl (fun z32 ez32 => ?_)
    obtain rfl : z32 = (y1 ^^^ y3) := ez32
    exact W.lret (v := (y1 ^^^ y3)) hx hb hr (fun t9 ht9 hW9 => ⟨⟨_, (), rfl, hf.trans hf0.symm, ⟨by rw [ht9]; exact hR.P, hR.D⟩⟩, hR.sS.F ht9⟩) hR.sS.2.2 dX14_longWork_227
  rw [if_neg c9_120] at hf
  (try rw [if_neg c9_120] at hd)
  by_cases c9_121 : x0.toInt = 121
  · refine lv_tableIn (off := 193) (tgt := 201) hx hb dX14_longWork_8 (by rw [c9_121]; decide) (by rw [c9_121]; decide) (by rw [c9_121]; rfl) (by decide) ?_
    rw [if_pos (c9_121)] at hf
    (try rw [if_pos (c9_121)] at hd)
    refine lv_lload_n hx hb dX14_longWork_201 rfl (lv_at hl 2 rfl) ?_
    refine lv_iload hx hb dX14_longWork_202 (lv_at hl 0 rfl) ?_
    refine lv_lshl (v := (y1 <<< (((y3.toInt32) &&& (63 : Int32)).toInt64 &&& 63))) hx hb dX14_longWork_204 rfl ?_
    exact W.lret (v := (y1 <<< (((y3.toInt32) &&& (63 : Int32)).toInt64 &&& 63))) hx hb hr (fun t9 ht9 hW9 => ⟨⟨_, (), rfl, hf.trans hf0.symm, ⟨by rw [ht9]; exact hR.P, hR.D⟩⟩, hR.sS.F ht9⟩) hR.sS.2.2 dX14_longWork_205
  rw [if_neg c9_121] at hf
  (try rw [if_neg c9_121] at hd)
  by_cases c9_122 : x0.toInt = 122
  · refine lv_tableIn (off := 216) (tgt := 224) hx hb dX14_longWork_8 (by rw [c9_122]; decide) (by rw [c9_122]; decide) (by rw [c9_122]; rfl) (by decide) ?_
    rw [if_pos (c9_122)] at hf
    (try rw [if_pos (c9_122)] at hd)
    refine lv_lload_n hx hb dX14_longWork_224 rfl (lv_at hl 2 rfl) ?_
    refine lv_lload_n hx hb dX14_longWork_225 rfl (lv_at hl 3 rfl) ?_
    refine lv_lxor hx hb dX14_longWork_226 ?_
    refine lv_topl (fun z33 ez33 => ?_)
    obtain rfl : z33 = (y1 ^^^ y3) := ez33
    exact W.lret (v := (y1 ^^^ y3)) hx hb hr (fun t9 ht9 hW9 => ⟨⟨_, (), rfl, hf.trans hf0.symm, ⟨by rw [ht9]; exact hR.P, hR.D⟩⟩, hR.sS.F ht9⟩) hR.sS.2.2 dX14_longWork_227
  rw [if_neg c9_122] at hf
  (try rw [if_neg c9_122] at hd)
  by_cases c9_123 : x0.toInt = 123
  · refine lv_tableIn (off := 198) (tgt := 206) hx hb dX14_longWork_8 (by rw [c9_123]; decide) (by rw [c9_123]; decide) (by rw [c9_123]; rfl) (by decide) ?_
    rw [if_pos (c9_123)] at hf
    (try rw [if_pos (c9_123)] at hd)
    refine lv_lload_n hx hb dX14_longWork_206 rfl (lv_at hl 2 rfl) ?_
    refine lv_iload hx hb dX14_longWork_207 (lv_at hl 0 rfl) ?_
    refine lv_lshr (v := (y1 >>> (((y3.toInt32) &&& (63 : Int32)).toInt64 &&& 63))) hx hb dX14_longWork_209 rfl ?_
    exact W.lret (v := (y1 >>> (((y3.toInt32) &&& (63 : Int32)).toInt64 &&& 63))) hx hb hr (fun t9 ht9 hW9 => ⟨⟨_, (), rfl, hf.trans hf0.symm, ⟨by rw [ht9]; exact hR.P, hR.D⟩⟩, hR.sS.F ht9⟩) hR.sS.2.2 dX14_longWork_210
  rw [if_neg c9_123] at hf
  (try rw [if_neg c9_123] at hd)
  by_cases c9_124 : x0.toInt = 124
  · refine lv_tableIn (off := 216) (tgt := 224) hx hb dX14_longWork_8 (by rw [c9_124]; decide) (by rw [c9_124]; decide) (by rw [c9_124]; rfl) (by decide) ?_
    rw [if_pos (c9_124)] at hf
    (try rw [if_pos (c9_124)] at hd)
    refine lv_lload_n hx hb dX14_longWork_224 rfl (lv_at hl 2 rfl) ?_
    refine lv_lload_n hx hb dX14_longWork_225 rfl (lv_at hl 3 rfl) ?_
    refine lv_lxor hx hb dX14_longWork_226 ?_
    refine lv_topl (fun z34 ez34 => ?_)
    obtain rfl : z34 = (y1 ^^^ y3) := ez34
    exact W.lret (v := (y1 ^^^ y3)) hx hb hr (fun t9 ht9 hW9 => ⟨⟨_, (), rfl, hf.trans hf0.symm, ⟨by rw [ht9]; exact hR.P, hR.D⟩⟩, hR.sS.F ht9⟩) hR.sS.2.2 dX14_longWork_227
  rw [if_neg c9_124] at hf
  (try rw [if_neg c9_124] at hd)
  by_cases c9_125 : x0.toInt = 125
  · refine lv_tableIn (off := 203) (tgt := 211) hx hb dX14_longWork_8 (by rw [c9_125]; decide) (by rw [c9_125]; decide) (by rw [c9_125]; rfl) (by decide) ?_
    rw [if_pos (c9_125)] at hf
    (try rw [if_pos (c9_125)] at hd)
    refine lv_lload_n hx hb dX14_longWork_211 rfl (lv_at hl 2 rfl) ?_
    refine lv_iload hx hb dX14_longWork_212 (lv_at hl 0 rfl) ?_
    refine lv_lushr (v := ((y1.toUInt64 >>> (((y3.toInt32) &&& (63 : Int32)).toInt64.toUInt64 &&& Int64.toUInt64 63)).toInt64)) hx hb dX14_longWork_214 rfl ?_
    exact W.lret (v := ((y1.toUInt64 >>> (((y3.toInt32) &&& (63 : Int32)).toInt64.toUInt64 &&& Int64.toUInt64 63)).toInt64)) hx hb hr (fun t9 ht9 hW9 => ⟨⟨_, (), rfl, hf.trans hf0.symm, ⟨by rw [ht9]; exact hR.P, hR.D⟩⟩, hR.sS.F ht9⟩) hR.sS.2.2 dX14_longWork_215
  rw [if_neg c9_125] at hf
  (try rw [if_neg c9_125] at hd)
  by_cases c9_126 : x0.toInt = 126
  · refine lv_tableIn (off := 216) (tgt := 224) hx hb dX14_longWork_8 (by rw [c9_126]; decide) (by rw [c9_126]; decide) (by rw [c9_126]; rfl) (by decide) ?_
    rw [if_pos (c9_126)] at hf
    (try rw [if_pos (c9_126)] at hd)
    refine lv_lload_n hx hb dX14_longWork_224 rfl (lv_at hl 2 rfl) ?_
    refine lv_lload_n hx hb dX14_longWork_225 rfl (lv_at hl 3 rfl) ?_
    refine lv_lxor hx hb dX14_longWork_226 ?_
    refine lv_topl (fun z35 ez35 => ?_)
    obtain rfl : z35 = (y1 ^^^ y3) := ez35
    exact W.lret (v := (y1 ^^^ y3)) hx hb hr (fun t9 ht9 hW9 => ⟨⟨_, (), rfl, hf.trans hf0.symm, ⟨by rw [ht9]; exact hR.P, hR.D⟩⟩, hR.sS.F ht9⟩) hR.sS.2.2 dX14_longWork_227
  rw [if_neg c9_126] at hf
  (try rw [if_neg c9_126] at hd)
  by_cases c9_127 : x0.toInt = 127
  · refine lv_tableIn (off := 208) (tgt := 216) hx hb dX14_longWork_8 (by rw [c9_127]; decide) (by rw [c9_127]; decide) (by rw [c9_127]; rfl) (by decide) ?_
    rw [if_pos (c9_127)] at hf
    (try rw [if_pos (c9_127)] at hd)
    refine lv_lload_n hx hb dX14_longWork_216 rfl (lv_at hl 2 rfl) ?_
    refine lv_lload_n hx hb dX14_longWork_217 rfl (lv_at hl 3 rfl) ?_
    refine lv_land hx hb dX14_longWork_218 ?_
    refine lv_topl (fun z36 ez36 => ?_)
    obtain rfl : z36 = (y1 &&& y3) := ez36
    exact W.lret (v := (y1 &&& y3)) hx hb hr (fun t9 ht9 hW9 => ⟨⟨_, (), rfl, hf.trans hf0.symm, ⟨by rw [ht9]; exact hR.P, hR.D⟩⟩, hR.sS.F ht9⟩) hR.sS.2.2 dX14_longWork_219
  rw [if_neg c9_127] at hf
  (try rw [if_neg c9_127] at hd)
  by_cases c9_128 : x0.toInt = 128
  · refine lv_tableIn (off := 216) (tgt := 224) hx hb dX14_longWork_8 (by rw [c9_128]; decide) (by rw [c9_128]; decide) (by rw [c9_128]; rfl) (by decide) ?_
    rw [if_pos (c9_128)] at hf
    (try rw [if_pos (c9_128)] at hd)
    refine lv_lload_n hx hb dX14_longWork_224 rfl (lv_at hl 2 rfl) ?_
    refine lv_lload_n hx hb dX14_longWork_225 rfl (lv_at hl 3 rfl) ?_
    refine lv_lxor hx hb dX14_longWork_226 ?_
    refine lv_topl (fun z37 ez37 => ?_)
    obtain rfl : z37 = (y1 ^^^ y3) := ez37
    exact W.lret (v := (y1 ^^^ y3)) hx hb hr (fun t9 ht9 hW9 => ⟨⟨_, (), rfl, hf.trans hf0.symm, ⟨by rw [ht9]; exact hR.P, hR.D⟩⟩, hR.sS.F ht9⟩) hR.sS.2.2 dX14_longWork_227
  rw [if_neg c9_128] at hf
  (try rw [if_neg c9_128] at hd)
  by_cases c9_129 : x0.toInt = 129
  · refine lv_tableIn (off := 212) (tgt := 220) hx hb dX14_longWork_8 (by rw [c9_129]; decide) (by rw [c9_129]; decide) (by rw [c9_129]; rfl) (by decide) ?_
    rw [if_pos (c9_129)] at hf
    (try rw [if_pos (c9_129)] at hd)
    refine lv_lload_n hx hb dX14_longWork_220 rfl (lv_at hl 2 rfl) ?_
    refine lv_lload_n hx hb dX14_longWork_221 rfl (lv_at hl 3 rfl) ?_
    refine lv_lor hx hb dX14_longWork_222 ?_
    refine lv_topl (fun z38 ez38 => ?_)
    obtain rfl : z38 = (y1 ||| y3) := ez38
    exact W.lret (v := (y1 ||| y3)) hx hb hr (fun t9 ht9 hW9 => ⟨⟨_, (), rfl, hf.trans hf0.symm, ⟨by rw [ht9]; exact hR.P, hR.D⟩⟩, hR.sS.F ht9⟩) hR.sS.2.2 dX14_longWork_223
  rw [if_neg c9_129] at hf
  (try rw [if_neg c9_129] at hd)
  refine lv_tableOut (tgt := 224) hx hb dX14_longWork_8 (by omega) (by decide) ?_
  refine lv_lload_n hx hb dX14_longWork_224 rfl (lv_at hl 2 rfl) ?_
  refine lv_lload_n hx hb dX14_longWork_225 rfl (lv_at hl 3 rfl) ?_
  refine lv_lxor hx hb dX14_longWork_226 ?_
  refine lv_topl (fun z39 ez39 => ?_)
  obtain rfl : z39 = (y1 ^^^ y3) := ez39
  exact W.lret (v := (y1 ^^^ y3)) hx hb hr (fun t9 ht9 hW9 => ⟨⟨_, (), rfl, hf.trans hf0.symm, ⟨by rw [ht9]; exact hR.P, hR.D⟩⟩, hR.sS.F ht9⟩) hR.sS.2.2 dX14_longWork_227
def f_turned (S : MS) (x0 : Int32) (y1 : Int64) : Int64 := (if x0.toInt = 133 then ((y1.toInt32).toInt64) else (if x0.toInt = 136 then ((y1.toInt32).toInt64) else (if x0.toInt = 145 then (((y1.toInt32).toInt8.toInt32).toInt64) else (if x0.toInt = 146 then (y1 &&& (65535 : Int64)) else (((y1.toInt32).toInt16.toInt32).toInt64)))))
def d_turned (S : MS) (x0 : Int32) (y1 : Int64) : Prop := True
set_option maxHeartbeats 2000000 in
set_option maxRecDepth 100000 in
theorem r_turned (l : Launch) (g : Gr) (ad : Nat → Nat) (sz : Nat) (S : MS) (x0 : Int32) (y1 : Int64) (hw : wfM S) (hd : d_turned S x0 y1) : Met l yX14_turned (wt2 yX14_turned cX14_turned 3 (some .long)) ({ frames := 0, cells := 0, slots := 0, locals := 0 }) (va_Pc [.int x0, .long y1] (st_R g ad sz S)) (va_Ql (fun (r : Int64) (_ : Unit) => r = f_turned S x0 y1) (fun (_ : Unit) (t : State) => qE g ad (va_A (Wd g ad S) sz) S t) (va_A (Wd g ad S) sz)) 0 0 (va_A (Wd g ad S) sz) := by
  refine Met.ofW (cc := cX14_turned) (maxL := 3) (ret := (some .long)) (by decide) rfl ?_
  intro p e s m args below meth c s₁ B hml hv
  obtain ⟨rfl, hsz, hP, hK, hD0, hex, hE⟩ := hv
  have hx := B.exec
  have hb := B.bytes
  have hr := B.returns
  have hts0 := atoms_spec (ws := wt2 yX14_turned cX14_turned 3 (some .long)) B.pre
  have hts : ∀ w ∈ tb2, w.before _ s = true := fun w h => hts0 w (List.mem_cons_of_mem _ h)
  have hown : s.vm.findClass RX14 = some m.cls := findClass_of_methodNamed B.named
  subst hsz
  have hD := hD0.self (sz := s.heap.size)
  generalize hAe : va_A (Wd g ad S) s.heap.size = A at hD hE ⊢
  have hA : ∀ q : Nat, s.heap.size ≤ q → A q := fun q h => by rw [← hAe]; exact Or.inr h
  have hR : Rep g ad A s S s.heap [] := ⟨hK, hP, hD, va_S.rf, hw⟩
  clear hK hP hD hD0
  have hl := lv_entry ([.int x0, .long y1]) (n := 3) (Nat.le_of_ble_eq_true rfl)
  rw [lg_entry_eq]
  generalize (lg_sl ([.int x0, .long y1]) ++ List.replicate (3 - (lg_sl ([.int x0, .long y1])).length) Slot.unset).toArray = ls at hl ⊢
  have hl : lv_has ls 3 [(0, .int x0), (1, .long y1)] := hl
  obtain ⟨r0, hf⟩ : ∃ r0, f_turned S x0 y1 = r0 := ⟨_, rfl⟩
  have hf0 := hf
  unfold f_turned at hf
  unfold d_turned at hd
  refine lv_iload_n hx hb dX14_turned_0 rfl (lv_at hl 0 rfl) ?_
  refine lv_sipush (v := 133) hx hb dX14_turned_1 (by decide) ?_
  refine lv_icmp_ne (tgt := 13) hx hb dX14_turned_4 (by decide) (fun c1 => ?_) (fun c1 => ?_)
  · rw [if_neg (k_ne rfl (by decide) c1)] at hf
    (try rw [if_neg (k_ne rfl (by decide) c1)] at hd)
    refine lv_iload_n hx hb dX14_turned_13 rfl (lv_at hl 0 rfl) ?_
    refine lv_sipush (v := 136) hx hb dX14_turned_14 (by decide) ?_
    refine lv_icmp_ne (tgt := 26) hx hb dX14_turned_17 (by decide) (fun c2 => ?_) (fun c2 => ?_)
    · rw [if_neg (k_ne rfl (by decide) c2)] at hf
      (try rw [if_neg (k_ne rfl (by decide) c2)] at hd)
      refine lv_iload_n hx hb dX14_turned_26 rfl (lv_at hl 0 rfl) ?_
      refine lv_sipush (v := 145) hx hb dX14_turned_27 (by decide) ?_
      refine lv_icmp_ne (tgt := 40) hx hb dX14_turned_30 (by decide) (fun c3 => ?_) (fun c3 => ?_)
      · rw [if_neg (k_ne rfl (by decide) c3)] at hf
        (try rw [if_neg (k_ne rfl (by decide) c3)] at hd)
        refine lv_iload_n hx hb dX14_turned_40 rfl (lv_at hl 0 rfl) ?_
        refine lv_sipush (v := 146) hx hb dX14_turned_41 (by decide) ?_
        refine lv_icmp_ne (tgt := 55) hx hb dX14_turned_44 (by decide) (fun c4 => ?_) (fun c4 => ?_)
        · rw [if_neg (k_ne rfl (by decide) c4)] at hf
          (try rw [if_neg (k_ne rfl (by decide) c4)] at hd)
          refine lv_lload_n hx hb dX14_turned_55 rfl (lv_at hl 1 rfl) ?_
          refine lv_l2i (v := (y1.toInt32)) hx hb dX14_turned_56 rfl ?_
          refine lv_i2s (v := ((y1.toInt32).toInt16.toInt32)) hx hb dX14_turned_57 rfl ?_
          refine lv_i2l (v := (((y1.toInt32).toInt16.toInt32).toInt64)) hx hb dX14_turned_58 rfl ?_
          exact W.lret (v := (((y1.toInt32).toInt16.toInt32).toInt64)) hx hb hr (fun t9 ht9 hW9 => ⟨⟨_, (), rfl, hf.trans hf0.symm, ⟨by rw [ht9]; exact hR.P, hR.D⟩⟩, hR.sS.F ht9⟩) hR.sS.2.2 dX14_turned_59
        · rw [if_pos (k_eq rfl (by decide) c4)] at hf
          (try rw [if_pos (k_eq rfl (by decide) c4)] at hd)
          refine lv_lload_n hx hb dX14_turned_47 rfl (lv_at hl 1 rfl) ?_
          refine lv_ldc2 hx hb hown (hts _ kx_657) dX14_turned_48 ?_
          refine lv_land hx hb dX14_turned_51 ?_
          refine lv_topl (fun z5 ez5 => ?_)
          obtain rfl : z5 = (y1 &&& (65535 : Int64)) := ez5
          refine lv_goto (tgt := 59) hx hb dX14_turned_52 (by decide) ?_
          exact W.lret (v := (y1 &&& (65535 : Int64))) hx hb hr (fun t9 ht9 hW9 => ⟨⟨_, (), rfl, hf.trans hf0.symm, ⟨by rw [ht9]; exact hR.P, hR.D⟩⟩, hR.sS.F ht9⟩) hR.sS.2.2 dX14_turned_59
      · rw [if_pos (k_eq rfl (by decide) c3)] at hf
        (try rw [if_pos (k_eq rfl (by decide) c3)] at hd)
        refine lv_lload_n hx hb dX14_turned_33 rfl (lv_at hl 1 rfl) ?_
        refine lv_l2i (v := (y1.toInt32)) hx hb dX14_turned_34 rfl ?_
        refine lv_i2b (v := ((y1.toInt32).toInt8.toInt32)) hx hb dX14_turned_35 rfl ?_
        refine lv_i2l (v := (((y1.toInt32).toInt8.toInt32).toInt64)) hx hb dX14_turned_36 rfl ?_
        refine lv_goto (tgt := 59) hx hb dX14_turned_37 (by decide) ?_
        exact W.lret (v := (((y1.toInt32).toInt8.toInt32).toInt64)) hx hb hr (fun t9 ht9 hW9 => ⟨⟨_, (), rfl, hf.trans hf0.symm, ⟨by rw [ht9]; exact hR.P, hR.D⟩⟩, hR.sS.F ht9⟩) hR.sS.2.2 dX14_turned_59
    · rw [if_pos (k_eq rfl (by decide) c2)] at hf
      (try rw [if_pos (k_eq rfl (by decide) c2)] at hd)
      refine lv_lload_n hx hb dX14_turned_20 rfl (lv_at hl 1 rfl) ?_
      refine lv_l2i (v := (y1.toInt32)) hx hb dX14_turned_21 rfl ?_
      refine lv_i2l (v := ((y1.toInt32).toInt64)) hx hb dX14_turned_22 rfl ?_
      refine lv_goto (tgt := 59) hx hb dX14_turned_23 (by decide) ?_
      exact W.lret (v := ((y1.toInt32).toInt64)) hx hb hr (fun t9 ht9 hW9 => ⟨⟨_, (), rfl, hf.trans hf0.symm, ⟨by rw [ht9]; exact hR.P, hR.D⟩⟩, hR.sS.F ht9⟩) hR.sS.2.2 dX14_turned_59
  · rw [if_pos (k_eq rfl (by decide) c1)] at hf
    (try rw [if_pos (k_eq rfl (by decide) c1)] at hd)
    refine lv_lload_n hx hb dX14_turned_7 rfl (lv_at hl 1 rfl) ?_
    refine lv_l2i (v := (y1.toInt32)) hx hb dX14_turned_8 rfl ?_
    refine lv_i2l (v := ((y1.toInt32).toInt64)) hx hb dX14_turned_9 rfl ?_
    refine lv_goto (tgt := 59) hx hb dX14_turned_10 (by decide) ?_
    exact W.lret (v := ((y1.toInt32).toInt64)) hx hb hr (fun t9 ht9 hW9 => ⟨⟨_, (), rfl, hf.trans hf0.symm, ⟨by rw [ht9]; exact hR.P, hR.D⟩⟩, hR.sS.F ht9⟩) hR.sS.2.2 dX14_turned_59
def w_called_L88 (Q : MS → Prop) : Nat → MS → Int32 → Int32 → Int32 → Prop
  | 0, _, _, _, _ => False
  | n88 + 1, U88, v88_3, v88_5, v88_6 => ((v88_5.toInt ≤ v88_6.toInt → Q U88) ∧ (¬ v88_5.toInt ≤ v88_6.toInt → (d_slot U88 v88_6 ∧ (((0 : Int) ≤ (v88_3 + v88_6).toInt ∧ (v88_3 + v88_6).toInt < 1440) ∧ (((0 : Int) ≤ (f_slot U88 v88_6).toInt ∧ (f_slot U88 v88_6).toInt < 1440) ∧ (∀ S44, S44 = wJ U88 45 (((f_slot U88 v88_6).toInt).toNat) (qJ U88 46 (((v88_3 + v88_6).toInt).toNat)) → (d_slot S44 v88_6 ∧ (((0 : Int) ≤ (v88_3 + v88_6).toInt ∧ (v88_3 + v88_6).toInt < 1440) ∧ (((0 : Int) ≤ (f_slot S44 v88_6).toInt ∧ (f_slot S44 v88_6).toInt < 1440) ∧ (∀ S52, S52 = wI S44 47 (((f_slot S44 v88_6).toInt).toNat) (vp_nar .byte (qI S44 48 (((v88_3 + v88_6).toInt).toNat))) → (∀ a53 : Int32, a53 = (v88_6 + Int32.ofInt 1) → (w_called_L88 Q n88) S52 v88_3 v88_5 a53)))))))))))
def w_called (S : MS) (x1 : Int32) (Q : MS → Prop) : Prop := (((qI S 0 97).toInt = 60 → (∀ S54, S54 = wI S 0 98 3 → Q S54)) ∧ (¬ (qI S 0 97).toInt = 60 → ((qR S 0 80 = some (qO S 0 80)) ∧ ((qR S (qO S 0 80) 10 = some (qO S (qO S 0 80) 10)) ∧ (((0 : Int) ≤ x1.toInt ∧ x1.toInt < (qN S (qO S (qO S 0 80) 10) : Int)) ∧ ((qR S (qO S (qO S 0 80) 10) x1.toInt.toNat = some (qO S (qO S (qO S 0 80) 10) x1.toInt.toNat)) ∧ (d_slot S (0 : Int32) ∧ (((0 : Int) ≤ ((qI S 0 97) - (1 : Int32)).toInt ∧ ((qI S 0 97) - (1 : Int32)).toInt < 60) ∧ (∃ Q16, w_placesOf S (qO S (qO S (qO S 0 80) 10) x1.toInt.toNat) Q16 ∧ ∀ r17 S18, Q16 r17 S18 → (∀ a21 : Int32, a21 = (((f_slot S (0 : Int32)) + (qI S 44 ((((qI S 0 97) - (1 : Int32)).toInt).toNat))) - r17) → (∀ a25 : Int32, a25 = (a21 - ((24 : Int32) * ((qI S18 0 97) - (1 : Int32)))) → (((0 : Int) ≤ ((qI S18 0 97) - (1 : Int32)).toInt ∧ ((qI S18 0 97) - (1 : Int32)).toInt < 60) ∧ (∀ S28, S28 = wI S18 44 ((((qI S18 0 97) - (1 : Int32)).toInt).toNat) a25 → (∃ Q29, w_enter S28 x1 Q29 ∧ ∀ S30, Q29 S30 → (∃ Q32, w_placesOf S30 (qO S (qO S (qO S 0 80) 10) x1.toInt.toNat) Q32 ∧ ∀ r33 S34, Q32 r33 S34 → (∃ n, w_called_L88 Q n S34 a21 r33 0))))))))))))))))
set_option maxHeartbeats 2000000 in
set_option maxRecDepth 100000 in
theorem r_called (l : Launch) (g : Gr) (ad : Nat → Nat) (sz : Nat) (S : MS) (x1 : Int32) (hw : wfM S) (Q : MS → Prop) (h : w_called S x1 Q) : Met l yX14_called (wt2 yX14_called cX14_called 7 none) ({ frames := 5, cells := 0, slots := 0, locals := 107 }) (va_Pc [.ref (ad 0), .int x1] (st_R g ad sz S)) (va_Qv (fun (u : MS) => Q u ∧ wfM u ∧ shy S u) (fun (u : MS) (t : State) => qE g ad (va_A (Wd g ad S) sz) u t) (va_A (Wd g ad S) sz)) 0 0 (va_A (Wd g ad S) sz) := by
  refine Met.ofW (cc := cX14_called) (maxL := 7) (ret := none) (by decide) rfl ?_
  intro p e s m args below meth c s₁ B hml hv
  obtain ⟨rfl, hsz, hP, hK, hD0, hex, hE⟩ := hv
  have hx := B.exec
  have hb := B.bytes
  have hr := B.returns
  have hts0 := atoms_spec (ws := wt2 yX14_called cX14_called 7 none) B.pre
  have hts : ∀ w ∈ tb2, w.before _ s = true := fun w h => hts0 w (List.mem_cons_of_mem _ h)
  have hown : s.vm.findClass RX14 = some m.cls := findClass_of_methodNamed B.named
  subst hsz
  have hD := hD0.self (sz := s.heap.size)
  generalize hAe : va_A (Wd g ad S) s.heap.size = A at hD hE ⊢
  have hA : ∀ q : Nat, s.heap.size ≤ q → A q := fun q h => by rw [← hAe]; exact Or.inr h
  have hR : Rep g ad A s S s.heap [] := ⟨hK, hP, hD, va_S.rf, hw⟩
  clear hK hP hD hD0
  have hl := lv_entry ([.ref (ad 0), .int x1]) (n := 7) (Nat.le_of_ble_eq_true rfl)
  rw [lg_entry_eq]
  generalize (lg_sl ([.ref (ad 0), .int x1]) ++ List.replicate (7 - (lg_sl ([.ref (ad 0), .int x1])).length) Slot.unset).toArray = ls at hl ⊢
  have hl : lv_has ls 7 [(0, .ref (ad 0)), (1, .int x1)] := hl
  have hsh : shy S S := shy.rf
  unfold w_called at h
  refine lv_aload_n hx hb dX14_called_0 rfl (lv_at hl 0 rfl) ?_
  refine va_get (D := rD g) (ci := 13) (v := .int (qI S 0 97)) (C := RX14) (T := TX14) (N := 143) hx hb hts in2X14 hown hR.K hR.P 0 (hR.at14 hR.w.1) rfl 97 (by decide) (hts _ kx_616) (fun _ h9 => h9) rfl dX14_called_1 ?_
  refine lv_bipush (v := 60) hx hb dX14_called_4 (by decide) ?_
  refine lv_icmp_ne (tgt := 15) hx hb dX14_called_6 (by decide) (fun c1 => ?_) (fun c1 => ?_)
  · replace h := h.2 (k_ne rfl (by decide) c1)
    refine lv_aload_n hx hb dX14_called_15 rfl (lv_at hl 0 rfl) ?_
    obtain ⟨hv2, h⟩ := h
    have hT_b3 : qT S (qO S 0 80) = 11 := hR.w.ref hv2 hR.w.1
    refine va_get (D := rD g) (ci := 13) (v := .ref (ad (qO S 0 80))) (C := RX14) (T := TX14) (N := 143) hx hb hts in2X14 hown hR.K hR.P 0 (hR.at14 hR.w.1) rfl 80 (by decide) (hts _ kx_608) (fun _ h9 => h9) (congrArg (fun z => some (vf ad z)) hv2) dX14_called_16 ?_
    obtain ⟨hv4, h⟩ := h
    have hT_b5 : qT S (qO S (qO S 0 80) 10) = 5 := hR.w.ref hv4 hT_b3
    refine va_get (D := rD g) (ci := 12) (v := .ref (ad (qO S (qO S 0 80) 10))) (C := RX13) (T := TX13) (N := 23) hx hb hts in2X13 hown hR.K hR.P (qO S 0 80) (hR.at13 hT_b3) rfl 10 (by decide) (hts _ kx_398) (fun _ h9 => h9) (congrArg (fun z => some (vf ad z)) hv4) dX14_called_19 ?_
    refine lv_iload_n hx hb dX14_called_22 rfl (lv_at hl 1 rfl) ?_
    obtain ⟨hv6, h⟩ := h
    refine va_aldq hx hb hR.K hR.P (qO S (qO S 0 80) 10) 4 (hR.atS hT_b5) rfl (k_ix (x := x1) (a := x1.toInt) rfl hv6) dX14_called_23 ?_
    obtain ⟨hv7, h⟩ := h
    have hT_b8 : qT S (qO S (qO S (qO S 0 80) 10) x1.toInt.toNat) = 12 := hR.w.ref hv7 hT_b5
    rw [show va_rf (Option.map ad (qR S (qO S (qO S 0 80) 10) (x1 : Int32).toNatClampNeg)) = .ref (ad (qO S (qO S (qO S 0 80) 10) x1.toInt.toNat)) from congrArg (fun z => vf ad z) hv7]
    refine lv_astore_n (lv' := [(2, .ref (ad (qO S (qO S (qO S 0 80) 10) x1.toInt.toNat))), (0, .ref (ad 0)), (1, .int x1)]) hx hb dX14_called_24 rfl hl (by decide) rfl (fun ls hl => ?_)
    refine lv_aload_n hx hb dX14_called_25 rfl (lv_at hl 1 rfl) ?_
    refine lv_iconst (v := 0) hx hb dX14_called_26 (by decide) ?_
    obtain ⟨hv9, h⟩ := h
    have hFc := rfree hR hA
    refine va_calli (va_runV (As := [.int 0]) (rest := []) ⟨hx, hb, hml, hown, hts⟩ (r_slot l g ad s.heap.size S (0 : Int32) hR.w  hv9) (cwV 1 hts (gd2_V kx_658 kx_659 kx_660 kx_177 kx_661) rfl rfl rfl (by decide +kernel) ⟨Nat.le_of_ble_eq_true rfl, Nat.le_of_ble_eq_true rfl⟩) ⟨rblind, va_recv hR.K hR.P (ci := 13) (q0 := 0) rfl (hR.at14 hR.w.1), fun U hU hW9 => rmk hU hW9 hR hex hE hFc⟩ rfl rfl hl.1 rfl (lv_room (Nat.le_of_ble_eq_true rfl)) dX14_called_27 ⟨Nat.le_of_ble_eq_true rfl, Nat.le_of_ble_eq_true rfl⟩) hR.sS (fun q _ h => hFc q h) hFc (fun r10 u9 t9 H1 locs ht9 hvm9 hw9 hB9 hz9 hk9 hS => ?_)
    have hR : Rep g ad A s S H1 locs := hR.call ht9 hB9 hR.w hS hFc
    obtain rfl : r10 = (f_slot S (0 : Int32)) := hw9
    clear hB9 hz9 hk9 hvm9 ht9 hS
    generalize H1 = H at hR ⊢
    refine lv_aload_n hx hb dX14_called_30 rfl (lv_at hl 1 rfl) ?_
    refine va_get (D := rD g) (ci := 13) (v := .ref (ad 44)) (C := RX14) (T := TX14) (N := 143) hx hb hts in2X14 hown hR.K hR.P 0 (hR.at14 hR.w.1) rfl 91 (by decide) (hts _ kx_623) (fun _ h9 => h9) (congrArg (fun z => some (vf ad z)) (hR.w.2.1 _ fin_91).1) dX14_called_31 ?_
    refine lv_aload_n hx hb dX14_called_34 rfl (lv_at hl 1 rfl) ?_
    refine va_get (D := rD g) (ci := 13) (v := .int (qI S 0 97)) (C := RX14) (T := TX14) (N := 143) hx hb hts in2X14 hown hR.K hR.P 0 (hR.at14 hR.w.1) rfl 97 (by decide) (hts _ kx_616) (fun _ h9 => h9) rfl dX14_called_35 ?_
    refine lv_iconst (v := 1) hx hb dX14_called_38 (by decide) ?_
    refine lv_isub hx hb dX14_called_39 ?_
    refine lv_topi (fun z12 ez12 => ?_)
    obtain rfl : z12 = ((qI S 0 97) - (1 : Int32)) := ez12
    obtain ⟨hv13, h⟩ := h
    refine va_iald hx hb hR.K hR.P 44 1 (hR.atI (hR.w.2.1 _ fin_91).2.1) rfl (k_ixN (k_ix (n := 60) (x := ((qI S 0 97) - (1 : Int32))) (a := ((qI S 0 97) - (1 : Int32)).toInt) rfl hv13) (hR.w.2.1 _ fin_91).2.2) dX14_called_40 ?_
    refine lv_topi (fun z14 ez14 => ?_)
    obtain rfl : z14 = (qI S 44 ((((qI S 0 97) - (1 : Int32)).toInt).toNat)) := ez14
    refine lv_iadd hx hb dX14_called_41 ?_
    refine lv_topi (fun z15 ez15 => ?_)
    obtain rfl : z15 = ((f_slot S (0 : Int32)) + (qI S 44 ((((qI S 0 97) - (1 : Int32)).toInt).toNat))) := ez15
    refine lv_aload_n hx hb dX14_called_42 rfl (lv_at hl 0 rfl) ?_
    obtain ⟨Q16, h0, h⟩ := h
    have hFc := rfree hR hA
    refine va_calli (va_runS (As := [.ref (ad (qO S (qO S (qO S 0 80) 10) x1.toInt.toNat))]) (rest := [.int ((f_slot S (0 : Int32)) + (qI S 44 ((((qI S 0 97) - (1 : Int32)).toInt).toNat)))]) ⟨hx, hb, hml, hown, hts⟩ (r_placesOf l g ad H.size S (qO S (qO S (qO S 0 80) 10) x1.toInt.toNat) hR.w hT_b8 Q16 h0) (va_cwS 1 hts (gd2_S kx_407 kx_408 kx_177 kx_409) rfl rfl rfl (by decide +kernel) ⟨Nat.le_of_ble_eq_true rfl, Nat.le_of_ble_eq_true rfl⟩) ⟨rblind, fun U hU hW9 => rmk hU hW9 hR hex hE hFc⟩ rfl rfl hl.1 rfl (lv_room (Nat.le_of_ble_eq_true rfl)) dX14_called_43 ⟨Nat.le_of_ble_eq_true rfl, Nat.le_of_ble_eq_true rfl⟩) hR.sS (fun q _ h => hFc q h) hFc (fun r17 S18 t9 H1 locs ht9 hvm9 hw9 hB9 hz9 hk9 hS => ?_)
    obtain ⟨hq19, hw9, hs9⟩ := hw9
    have hR : Rep g ad A s S18 H1 locs := hR.call ht9 hB9 hw9 hS hFc
    have hsh := hsh.tr hs9
    replace h := h r17 S18 hq19
    have hT_b8 := hs9.T hT_b8 (by decide)
    clear hB9 hz9 hk9 hvm9 ht9 hw9 hs9 hS
    generalize H1 = H at hR ⊢
    refine lv_isub hx hb dX14_called_46 ?_
    refine lv_topi (fun z20 ez20 => ?_)
    obtain rfl : z20 = (((f_slot S (0 : Int32)) + (qI S 44 ((((qI S 0 97) - (1 : Int32)).toInt).toNat))) - r17) := ez20
    obtain ⟨a21, ea21⟩ : ∃ z, z = (((f_slot S (0 : Int32)) + (qI S 44 ((((qI S 0 97) - (1 : Int32)).toInt).toNat))) - r17) := ⟨_, rfl⟩
    rw [← ea21]
    replace h := h a21 ea21
    refine lv_istore_n (lv' := [(3, .int a21), (2, .ref (ad (qO S (qO S (qO S 0 80) 10) x1.toInt.toNat))), (0, .ref (ad 0)), (1, .int x1)]) hx hb dX14_called_47 rfl hl (by decide) rfl (fun ls hl => ?_)
    refine lv_iload_n hx hb dX14_called_48 rfl (lv_at hl 0 rfl) ?_
    refine lv_bipush (v := 24) hx hb dX14_called_49 (by decide) ?_
    refine lv_aload_n hx hb dX14_called_51 rfl (lv_at hl 2 rfl) ?_
    refine va_get (D := rD g) (ci := 13) (v := .int (qI S18 0 97)) (C := RX14) (T := TX14) (N := 143) hx hb hts in2X14 hown hR.K hR.P 0 (hR.at14 hR.w.1) rfl 97 (by decide) (hts _ kx_616) (fun _ h9 => h9) rfl dX14_called_52 ?_
    refine lv_iconst (v := 1) hx hb dX14_called_55 (by decide) ?_
    refine lv_isub hx hb dX14_called_56 ?_
    refine lv_topi (fun z22 ez22 => ?_)
    obtain rfl : z22 = ((qI S18 0 97) - (1 : Int32)) := ez22
    refine lv_imul hx hb dX14_called_57 ?_
    refine lv_topi (fun z23 ez23 => ?_)
    obtain rfl : z23 = ((24 : Int32) * ((qI S18 0 97) - (1 : Int32))) := ez23
    refine lv_isub hx hb dX14_called_58 ?_
    refine lv_topi (fun z24 ez24 => ?_)
    obtain rfl : z24 = (a21 - ((24 : Int32) * ((qI S18 0 97) - (1 : Int32)))) := ez24
    obtain ⟨a25, ea25⟩ : ∃ z, z = (a21 - ((24 : Int32) * ((qI S18 0 97) - (1 : Int32)))) := ⟨_, rfl⟩
    rw [← ea25]
    replace h := h a25 ea25
    refine lv_istore (lv' := [(4, .int a25), (3, .int a21), (2, .ref (ad (qO S (qO S (qO S 0 80) 10) x1.toInt.toNat))), (0, .ref (ad 0)), (1, .int x1)]) hx hb dX14_called_59 hl (by decide) rfl (fun ls hl => ?_)
    refine lv_aload_n hx hb dX14_called_61 rfl (lv_at hl 3 rfl) ?_
    refine va_get (D := rD g) (ci := 13) (v := .ref (ad 44)) (C := RX14) (T := TX14) (N := 143) hx hb hts in2X14 hown hR.K hR.P 0 (hR.at14 hR.w.1) rfl 91 (by decide) (hts _ kx_623) (fun _ h9 => h9) (congrArg (fun z => some (vf ad z)) (hR.w.2.1 _ fin_91).1) dX14_called_62 ?_
    refine lv_aload_n hx hb dX14_called_65 rfl (lv_at hl 3 rfl) ?_
    refine va_get (D := rD g) (ci := 13) (v := .int (qI S18 0 97)) (C := RX14) (T := TX14) (N := 143) hx hb hts in2X14 hown hR.K hR.P 0 (hR.at14 hR.w.1) rfl 97 (by decide) (hts _ kx_616) (fun _ h9 => h9) rfl dX14_called_66 ?_
    refine lv_iconst (v := 1) hx hb dX14_called_69 (by decide) ?_
    refine lv_isub hx hb dX14_called_70 ?_
    refine lv_topi (fun z26 ez26 => ?_)
    obtain rfl : z26 = ((qI S18 0 97) - (1 : Int32)) := ez26
    refine lv_iload hx hb dX14_called_71 (lv_at hl 0 rfl) ?_
    obtain ⟨hv27, h⟩ := h
    refine va_iast hx hb hR.K hR.P hR.D hR.sS 44 1 (hR.atI (hR.w.2.1 _ fin_91).2.1) rfl (k_ixN (k_ix (n := 60) (x := ((qI S18 0 97) - (1 : Int32))) (a := ((qI S18 0 97) - (1 : Int32)).toInt) rfl hv27) (hR.w.2.1 _ fin_91).2.2) dX14_called_73 (fun H locs hP hD hS => ?_)
    have hR : Rep g ad A s (wI S18 44 ((((qI S18 0 97) - (1 : Int32)).toInt).toNat) a25) H locs := hR.aI (hR.w.2.1 _ fin_91).2.1 hP hD hS
    obtain ⟨S28, eS28⟩ : ∃ z, z = wI S18 44 ((((qI S18 0 97) - (1 : Int32)).toInt).toNat) a25 := ⟨_, rfl⟩
    rw [← eS28] at hR
    replace h := h S28 eS28
    have hT_b8 : qT S28 (qO S (qO S (qO S 0 80) 10) x1.toInt.toNat) = 12 := (congrArg (fun z => qT z (qO S (qO S (qO S 0 80) 10) x1.toInt.toNat)) eS28).trans hT_b8
    have hsh : shy S S28 := by rw [eS28]; exact hsh
    refine lv_aload_n hx hb dX14_called_74 rfl (lv_at hl 3 rfl) ?_
    refine lv_iload_n hx hb dX14_called_75 rfl (lv_at hl 4 rfl) ?_
    obtain ⟨Q29, h0, h⟩ := h
    have hFc := rfree hR hA
    refine va_callv (va_runV (As := [.int x1]) (rest := []) ⟨hx, hb, hml, hown, hts⟩ (r_enter l g ad H.size S28 x1 hR.w  Q29 h0) (cwV 1 hts (gd2_V kx_662 kx_663 kx_664 kx_177 kx_665) rfl rfl rfl (by decide +kernel) ⟨Nat.le_of_ble_eq_true rfl, Nat.le_of_ble_eq_true rfl⟩) ⟨rblind, va_recv hR.K hR.P (ci := 13) (q0 := 0) rfl (hR.at14 hR.w.1), fun U hU hW9 => rmk hU hW9 hR hex hE hFc⟩ rfl rfl hl.1 rfl (lv_room (Nat.le_of_ble_eq_true rfl)) dX14_called_76 ⟨Nat.le_of_ble_eq_true rfl, Nat.le_of_ble_eq_true rfl⟩) hR.sS (fun q _ h => hFc q h) hFc (fun  S30 t9 H1 locs ht9 hvm9 hw9 hB9 hz9 hk9 hS => ?_)
    obtain ⟨hq31, hw9, hs9⟩ := hw9
    have hR : Rep g ad A s S30 H1 locs := hR.call ht9 hB9 hw9 hS hFc
    have hsh := hsh.tr hs9
    replace h := h  S30 hq31
    have hT_b8 := hs9.T hT_b8 (by decide)
    clear hB9 hz9 hk9 hvm9 ht9 hw9 hs9 hS
    generalize H1 = H at hR ⊢
    refine lv_aload_n hx hb dX14_called_79 rfl (lv_at hl 2 rfl) ?_
    obtain ⟨Q32, h0, h⟩ := h
    have hFc := rfree hR hA
    refine va_calli (va_runS (As := [.ref (ad (qO S (qO S (qO S 0 80) 10) x1.toInt.toNat))]) (rest := []) ⟨hx, hb, hml, hown, hts⟩ (r_placesOf l g ad H.size S30 (qO S (qO S (qO S 0 80) 10) x1.toInt.toNat) hR.w hT_b8 Q32 h0) (va_cwS 1 hts (gd2_S kx_407 kx_408 kx_177 kx_409) rfl rfl rfl (by decide +kernel) ⟨Nat.le_of_ble_eq_true rfl, Nat.le_of_ble_eq_true rfl⟩) ⟨rblind, fun U hU hW9 => rmk hU hW9 hR hex hE hFc⟩ rfl rfl hl.1 rfl (lv_room (Nat.le_of_ble_eq_true rfl)) dX14_called_80 ⟨Nat.le_of_ble_eq_true rfl, Nat.le_of_ble_eq_true rfl⟩) hR.sS (fun q _ h => hFc q h) hFc (fun r33 S34 t9 H1 locs ht9 hvm9 hw9 hB9 hz9 hk9 hS => ?_)
    obtain ⟨hq35, hw9, hs9⟩ := hw9
    have hR : Rep g ad A s S34 H1 locs := hR.call ht9 hB9 hw9 hS hFc
    have hsh := hsh.tr hs9
    replace h := h r33 S34 hq35
    have hT_b8 := hs9.T hT_b8 (by decide)
    clear hB9 hz9 hk9 hvm9 ht9 hw9 hs9 hS
    generalize H1 = H at hR ⊢
    refine lv_istore (lv' := [(5, .int r33), (4, .int a25), (3, .int a21), (2, .ref (ad (qO S (qO S (qO S 0 80) 10) x1.toInt.toNat))), (0, .ref (ad 0)), (1, .int x1)]) hx hb dX14_called_83 hl (by decide) rfl (fun ls hl => ?_)
    refine lv_iconst (v := 0) hx hb dX14_called_85 (by decide) ?_
    refine lv_istore (lv' := [(6, .int 0), (5, .int r33), (4, .int a25), (3, .int a21), (2, .ref (ad (qO S (qO S (qO S 0 80) 10) x1.toInt.toNat))), (0, .ref (ad 0)), (1, .int x1)]) hx hb dX14_called_86 hl (by decide) rfl (fun ls hl => ?_)
    have J_88 : ∀ (n88 : Nat) (U88 : MS) (v88_3 : Int32) (v88_5 : Int32) (v88_6 : Int32) (H : Heap) (locs : List Loc) (ls : Array Slot), w_called_L88 Q n88 U88 v88_3 v88_5 v88_6 → shy S U88 → Rep g ad A s U88 H locs → lv_has ls 7 [(0, .ref (ad 0)), (3, .int v88_3), (5, .int v88_5), (6, .int v88_6)] → W p l e (headSpec (wt2 yX14_called cX14_called 7 none) ({ frames := 5, cells := 0, slots := 0, locals := 107 })).room s m ([.ref (ad 0), .int x1] : List Value).toArray below meth c H locs 0 0 (MQ below (va_Qv (fun (u : MS) => Q u ∧ wfM u ∧ shy S u) (fun (u : MS) (t : State) => qE g ad A u t) A) ([.ref (ad 0), .int x1] : List Value).toArray s 0 0 A) (F0 m 88 ls []) := by
      intro n88
      induction n88 with
      | zero => intro U88 v88_3 v88_5 v88_6 H locs ls h hsh hR hl; unfold w_called_L88 at h; exact h.elim
      | succ n88 ih_88 =>
        intro U88 v88_3 v88_5 v88_6 H locs ls h hsh hR hl
        unfold w_called_L88 at h
        refine lv_iload hx hb dX14_called_88 (lv_at hl 3 rfl) ?_
        refine lv_iload hx hb dX14_called_90 (lv_at hl 2 rfl) ?_
        refine lv_icmp_ge (tgt := 141) hx hb dX14_called_92 (by decide) (fun c36 => ?_) (fun c36 => ?_)
        · replace h := h.1 (k_le rfl rfl c36)
          exact W.vret hx hb hr (fun t9 ht9 hW9 => ⟨⟨U88, rfl, ⟨h, hR.w, hsh⟩, ⟨by rw [ht9]; exact hR.P, hR.D⟩⟩, hR.sS.F ht9⟩) hR.sS.2.2 dX14_called_141
        · replace h := h.2 (k_nle rfl rfl c36)
          refine lv_aload_n hx hb dX14_called_95 rfl (lv_at hl 0 rfl) ?_
          refine va_get (D := rD g) (ci := 13) (v := .ref (ad 45)) (C := RX14) (T := TX14) (N := 143) hx hb hts in2X14 hown hR.K hR.P 0 (hR.at14 hR.w.1) rfl 92 (by decide) (hts _ kx_624) (fun _ h9 => h9) (congrArg (fun z => some (vf ad z)) (hR.w.2.1 _ fin_92).1) dX14_called_96 ?_
          refine lv_aload_n hx hb dX14_called_99 rfl (lv_at hl 0 rfl) ?_
          refine lv_iload hx hb dX14_called_100 (lv_at hl 3 rfl) ?_
          obtain ⟨hv37, h⟩ := h
          have hFc := rfree hR hA
          refine va_calli (va_runV (As := [.int v88_6]) (rest := [.ref (ad 45)]) ⟨hx, hb, hml, hown, hts⟩ (r_slot l g ad H.size U88 v88_6 hR.w  hv37) (cwV 1 hts (gd2_V kx_658 kx_659 kx_660 kx_177 kx_661) rfl rfl rfl (by decide +kernel) ⟨Nat.le_of_ble_eq_true rfl, Nat.le_of_ble_eq_true rfl⟩) ⟨rblind, va_recv hR.K hR.P (ci := 13) (q0 := 0) rfl (hR.at14 hR.w.1), fun U hU hW9 => rmk hU hW9 hR hex hE hFc⟩ rfl rfl hl.1 rfl (lv_room (Nat.le_of_ble_eq_true rfl)) dX14_called_102 ⟨Nat.le_of_ble_eq_true rfl, Nat.le_of_ble_eq_true rfl⟩) hR.sS (fun q _ h => hFc q h) hFc (fun r38 u9 t9 H1 locs ht9 hvm9 hw9 hB9 hz9 hk9 hS => ?_)
          have hR : Rep g ad A s U88 H1 locs := hR.call ht9 hB9 hR.w hS hFc
          obtain rfl : r38 = (f_slot U88 v88_6) := hw9
          clear hB9 hz9 hk9 hvm9 ht9 hS
          generalize H1 = H at hR ⊢
          refine lv_aload_n hx hb dX14_called_105 rfl (lv_at hl 0 rfl) ?_
          refine va_get (D := rD g) (ci := 13) (v := .ref (ad 46)) (C := RX14) (T := TX14) (N := 143) hx hb hts in2X14 hown hR.K hR.P 0 (hR.at14 hR.w.1) rfl 93 (by decide) (hts _ kx_629) (fun _ h9 => h9) (congrArg (fun z => some (vf ad z)) (hR.w.2.1 _ fin_93).1) dX14_called_106 ?_
          refine lv_iload_n hx hb dX14_called_109 rfl (lv_at hl 1 rfl) ?_
          refine lv_iload hx hb dX14_called_110 (lv_at hl 3 rfl) ?_
          refine lv_iadd hx hb dX14_called_112 ?_
          refine lv_topi (fun z40 ez40 => ?_)
          obtain rfl : z40 = (v88_3 + v88_6) := ez40
          obtain ⟨hv41, h⟩ := h
          refine va_lald hx hb hR.K hR.P 46 3 (hR.atL (hR.w.2.1 _ fin_93).2.1) rfl (k_ixN (k_ix (n := 1440) (x := (v88_3 + v88_6)) (a := (v88_3 + v88_6).toInt) rfl hv41) (hR.w.2.1 _ fin_93).2.2) dX14_called_113 ?_
          refine lv_topl (fun z42 ez42 => ?_)
          obtain rfl : z42 = (qJ U88 46 (((v88_3 + v88_6).toInt).toNat)) := ez42
          obtain ⟨hv43, h⟩ := h
          refine va_last hx hb hR.K hR.P hR.D hR.sS 45 3 (hR.atL (hR.w.2.1 _ fin_92).2.1) rfl (k_ixN (k_ix (n := 1440) (x := (f_slot U88 v88_6)) (a := (f_slot U88 v88_6).toInt) rfl hv43) (hR.w.2.1 _ fin_92).2.2) dX14_called_114 (fun H locs hP hD hS => ?_)
          have hR : Rep g ad A s (wJ U88 45 (((f_slot U88 v88_6).toInt).toNat) (qJ U88 46 (((v88_3 + v88_6).toInt).toNat))) H locs := hR.aL (hR.w.2.1 _ fin_92).2.1 hP hD hS
          obtain ⟨S44, eS44⟩ : ∃ z, z = wJ U88 45 (((f_slot U88 v88_6).toInt).toNat) (qJ U88 46 (((v88_3 + v88_6).toInt).toNat)) := ⟨_, rfl⟩
          rw [← eS44] at hR
          replace h := h S44 eS44
          have hsh : shy S S44 := by rw [eS44]; exact hsh
          refine lv_aload_n hx hb dX14_called_115 rfl (lv_at hl 0 rfl) ?_
          refine va_get (D := rD g) (ci := 13) (v := .ref (ad 47)) (C := RX14) (T := TX14) (N := 143) hx hb hts in2X14 hown hR.K hR.P 0 (hR.at14 hR.w.1) rfl 94 (by decide) (hts _ kx_625) (fun _ h9 => h9) (congrArg (fun z => some (vf ad z)) (hR.w.2.1 _ fin_94).1) dX14_called_116 ?_
          refine lv_aload_n hx hb dX14_called_119 rfl (lv_at hl 0 rfl) ?_
          refine lv_iload hx hb dX14_called_120 (lv_at hl 3 rfl) ?_
          obtain ⟨hv45, h⟩ := h
          have hFc := rfree hR hA
          refine va_calli (va_runV (As := [.int v88_6]) (rest := [.ref (ad 47)]) ⟨hx, hb, hml, hown, hts⟩ (r_slot l g ad H.size S44 v88_6 hR.w  hv45) (cwV 1 hts (gd2_V kx_658 kx_659 kx_660 kx_177 kx_661) rfl rfl rfl (by decide +kernel) ⟨Nat.le_of_ble_eq_true rfl, Nat.le_of_ble_eq_true rfl⟩) ⟨rblind, va_recv hR.K hR.P (ci := 13) (q0 := 0) rfl (hR.at14 hR.w.1), fun U hU hW9 => rmk hU hW9 hR hex hE hFc⟩ rfl rfl hl.1 rfl (lv_room (Nat.le_of_ble_eq_true rfl)) dX14_called_122 ⟨Nat.le_of_ble_eq_true rfl, Nat.le_of_ble_eq_true rfl⟩) hR.sS (fun q _ h => hFc q h) hFc (fun r46 u9 t9 H1 locs ht9 hvm9 hw9 hB9 hz9 hk9 hS => ?_)
          have hR : Rep g ad A s S44 H1 locs := hR.call ht9 hB9 hR.w hS hFc
          obtain rfl : r46 = (f_slot S44 v88_6) := hw9
          clear hB9 hz9 hk9 hvm9 ht9 hS
          generalize H1 = H at hR ⊢
          refine lv_aload_n hx hb dX14_called_125 rfl (lv_at hl 0 rfl) ?_
          refine va_get (D := rD g) (ci := 13) (v := .ref (ad 48)) (C := RX14) (T := TX14) (N := 143) hx hb hts in2X14 hown hR.K hR.P 0 (hR.at14 hR.w.1) rfl 95 (by decide) (hts _ kx_630) (fun _ h9 => h9) (congrArg (fun z => some (vf ad z)) (hR.w.2.1 _ fin_95).1) dX14_called_126 ?_
          refine lv_iload_n hx hb dX14_called_129 rfl (lv_at hl 1 rfl) ?_
          refine lv_iload hx hb dX14_called_130 (lv_at hl 3 rfl) ?_
          refine lv_iadd hx hb dX14_called_132 ?_
          refine lv_topi (fun z48 ez48 => ?_)
          obtain rfl : z48 = (v88_3 + v88_6) := ez48
          obtain ⟨hv49, h⟩ := h
          refine va_bald hx hb hR.K hR.P 48 0 (hR.atB (hR.w.2.1 _ fin_95).2.1) rfl (k_ixN (k_ix (n := 1440) (x := (v88_3 + v88_6)) (a := (v88_3 + v88_6).toInt) rfl hv49) (hR.w.2.1 _ fin_95).2.2) dX14_called_133 ?_
          refine lv_topi (fun z50 ez50 => ?_)
          obtain rfl : z50 = (qI S44 48 (((v88_3 + v88_6).toInt).toNat)) := ez50
          obtain ⟨hv51, h⟩ := h
          refine va_bast hx hb hR.K hR.P hR.D hR.sS 47 0 (hR.atB (hR.w.2.1 _ fin_94).2.1) rfl (k_ixN (k_ix (n := 1440) (x := (f_slot S44 v88_6)) (a := (f_slot S44 v88_6).toInt) rfl hv51) (hR.w.2.1 _ fin_94).2.2) dX14_called_134 (fun H locs hP hD hS => ?_)
          have hR : Rep g ad A s (wI S44 47 (((f_slot S44 v88_6).toInt).toNat) (vp_nar .byte (qI S44 48 (((v88_3 + v88_6).toInt).toNat)))) H locs := hR.aB (hR.w.2.1 _ fin_94).2.1 hP hD hS
          obtain ⟨S52, eS52⟩ : ∃ z, z = wI S44 47 (((f_slot S44 v88_6).toInt).toNat) (vp_nar .byte (qI S44 48 (((v88_3 + v88_6).toInt).toNat))) := ⟨_, rfl⟩
          rw [← eS52] at hR
          replace h := h S52 eS52
          have hsh : shy S S52 := by rw [eS52]; exact hsh
          obtain ⟨a53, ea53⟩ : ∃ z, z = (v88_6 + Int32.ofInt 1) := ⟨_, rfl⟩
          replace h := h a53 ea53
          refine lv_iinc (v := a53) (lv' := [(6, .int a53), (0, .ref (ad 0)), (3, .int v88_3), (5, .int v88_5)]) hx hb dX14_called_135 hl (k := 3) rfl ea53.symm (by decide) rfl (fun ls hl => ?_)
          refine lv_goto (tgt := 88) hx hb dX14_called_138 (by decide) ?_
          exact ih_88 S52 v88_3 v88_5 a53 _ _ ls h  hsh hR (lv_sub hl [1, 2, 3, 0] rfl)
    obtain ⟨n9, h⟩ := h
    exact J_88 n9 S34 a21 r33 0 _ _ ls h  hsh hR (lv_sub hl [5, 3, 1, 0] rfl)
  · replace h := h.1 (k_eq rfl (by decide) c1)
    refine lv_aload_n hx hb dX14_called_9 rfl (lv_at hl 0 rfl) ?_
    refine lv_iconst (v := 3) hx hb dX14_called_10 (by decide) ?_
    refine va_put (D := rD g) (ci := 13) (v := .int 3) (ty := .int) (C := RX14) (T := TX14) (N := 143) hx hb hts in2X14 tyX14 tyX14_ok nmX14 hown hR.K hR.P hR.D hR.sS 0 (hR.at14 hR.w.1) rfl 98 (by decide) (hts _ kx_617) (fun _ h9 => h9) rfl (by decide +kernel) rfl rfl (Nat.le_of_ble_eq_true rfl) dX14_called_11 (fun H locs hP hD hS => ?_)
    have hR : Rep g ad A s (wI S 0 98 3) H locs := hR.pI hR.w.1 F14_s98 hP hD hS
    obtain ⟨S54, eS54⟩ : ∃ z, z = wI S 0 98 3 := ⟨_, rfl⟩
    rw [← eS54] at hR
    replace h := h S54 eS54
    have hsh : shy S S54 := by rw [eS54]; exact hsh
    exact W.vret hx hb hr (fun t9 ht9 hW9 => ⟨⟨S54, rfl, ⟨h, hR.w, hsh⟩, ⟨by rw [ht9]; exact hR.P, hR.D⟩⟩, hR.sS.F ht9⟩) hR.sS.2.2 dX14_called_14
def w_shuffle (S : MS) (x1 : Int32) (Q : MS → Prop) : Prop := (∀ a2 : Int32, a2 = ((qI S 0 97) - (1 : Int32)) → (((0 : Int) ≤ a2.toInt ∧ a2.toInt < 60) ∧ (∀ a7 : Int32, a7 = (((24 : Int32) * a2) + (qI S 44 a2.toInt.toNat)) → (((0 : Int) ≤ (a7 - (1 : Int32)).toInt ∧ (a7 - (1 : Int32)).toInt < 1440) ∧ (∀ a11 : Int64, a11 = (qJ S 46 (((a7 - (1 : Int32)).toInt).toNat)) → (((0 : Int) ≤ (a7 - (1 : Int32)).toInt ∧ (a7 - (1 : Int32)).toInt < 1440) ∧ (∀ a15 : Int32, a15 = (qI S 48 (((a7 - (1 : Int32)).toInt).toNat)) → ((x1.toInt = 89 → (∃ Q48, w_putTagged S a11 a15 (1 : Int32) Q48 ∧ ∀ S49, Q48 S49 → Q S49)) ∧ (¬ x1.toInt = 89 → (((0 : Int) ≤ (a7 - (2 : Int32)).toInt ∧ (a7 - (2 : Int32)).toInt < 1440) ∧ (∀ a20 : Int64, a20 = (qJ S 46 (((a7 - (2 : Int32)).toInt).toNat)) → (((0 : Int) ≤ (a7 - (2 : Int32)).toInt ∧ (a7 - (2 : Int32)).toInt < 1440) ∧ (∀ a24 : Int32, a24 = (qI S 48 (((a7 - (2 : Int32)).toInt).toNat)) → ((x1.toInt = 92 → (∃ Q42, w_putTagged S a20 a24 (1 : Int32) Q42 ∧ ∀ S43, Q42 S43 → (∃ Q45, w_putTagged S43 a11 a15 (1 : Int32) Q45 ∧ ∀ S46, Q45 S46 → Q S46))) ∧ (¬ x1.toInt = 92 → (((0 : Int) ≤ (a7 - (2 : Int32)).toInt ∧ (a7 - (2 : Int32)).toInt < 1440) ∧ (∀ S28, S28 = wJ S 46 (((a7 - (2 : Int32)).toInt).toNat) a11 → (((0 : Int) ≤ (a7 - (2 : Int32)).toInt ∧ (a7 - (2 : Int32)).toInt < 1440) ∧ (∀ S31, S31 = wI S28 48 (((a7 - (2 : Int32)).toInt).toNat) (vp_nar .byte a15) → (((0 : Int) ≤ (a7 - (1 : Int32)).toInt ∧ (a7 - (1 : Int32)).toInt < 1440) ∧ (∀ S34, S34 = wJ S31 46 (((a7 - (1 : Int32)).toInt).toNat) a20 → (((0 : Int) ≤ (a7 - (1 : Int32)).toInt ∧ (a7 - (1 : Int32)).toInt < 1440) ∧ (∀ S37, S37 = wI S34 48 (((a7 - (1 : Int32)).toInt).toNat) (vp_nar .byte a24) → ((x1.toInt = 90 → (∃ Q39, w_putTagged S37 a11 a15 (1 : Int32) Q39 ∧ ∀ S40, Q39 S40 → Q S40)) ∧ (¬ x1.toInt = 90 → Q S37)))))))))))))))))))))))))
set_option maxHeartbeats 2000000 in
set_option maxRecDepth 100000 in
theorem r_shuffle (l : Launch) (g : Gr) (ad : Nat → Nat) (sz : Nat) (S : MS) (x1 : Int32) (hw : wfM S) (Q : MS → Prop) (h : w_shuffle S x1 Q) : Met l yX14_shuffle (wt2 yX14_shuffle cX14_shuffle 10 none) ({ frames := 1, cells := 0, slots := 0, locals := 25 }) (va_Pc [.ref (ad 0), .int x1] (st_R g ad sz S)) (va_Qv (fun (u : MS) => Q u ∧ wfM u ∧ shy S u) (fun (u : MS) (t : State) => qE g ad (va_A (Wd g ad S) sz) u t) (va_A (Wd g ad S) sz)) 0 0 (va_A (Wd g ad S) sz) := by
  refine Met.ofW (cc := cX14_shuffle) (maxL := 10) (ret := none) (by decide) rfl ?_
  intro p e s m args below meth c s₁ B hml hv
  obtain ⟨rfl, hsz, hP, hK, hD0, hex, hE⟩ := hv
  have hx := B.exec
  have hb := B.bytes
  have hr := B.returns
  have hts0 := atoms_spec (ws := wt2 yX14_shuffle cX14_shuffle 10 none) B.pre
  have hts : ∀ w ∈ tb2, w.before _ s = true := fun w h => hts0 w (List.mem_cons_of_mem _ h)
  have hown : s.vm.findClass RX14 = some m.cls := findClass_of_methodNamed B.named
  subst hsz
  have hD := hD0.self (sz := s.heap.size)
  generalize hAe : va_A (Wd g ad S) s.heap.size = A at hD hE ⊢
  have hA : ∀ q : Nat, s.heap.size ≤ q → A q := fun q h => by rw [← hAe]; exact Or.inr h
  have hR : Rep g ad A s S s.heap [] := ⟨hK, hP, hD, va_S.rf, hw⟩
  clear hK hP hD hD0
  have hl := lv_entry ([.ref (ad 0), .int x1]) (n := 10) (Nat.le_of_ble_eq_true rfl)
  rw [lg_entry_eq]
  generalize (lg_sl ([.ref (ad 0), .int x1]) ++ List.replicate (10 - (lg_sl ([.ref (ad 0), .int x1])).length) Slot.unset).toArray = ls at hl ⊢
  have hl : lv_has ls 10 [(0, .ref (ad 0)), (1, .int x1)] := hl
  have hsh : shy S S := shy.rf
  unfold w_shuffle at h
  refine lv_aload_n hx hb dX14_shuffle_0 rfl (lv_at hl 0 rfl) ?_
  refine va_get (D := rD g) (ci := 13) (v := .int (qI S 0 97)) (C := RX14) (T := TX14) (N := 143) hx hb hts in2X14 hown hR.K hR.P 0 (hR.at14 hR.w.1) rfl 97 (by decide) (hts _ kx_616) (fun _ h9 => h9) rfl dX14_shuffle_1 ?_
  refine lv_iconst (v := 1) hx hb dX14_shuffle_4 (by decide) ?_
  refine lv_isub hx hb dX14_shuffle_5 ?_
  refine lv_topi (fun z1 ez1 => ?_)
  obtain rfl : z1 = ((qI S 0 97) - (1 : Int32)) := ez1
  obtain ⟨a2, ea2⟩ : ∃ z, z = ((qI S 0 97) - (1 : Int32)) := ⟨_, rfl⟩
  rw [← ea2]
  replace h := h a2 ea2
  refine lv_istore_n (lv' := [(2, .int a2), (0, .ref (ad 0)), (1, .int x1)]) hx hb dX14_shuffle_6 rfl hl (by decide) rfl (fun ls hl => ?_)
  refine lv_bipush (v := 24) hx hb dX14_shuffle_7 (by decide) ?_
  refine lv_iload_n hx hb dX14_shuffle_9 rfl (lv_at hl 0 rfl) ?_
  refine lv_imul hx hb dX14_shuffle_10 ?_
  refine lv_topi (fun z3 ez3 => ?_)
  obtain rfl : z3 = ((24 : Int32) * a2) := ez3
  refine lv_aload_n hx hb dX14_shuffle_11 rfl (lv_at hl 1 rfl) ?_
  refine va_get (D := rD g) (ci := 13) (v := .ref (ad 44)) (C := RX14) (T := TX14) (N := 143) hx hb hts in2X14 hown hR.K hR.P 0 (hR.at14 hR.w.1) rfl 91 (by decide) (hts _ kx_623) (fun _ h9 => h9) (congrArg (fun z => some (vf ad z)) (hR.w.2.1 _ fin_91).1) dX14_shuffle_12 ?_
  refine lv_iload_n hx hb dX14_shuffle_15 rfl (lv_at hl 0 rfl) ?_
  obtain ⟨hv4, h⟩ := h
  refine va_iald hx hb hR.K hR.P 44 1 (hR.atI (hR.w.2.1 _ fin_91).2.1) rfl (k_ixN (k_ix (n := 60) (x := a2) (a := a2.toInt) rfl hv4) (hR.w.2.1 _ fin_91).2.2) dX14_shuffle_16 ?_
  refine lv_topi (fun z5 ez5 => ?_)
  obtain rfl : z5 = (qI S 44 a2.toInt.toNat) := ez5
  refine lv_iadd hx hb dX14_shuffle_17 ?_
  refine lv_topi (fun z6 ez6 => ?_)
  obtain rfl : z6 = (((24 : Int32) * a2) + (qI S 44 a2.toInt.toNat)) := ez6
  obtain ⟨a7, ea7⟩ : ∃ z, z = (((24 : Int32) * a2) + (qI S 44 a2.toInt.toNat)) := ⟨_, rfl⟩
  rw [← ea7]
  replace h := h a7 ea7
  refine lv_istore_n (lv' := [(3, .int a7), (2, .int a2), (0, .ref (ad 0)), (1, .int x1)]) hx hb dX14_shuffle_18 rfl hl (by decide) rfl (fun ls hl => ?_)
  refine lv_aload_n hx hb dX14_shuffle_19 rfl (lv_at hl 2 rfl) ?_
  refine va_get (D := rD g) (ci := 13) (v := .ref (ad 46)) (C := RX14) (T := TX14) (N := 143) hx hb hts in2X14 hown hR.K hR.P 0 (hR.at14 hR.w.1) rfl 93 (by decide) (hts _ kx_629) (fun _ h9 => h9) (congrArg (fun z => some (vf ad z)) (hR.w.2.1 _ fin_93).1) dX14_shuffle_20 ?_
  refine lv_iload_n hx hb dX14_shuffle_23 rfl (lv_at hl 0 rfl) ?_
  refine lv_iconst (v := 1) hx hb dX14_shuffle_24 (by decide) ?_
  refine lv_isub hx hb dX14_shuffle_25 ?_
  refine lv_topi (fun z8 ez8 => ?_)
  obtain rfl : z8 = (a7 - (1 : Int32)) := ez8
  obtain ⟨hv9, h⟩ := h
  refine va_lald hx hb hR.K hR.P 46 3 (hR.atL (hR.w.2.1 _ fin_93).2.1) rfl (k_ixN (k_ix (n := 1440) (x := (a7 - (1 : Int32))) (a := (a7 - (1 : Int32)).toInt) rfl hv9) (hR.w.2.1 _ fin_93).2.2) dX14_shuffle_26 ?_
  refine lv_topl (fun z10 ez10 => ?_)
  obtain rfl : z10 = (qJ S 46 (((a7 - (1 : Int32)).toInt).toNat)) := ez10
  obtain ⟨a11, ea11⟩ : ∃ z, z = (qJ S 46 (((a7 - (1 : Int32)).toInt).toNat)) := ⟨_, rfl⟩
  rw [← ea11]
  replace h := h a11 ea11
  refine lv_lstore (lv' := [(4, .long a11), (3, .int a7), (2, .int a2), (0, .ref (ad 0)), (1, .int x1)]) hx hb dX14_shuffle_27 hl (by decide) rfl (fun ls hl => ?_)
  refine lv_aload_n hx hb dX14_shuffle_29 rfl (lv_at hl 3 rfl) ?_
  refine va_get (D := rD g) (ci := 13) (v := .ref (ad 48)) (C := RX14) (T := TX14) (N := 143) hx hb hts in2X14 hown hR.K hR.P 0 (hR.at14 hR.w.1) rfl 95 (by decide) (hts _ kx_630) (fun _ h9 => h9) (congrArg (fun z => some (vf ad z)) (hR.w.2.1 _ fin_95).1) dX14_shuffle_30 ?_
  refine lv_iload_n hx hb dX14_shuffle_33 rfl (lv_at hl 1 rfl) ?_
  refine lv_iconst (v := 1) hx hb dX14_shuffle_34 (by decide) ?_
  refine lv_isub hx hb dX14_shuffle_35 ?_
  refine lv_topi (fun z12 ez12 => ?_)
  obtain rfl : z12 = (a7 - (1 : Int32)) := ez12
  obtain ⟨hv13, h⟩ := h
  refine va_bald hx hb hR.K hR.P 48 0 (hR.atB (hR.w.2.1 _ fin_95).2.1) rfl (k_ixN (k_ix (n := 1440) (x := (a7 - (1 : Int32))) (a := (a7 - (1 : Int32)).toInt) rfl hv13) (hR.w.2.1 _ fin_95).2.2) dX14_shuffle_36 ?_
  refine lv_topi (fun z14 ez14 => ?_)
  obtain rfl : z14 = (qI S 48 (((a7 - (1 : Int32)).toInt).toNat)) := ez14
  obtain ⟨a15, ea15⟩ : ∃ z, z = (qI S 48 (((a7 - (1 : Int32)).toInt).toNat)) := ⟨_, rfl⟩
  rw [← ea15]
  replace h := h a15 ea15
  refine lv_istore (lv' := [(6, .int a15), (4, .long a11), (3, .int a7), (2, .int a2), (0, .ref (ad 0)), (1, .int x1)]) hx hb dX14_shuffle_37 hl (by decide) rfl (fun ls hl => ?_)
  refine lv_iload_n hx hb dX14_shuffle_39 rfl (lv_at hl 5 rfl) ?_
  refine lv_bipush (v := 89) hx hb dX14_shuffle_40 (by decide) ?_
  refine lv_icmp_ne (tgt := 55) hx hb dX14_shuffle_42 (by decide) (fun c16 => ?_) (fun c16 => ?_)
  · replace h := h.2 (k_ne rfl (by decide) c16)
    refine lv_aload_n hx hb dX14_shuffle_55 rfl (lv_at hl 4 rfl) ?_
    refine va_get (D := rD g) (ci := 13) (v := .ref (ad 46)) (C := RX14) (T := TX14) (N := 143) hx hb hts in2X14 hown hR.K hR.P 0 (hR.at14 hR.w.1) rfl 93 (by decide) (hts _ kx_629) (fun _ h9 => h9) (congrArg (fun z => some (vf ad z)) (hR.w.2.1 _ fin_93).1) dX14_shuffle_56 ?_
    refine lv_iload_n hx hb dX14_shuffle_59 rfl (lv_at hl 2 rfl) ?_
    refine lv_iconst (v := 2) hx hb dX14_shuffle_60 (by decide) ?_
    refine lv_isub hx hb dX14_shuffle_61 ?_
    refine lv_topi (fun z17 ez17 => ?_)
    obtain rfl : z17 = (a7 - (2 : Int32)) := ez17
    obtain ⟨hv18, h⟩ := h
    refine va_lald hx hb hR.K hR.P 46 3 (hR.atL (hR.w.2.1 _ fin_93).2.1) rfl (k_ixN (k_ix (n := 1440) (x := (a7 - (2 : Int32))) (a := (a7 - (2 : Int32)).toInt) rfl hv18) (hR.w.2.1 _ fin_93).2.2) dX14_shuffle_62 ?_
    refine lv_topl (fun z19 ez19 => ?_)
    obtain rfl : z19 = (qJ S 46 (((a7 - (2 : Int32)).toInt).toNat)) := ez19
    obtain ⟨a20, ea20⟩ : ∃ z, z = (qJ S 46 (((a7 - (2 : Int32)).toInt).toNat)) := ⟨_, rfl⟩
    rw [← ea20]
    replace h := h a20 ea20
    refine lv_lstore (lv' := [(7, .long a20), (6, .int a15), (4, .long a11), (3, .int a7), (2, .int a2), (0, .ref (ad 0)), (1, .int x1)]) hx hb dX14_shuffle_63 hl (by decide) rfl (fun ls hl => ?_)
    refine lv_aload_n hx hb dX14_shuffle_65 rfl (lv_at hl 5 rfl) ?_
    refine va_get (D := rD g) (ci := 13) (v := .ref (ad 48)) (C := RX14) (T := TX14) (N := 143) hx hb hts in2X14 hown hR.K hR.P 0 (hR.at14 hR.w.1) rfl 95 (by decide) (hts _ kx_630) (fun _ h9 => h9) (congrArg (fun z => some (vf ad z)) (hR.w.2.1 _ fin_95).1) dX14_shuffle_66 ?_
    refine lv_iload_n hx hb dX14_shuffle_69 rfl (lv_at hl 3 rfl) ?_
    refine lv_iconst (v := 2) hx hb dX14_shuffle_70 (by decide) ?_
    refine lv_isub hx hb dX14_shuffle_71 ?_
    refine lv_topi (fun z21 ez21 => ?_)
    obtain rfl : z21 = (a7 - (2 : Int32)) := ez21
    obtain ⟨hv22, h⟩ := h
    refine va_bald hx hb hR.K hR.P 48 0 (hR.atB (hR.w.2.1 _ fin_95).2.1) rfl (k_ixN (k_ix (n := 1440) (x := (a7 - (2 : Int32))) (a := (a7 - (2 : Int32)).toInt) rfl hv22) (hR.w.2.1 _ fin_95).2.2) dX14_shuffle_72 ?_
    refine lv_topi (fun z23 ez23 => ?_)
    obtain rfl : z23 = (qI S 48 (((a7 - (2 : Int32)).toInt).toNat)) := ez23
    obtain ⟨a24, ea24⟩ : ∃ z, z = (qI S 48 (((a7 - (2 : Int32)).toInt).toNat)) := ⟨_, rfl⟩
    rw [← ea24]
    replace h := h a24 ea24
    refine lv_istore (lv' := [(9, .int a24), (7, .long a20), (6, .int a15), (4, .long a11), (3, .int a7), (2, .int a2), (0, .ref (ad 0)), (1, .int x1)]) hx hb dX14_shuffle_73 hl (by decide) rfl (fun ls hl => ?_)
    refine lv_iload_n hx hb dX14_shuffle_75 rfl (lv_at hl 7 rfl) ?_
    refine lv_bipush (v := 92) hx hb dX14_shuffle_76 (by decide) ?_
    refine lv_icmp_ne (tgt := 100) hx hb dX14_shuffle_78 (by decide) (fun c25 => ?_) (fun c25 => ?_)
    · replace h := h.2 (k_ne rfl (by decide) c25)
      refine lv_aload_n hx hb dX14_shuffle_100 rfl (lv_at hl 6 rfl) ?_
      refine va_get (D := rD g) (ci := 13) (v := .ref (ad 46)) (C := RX14) (T := TX14) (N := 143) hx hb hts in2X14 hown hR.K hR.P 0 (hR.at14 hR.w.1) rfl 93 (by decide) (hts _ kx_629) (fun _ h9 => h9) (congrArg (fun z => some (vf ad z)) (hR.w.2.1 _ fin_93).1) dX14_shuffle_101 ?_
      refine lv_iload_n hx hb dX14_shuffle_104 rfl (lv_at hl 4 rfl) ?_
      refine lv_iconst (v := 2) hx hb dX14_shuffle_105 (by decide) ?_
      refine lv_isub hx hb dX14_shuffle_106 ?_
      refine lv_topi (fun z26 ez26 => ?_)
      obtain rfl : z26 = (a7 - (2 : Int32)) := ez26
      refine lv_lload hx hb dX14_shuffle_107 (lv_at hl 3 rfl) ?_
      obtain ⟨hv27, h⟩ := h
      refine va_last hx hb hR.K hR.P hR.D hR.sS 46 3 (hR.atL (hR.w.2.1 _ fin_93).2.1) rfl (k_ixN (k_ix (n := 1440) (x := (a7 - (2 : Int32))) (a := (a7 - (2 : Int32)).toInt) rfl hv27) (hR.w.2.1 _ fin_93).2.2) dX14_shuffle_109 (fun H locs hP hD hS => ?_)
      have hR : Rep g ad A s (wJ S 46 (((a7 - (2 : Int32)).toInt).toNat) a11) H locs := hR.aL (hR.w.2.1 _ fin_93).2.1 hP hD hS
      obtain ⟨S28, eS28⟩ : ∃ z, z = wJ S 46 (((a7 - (2 : Int32)).toInt).toNat) a11 := ⟨_, rfl⟩
      rw [← eS28] at hR
      replace h := h S28 eS28
      have hsh : shy S S28 := by rw [eS28]; exact hsh
      refine lv_aload_n hx hb dX14_shuffle_110 rfl (lv_at hl 6 rfl) ?_
      refine va_get (D := rD g) (ci := 13) (v := .ref (ad 48)) (C := RX14) (T := TX14) (N := 143) hx hb hts in2X14 hown hR.K hR.P 0 (hR.at14 hR.w.1) rfl 95 (by decide) (hts _ kx_630) (fun _ h9 => h9) (congrArg (fun z => some (vf ad z)) (hR.w.2.1 _ fin_95).1) dX14_shuffle_111 ?_
      refine lv_iload_n hx hb dX14_shuffle_114 rfl (lv_at hl 4 rfl) ?_
      refine lv_iconst (v := 2) hx hb dX14_shuffle_115 (by decide) ?_
      refine lv_isub hx hb dX14_shuffle_116 ?_
      refine lv_topi (fun z29 ez29 => ?_)
      obtain rfl : z29 = (a7 - (2 : Int32)) := ez29
      refine lv_iload hx hb dX14_shuffle_117 (lv_at hl 2 rfl) ?_
      obtain ⟨hv30, h⟩ := h
      refine va_bast hx hb hR.K hR.P hR.D hR.sS 48 0 (hR.atB (hR.w.2.1 _ fin_95).2.1) rfl (k_ixN (k_ix (n := 1440) (x := (a7 - (2 : Int32))) (a := (a7 - (2 : Int32)).toInt) rfl hv30) (hR.w.2.1 _ fin_95).2.2) dX14_shuffle_119 (fun H locs hP hD hS => ?_)
      have hR : Rep g ad A s (wI S28 48 (((a7 - (2 : Int32)).toInt).toNat) (vp_nar .byte a15)) H locs := hR.aB (hR.w.2.1 _ fin_95).2.1 hP hD hS
      obtain ⟨S31, eS31⟩ : ∃ z, z = wI S28 48 (((a7 - (2 : Int32)).toInt).toNat) (vp_nar .byte a15) := ⟨_, rfl⟩
      rw [← eS31] at hR
      replace h := h S31 eS31
      have hsh : shy S S31 := by rw [eS31]; exact hsh
      refine lv_aload_n hx hb dX14_shuffle_120 rfl (lv_at hl 6 rfl) ?_
      refine va_get (D := rD g) (ci := 13) (v := .ref (ad 46)) (C := RX14) (T := TX14) (N := 143) hx hb hts in2X14 hown hR.K hR.P 0 (hR.at14 hR.w.1) rfl 93 (by decide) (hts _ kx_629) (fun _ h9 => h9) (congrArg (fun z => some (vf ad z)) (hR.w.2.1 _ fin_93).1) dX14_shuffle_121 ?_
      refine lv_iload_n hx hb dX14_shuffle_124 rfl (lv_at hl 4 rfl) ?_
      refine lv_iconst (v := 1) hx hb dX14_shuffle_125 (by decide) ?_
      refine lv_isub hx hb dX14_shuffle_126 ?_
      refine lv_topi (fun z32 ez32 => ?_)
      obtain rfl : z32 = (a7 - (1 : Int32)) := ez32
      refine lv_lload hx hb dX14_shuffle_127 (lv_at hl 1 rfl) ?_
      obtain ⟨hv33, h⟩ := h
      refine va_last hx hb hR.K hR.P hR.D hR.sS 46 3 (hR.atL (hR.w.2.1 _ fin_93).2.1) rfl (k_ixN (k_ix (n := 1440) (x := (a7 - (1 : Int32))) (a := (a7 - (1 : Int32)).toInt) rfl hv33) (hR.w.2.1 _ fin_93).2.2) dX14_shuffle_129 (fun H locs hP hD hS => ?_)
      have hR : Rep g ad A s (wJ S31 46 (((a7 - (1 : Int32)).toInt).toNat) a20) H locs := hR.aL (hR.w.2.1 _ fin_93).2.1 hP hD hS
      obtain ⟨S34, eS34⟩ : ∃ z, z = wJ S31 46 (((a7 - (1 : Int32)).toInt).toNat) a20 := ⟨_, rfl⟩
      rw [← eS34] at hR
      replace h := h S34 eS34
      have hsh : shy S S34 := by rw [eS34]; exact hsh
      refine lv_aload_n hx hb dX14_shuffle_130 rfl (lv_at hl 6 rfl) ?_
      refine va_get (D := rD g) (ci := 13) (v := .ref (ad 48)) (C := RX14) (T := TX14) (N := 143) hx hb hts in2X14 hown hR.K hR.P 0 (hR.at14 hR.w.1) rfl 95 (by decide) (hts _ kx_630) (fun _ h9 => h9) (congrArg (fun z => some (vf ad z)) (hR.w.2.1 _ fin_95).1) dX14_shuffle_131 ?_
      refine lv_iload_n hx hb dX14_shuffle_134 rfl (lv_at hl 4 rfl) ?_
      refine lv_iconst (v := 1) hx hb dX14_shuffle_135 (by decide) ?_
      refine lv_isub hx hb dX14_shuffle_136 ?_
      refine lv_topi (fun z35 ez35 => ?_)
      obtain rfl : z35 = (a7 - (1 : Int32)) := ez35
      refine lv_iload hx hb dX14_shuffle_137 (lv_at hl 0 rfl) ?_
      obtain ⟨hv36, h⟩ := h
      refine va_bast hx hb hR.K hR.P hR.D hR.sS 48 0 (hR.atB (hR.w.2.1 _ fin_95).2.1) rfl (k_ixN (k_ix (n := 1440) (x := (a7 - (1 : Int32))) (a := (a7 - (1 : Int32)).toInt) rfl hv36) (hR.w.2.1 _ fin_95).2.2) dX14_shuffle_139 (fun H locs hP hD hS => ?_)
      have hR : Rep g ad A s (wI S34 48 (((a7 - (1 : Int32)).toInt).toNat) (vp_nar .byte a24)) H locs := hR.aB (hR.w.2.1 _ fin_95).2.1 hP hD hS
      obtain ⟨S37, eS37⟩ : ∃ z, z = wI S34 48 (((a7 - (1 : Int32)).toInt).toNat) (vp_nar .byte a24) := ⟨_, rfl⟩
      rw [← eS37] at hR
      replace h := h S37 eS37
      have hsh : shy S S37 := by rw [eS37]; exact hsh
      refine lv_iload_n hx hb dX14_shuffle_140 rfl (lv_at hl 7 rfl) ?_
      refine lv_bipush (v := 90) hx hb dX14_shuffle_141 (by decide) ?_
      refine lv_icmp_ne (tgt := 155) hx hb dX14_shuffle_143 (by decide) (fun c38 => ?_) (fun c38 => ?_)
      · replace h := h.2 (k_ne rfl (by decide) c38)
        exact W.vret hx hb hr (fun t9 ht9 hW9 => ⟨⟨S37, rfl, ⟨h, hR.w, hsh⟩, ⟨by rw [ht9]; exact hR.P, hR.D⟩⟩, hR.sS.F ht9⟩) hR.sS.2.2 dX14_shuffle_155
      · replace h := h.1 (k_eq rfl (by decide) c38)
        refine lv_aload_n hx hb dX14_shuffle_146 rfl (lv_at hl 6 rfl) ?_
        refine lv_lload hx hb dX14_shuffle_147 (lv_at hl 3 rfl) ?_
        refine lv_iload hx hb dX14_shuffle_149 (lv_at hl 2 rfl) ?_
        refine lv_iconst (v := 1) hx hb dX14_shuffle_151 (by decide) ?_
        obtain ⟨Q39, h0, h⟩ := h
        have hFc := rfree hR hA
        refine va_callv (va_runV (As := [.long a11, .int a15, .int 1]) (rest := []) ⟨hx, hb, hml, hown, hts⟩ (r_putTagged l g ad H.size S37 a11 a15 (1 : Int32) hR.w  Q39 h0) (cwV 3 hts (gd2_V kx_631 kx_632 kx_633 kx_177 kx_634) rfl rfl rfl (by decide +kernel) ⟨Nat.le_of_ble_eq_true rfl, Nat.le_of_ble_eq_true rfl⟩) ⟨rblind, va_recv hR.K hR.P (ci := 13) (q0 := 0) rfl (hR.at14 hR.w.1), fun U hU hW9 => rmk hU hW9 hR hex hE hFc⟩ rfl rfl hl.1 rfl (lv_room (Nat.le_of_ble_eq_true rfl)) dX14_shuffle_152 ⟨Nat.le_of_ble_eq_true rfl, Nat.le_of_ble_eq_true rfl⟩) hR.sS (fun q _ h => hFc q h) hFc (fun  S40 t9 H1 locs ht9 hvm9 hw9 hB9 hz9 hk9 hS => ?_)
        obtain ⟨hq41, hw9, hs9⟩ := hw9
        have hR : Rep g ad A s S40 H1 locs := hR.call ht9 hB9 hw9 hS hFc
        have hsh := hsh.tr hs9
        replace h := h  S40 hq41
        clear hB9 hz9 hk9 hvm9 ht9 hw9 hs9 hS
        generalize H1 = H at hR ⊢
        exact W.vret hx hb hr (fun t9 ht9 hW9 => ⟨⟨S40, rfl, ⟨h, hR.w, hsh⟩, ⟨by rw [ht9]; exact hR.P, hR.D⟩⟩, hR.sS.F ht9⟩) hR.sS.2.2 dX14_shuffle_155
    · replace h := h.1 (k_eq rfl (by decide) c25)
      refine lv_aload_n hx hb dX14_shuffle_81 rfl (lv_at hl 6 rfl) ?_
      refine lv_lload hx hb dX14_shuffle_82 (lv_at hl 1 rfl) ?_
      refine lv_iload hx hb dX14_shuffle_84 (lv_at hl 0 rfl) ?_
      refine lv_iconst (v := 1) hx hb dX14_shuffle_86 (by decide) ?_
      obtain ⟨Q42, h0, h⟩ := h
      have hFc := rfree hR hA
      refine va_callv (va_runV (As := [.long a20, .int a24, .int 1]) (rest := []) ⟨hx, hb, hml, hown, hts⟩ (r_putTagged l g ad s.heap.size S a20 a24 (1 : Int32) hR.w  Q42 h0) (cwV 3 hts (gd2_V kx_631 kx_632 kx_633 kx_177 kx_634) rfl rfl rfl (by decide +kernel) ⟨Nat.le_of_ble_eq_true rfl, Nat.le_of_ble_eq_true rfl⟩) ⟨rblind, va_recv hR.K hR.P (ci := 13) (q0 := 0) rfl (hR.at14 hR.w.1), fun U hU hW9 => rmk hU hW9 hR hex hE hFc⟩ rfl rfl hl.1 rfl (lv_room (Nat.le_of_ble_eq_true rfl)) dX14_shuffle_87 ⟨Nat.le_of_ble_eq_true rfl, Nat.le_of_ble_eq_true rfl⟩) hR.sS (fun q _ h => hFc q h) hFc (fun  S43 t9 H1 locs ht9 hvm9 hw9 hB9 hz9 hk9 hS => ?_)
      obtain ⟨hq44, hw9, hs9⟩ := hw9
      have hR : Rep g ad A s S43 H1 locs := hR.call ht9 hB9 hw9 hS hFc
      have hsh := hsh.tr hs9
      replace h := h  S43 hq44
      clear hB9 hz9 hk9 hvm9 ht9 hw9 hs9 hS
      generalize H1 = H at hR ⊢
      refine lv_aload_n hx hb dX14_shuffle_90 rfl (lv_at hl 6 rfl) ?_
      refine lv_lload hx hb dX14_shuffle_91 (lv_at hl 3 rfl) ?_
      refine lv_iload hx hb dX14_shuffle_93 (lv_at hl 2 rfl) ?_
      refine lv_iconst (v := 1) hx hb dX14_shuffle_95 (by decide) ?_
      obtain ⟨Q45, h0, h⟩ := h
      have hFc := rfree hR hA
      refine va_callv (va_runV (As := [.long a11, .int a15, .int 1]) (rest := []) ⟨hx, hb, hml, hown, hts⟩ (r_putTagged l g ad H.size S43 a11 a15 (1 : Int32) hR.w  Q45 h0) (cwV 3 hts (gd2_V kx_631 kx_632 kx_633 kx_177 kx_634) rfl rfl rfl (by decide +kernel) ⟨Nat.le_of_ble_eq_true rfl, Nat.le_of_ble_eq_true rfl⟩) ⟨rblind, va_recv hR.K hR.P (ci := 13) (q0 := 0) rfl (hR.at14 hR.w.1), fun U hU hW9 => rmk hU hW9 hR hex hE hFc⟩ rfl rfl hl.1 rfl (lv_room (Nat.le_of_ble_eq_true rfl)) dX14_shuffle_96 ⟨Nat.le_of_ble_eq_true rfl, Nat.le_of_ble_eq_true rfl⟩) hR.sS (fun q _ h => hFc q h) hFc (fun  S46 t9 H1 locs ht9 hvm9 hw9 hB9 hz9 hk9 hS => ?_)
      obtain ⟨hq47, hw9, hs9⟩ := hw9
      have hR : Rep g ad A s S46 H1 locs := hR.call ht9 hB9 hw9 hS hFc
      have hsh := hsh.tr hs9
      replace h := h  S46 hq47
      clear hB9 hz9 hk9 hvm9 ht9 hw9 hs9 hS
      generalize H1 = H at hR ⊢
      exact W.vret hx hb hr (fun t9 ht9 hW9 => ⟨⟨S46, rfl, ⟨h, hR.w, hsh⟩, ⟨by rw [ht9]; exact hR.P, hR.D⟩⟩, hR.sS.F ht9⟩) hR.sS.2.2 dX14_shuffle_99
  · replace h := h.1 (k_eq rfl (by decide) c16)
    refine lv_aload_n hx hb dX14_shuffle_45 rfl (lv_at hl 4 rfl) ?_
    refine lv_lload hx hb dX14_shuffle_46 (lv_at hl 1 rfl) ?_
    refine lv_iload hx hb dX14_shuffle_48 (lv_at hl 0 rfl) ?_
    refine lv_iconst (v := 1) hx hb dX14_shuffle_50 (by decide) ?_
    obtain ⟨Q48, h0, h⟩ := h
    have hFc := rfree hR hA
    refine va_callv (va_runV (As := [.long a11, .int a15, .int 1]) (rest := []) ⟨hx, hb, hml, hown, hts⟩ (r_putTagged l g ad s.heap.size S a11 a15 (1 : Int32) hR.w  Q48 h0) (cwV 3 hts (gd2_V kx_631 kx_632 kx_633 kx_177 kx_634) rfl rfl rfl (by decide +kernel) ⟨Nat.le_of_ble_eq_true rfl, Nat.le_of_ble_eq_true rfl⟩) ⟨rblind, va_recv hR.K hR.P (ci := 13) (q0 := 0) rfl (hR.at14 hR.w.1), fun U hU hW9 => rmk hU hW9 hR hex hE hFc⟩ rfl rfl hl.1 rfl (lv_room (Nat.le_of_ble_eq_true rfl)) dX14_shuffle_51 ⟨Nat.le_of_ble_eq_true rfl, Nat.le_of_ble_eq_true rfl⟩) hR.sS (fun q _ h => hFc q h) hFc (fun  S49 t9 H1 locs ht9 hvm9 hw9 hB9 hz9 hk9 hS => ?_)
    obtain ⟨hq50, hw9, hs9⟩ := hw9
    have hR : Rep g ad A s S49 H1 locs := hR.call ht9 hB9 hw9 hS hFc
    have hsh := hsh.tr hs9
    replace h := h  S49 hq50
    clear hB9 hz9 hk9 hvm9 ht9 hw9 hs9 hS
    generalize H1 = H at hR ⊢
    exact W.vret hx hb hr (fun t9 ht9 hW9 => ⟨⟨S49, rfl, ⟨h, hR.w, hsh⟩, ⟨by rw [ht9]; exact hR.P, hR.D⟩⟩, hR.sS.F ht9⟩) hR.sS.2.2 dX14_shuffle_54
def f_result (S : MS) : Int64 := (qJ S 0 101)
def d_result (S : MS) : Prop := True
set_option maxHeartbeats 2000000 in
set_option maxRecDepth 100000 in
theorem r_result (l : Launch) (g : Gr) (ad : Nat → Nat) (sz : Nat) (S : MS) (hw : wfM S) (hd : d_result S) : Met l yX14_result (wt2 yX14_result cX14_result 1 (some .long)) ({ frames := 0, cells := 0, slots := 0, locals := 0 }) (va_Pc [.ref (ad 0)] (st_R g ad sz S)) (va_Ql (fun (r : Int64) (_ : Unit) => r = f_result S) (fun (_ : Unit) (t : State) => qE g ad (va_A (Wd g ad S) sz) S t) (va_A (Wd g ad S) sz)) 0 0 (va_A (Wd g ad S) sz) := by
  refine Met.ofW (cc := cX14_result) (maxL := 1) (ret := (some .long)) (by decide) rfl ?_
  intro p e s m args below meth c s₁ B hml hv
  obtain ⟨rfl, hsz, hP, hK, hD0, hex, hE⟩ := hv
  have hx := B.exec
  have hb := B.bytes
  have hr := B.returns
  have hts0 := atoms_spec (ws := wt2 yX14_result cX14_result 1 (some .long)) B.pre
  have hts : ∀ w ∈ tb2, w.before _ s = true := fun w h => hts0 w (List.mem_cons_of_mem _ h)
  have hown : s.vm.findClass RX14 = some m.cls := findClass_of_methodNamed B.named
  subst hsz
  have hD := hD0.self (sz := s.heap.size)
  generalize hAe : va_A (Wd g ad S) s.heap.size = A at hD hE ⊢
  have hA : ∀ q : Nat, s.heap.size ≤ q → A q := fun q h => by rw [← hAe]; exact Or.inr h
  have hR : Rep g ad A s S s.heap [] := ⟨hK, hP, hD, va_S.rf, hw⟩
  clear hK hP hD hD0
  have hl := lv_entry ([.ref (ad 0)]) (n := 1) (Nat.le_of_ble_eq_true rfl)
  rw [lg_entry_eq]
  generalize (lg_sl ([.ref (ad 0)]) ++ List.replicate (1 - (lg_sl ([.ref (ad 0)])).length) Slot.unset).toArray = ls at hl ⊢
  have hl : lv_has ls 1 [(0, .ref (ad 0))] := hl
  obtain ⟨r0, hf⟩ : ∃ r0, f_result S = r0 := ⟨_, rfl⟩
  have hf0 := hf
  unfold f_result at hf
  unfold d_result at hd
  refine lv_aload_n hx hb dX14_result_0 rfl (lv_at hl 0 rfl) ?_
  refine va_get (D := rD g) (ci := 13) (v := .long (qJ S 0 101)) (C := RX14) (T := TX14) (N := 143) hx hb hts in2X14 hown hR.K hR.P 0 (hR.at14 hR.w.1) rfl 101 (by decide) (hts _ kx_619) (fun _ h9 => h9) rfl dX14_result_1 ?_
  exact W.lret (v := (qJ S 0 101)) hx hb hr (fun t9 ht9 hW9 => ⟨⟨_, (), rfl, hf.trans hf0.symm, ⟨by rw [ht9]; exact hR.P, hR.D⟩⟩, hR.sS.F ht9⟩) hR.sS.2.2 dX14_result_4
def f_error (S : MS) : Int32 := (qI S 0 102)
def d_error (S : MS) : Prop := True
set_option maxHeartbeats 2000000 in
set_option maxRecDepth 100000 in
theorem r_error (l : Launch) (g : Gr) (ad : Nat → Nat) (sz : Nat) (S : MS) (hw : wfM S) (hd : d_error S) : Met l yX14_error (wt2 yX14_error cX14_error 1 (some .int)) ({ frames := 0, cells := 0, slots := 0, locals := 0 }) (va_Pc [.ref (ad 0)] (st_R g ad sz S)) (va_Qi (fun (r : Int32) (_ : Unit) => r = f_error S) (fun (_ : Unit) (t : State) => qE g ad (va_A (Wd g ad S) sz) S t) (va_A (Wd g ad S) sz)) 0 0 (va_A (Wd g ad S) sz) := by
  refine Met.ofW (cc := cX14_error) (maxL := 1) (ret := (some .int)) (by decide) rfl ?_
  intro p e s m args below meth c s₁ B hml hv
  obtain ⟨rfl, hsz, hP, hK, hD0, hex, hE⟩ := hv
  have hx := B.exec
  have hb := B.bytes
  have hr := B.returns
  have hts0 := atoms_spec (ws := wt2 yX14_error cX14_error 1 (some .int)) B.pre
  have hts : ∀ w ∈ tb2, w.before _ s = true := fun w h => hts0 w (List.mem_cons_of_mem _ h)
  have hown : s.vm.findClass RX14 = some m.cls := findClass_of_methodNamed B.named
  subst hsz
  have hD := hD0.self (sz := s.heap.size)
  generalize hAe : va_A (Wd g ad S) s.heap.size = A at hD hE ⊢
  have hA : ∀ q : Nat, s.heap.size ≤ q → A q := fun q h => by rw [← hAe]; exact Or.inr h
  have hR : Rep g ad A s S s.heap [] := ⟨hK, hP, hD, va_S.rf, hw⟩
  clear hK hP hD hD0
  have hl := lv_entry ([.ref (ad 0)]) (n := 1) (Nat.le_of_ble_eq_true rfl)
  rw [lg_entry_eq]
  generalize (lg_sl ([.ref (ad 0)]) ++ List.replicate (1 - (lg_sl ([.ref (ad 0)])).length) Slot.unset).toArray = ls at hl ⊢
  have hl : lv_has ls 1 [(0, .ref (ad 0))] := hl
  obtain ⟨r0, hf⟩ : ∃ r0, f_error S = r0 := ⟨_, rfl⟩
  have hf0 := hf
  unfold f_error at hf
  unfold d_error at hd
  refine lv_aload_n hx hb dX14_error_0 rfl (lv_at hl 0 rfl) ?_
  refine va_get (D := rD g) (ci := 13) (v := .int (qI S 0 102)) (C := RX14) (T := TX14) (N := 143) hx hb hts in2X14 hown hR.K hR.P 0 (hR.at14 hR.w.1) rfl 102 (by decide) (hts _ kx_618) (fun _ h9 => h9) rfl dX14_error_1 ?_
  exact W.iret (v := (qI S 0 102)) hx hb hr (fun t9 ht9 hW9 => ⟨⟨_, (), rfl, hf.trans hf0.symm, ⟨by rw [ht9]; exact hR.P, hR.D⟩⟩, hR.sS.F ht9⟩) hR.sS.2.2 dX14_error_4
def f_steps (S : MS) : Int32 := (qI S 0 100)
def d_steps (S : MS) : Prop := True
set_option maxHeartbeats 2000000 in
set_option maxRecDepth 100000 in
theorem r_steps (l : Launch) (g : Gr) (ad : Nat → Nat) (sz : Nat) (S : MS) (hw : wfM S) (hd : d_steps S) : Met l yX14_steps (wt2 yX14_steps cX14_steps 1 (some .int)) ({ frames := 0, cells := 0, slots := 0, locals := 0 }) (va_Pc [.ref (ad 0)] (st_R g ad sz S)) (va_Qi (fun (r : Int32) (_ : Unit) => r = f_steps S) (fun (_ : Unit) (t : State) => qE g ad (va_A (Wd g ad S) sz) S t) (va_A (Wd g ad S) sz)) 0 0 (va_A (Wd g ad S) sz) := by
  refine Met.ofW (cc := cX14_steps) (maxL := 1) (ret := (some .int)) (by decide) rfl ?_
  intro p e s m args below meth c s₁ B hml hv
  obtain ⟨rfl, hsz, hP, hK, hD0, hex, hE⟩ := hv
  have hx := B.exec
  have hb := B.bytes
  have hr := B.returns
  have hts0 := atoms_spec (ws := wt2 yX14_steps cX14_steps 1 (some .int)) B.pre
  have hts : ∀ w ∈ tb2, w.before _ s = true := fun w h => hts0 w (List.mem_cons_of_mem _ h)
  have hown : s.vm.findClass RX14 = some m.cls := findClass_of_methodNamed B.named
  subst hsz
  have hD := hD0.self (sz := s.heap.size)
  generalize hAe : va_A (Wd g ad S) s.heap.size = A at hD hE ⊢
  have hA : ∀ q : Nat, s.heap.size ≤ q → A q := fun q h => by rw [← hAe]; exact Or.inr h
  have hR : Rep g ad A s S s.heap [] := ⟨hK, hP, hD, va_S.rf, hw⟩
  clear hK hP hD hD0
  have hl := lv_entry ([.ref (ad 0)]) (n := 1) (Nat.le_of_ble_eq_true rfl)
  rw [lg_entry_eq]
  generalize (lg_sl ([.ref (ad 0)]) ++ List.replicate (1 - (lg_sl ([.ref (ad 0)])).length) Slot.unset).toArray = ls at hl ⊢
  have hl : lv_has ls 1 [(0, .ref (ad 0))] := hl
  obtain ⟨r0, hf⟩ : ∃ r0, f_steps S = r0 := ⟨_, rfl⟩
  have hf0 := hf
  unfold f_steps at hf
  unfold d_steps at hd
  refine lv_aload_n hx hb dX14_steps_0 rfl (lv_at hl 0 rfl) ?_
  refine va_get (D := rD g) (ci := 13) (v := .int (qI S 0 100)) (C := RX14) (T := TX14) (N := 143) hx hb hts in2X14 hown hR.K hR.P 0 (hR.at14 hR.w.1) rfl 100 (by decide) (hts _ kx_620) (fun _ h9 => h9) rfl dX14_steps_1 ?_
  exact W.iret (v := (qI S 0 100)) hx hb hr (fun t9 ht9 hW9 => ⟨⟨_, (), rfl, hf.trans hf0.symm, ⟨by rw [ht9]; exact hR.P, hR.D⟩⟩, hR.sS.F ht9⟩) hR.sS.2.2 dX14_steps_4
def f_field_J31 (S : MS) : Int64 := 0
def d_field_J31 (S : MS) : Prop := True
def f_field (S : MS) (x1 : Int32) : Int64 := (if (qR S 0 80) = none then f_field_J31 S else (if x1.toInt < 0 then f_field_J31 S else (if (qI S (qO S 0 80) 3).toInt ≤ x1.toInt then f_field_J31 S else (qJ S 37 x1.toInt.toNat))))
def d_field (S : MS) (x1 : Int32) : Prop := (if (qR S 0 80) = none then d_field_J31 S else (if x1.toInt < 0 then d_field_J31 S else ((qR S 0 80 = some (qO S 0 80)) ∧ (if (qI S (qO S 0 80) 3).toInt ≤ x1.toInt then d_field_J31 S else (((0 : Int) ≤ x1.toInt ∧ x1.toInt < 24) ∧ True)))))
set_option maxHeartbeats 2000000 in
set_option maxRecDepth 100000 in
theorem r_field (l : Launch) (g : Gr) (ad : Nat → Nat) (sz : Nat) (S : MS) (x1 : Int32) (hw : wfM S) (hd : d_field S x1) : Met l yX14_field (wt2 yX14_field cX14_field 2 (some .long)) ({ frames := 0, cells := 0, slots := 0, locals := 0 }) (va_Pc [.ref (ad 0), .int x1] (st_R g ad sz S)) (va_Ql (fun (r : Int64) (_ : Unit) => r = f_field S x1) (fun (_ : Unit) (t : State) => qE g ad (va_A (Wd g ad S) sz) S t) (va_A (Wd g ad S) sz)) 0 0 (va_A (Wd g ad S) sz) := by
  refine Met.ofW (cc := cX14_field) (maxL := 2) (ret := (some .long)) (by decide) rfl ?_
  intro p e s m args below meth c s₁ B hml hv
  obtain ⟨rfl, hsz, hP, hK, hD0, hex, hE⟩ := hv
  have hx := B.exec
  have hb := B.bytes
  have hr := B.returns
  have hts0 := atoms_spec (ws := wt2 yX14_field cX14_field 2 (some .long)) B.pre
  have hts : ∀ w ∈ tb2, w.before _ s = true := fun w h => hts0 w (List.mem_cons_of_mem _ h)
  have hown : s.vm.findClass RX14 = some m.cls := findClass_of_methodNamed B.named
  subst hsz
  have hD := hD0.self (sz := s.heap.size)
  generalize hAe : va_A (Wd g ad S) s.heap.size = A at hD hE ⊢
  have hA : ∀ q : Nat, s.heap.size ≤ q → A q := fun q h => by rw [← hAe]; exact Or.inr h
  have hR : Rep g ad A s S s.heap [] := ⟨hK, hP, hD, va_S.rf, hw⟩
  clear hK hP hD hD0
  have hl := lv_entry ([.ref (ad 0), .int x1]) (n := 2) (Nat.le_of_ble_eq_true rfl)
  rw [lg_entry_eq]
  generalize (lg_sl ([.ref (ad 0), .int x1]) ++ List.replicate (2 - (lg_sl ([.ref (ad 0), .int x1])).length) Slot.unset).toArray = ls at hl ⊢
  have hl : lv_has ls 2 [(0, .ref (ad 0)), (1, .int x1)] := hl
  obtain ⟨r0, hf⟩ : ∃ r0, f_field S x1 = r0 := ⟨_, rfl⟩
  have hf0 := hf
  unfold f_field at hf
  unfold d_field at hd
  refine lv_aload_n hx hb dX14_field_0 rfl (lv_at hl 0 rfl) ?_
  have hO_o1 : ∀ z, (qR S 0 80) = some z → qT S z = 11 := fun z q => hR.w.ref q hR.w.1
  refine va_get (D := rD g) (ci := 13) (v := vf ad (qR S 0 80)) (C := RX14) (T := TX14) (N := 143) hx hb hts in2X14 hown hR.K hR.P 0 (hR.at14 hR.w.1) rfl 80 (by decide) (hts _ kx_608) (fun _ h9 => h9) rfl dX14_field_1 ?_
  have J_31 : ∀ (H : Heap) (locs : List Loc) (ls : Array Slot), d_field_J31 S → f_field_J31 S = r0 → Rep g ad A s S H locs → lv_has ls 2 [] → W p l e (headSpec (wt2 yX14_field cX14_field 2 (some .long)) ({ frames := 0, cells := 0, slots := 0, locals := 0 })).room s m ([.ref (ad 0), .int x1] : List Value).toArray below meth c H locs 0 0 (MQ below (va_Ql (fun (r : Int64) (_ : Unit) => r = f_field S x1) (fun (_ : Unit) (t : State) => qE g ad A S t) A) ([.ref (ad 0), .int x1] : List Value).toArray s 0 0 A) (F0 m 31 ls []) := by
    intro H locs ls hd hf hR hl
    unfold d_field_J31 at hd
    unfold f_field_J31 at hf
    refine lv_lconst (v := 0) hx hb dX14_field_31 (by decide) ?_
    exact W.lret (v := 0) hx hb hr (fun t9 ht9 hW9 => ⟨⟨_, (), rfl, hf.trans hf0.symm, ⟨by rw [ht9]; exact hR.P, hR.D⟩⟩, hR.sS.F ht9⟩) hR.sS.2.2 dX14_field_32
  rcases hq_b2 : (qR S 0 80) with _ | b2
  · skip
    rw [if_pos (hq_b2)] at hf
    (try rw [if_pos (hq_b2)] at hd)
    refine lv_ifnullN (tgt := 31) hx hb dX14_field_4 (by decide) ?_
    exact J_31 _ _ ls hd hf  hR (lv_sub hl [] rfl)
  · have hg_b2 : b2 = ((qR S 0 80)).getD 0 := by rw [hq_b2]; rfl
    have hT_b2 : qT S (((qR S 0 80)).getD 0) = 11 := hg_b2 ▸ hO_o1 _ hq_b2
    subst hg_b2
    rw [if_neg (fun q9 => Option.some_ne_none _ (hq_b2.symm.trans q9))] at hf
    (try rw [if_neg (fun q9 => Option.some_ne_none _ (hq_b2.symm.trans q9))] at hd)
    refine lv_ifnull hx hb dX14_field_4 ?_
    refine lv_iload_n hx hb dX14_field_7 rfl (lv_at hl 1 rfl) ?_
    refine lv_if_lt (tgt := 31) hx hb dX14_field_8 (by decide) (fun c3 => ?_) (fun c3 => ?_)
    · rw [if_pos (k_lt rfl (by decide) c3)] at hf
      (try rw [if_pos (k_lt rfl (by decide) c3)] at hd)
      exact J_31 _ _ ls hd hf  hR (lv_sub hl [] rfl)
    · rw [if_neg (k_nlt rfl (by decide) c3)] at hf
      (try rw [if_neg (k_nlt rfl (by decide) c3)] at hd)
      refine lv_iload_n hx hb dX14_field_11 rfl (lv_at hl 1 rfl) ?_
      refine lv_aload_n hx hb dX14_field_12 rfl (lv_at hl 0 rfl) ?_
      obtain ⟨hv4, hd⟩ := hd
      have hT_b5 : qT S (qO S 0 80) = 11 := hR.w.ref hv4 hR.w.1
      refine va_get (D := rD g) (ci := 13) (v := .ref (ad (qO S 0 80))) (C := RX14) (T := TX14) (N := 143) hx hb hts in2X14 hown hR.K hR.P 0 (hR.at14 hR.w.1) rfl 80 (by decide) (hts _ kx_608) (fun _ h9 => h9) (congrArg (fun z => some (vf ad z)) hv4) dX14_field_13 ?_
      refine va_get (D := rD g) (ci := 12) (v := .int (qI S (qO S 0 80) 3)) (C := RX13) (T := TX13) (N := 23) hx hb hts in2X13 hown hR.K hR.P (qO S 0 80) (hR.at13 hT_b5) rfl 3 (by decide) (hts _ kx_356) (fun _ h9 => h9) rfl dX14_field_16 ?_
      refine lv_icmp_ge (tgt := 31) hx hb dX14_field_19 (by decide) (fun c6 => ?_) (fun c6 => ?_)
      · rw [if_pos (k_le rfl rfl c6)] at hf
        (try rw [if_pos (k_le rfl rfl c6)] at hd)
        exact J_31 _ _ ls hd hf  hR (lv_sub hl [] rfl)
      · rw [if_neg (k_nle rfl rfl c6)] at hf
        (try rw [if_neg (k_nle rfl rfl c6)] at hd)
        refine lv_aload_n hx hb dX14_field_22 rfl (lv_at hl 0 rfl) ?_
        refine va_get (D := rD g) (ci := 13) (v := .ref (ad 37)) (C := RX14) (T := TX14) (N := 143) hx hb hts in2X14 hown hR.K hR.P 0 (hR.at14 hR.w.1) rfl 81 (by decide) (hts _ kx_612) (fun _ h9 => h9) (congrArg (fun z => some (vf ad z)) (hR.w.2.1 _ fin_81).1) dX14_field_23 ?_
        refine lv_iload_n hx hb dX14_field_26 rfl (lv_at hl 1 rfl) ?_
        obtain ⟨hv7, hd⟩ := hd
        refine va_lald hx hb hR.K hR.P 37 3 (hR.atL (hR.w.2.1 _ fin_81).2.1) rfl (k_ixN (k_ix (n := 24) (x := x1) (a := x1.toInt) rfl hv7) (hR.w.2.1 _ fin_81).2.2) dX14_field_27 ?_
        refine lv_topl (fun z8 ez8 => ?_)
        obtain rfl : z8 = (qJ S 37 x1.toInt.toNat) := ez8
        refine lv_goto (tgt := 32) hx hb dX14_field_28 (by decide) ?_
        exact W.lret (v := (qJ S 37 x1.toInt.toNat)) hx hb hr (fun t9 ht9 hW9 => ⟨⟨_, (), rfl, hf.trans hf0.symm, ⟨by rw [ht9]; exact hR.P, hR.D⟩⟩, hR.sS.F ht9⟩) hR.sS.2.2 dX14_field_32
def f_element_J43 (S : MS) : Int32 := (0 : Int32)
def d_element_J43 (S : MS) : Prop := True
def f_element (S : MS) (x1 : Int32) (x2 : Int32) : Int32 := (if x1.toInt < 1 then f_element_J43 S else (if (qI S 0 85).toInt < x1.toInt then f_element_J43 S else (if x2.toInt < 0 then f_element_J43 S else (if (qI S 40 x1.toInt.toNat).toInt ≤ x2.toInt then f_element_J43 S else (qI S 38 ((((qI S 39 x1.toInt.toNat) + x2).toInt).toNat))))))
def d_element (S : MS) (x1 : Int32) (x2 : Int32) : Prop := (if x1.toInt < 1 then d_element_J43 S else (if (qI S 0 85).toInt < x1.toInt then d_element_J43 S else (if x2.toInt < 0 then d_element_J43 S else (((0 : Int) ≤ x1.toInt ∧ x1.toInt < 401) ∧ (if (qI S 40 x1.toInt.toNat).toInt ≤ x2.toInt then d_element_J43 S else (((0 : Int) ≤ x1.toInt ∧ x1.toInt < 401) ∧ (((0 : Int) ≤ ((qI S 39 x1.toInt.toNat) + x2).toInt ∧ ((qI S 39 x1.toInt.toNat) + x2).toInt < 20000) ∧ True)))))))
set_option maxHeartbeats 2000000 in
set_option maxRecDepth 100000 in
theorem r_element (l : Launch) (g : Gr) (ad : Nat → Nat) (sz : Nat) (S : MS) (x1 : Int32) (x2 : Int32) (hw : wfM S) (hd : d_element S x1 x2) : Met l yX14_element (wt2 yX14_element cX14_element 3 (some .int)) ({ frames := 0, cells := 0, slots := 0, locals := 0 }) (va_Pc [.ref (ad 0), .int x1, .int x2] (st_R g ad sz S)) (va_Qi (fun (r : Int32) (_ : Unit) => r = f_element S x1 x2) (fun (_ : Unit) (t : State) => qE g ad (va_A (Wd g ad S) sz) S t) (va_A (Wd g ad S) sz)) 0 0 (va_A (Wd g ad S) sz) := by
  refine Met.ofW (cc := cX14_element) (maxL := 3) (ret := (some .int)) (by decide) rfl ?_
  intro p e s m args below meth c s₁ B hml hv
  obtain ⟨rfl, hsz, hP, hK, hD0, hex, hE⟩ := hv
  have hx := B.exec
  have hb := B.bytes
  have hr := B.returns
  have hts0 := atoms_spec (ws := wt2 yX14_element cX14_element 3 (some .int)) B.pre
  have hts : ∀ w ∈ tb2, w.before _ s = true := fun w h => hts0 w (List.mem_cons_of_mem _ h)
  have hown : s.vm.findClass RX14 = some m.cls := findClass_of_methodNamed B.named
  subst hsz
  have hD := hD0.self (sz := s.heap.size)
  generalize hAe : va_A (Wd g ad S) s.heap.size = A at hD hE ⊢
  have hA : ∀ q : Nat, s.heap.size ≤ q → A q := fun q h => by rw [← hAe]; exact Or.inr h
  have hR : Rep g ad A s S s.heap [] := ⟨hK, hP, hD, va_S.rf, hw⟩
  clear hK hP hD hD0
  have hl := lv_entry ([.ref (ad 0), .int x1, .int x2]) (n := 3) (Nat.le_of_ble_eq_true rfl)
  rw [lg_entry_eq]
  generalize (lg_sl ([.ref (ad 0), .int x1, .int x2]) ++ List.replicate (3 - (lg_sl ([.ref (ad 0), .int x1, .int x2])).length) Slot.unset).toArray = ls at hl ⊢
  have hl : lv_has ls 3 [(0, .ref (ad 0)), (1, .int x1), (2, .int x2)] := hl
  obtain ⟨r0, hf⟩ : ∃ r0, f_element S x1 x2 = r0 := ⟨_, rfl⟩
  have hf0 := hf
  unfold f_element at hf
  unfold d_element at hd
  refine lv_iload_n hx hb dX14_element_0 rfl (lv_at hl 1 rfl) ?_
  refine lv_iconst (v := 1) hx hb dX14_element_1 (by decide) ?_
  have J_43 : ∀ (H : Heap) (locs : List Loc) (ls : Array Slot), d_element_J43 S → f_element_J43 S = r0 → Rep g ad A s S H locs → lv_has ls 3 [] → W p l e (headSpec (wt2 yX14_element cX14_element 3 (some .int)) ({ frames := 0, cells := 0, slots := 0, locals := 0 })).room s m ([.ref (ad 0), .int x1, .int x2] : List Value).toArray below meth c H locs 0 0 (MQ below (va_Qi (fun (r : Int32) (_ : Unit) => r = f_element S x1 x2) (fun (_ : Unit) (t : State) => qE g ad A S t) A) ([.ref (ad 0), .int x1, .int x2] : List Value).toArray s 0 0 A) (F0 m 43 ls []) := by
    intro H locs ls hd hf hR hl
    unfold d_element_J43 at hd
    unfold f_element_J43 at hf
    refine lv_iconst (v := 0) hx hb dX14_element_43 (by decide) ?_
    exact W.iret (v := 0) hx hb hr (fun t9 ht9 hW9 => ⟨⟨_, (), rfl, hf.trans hf0.symm, ⟨by rw [ht9]; exact hR.P, hR.D⟩⟩, hR.sS.F ht9⟩) hR.sS.2.2 dX14_element_44
  refine lv_icmp_lt (tgt := 43) hx hb dX14_element_2 (by decide) (fun c1 => ?_) (fun c1 => ?_)
  · rw [if_pos (k_lt rfl (by decide) c1)] at hf
    (try rw [if_pos (k_lt rfl (by decide) c1)] at hd)
    exact J_43 _ _ ls hd hf  hR (lv_sub hl [] rfl)
  · rw [if_neg (k_nlt rfl (by decide) c1)] at hf
    (try rw [if_neg (k_nlt rfl (by decide) c1)] at hd)
    refine lv_iload_n hx hb dX14_element_5 rfl (lv_at hl 1 rfl) ?_
    refine lv_aload_n hx hb dX14_element_6 rfl (lv_at hl 0 rfl) ?_
    refine va_get (D := rD g) (ci := 13) (v := .int (qI S 0 85)) (C := RX14) (T := TX14) (N := 143) hx hb hts in2X14 hown hR.K hR.P 0 (hR.at14 hR.w.1) rfl 85 (by decide) (hts _ kx_609) (fun _ h9 => h9) rfl dX14_element_7 ?_
    refine lv_icmp_gt (tgt := 43) hx hb dX14_element_10 (by decide) (fun c2 => ?_) (fun c2 => ?_)
    · rw [if_pos (k_lt rfl rfl c2)] at hf
      (try rw [if_pos (k_lt rfl rfl c2)] at hd)
      exact J_43 _ _ ls hd hf  hR (lv_sub hl [] rfl)
    · rw [if_neg (k_nlt rfl rfl c2)] at hf
      (try rw [if_neg (k_nlt rfl rfl c2)] at hd)
      refine lv_iload_n hx hb dX14_element_13 rfl (lv_at hl 2 rfl) ?_
      refine lv_if_lt (tgt := 43) hx hb dX14_element_14 (by decide) (fun c3 => ?_) (fun c3 => ?_)
      · rw [if_pos (k_lt rfl (by decide) c3)] at hf
        (try rw [if_pos (k_lt rfl (by decide) c3)] at hd)
        exact J_43 _ _ ls hd hf  hR (lv_sub hl [] rfl)
      · rw [if_neg (k_nlt rfl (by decide) c3)] at hf
        (try rw [if_neg (k_nlt rfl (by decide) c3)] at hd)
        refine lv_iload_n hx hb dX14_element_17 rfl (lv_at hl 2 rfl) ?_
        refine lv_aload_n hx hb dX14_element_18 rfl (lv_at hl 0 rfl) ?_
        refine va_get (D := rD g) (ci := 13) (v := .ref (ad 40)) (C := RX14) (T := TX14) (N := 143) hx hb hts in2X14 hown hR.K hR.P 0 (hR.at14 hR.w.1) rfl 84 (by decide) (hts _ kx_668) (fun _ h9 => h9) (congrArg (fun z => some (vf ad z)) (hR.w.2.1 _ fin_84).1) dX14_element_19 ?_
        refine lv_iload_n hx hb dX14_element_22 rfl (lv_at hl 1 rfl) ?_
        obtain ⟨hv4, hd⟩ := hd
        refine va_iald hx hb hR.K hR.P 40 1 (hR.atI (hR.w.2.1 _ fin_84).2.1) rfl (k_ixN (k_ix (n := 401) (x := x1) (a := x1.toInt) rfl hv4) (hR.w.2.1 _ fin_84).2.2) dX14_element_23 ?_
        refine lv_topi (fun z5 ez5 => ?_)
        obtain rfl : z5 = (qI S 40 x1.toInt.toNat) := ez5
        refine lv_icmp_ge (tgt := 43) hx hb dX14_element_24 (by decide) (fun c6 => ?_) (fun c6 => ?_)
        · rw [if_pos (k_le rfl rfl c6)] at hf
          (try rw [if_pos (k_le rfl rfl c6)] at hd)
          exact J_43 _ _ ls hd hf  hR (lv_sub hl [] rfl)
        · rw [if_neg (k_nle rfl rfl c6)] at hf
          (try rw [if_neg (k_nle rfl rfl c6)] at hd)
          refine lv_aload_n hx hb dX14_element_27 rfl (lv_at hl 0 rfl) ?_
          refine va_get (D := rD g) (ci := 13) (v := .ref (ad 38)) (C := RX14) (T := TX14) (N := 143) hx hb hts in2X14 hown hR.K hR.P 0 (hR.at14 hR.w.1) rfl 82 (by decide) (hts _ kx_611) (fun _ h9 => h9) (congrArg (fun z => some (vf ad z)) (hR.w.2.1 _ fin_82).1) dX14_element_28 ?_
          refine lv_aload_n hx hb dX14_element_31 rfl (lv_at hl 0 rfl) ?_
          refine va_get (D := rD g) (ci := 13) (v := .ref (ad 39)) (C := RX14) (T := TX14) (N := 143) hx hb hts in2X14 hown hR.K hR.P 0 (hR.at14 hR.w.1) rfl 83 (by decide) (hts _ kx_667) (fun _ h9 => h9) (congrArg (fun z => some (vf ad z)) (hR.w.2.1 _ fin_83).1) dX14_element_32 ?_
          refine lv_iload_n hx hb dX14_element_35 rfl (lv_at hl 1 rfl) ?_
          obtain ⟨hv7, hd⟩ := hd
          refine va_iald hx hb hR.K hR.P 39 1 (hR.atI (hR.w.2.1 _ fin_83).2.1) rfl (k_ixN (k_ix (n := 401) (x := x1) (a := x1.toInt) rfl hv7) (hR.w.2.1 _ fin_83).2.2) dX14_element_36 ?_
          refine lv_topi (fun z8 ez8 => ?_)
          obtain rfl : z8 = (qI S 39 x1.toInt.toNat) := ez8
          refine lv_iload_n hx hb dX14_element_37 rfl (lv_at hl 2 rfl) ?_
          refine lv_iadd hx hb dX14_element_38 ?_
          refine lv_topi (fun z9 ez9 => ?_)
          obtain rfl : z9 = ((qI S 39 x1.toInt.toNat) + x2) := ez9
          obtain ⟨hv10, hd⟩ := hd
          refine va_iald hx hb hR.K hR.P 38 1 (hR.atI (hR.w.2.1 _ fin_82).2.1) rfl (k_ixN (k_ix (n := 20000) (x := ((qI S 39 x1.toInt.toNat) + x2)) (a := ((qI S 39 x1.toInt.toNat) + x2).toInt) rfl hv10) (hR.w.2.1 _ fin_82).2.2) dX14_element_39 ?_
          refine lv_topi (fun z11 ez11 => ?_)
          obtain rfl : z11 = (qI S 38 ((((qI S 39 x1.toInt.toNat) + x2).toInt).toNat)) := ez11
          refine lv_goto (tgt := 44) hx hb dX14_element_40 (by decide) ?_
          exact W.iret (v := (qI S 38 ((((qI S 39 x1.toInt.toNat) + x2).toInt).toNat))) hx hb hr (fun t9 ht9 hW9 => ⟨⟨_, (), rfl, hf.trans hf0.symm, ⟨by rw [ht9]; exact hR.P, hR.D⟩⟩, hR.sS.F ht9⟩) hR.sS.2.2 dX14_element_44
def f_arrayLength_J22 (S : MS) : Int32 := (-1 : Int32)
def d_arrayLength_J22 (S : MS) : Prop := True
def f_arrayLength (S : MS) (x1 : Int32) : Int32 := (if x1.toInt < 1 then f_arrayLength_J22 S else (if (qI S 0 85).toInt < x1.toInt then f_arrayLength_J22 S else (qI S 40 x1.toInt.toNat)))
def d_arrayLength (S : MS) (x1 : Int32) : Prop := (if x1.toInt < 1 then d_arrayLength_J22 S else (if (qI S 0 85).toInt < x1.toInt then d_arrayLength_J22 S else (((0 : Int) ≤ x1.toInt ∧ x1.toInt < 401) ∧ True)))
set_option maxHeartbeats 2000000 in
set_option maxRecDepth 100000 in
theorem r_arrayLength (l : Launch) (g : Gr) (ad : Nat → Nat) (sz : Nat) (S : MS) (x1 : Int32) (hw : wfM S) (hd : d_arrayLength S x1) : Met l yX14_arrayLength (wt2 yX14_arrayLength cX14_arrayLength 2 (some .int)) ({ frames := 0, cells := 0, slots := 0, locals := 0 }) (va_Pc [.ref (ad 0), .int x1] (st_R g ad sz S)) (va_Qi (fun (r : Int32) (_ : Unit) => r = f_arrayLength S x1) (fun (_ : Unit) (t : State) => qE g ad (va_A (Wd g ad S) sz) S t) (va_A (Wd g ad S) sz)) 0 0 (va_A (Wd g ad S) sz) := by
  refine Met.ofW (cc := cX14_arrayLength) (maxL := 2) (ret := (some .int)) (by decide) rfl ?_
  intro p e s m args below meth c s₁ B hml hv
  obtain ⟨rfl, hsz, hP, hK, hD0, hex, hE⟩ := hv
  have hx := B.exec
  have hb := B.bytes
  have hr := B.returns
  have hts0 := atoms_spec (ws := wt2 yX14_arrayLength cX14_arrayLength 2 (some .int)) B.pre
  have hts : ∀ w ∈ tb2, w.before _ s = true := fun w h => hts0 w (List.mem_cons_of_mem _ h)
  have hown : s.vm.findClass RX14 = some m.cls := findClass_of_methodNamed B.named
  subst hsz
  have hD := hD0.self (sz := s.heap.size)
  generalize hAe : va_A (Wd g ad S) s.heap.size = A at hD hE ⊢
  have hA : ∀ q : Nat, s.heap.size ≤ q → A q := fun q h => by rw [← hAe]; exact Or.inr h
  have hR : Rep g ad A s S s.heap [] := ⟨hK, hP, hD, va_S.rf, hw⟩
  clear hK hP hD hD0
  have hl := lv_entry ([.ref (ad 0), .int x1]) (n := 2) (Nat.le_of_ble_eq_true rfl)
  rw [lg_entry_eq]
  generalize (lg_sl ([.ref (ad 0), .int x1]) ++ List.replicate (2 - (lg_sl ([.ref (ad 0), .int x1])).length) Slot.unset).toArray = ls at hl ⊢
  have hl : lv_has ls 2 [(0, .ref (ad 0)), (1, .int x1)] := hl
  obtain ⟨r0, hf⟩ : ∃ r0, f_arrayLength S x1 = r0 := ⟨_, rfl⟩
  have hf0 := hf
  unfold f_arrayLength at hf
  unfold d_arrayLength at hd
  refine lv_iload_n hx hb dX14_arrayLength_0 rfl (lv_at hl 1 rfl) ?_
  refine lv_iconst (v := 1) hx hb dX14_arrayLength_1 (by decide) ?_
  have J_22 : ∀ (H : Heap) (locs : List Loc) (ls : Array Slot), d_arrayLength_J22 S → f_arrayLength_J22 S = r0 → Rep g ad A s S H locs → lv_has ls 2 [] → W p l e (headSpec (wt2 yX14_arrayLength cX14_arrayLength 2 (some .int)) ({ frames := 0, cells := 0, slots := 0, locals := 0 })).room s m ([.ref (ad 0), .int x1] : List Value).toArray below meth c H locs 0 0 (MQ below (va_Qi (fun (r : Int32) (_ : Unit) => r = f_arrayLength S x1) (fun (_ : Unit) (t : State) => qE g ad A S t) A) ([.ref (ad 0), .int x1] : List Value).toArray s 0 0 A) (F0 m 22 ls []) := by
    intro H locs ls hd hf hR hl
    unfold d_arrayLength_J22 at hd
    unfold f_arrayLength_J22 at hf
    refine lv_iconst (v := (-1)) hx hb dX14_arrayLength_22 (by decide) ?_
    exact W.iret (v := (-1)) hx hb hr (fun t9 ht9 hW9 => ⟨⟨_, (), rfl, hf.trans hf0.symm, ⟨by rw [ht9]; exact hR.P, hR.D⟩⟩, hR.sS.F ht9⟩) hR.sS.2.2 dX14_arrayLength_23
  refine lv_icmp_lt (tgt := 22) hx hb dX14_arrayLength_2 (by decide) (fun c1 => ?_) (fun c1 => ?_)
  · rw [if_pos (k_lt rfl (by decide) c1)] at hf
    (try rw [if_pos (k_lt rfl (by decide) c1)] at hd)
    exact J_22 _ _ ls hd hf  hR (lv_sub hl [] rfl)
  · rw [if_neg (k_nlt rfl (by decide) c1)] at hf
    (try rw [if_neg (k_nlt rfl (by decide) c1)] at hd)
    refine lv_iload_n hx hb dX14_arrayLength_5 rfl (lv_at hl 1 rfl) ?_
    refine lv_aload_n hx hb dX14_arrayLength_6 rfl (lv_at hl 0 rfl) ?_
    refine va_get (D := rD g) (ci := 13) (v := .int (qI S 0 85)) (C := RX14) (T := TX14) (N := 143) hx hb hts in2X14 hown hR.K hR.P 0 (hR.at14 hR.w.1) rfl 85 (by decide) (hts _ kx_609) (fun _ h9 => h9) rfl dX14_arrayLength_7 ?_
    refine lv_icmp_gt (tgt := 22) hx hb dX14_arrayLength_10 (by decide) (fun c2 => ?_) (fun c2 => ?_)
    · rw [if_pos (k_lt rfl rfl c2)] at hf
      (try rw [if_pos (k_lt rfl rfl c2)] at hd)
      exact J_22 _ _ ls hd hf  hR (lv_sub hl [] rfl)
    · rw [if_neg (k_nlt rfl rfl c2)] at hf
      (try rw [if_neg (k_nlt rfl rfl c2)] at hd)
      refine lv_aload_n hx hb dX14_arrayLength_13 rfl (lv_at hl 0 rfl) ?_
      refine va_get (D := rD g) (ci := 13) (v := .ref (ad 40)) (C := RX14) (T := TX14) (N := 143) hx hb hts in2X14 hown hR.K hR.P 0 (hR.at14 hR.w.1) rfl 84 (by decide) (hts _ kx_668) (fun _ h9 => h9) (congrArg (fun z => some (vf ad z)) (hR.w.2.1 _ fin_84).1) dX14_arrayLength_14 ?_
      refine lv_iload_n hx hb dX14_arrayLength_17 rfl (lv_at hl 1 rfl) ?_
      obtain ⟨hv3, hd⟩ := hd
      refine va_iald hx hb hR.K hR.P 40 1 (hR.atI (hR.w.2.1 _ fin_84).2.1) rfl (k_ixN (k_ix (n := 401) (x := x1) (a := x1.toInt) rfl hv3) (hR.w.2.1 _ fin_84).2.2) dX14_arrayLength_18 ?_
      refine lv_topi (fun z4 ez4 => ?_)
      obtain rfl : z4 = (qI S 40 x1.toInt.toNat) := ez4
      refine lv_goto (tgt := 23) hx hb dX14_arrayLength_19 (by decide) ?_
      exact W.iret (v := (qI S 40 x1.toInt.toNat)) hx hb hr (fun t9 ht9 hW9 => ⟨⟨_, (), rfl, hf.trans hf0.symm, ⟨by rw [ht9]; exact hR.P, hR.D⟩⟩, hR.sS.F ht9⟩) hR.sS.2.2 dX14_arrayLength_23
def f_strays (S : MS) : Int32 := (qI S 0 96)
def d_strays (S : MS) : Prop := True
set_option maxHeartbeats 2000000 in
set_option maxRecDepth 100000 in
theorem r_strays (l : Launch) (g : Gr) (ad : Nat → Nat) (sz : Nat) (S : MS) (hw : wfM S) (hd : d_strays S) : Met l yX14_strays (wt2 yX14_strays cX14_strays 1 (some .int)) ({ frames := 0, cells := 0, slots := 0, locals := 0 }) (va_Pc [.ref (ad 0)] (st_R g ad sz S)) (va_Qi (fun (r : Int32) (_ : Unit) => r = f_strays S) (fun (_ : Unit) (t : State) => qE g ad (va_A (Wd g ad S) sz) S t) (va_A (Wd g ad S) sz)) 0 0 (va_A (Wd g ad S) sz) := by
  refine Met.ofW (cc := cX14_strays) (maxL := 1) (ret := (some .int)) (by decide) rfl ?_
  intro p e s m args below meth c s₁ B hml hv
  obtain ⟨rfl, hsz, hP, hK, hD0, hex, hE⟩ := hv
  have hx := B.exec
  have hb := B.bytes
  have hr := B.returns
  have hts0 := atoms_spec (ws := wt2 yX14_strays cX14_strays 1 (some .int)) B.pre
  have hts : ∀ w ∈ tb2, w.before _ s = true := fun w h => hts0 w (List.mem_cons_of_mem _ h)
  have hown : s.vm.findClass RX14 = some m.cls := findClass_of_methodNamed B.named
  subst hsz
  have hD := hD0.self (sz := s.heap.size)
  generalize hAe : va_A (Wd g ad S) s.heap.size = A at hD hE ⊢
  have hA : ∀ q : Nat, s.heap.size ≤ q → A q := fun q h => by rw [← hAe]; exact Or.inr h
  have hR : Rep g ad A s S s.heap [] := ⟨hK, hP, hD, va_S.rf, hw⟩
  clear hK hP hD hD0
  have hl := lv_entry ([.ref (ad 0)]) (n := 1) (Nat.le_of_ble_eq_true rfl)
  rw [lg_entry_eq]
  generalize (lg_sl ([.ref (ad 0)]) ++ List.replicate (1 - (lg_sl ([.ref (ad 0)])).length) Slot.unset).toArray = ls at hl ⊢
  have hl : lv_has ls 1 [(0, .ref (ad 0))] := hl
  obtain ⟨r0, hf⟩ : ∃ r0, f_strays S = r0 := ⟨_, rfl⟩
  have hf0 := hf
  unfold f_strays at hf
  unfold d_strays at hd
  refine lv_aload_n hx hb dX14_strays_0 rfl (lv_at hl 0 rfl) ?_
  refine va_get (D := rD g) (ci := 13) (v := .int (qI S 0 96)) (C := RX14) (T := TX14) (N := 143) hx hb hts in2X14 hown hR.K hR.P 0 (hR.at14 hR.w.1) rfl 96 (by decide) (hts _ kx_639) (fun _ h9 => h9) rfl dX14_strays_1 ?_
  exact W.iret (v := (qI S 0 96)) hx hb hr (fun t9 ht9 hW9 => ⟨⟨_, (), rfl, hf.trans hf0.symm, ⟨by rw [ht9]; exact hR.P, hR.D⟩⟩, hR.sS.F ht9⟩) hR.sS.2.2 dX14_strays_4
def w_edgeInto_L7 (Q : MS → Prop) : Nat → MS → Int32 → Int32 → Prop
  | 0, _, _, _ => False
  | n7 + 1, U7, v7_2, v7_3 => (((qI U7 0 110).toInt ≤ v7_3.toInt → (((0 : Int) ≤ (qI U7 0 110).toInt ∧ (qI U7 0 110).toInt < 24000) ∧ (∀ S6, S6 = wI U7 52 (((qI U7 0 110).toInt).toNat) v7_2 → (∀ S8, S8 = wI S6 0 110 ((qI S6 0 110) + (1 : Int32)) → Q S8)))) ∧ (¬ (qI U7 0 110).toInt ≤ v7_3.toInt → (((0 : Int) ≤ v7_3.toInt ∧ v7_3.toInt < 24000) ∧ (((qI U7 52 v7_3.toInt.toNat).toInt = v7_2.toInt → Q U7) ∧ (¬ (qI U7 52 v7_3.toInt.toNat).toInt = v7_2.toInt → (∀ a12 : Int32, a12 = (v7_3 + Int32.ofInt 1) → (w_edgeInto_L7 Q n7) U7 v7_2 a12))))))
def w_edgeInto (S : MS) (x1 : Int32) (x2 : Int32) (Q : MS → Prop) : Prop := (((0 : Int) ≤ x1.toInt ∧ x1.toInt < 1202) ∧ (∀ a3 : Int32, a3 = (qI S 51 x1.toInt.toNat) → (∃ n, w_edgeInto_L7 Q n S x2 a3)))
set_option maxHeartbeats 2000000 in
set_option maxRecDepth 100000 in
theorem r_edgeInto (l : Launch) (g : Gr) (ad : Nat → Nat) (sz : Nat) (S : MS) (x1 : Int32) (x2 : Int32) (hw : wfM S) (Q : MS → Prop) (h : w_edgeInto S x1 x2 Q) : Met l yX14_edgeInto (wt2 yX14_edgeInto cX14_edgeInto 4 none) ({ frames := 0, cells := 0, slots := 0, locals := 0 }) (va_Pc [.ref (ad 0), .int x1, .int x2] (st_R g ad sz S)) (va_Qv (fun (u : MS) => Q u ∧ wfM u ∧ shy S u) (fun (u : MS) (t : State) => qE g ad (va_A (Wd g ad S) sz) u t) (va_A (Wd g ad S) sz)) 0 0 (va_A (Wd g ad S) sz) := by
  refine Met.ofW (cc := cX14_edgeInto) (maxL := 4) (ret := none) (by decide) rfl ?_
  intro p e s m args below meth c s₁ B hml hv
  obtain ⟨rfl, hsz, hP, hK, hD0, hex, hE⟩ := hv
  have hx := B.exec
  have hb := B.bytes
  have hr := B.returns
  have hts0 := atoms_spec (ws := wt2 yX14_edgeInto cX14_edgeInto 4 none) B.pre
  have hts : ∀ w ∈ tb2, w.before _ s = true := fun w h => hts0 w (List.mem_cons_of_mem _ h)
  have hown : s.vm.findClass RX14 = some m.cls := findClass_of_methodNamed B.named
  subst hsz
  have hD := hD0.self (sz := s.heap.size)
  generalize hAe : va_A (Wd g ad S) s.heap.size = A at hD hE ⊢
  have hA : ∀ q : Nat, s.heap.size ≤ q → A q := fun q h => by rw [← hAe]; exact Or.inr h
  have hR : Rep g ad A s S s.heap [] := ⟨hK, hP, hD, va_S.rf, hw⟩
  clear hK hP hD hD0
  have hl := lv_entry ([.ref (ad 0), .int x1, .int x2]) (n := 4) (Nat.le_of_ble_eq_true rfl)
  rw [lg_entry_eq]
  generalize (lg_sl ([.ref (ad 0), .int x1, .int x2]) ++ List.replicate (4 - (lg_sl ([.ref (ad 0), .int x1, .int x2])).length) Slot.unset).toArray = ls at hl ⊢
  have hl : lv_has ls 4 [(0, .ref (ad 0)), (1, .int x1), (2, .int x2)] := hl
  have hsh : shy S S := shy.rf
  unfold w_edgeInto at h
  refine lv_aload_n hx hb dX14_edgeInto_0 rfl (lv_at hl 0 rfl) ?_
  refine va_get (D := rD g) (ci := 13) (v := .ref (ad 51)) (C := RX14) (T := TX14) (N := 143) hx hb hts in2X14 hown hR.K hR.P 0 (hR.at14 hR.w.1) rfl 108 (by decide) (hts _ kx_672) (fun _ h9 => h9) (congrArg (fun z => some (vf ad z)) (hR.w.2.1 _ fin_108).1) dX14_edgeInto_1 ?_
  refine lv_iload_n hx hb dX14_edgeInto_4 rfl (lv_at hl 1 rfl) ?_
  obtain ⟨hv1, h⟩ := h
  refine va_iald hx hb hR.K hR.P 51 1 (hR.atI (hR.w.2.1 _ fin_108).2.1) rfl (k_ixN (k_ix (n := 1202) (x := x1) (a := x1.toInt) rfl hv1) (hR.w.2.1 _ fin_108).2.2) dX14_edgeInto_5 ?_
  refine lv_topi (fun z2 ez2 => ?_)
  obtain rfl : z2 = (qI S 51 x1.toInt.toNat) := ez2
  obtain ⟨a3, ea3⟩ : ∃ z, z = (qI S 51 x1.toInt.toNat) := ⟨_, rfl⟩
  rw [← ea3]
  replace h := h a3 ea3
  refine lv_istore_n (lv' := [(3, .int a3), (0, .ref (ad 0)), (1, .int x1), (2, .int x2)]) hx hb dX14_edgeInto_6 rfl hl (by decide) rfl (fun ls hl => ?_)
  have J_7 : ∀ (n7 : Nat) (U7 : MS) (v7_2 : Int32) (v7_3 : Int32) (H : Heap) (locs : List Loc) (ls : Array Slot), w_edgeInto_L7 Q n7 U7 v7_2 v7_3 → shy S U7 → Rep g ad A s U7 H locs → lv_has ls 4 [(0, .ref (ad 0)), (2, .int v7_2), (3, .int v7_3)] → W p l e (headSpec (wt2 yX14_edgeInto cX14_edgeInto 4 none) ({ frames := 0, cells := 0, slots := 0, locals := 0 })).room s m ([.ref (ad 0), .int x1, .int x2] : List Value).toArray below meth c H locs 0 0 (MQ below (va_Qv (fun (u : MS) => Q u ∧ wfM u ∧ shy S u) (fun (u : MS) (t : State) => qE g ad A u t) A) ([.ref (ad 0), .int x1, .int x2] : List Value).toArray s 0 0 A) (F0 m 7 ls []) := by
    intro n7
    induction n7 with
    | zero => intro U7 v7_2 v7_3 H locs ls h hsh hR hl; unfold w_edgeInto_L7 at h; exact h.elim
    | succ n7 ih_7 =>
      intro U7 v7_2 v7_3 H locs ls h hsh hR hl
      unfold w_edgeInto_L7 at h
      refine lv_iload_n hx hb dX14_edgeInto_7 rfl (lv_at hl 2 rfl) ?_
      refine lv_aload_n hx hb dX14_edgeInto_8 rfl (lv_at hl 0 rfl) ?_
      refine va_get (D := rD g) (ci := 13) (v := .int (qI U7 0 110)) (C := RX14) (T := TX14) (N := 143) hx hb hts in2X14 hown hR.K hR.P 0 (hR.at14 hR.w.1) rfl 110 (by decide) (hts _ kx_673) (fun _ h9 => h9) rfl dX14_edgeInto_9 ?_
      refine lv_icmp_ge (tgt := 32) hx hb dX14_edgeInto_12 (by decide) (fun c4 => ?_) (fun c4 => ?_)
      · replace h := h.1 (k_le rfl rfl c4)
        refine lv_aload_n hx hb dX14_edgeInto_32 rfl (lv_at hl 0 rfl) ?_
        refine va_get (D := rD g) (ci := 13) (v := .ref (ad 52)) (C := RX14) (T := TX14) (N := 143) hx hb hts in2X14 hown hR.K hR.P 0 (hR.at14 hR.w.1) rfl 109 (by decide) (hts _ kx_674) (fun _ h9 => h9) (congrArg (fun z => some (vf ad z)) (hR.w.2.1 _ fin_109).1) dX14_edgeInto_33 ?_
        refine lv_aload_n hx hb dX14_edgeInto_36 rfl (lv_at hl 0 rfl) ?_
        refine va_get (D := rD g) (ci := 13) (v := .int (qI U7 0 110)) (C := RX14) (T := TX14) (N := 143) hx hb hts in2X14 hown hR.K hR.P 0 (hR.at14 hR.w.1) rfl 110 (by decide) (hts _ kx_673) (fun _ h9 => h9) rfl dX14_edgeInto_37 ?_
        refine lv_iload_n hx hb dX14_edgeInto_40 rfl (lv_at hl 1 rfl) ?_
        obtain ⟨hv5, h⟩ := h
        refine va_iast hx hb hR.K hR.P hR.D hR.sS 52 1 (hR.atI (hR.w.2.1 _ fin_109).2.1) rfl (k_ixN (k_ix (n := 24000) (x := (qI U7 0 110)) (a := (qI U7 0 110).toInt) rfl hv5) (hR.w.2.1 _ fin_109).2.2) dX14_edgeInto_41 (fun H locs hP hD hS => ?_)
        have hR : Rep g ad A s (wI U7 52 (((qI U7 0 110).toInt).toNat) v7_2) H locs := hR.aI (hR.w.2.1 _ fin_109).2.1 hP hD hS
        obtain ⟨S6, eS6⟩ : ∃ z, z = wI U7 52 (((qI U7 0 110).toInt).toNat) v7_2 := ⟨_, rfl⟩
        rw [← eS6] at hR
        replace h := h S6 eS6
        have hsh : shy S S6 := by rw [eS6]; exact hsh
        refine lv_aload_n hx hb dX14_edgeInto_42 rfl (lv_at hl 0 rfl) ?_
        refine lv_dup hx hb dX14_edgeInto_43 rfl ?_
        refine va_get (D := rD g) (ci := 13) (v := .int (qI S6 0 110)) (C := RX14) (T := TX14) (N := 143) hx hb hts in2X14 hown hR.K hR.P 0 (hR.at14 hR.w.1) rfl 110 (by decide) (hts _ kx_673) (fun _ h9 => h9) rfl dX14_edgeInto_44 ?_
        refine lv_iconst (v := 1) hx hb dX14_edgeInto_47 (by decide) ?_
        refine lv_iadd hx hb dX14_edgeInto_48 ?_
        refine lv_topi (fun z7 ez7 => ?_)
        obtain rfl : z7 = ((qI S6 0 110) + (1 : Int32)) := ez7
        refine va_put (D := rD g) (ci := 13) (v := .int ((qI S6 0 110) + (1 : Int32))) (ty := .int) (C := RX14) (T := TX14) (N := 143) hx hb hts in2X14 tyX14 tyX14_ok nmX14 hown hR.K hR.P hR.D hR.sS 0 (hR.at14 hR.w.1) rfl 110 (by decide) (hts _ kx_673) (fun _ h9 => h9) rfl (by decide +kernel) rfl rfl (Nat.le_of_ble_eq_true rfl) dX14_edgeInto_49 (fun H locs hP hD hS => ?_)
        have hR : Rep g ad A s (wI S6 0 110 ((qI S6 0 110) + (1 : Int32))) H locs := hR.pI hR.w.1 F14_s110 hP hD hS
        obtain ⟨S8, eS8⟩ : ∃ z, z = wI S6 0 110 ((qI S6 0 110) + (1 : Int32)) := ⟨_, rfl⟩
        rw [← eS8] at hR
        replace h := h S8 eS8
        have hsh : shy S S8 := by rw [eS8]; exact hsh
        exact W.vret hx hb hr (fun t9 ht9 hW9 => ⟨⟨S8, rfl, ⟨h, hR.w, hsh⟩, ⟨by rw [ht9]; exact hR.P, hR.D⟩⟩, hR.sS.F ht9⟩) hR.sS.2.2 dX14_edgeInto_52
      · replace h := h.2 (k_nle rfl rfl c4)
        refine lv_aload_n hx hb dX14_edgeInto_15 rfl (lv_at hl 0 rfl) ?_
        refine va_get (D := rD g) (ci := 13) (v := .ref (ad 52)) (C := RX14) (T := TX14) (N := 143) hx hb hts in2X14 hown hR.K hR.P 0 (hR.at14 hR.w.1) rfl 109 (by decide) (hts _ kx_674) (fun _ h9 => h9) (congrArg (fun z => some (vf ad z)) (hR.w.2.1 _ fin_109).1) dX14_edgeInto_16 ?_
        refine lv_iload_n hx hb dX14_edgeInto_19 rfl (lv_at hl 2 rfl) ?_
        obtain ⟨hv9, h⟩ := h
        refine va_iald hx hb hR.K hR.P 52 1 (hR.atI (hR.w.2.1 _ fin_109).2.1) rfl (k_ixN (k_ix (n := 24000) (x := v7_3) (a := v7_3.toInt) rfl hv9) (hR.w.2.1 _ fin_109).2.2) dX14_edgeInto_20 ?_
        refine lv_topi (fun z10 ez10 => ?_)
        obtain rfl : z10 = (qI U7 52 v7_3.toInt.toNat) := ez10
        refine lv_iload_n hx hb dX14_edgeInto_21 rfl (lv_at hl 1 rfl) ?_
        refine lv_icmp_ne (tgt := 26) hx hb dX14_edgeInto_22 (by decide) (fun c11 => ?_) (fun c11 => ?_)
        · replace h := h.2 (k_ne rfl rfl c11)
          obtain ⟨a12, ea12⟩ : ∃ z, z = (v7_3 + Int32.ofInt 1) := ⟨_, rfl⟩
          replace h := h a12 ea12
          refine lv_iinc (v := a12) (lv' := [(3, .int a12), (0, .ref (ad 0)), (2, .int v7_2)]) hx hb dX14_edgeInto_26 hl (k := 2) rfl ea12.symm (by decide) rfl (fun ls hl => ?_)
          refine lv_goto (tgt := 7) hx hb dX14_edgeInto_29 (by decide) ?_
          exact ih_7 U7 v7_2 a12 _ _ ls h  hsh hR (lv_sub hl [1, 2, 0] rfl)
        · replace h := h.1 (k_eq rfl rfl c11)
          exact W.vret hx hb hr (fun t9 ht9 hW9 => ⟨⟨U7, rfl, ⟨h, hR.w, hsh⟩, ⟨by rw [ht9]; exact hR.P, hR.D⟩⟩, hR.sS.F ht9⟩) hR.sS.2.2 dX14_edgeInto_25
  obtain ⟨n9, h⟩ := h
  exact J_7 n9 S x2 a3 _ _ ls h  hsh hR (lv_sub hl [1, 3, 0] rfl)
def w_edges_J133 (Q : MS → Prop) (k100 : MS → Int32 → Int32 → Int32 → Prop) (U133 : MS) (v133_1 : Int32) (v133_2 : Int32) (v133_3 : Int32) : Prop := (∀ a27 : Int32, a27 = (v133_3 + Int32.ofInt 1) → k100 U133 v133_1 v133_2 a27)
def w_edges_L100 (Q : MS → Prop) (k7 : MS → Int32 → Prop) : Nat → MS → Int32 → Int32 → Int32 → Prop
  | 0, _, _, _, _ => False
  | n100 + 1, U100, v100_1, v100_2, v100_3 => (((qI U100 0 54).toInt ≤ v100_3.toInt → (∀ a23 : Int32, a23 = (v100_1 + Int32.ofInt 1) → k7 U100 a23)) ∧ (¬ (qI U100 0 54).toInt ≤ v100_3.toInt → (d_isCaught U100 v100_2 v100_3 ∧ (((f_isCaught U100 v100_2 v100_3).toInt = 0 → w_edges_J133 Q (w_edges_L100 Q k7 n100) U100 v100_1 v100_2 v100_3) ∧ (¬ (f_isCaught U100 v100_2 v100_3).toInt = 0 → (d_catchWord U100 v100_3 (2 : Int32) ∧ (((0 : Int) ≤ (f_catchWord U100 v100_3 (2 : Int32)).toInt ∧ (f_catchWord U100 v100_3 (2 : Int32)).toInt < 1201) ∧ (∃ Q34, w_edgeInto U100 v100_1 (qI U100 50 (((f_catchWord U100 v100_3 (2 : Int32)).toInt).toNat)) Q34 ∧ ∀ S35, Q34 S35 → w_edges_J133 Q (w_edges_L100 Q k7 n100) S35 v100_1 v100_2 v100_3))))))))
def w_edges_L67 (Q : MS → Prop) (k7 : MS → Int32 → Prop) : Nat → MS → Int32 → Int32 → Int32 → Prop
  | 0, _, _, _, _ => False
  | n67 + 1, U67, v67_1, v67_2, v67_3 => (d_ways U67 v67_2 ∧ (((f_ways U67 v67_2).toInt ≤ v67_3.toInt → (∃ n, w_edges_L100 Q k7 n U67 v67_1 v67_2 0)) ∧ (¬ (f_ways U67 v67_2).toInt ≤ v67_3.toInt → (d_way U67 v67_2 v67_3 ∧ (((0 : Int) ≤ (f_way U67 v67_2 v67_3).toInt ∧ (f_way U67 v67_2 v67_3).toInt < 1201) ∧ (∃ Q42, w_edgeInto U67 v67_1 (qI U67 50 (((f_way U67 v67_2 v67_3).toInt).toNat)) Q42 ∧ ∀ S43, Q42 S43 → (∀ a45 : Int32, a45 = (v67_3 + Int32.ofInt 1) → (w_edges_L67 Q k7 n67) S43 v67_1 v67_2 a45)))))))
def w_edges_J65 (Q : MS → Prop) (k7 : MS → Int32 → Prop) (U65 : MS) (v65_1 : Int32) (v65_2 : Int32) : Prop := (∃ n, w_edges_L67 Q k7 n U65 v65_1 v65_2 0)
def w_edges_L7 (Q : MS → Prop) : Nat → MS → Int32 → Prop
  | 0, _, _ => False
  | n7 + 1, U7, v7_1 => (((qI U7 0 105).toInt ≤ v7_1.toInt → (((0 : Int) ≤ (qI U7 0 105).toInt ∧ (qI U7 0 105).toInt < 1202) ∧ (∀ S4, S4 = wI U7 51 (((qI U7 0 105).toInt).toNat) (qI U7 0 110) → Q S4))) ∧ (¬ (qI U7 0 105).toInt ≤ v7_1.toInt → (((0 : Int) ≤ v7_1.toInt ∧ v7_1.toInt < 1202) ∧ (∀ S6, S6 = wI U7 51 v7_1.toInt.toNat (qI U7 0 110) → (((0 : Int) ≤ (v7_1 + (1 : Int32)).toInt ∧ (v7_1 + (1 : Int32)).toInt < 1201) ∧ (∀ a11 : Int32, a11 = ((qI S6 49 (((v7_1 + (1 : Int32)).toInt).toNat)) - (1 : Int32)) → (d_op S6 a11 ∧ (d_goesOn S6 (f_op S6 a11) ∧ (((f_goesOn S6 (f_op S6 a11)).toInt = 0 → w_edges_J65 Q (w_edges_L7 Q n7) S6 v7_1 a11) ∧ (¬ (f_goesOn S6 (f_op S6 a11)).toInt = 0 → (((qI S6 0 52).toInt ≤ (a11 + (1 : Int32)).toInt → w_edges_J65 Q (w_edges_L7 Q n7) S6 v7_1 a11) ∧ (¬ (qI S6 0 52).toInt ≤ (a11 + (1 : Int32)).toInt → (∃ Q50, w_edgeInto S6 v7_1 (v7_1 + (1 : Int32)) Q50 ∧ ∀ S51, Q50 S51 → w_edges_J65 Q (w_edges_L7 Q n7) S51 v7_1 a11)))))))))))))
def w_edges (S : MS) (Q : MS → Prop) : Prop := (∀ S1, S1 = wI S 0 110 0 → (∃ n, w_edges_L7 Q n S1 0))
set_option maxHeartbeats 2000000 in
set_option maxRecDepth 100000 in
theorem r_edges (l : Launch) (g : Gr) (ad : Nat → Nat) (sz : Nat) (S : MS) (hw : wfM S) (Q : MS → Prop) (h : w_edges S Q) : Met l yX14_edges (wt2 yX14_edges cX14_edges 4 none) ({ frames := 2, cells := 0, slots := 0, locals := 44 }) (va_Pc [.ref (ad 0)] (st_R g ad sz S)) (va_Qv (fun (u : MS) => Q u ∧ wfM u ∧ shy S u) (fun (u : MS) (t : State) => qE g ad (va_A (Wd g ad S) sz) u t) (va_A (Wd g ad S) sz)) 0 0 (va_A (Wd g ad S) sz) := by
  refine Met.ofW (cc := cX14_edges) (maxL := 4) (ret := none) (by decide) rfl ?_
  intro p e s m args below meth c s₁ B hml hv
  obtain ⟨rfl, hsz, hP, hK, hD0, hex, hE⟩ := hv
  have hx := B.exec
  have hb := B.bytes
  have hr := B.returns
  have hts0 := atoms_spec (ws := wt2 yX14_edges cX14_edges 4 none) B.pre
  have hts : ∀ w ∈ tb2, w.before _ s = true := fun w h => hts0 w (List.mem_cons_of_mem _ h)
  have hown : s.vm.findClass RX14 = some m.cls := findClass_of_methodNamed B.named
  subst hsz
  have hD := hD0.self (sz := s.heap.size)
  generalize hAe : va_A (Wd g ad S) s.heap.size = A at hD hE ⊢
  have hA : ∀ q : Nat, s.heap.size ≤ q → A q := fun q h => by rw [← hAe]; exact Or.inr h
  have hR : Rep g ad A s S s.heap [] := ⟨hK, hP, hD, va_S.rf, hw⟩
  clear hK hP hD hD0
  have hl := lv_entry ([.ref (ad 0)]) (n := 4) (Nat.le_of_ble_eq_true rfl)
  rw [lg_entry_eq]
  generalize (lg_sl ([.ref (ad 0)]) ++ List.replicate (4 - (lg_sl ([.ref (ad 0)])).length) Slot.unset).toArray = ls at hl ⊢
  have hl : lv_has ls 4 [(0, .ref (ad 0))] := hl
  have hsh : shy S S := shy.rf
  unfold w_edges at h
  refine lv_aload_n hx hb dX14_edges_0 rfl (lv_at hl 0 rfl) ?_
  refine lv_iconst (v := 0) hx hb dX14_edges_1 (by decide) ?_
  refine va_put (D := rD g) (ci := 13) (v := .int 0) (ty := .int) (C := RX14) (T := TX14) (N := 143) hx hb hts in2X14 tyX14 tyX14_ok nmX14 hown hR.K hR.P hR.D hR.sS 0 (hR.at14 hR.w.1) rfl 110 (by decide) (hts _ kx_673) (fun _ h9 => h9) rfl (by decide +kernel) rfl rfl (Nat.le_of_ble_eq_true rfl) dX14_edges_2 (fun H locs hP hD hS => ?_)
  have hR : Rep g ad A s (wI S 0 110 0) H locs := hR.pI hR.w.1 F14_s110 hP hD hS
  obtain ⟨S1, eS1⟩ : ∃ z, z = wI S 0 110 0 := ⟨_, rfl⟩
  rw [← eS1] at hR
  replace h := h S1 eS1
  have hsh : shy S S1 := by rw [eS1]; exact hsh
  refine lv_iconst (v := 0) hx hb dX14_edges_5 (by decide) ?_
  refine lv_istore_n (lv' := [(1, .int 0), (0, .ref (ad 0))]) hx hb dX14_edges_6 rfl hl (by decide) rfl (fun ls hl => ?_)
  have J_7 : ∀ (n7 : Nat) (U7 : MS) (v7_1 : Int32) (H : Heap) (locs : List Loc) (ls : Array Slot), w_edges_L7 Q n7 U7 v7_1 → shy S U7 → Rep g ad A s U7 H locs → lv_has ls 4 [(0, .ref (ad 0)), (1, .int v7_1)] → W p l e (headSpec (wt2 yX14_edges cX14_edges 4 none) ({ frames := 2, cells := 0, slots := 0, locals := 44 })).room s m ([.ref (ad 0)] : List Value).toArray below meth c H locs 0 0 (MQ below (va_Qv (fun (u : MS) => Q u ∧ wfM u ∧ shy S u) (fun (u : MS) (t : State) => qE g ad A u t) A) ([.ref (ad 0)] : List Value).toArray s 0 0 A) (F0 m 7 ls []) := by
    intro n7
    induction n7 with
    | zero => intro U7 v7_1 H locs ls h hsh hR hl; unfold w_edges_L7 at h; exact h.elim
    | succ n7 ih_7 =>
      intro U7 v7_1 H locs ls h hsh hR hl
      unfold w_edges_L7 at h
      refine lv_iload_n hx hb dX14_edges_7 rfl (lv_at hl 1 rfl) ?_
      refine lv_aload_n hx hb dX14_edges_8 rfl (lv_at hl 0 rfl) ?_
      refine va_get (D := rD g) (ci := 13) (v := .int (qI U7 0 105)) (C := RX14) (T := TX14) (N := 143) hx hb hts in2X14 hown hR.K hR.P 0 (hR.at14 hR.w.1) rfl 105 (by decide) (hts _ kx_670) (fun _ h9 => h9) rfl dX14_edges_9 ?_
      refine lv_icmp_ge (tgt := 145) hx hb dX14_edges_12 (by decide) (fun c2 => ?_) (fun c2 => ?_)
      · replace h := h.1 (k_le rfl rfl c2)
        refine lv_aload_n hx hb dX14_edges_145 rfl (lv_at hl 0 rfl) ?_
        refine va_get (D := rD g) (ci := 13) (v := .ref (ad 51)) (C := RX14) (T := TX14) (N := 143) hx hb hts in2X14 hown hR.K hR.P 0 (hR.at14 hR.w.1) rfl 108 (by decide) (hts _ kx_672) (fun _ h9 => h9) (congrArg (fun z => some (vf ad z)) (hR.w.2.1 _ fin_108).1) dX14_edges_146 ?_
        refine lv_aload_n hx hb dX14_edges_149 rfl (lv_at hl 0 rfl) ?_
        refine va_get (D := rD g) (ci := 13) (v := .int (qI U7 0 105)) (C := RX14) (T := TX14) (N := 143) hx hb hts in2X14 hown hR.K hR.P 0 (hR.at14 hR.w.1) rfl 105 (by decide) (hts _ kx_670) (fun _ h9 => h9) rfl dX14_edges_150 ?_
        refine lv_aload_n hx hb dX14_edges_153 rfl (lv_at hl 0 rfl) ?_
        refine va_get (D := rD g) (ci := 13) (v := .int (qI U7 0 110)) (C := RX14) (T := TX14) (N := 143) hx hb hts in2X14 hown hR.K hR.P 0 (hR.at14 hR.w.1) rfl 110 (by decide) (hts _ kx_673) (fun _ h9 => h9) rfl dX14_edges_154 ?_
        obtain ⟨hv3, h⟩ := h
        refine va_iast hx hb hR.K hR.P hR.D hR.sS 51 1 (hR.atI (hR.w.2.1 _ fin_108).2.1) rfl (k_ixN (k_ix (n := 1202) (x := (qI U7 0 105)) (a := (qI U7 0 105).toInt) rfl hv3) (hR.w.2.1 _ fin_108).2.2) dX14_edges_157 (fun H locs hP hD hS => ?_)
        have hR : Rep g ad A s (wI U7 51 (((qI U7 0 105).toInt).toNat) (qI U7 0 110)) H locs := hR.aI (hR.w.2.1 _ fin_108).2.1 hP hD hS
        obtain ⟨S4, eS4⟩ : ∃ z, z = wI U7 51 (((qI U7 0 105).toInt).toNat) (qI U7 0 110) := ⟨_, rfl⟩
        rw [← eS4] at hR
        replace h := h S4 eS4
        have hsh : shy S S4 := by rw [eS4]; exact hsh
        exact W.vret hx hb hr (fun t9 ht9 hW9 => ⟨⟨S4, rfl, ⟨h, hR.w, hsh⟩, ⟨by rw [ht9]; exact hR.P, hR.D⟩⟩, hR.sS.F ht9⟩) hR.sS.2.2 dX14_edges_158
      · replace h := h.2 (k_nle rfl rfl c2)
        refine lv_aload_n hx hb dX14_edges_15 rfl (lv_at hl 0 rfl) ?_
        refine va_get (D := rD g) (ci := 13) (v := .ref (ad 51)) (C := RX14) (T := TX14) (N := 143) hx hb hts in2X14 hown hR.K hR.P 0 (hR.at14 hR.w.1) rfl 108 (by decide) (hts _ kx_672) (fun _ h9 => h9) (congrArg (fun z => some (vf ad z)) (hR.w.2.1 _ fin_108).1) dX14_edges_16 ?_
        refine lv_iload_n hx hb dX14_edges_19 rfl (lv_at hl 1 rfl) ?_
        refine lv_aload_n hx hb dX14_edges_20 rfl (lv_at hl 0 rfl) ?_
        refine va_get (D := rD g) (ci := 13) (v := .int (qI U7 0 110)) (C := RX14) (T := TX14) (N := 143) hx hb hts in2X14 hown hR.K hR.P 0 (hR.at14 hR.w.1) rfl 110 (by decide) (hts _ kx_673) (fun _ h9 => h9) rfl dX14_edges_21 ?_
        obtain ⟨hv5, h⟩ := h
        refine va_iast hx hb hR.K hR.P hR.D hR.sS 51 1 (hR.atI (hR.w.2.1 _ fin_108).2.1) rfl (k_ixN (k_ix (n := 1202) (x := v7_1) (a := v7_1.toInt) rfl hv5) (hR.w.2.1 _ fin_108).2.2) dX14_edges_24 (fun H locs hP hD hS => ?_)
        have hR : Rep g ad A s (wI U7 51 v7_1.toInt.toNat (qI U7 0 110)) H locs := hR.aI (hR.w.2.1 _ fin_108).2.1 hP hD hS
        obtain ⟨S6, eS6⟩ : ∃ z, z = wI U7 51 v7_1.toInt.toNat (qI U7 0 110) := ⟨_, rfl⟩
        rw [← eS6] at hR
        replace h := h S6 eS6
        have hsh : shy S S6 := by rw [eS6]; exact hsh
        refine lv_aload_n hx hb dX14_edges_25 rfl (lv_at hl 0 rfl) ?_
        refine va_get (D := rD g) (ci := 13) (v := .ref (ad 49)) (C := RX14) (T := TX14) (N := 143) hx hb hts in2X14 hown hR.K hR.P 0 (hR.at14 hR.w.1) rfl 103 (by decide) (hts _ kx_671) (fun _ h9 => h9) (congrArg (fun z => some (vf ad z)) (hR.w.2.1 _ fin_103).1) dX14_edges_26 ?_
        refine lv_iload_n hx hb dX14_edges_29 rfl (lv_at hl 1 rfl) ?_
        refine lv_iconst (v := 1) hx hb dX14_edges_30 (by decide) ?_
        refine lv_iadd hx hb dX14_edges_31 ?_
        refine lv_topi (fun z7 ez7 => ?_)
        obtain rfl : z7 = (v7_1 + (1 : Int32)) := ez7
        obtain ⟨hv8, h⟩ := h
        refine va_iald hx hb hR.K hR.P 49 1 (hR.atI (hR.w.2.1 _ fin_103).2.1) rfl (k_ixN (k_ix (n := 1201) (x := (v7_1 + (1 : Int32))) (a := (v7_1 + (1 : Int32)).toInt) rfl hv8) (hR.w.2.1 _ fin_103).2.2) dX14_edges_32 ?_
        refine lv_topi (fun z9 ez9 => ?_)
        obtain rfl : z9 = (qI S6 49 (((v7_1 + (1 : Int32)).toInt).toNat)) := ez9
        refine lv_iconst (v := 1) hx hb dX14_edges_33 (by decide) ?_
        refine lv_isub hx hb dX14_edges_34 ?_
        refine lv_topi (fun z10 ez10 => ?_)
        obtain rfl : z10 = ((qI S6 49 (((v7_1 + (1 : Int32)).toInt).toNat)) - (1 : Int32)) := ez10
        obtain ⟨a11, ea11⟩ : ∃ z, z = ((qI S6 49 (((v7_1 + (1 : Int32)).toInt).toNat)) - (1 : Int32)) := ⟨_, rfl⟩
        rw [← ea11]
        replace h := h a11 ea11
        refine lv_istore_n (lv' := [(2, .int a11), (0, .ref (ad 0)), (1, .int v7_1)]) hx hb dX14_edges_35 rfl hl (by decide) rfl (fun ls hl => ?_)
        refine lv_aload_n hx hb dX14_edges_36 rfl (lv_at hl 1 rfl) ?_
        refine lv_iload_n hx hb dX14_edges_37 rfl (lv_at hl 0 rfl) ?_
        obtain ⟨hv12, h⟩ := h
        have hFc := rfree hR hA
        refine va_calli (va_runV (As := [.int a11]) (rest := []) ⟨hx, hb, hml, hown, hts⟩ (r_op l g ad H.size S6 a11 hR.w  hv12) (cwV 1 hts (gd2_V kx_379 kx_380 kx_381 kx_177 kx_382) rfl rfl rfl (by decide +kernel) ⟨Nat.le_of_ble_eq_true rfl, Nat.le_of_ble_eq_true rfl⟩) ⟨rblind, va_recv hR.K hR.P (ci := 13) (q0 := 0) rfl (hR.at14 hR.w.1), fun U hU hW9 => rmk hU hW9 hR hex hE hFc⟩ rfl rfl hl.1 rfl (lv_room (Nat.le_of_ble_eq_true rfl)) dX14_edges_38 ⟨Nat.le_of_ble_eq_true rfl, Nat.le_of_ble_eq_true rfl⟩) hR.sS (fun q _ h => hFc q h) hFc (fun r13 u9 t9 H1 locs ht9 hvm9 hw9 hB9 hz9 hk9 hS => ?_)
        have hR : Rep g ad A s S6 H1 locs := hR.call ht9 hB9 hR.w hS hFc
        obtain rfl : r13 = (f_op S6 a11) := hw9
        clear hB9 hz9 hk9 hvm9 ht9 hS
        generalize H1 = H at hR ⊢
        obtain ⟨hv15, h⟩ := h
        have hFc := rfree hR hA
        refine va_calli (va_runS (As := [.int (f_op S6 a11)]) (rest := []) ⟨hx, hb, hml, hown, hts⟩ (r_goesOn l g ad H.size S6 (f_op S6 a11) hR.w  hv15) (va_cwS 1 hts (gd2_S kx_428 kx_429 kx_177 kx_430) rfl rfl rfl (by decide +kernel) ⟨Nat.le_of_ble_eq_true rfl, Nat.le_of_ble_eq_true rfl⟩) ⟨rblind, fun U hU hW9 => rmk hU hW9 hR hex hE hFc⟩ rfl rfl hl.1 rfl (lv_room (Nat.le_of_ble_eq_true rfl)) dX14_edges_41 ⟨Nat.le_of_ble_eq_true rfl, Nat.le_of_ble_eq_true rfl⟩) hR.sS (fun q _ h => hFc q h) hFc (fun r16 u9 t9 H1 locs ht9 hvm9 hw9 hB9 hz9 hk9 hS => ?_)
        have hR : Rep g ad A s S6 H1 locs := hR.call ht9 hB9 hR.w hS hFc
        obtain ⟨rfl, hz_r16⟩ := hw9
        clear hB9 hz9 hk9 hvm9 ht9 hS
        generalize H1 = H at hR ⊢
        have J_65 : ∀ (U65 : MS) (v65_1 : Int32) (v65_2 : Int32) (H : Heap) (locs : List Loc) (ls : Array Slot), w_edges_J65 Q (w_edges_L7 Q n7) U65 v65_1 v65_2 → shy S U65 → Rep g ad A s U65 H locs → lv_has ls 4 [(0, .ref (ad 0)), (1, .int v65_1), (2, .int v65_2)] → W p l e (headSpec (wt2 yX14_edges cX14_edges 4 none) ({ frames := 2, cells := 0, slots := 0, locals := 44 })).room s m ([.ref (ad 0)] : List Value).toArray below meth c H locs 0 0 (MQ below (va_Qv (fun (u : MS) => Q u ∧ wfM u ∧ shy S u) (fun (u : MS) (t : State) => qE g ad A u t) A) ([.ref (ad 0)] : List Value).toArray s 0 0 A) (F0 m 65 ls []) := by
          intro U65 v65_1 v65_2 H locs ls h hsh hR hl
          unfold w_edges_J65 at h
          refine lv_iconst (v := 0) hx hb dX14_edges_65 (by decide) ?_
          refine lv_istore_n (lv' := [(3, .int 0), (0, .ref (ad 0)), (1, .int v65_1), (2, .int v65_2)]) hx hb dX14_edges_66 rfl hl (by decide) rfl (fun ls hl => ?_)
          have J_67 : ∀ (n67 : Nat) (U67 : MS) (v67_1 : Int32) (v67_2 : Int32) (v67_3 : Int32) (H : Heap) (locs : List Loc) (ls : Array Slot), w_edges_L67 Q (w_edges_L7 Q n7) n67 U67 v67_1 v67_2 v67_3 → shy S U67 → Rep g ad A s U67 H locs → lv_has ls 4 [(0, .ref (ad 0)), (1, .int v67_1), (2, .int v67_2), (3, .int v67_3)] → W p l e (headSpec (wt2 yX14_edges cX14_edges 4 none) ({ frames := 2, cells := 0, slots := 0, locals := 44 })).room s m ([.ref (ad 0)] : List Value).toArray below meth c H locs 0 0 (MQ below (va_Qv (fun (u : MS) => Q u ∧ wfM u ∧ shy S u) (fun (u : MS) (t : State) => qE g ad A u t) A) ([.ref (ad 0)] : List Value).toArray s 0 0 A) (F0 m 67 ls []) := by
            intro n67
            induction n67 with
            | zero => intro U67 v67_1 v67_2 v67_3 H locs ls h hsh hR hl; unfold w_edges_L67 at h; exact h.elim
            | succ n67 ih_67 =>
              intro U67 v67_1 v67_2 v67_3 H locs ls h hsh hR hl
              unfold w_edges_L67 at h
              refine lv_iload_n hx hb dX14_edges_67 rfl (lv_at hl 3 rfl) ?_
              refine lv_aload_n hx hb dX14_edges_68 rfl (lv_at hl 0 rfl) ?_
              refine lv_iload_n hx hb dX14_edges_69 rfl (lv_at hl 2 rfl) ?_
              obtain ⟨hv18, h⟩ := h
              have hFc := rfree hR hA
              refine va_calli (va_runV (As := [.int v67_2]) (rest := [.int v67_3]) ⟨hx, hb, hml, hown, hts⟩ (r_ways l g ad H.size U67 v67_2 hR.w  hv18) (cwV 1 hts (gd2_V kx_435 kx_436 kx_437 kx_177 kx_438) rfl rfl rfl (by decide +kernel) ⟨Nat.le_of_ble_eq_true rfl, Nat.le_of_ble_eq_true rfl⟩) ⟨rblind, va_recv hR.K hR.P (ci := 13) (q0 := 0) rfl (hR.at14 hR.w.1), fun U hU hW9 => rmk hU hW9 hR hex hE hFc⟩ rfl rfl hl.1 rfl (lv_room (Nat.le_of_ble_eq_true rfl)) dX14_edges_70 ⟨Nat.le_of_ble_eq_true rfl, Nat.le_of_ble_eq_true rfl⟩) hR.sS (fun q _ h => hFc q h) hFc (fun r19 u9 t9 H1 locs ht9 hvm9 hw9 hB9 hz9 hk9 hS => ?_)
              have hR : Rep g ad A s U67 H1 locs := hR.call ht9 hB9 hR.w hS hFc
              obtain rfl : r19 = (f_ways U67 v67_2) := hw9
              clear hB9 hz9 hk9 hvm9 ht9 hS
              generalize H1 = H at hR ⊢
              refine lv_icmp_ge (tgt := 98) hx hb dX14_edges_73 (by decide) (fun c21 => ?_) (fun c21 => ?_)
              · replace h := h.1 (k_le rfl rfl c21)
                refine lv_iconst (v := 0) hx hb dX14_edges_98 (by decide) ?_
                refine lv_istore_n (lv' := [(3, .int 0), (0, .ref (ad 0)), (1, .int v67_1), (2, .int v67_2)]) hx hb dX14_edges_99 rfl hl (by decide) rfl (fun ls hl => ?_)
                have J_100 : ∀ (n100 : Nat) (U100 : MS) (v100_1 : Int32) (v100_2 : Int32) (v100_3 : Int32) (H : Heap) (locs : List Loc) (ls : Array Slot), w_edges_L100 Q (w_edges_L7 Q n7) n100 U100 v100_1 v100_2 v100_3 → shy S U100 → Rep g ad A s U100 H locs → lv_has ls 4 [(0, .ref (ad 0)), (1, .int v100_1), (2, .int v100_2), (3, .int v100_3)] → W p l e (headSpec (wt2 yX14_edges cX14_edges 4 none) ({ frames := 2, cells := 0, slots := 0, locals := 44 })).room s m ([.ref (ad 0)] : List Value).toArray below meth c H locs 0 0 (MQ below (va_Qv (fun (u : MS) => Q u ∧ wfM u ∧ shy S u) (fun (u : MS) (t : State) => qE g ad A u t) A) ([.ref (ad 0)] : List Value).toArray s 0 0 A) (F0 m 100 ls []) := by
                  intro n100
                  induction n100 with
                  | zero => intro U100 v100_1 v100_2 v100_3 H locs ls h hsh hR hl; unfold w_edges_L100 at h; exact h.elim
                  | succ n100 ih_100 =>
                    intro U100 v100_1 v100_2 v100_3 H locs ls h hsh hR hl
                    unfold w_edges_L100 at h
                    refine lv_iload_n hx hb dX14_edges_100 rfl (lv_at hl 3 rfl) ?_
                    refine lv_aload_n hx hb dX14_edges_101 rfl (lv_at hl 0 rfl) ?_
                    refine va_get (D := rD g) (ci := 13) (v := .int (qI U100 0 54)) (C := RX14) (T := TX14) (N := 143) hx hb hts in2X14 hown hR.K hR.P 0 (hR.at14 hR.w.1) rfl 54 (by decide) (hts _ kx_374) (fun _ h9 => h9) rfl dX14_edges_102 ?_
                    refine lv_icmp_ge (tgt := 139) hx hb dX14_edges_105 (by decide) (fun c22 => ?_) (fun c22 => ?_)
                    · replace h := h.1 (k_le rfl rfl c22)
                      obtain ⟨a23, ea23⟩ : ∃ z, z = (v100_1 + Int32.ofInt 1) := ⟨_, rfl⟩
                      replace h := h a23 ea23
                      refine lv_iinc (v := a23) (lv' := [(1, .int a23), (0, .ref (ad 0)), (2, .int v100_2), (3, .int v100_3)]) hx hb dX14_edges_139 hl (k := 1) rfl ea23.symm (by decide) rfl (fun ls hl => ?_)
                      refine lv_goto (tgt := 7) hx hb dX14_edges_142 (by decide) ?_
                      exact ih_7 U100 a23 _ _ ls h  hsh hR (lv_sub hl [1, 0] rfl)
                    · replace h := h.2 (k_nle rfl rfl c22)
                      refine lv_aload_n hx hb dX14_edges_108 rfl (lv_at hl 0 rfl) ?_
                      refine lv_iload_n hx hb dX14_edges_109 rfl (lv_at hl 2 rfl) ?_
                      refine lv_iload_n hx hb dX14_edges_110 rfl (lv_at hl 3 rfl) ?_
                      obtain ⟨hv24, h⟩ := h
                      have hFc := rfree hR hA
                      refine va_calli (va_runV (As := [.int v100_2, .int v100_3]) (rest := []) ⟨hx, hb, hml, hown, hts⟩ (r_isCaught l g ad H.size U100 v100_2 v100_3 hR.w  hv24) (cwV 2 hts (gd2_V kx_419 kx_420 kx_421 kx_177 kx_422) rfl rfl rfl (by decide +kernel) ⟨Nat.le_of_ble_eq_true rfl, Nat.le_of_ble_eq_true rfl⟩) ⟨rblind, va_recv hR.K hR.P (ci := 13) (q0 := 0) rfl (hR.at14 hR.w.1), fun U hU hW9 => rmk hU hW9 hR hex hE hFc⟩ rfl rfl hl.1 rfl (lv_room (Nat.le_of_ble_eq_true rfl)) dX14_edges_111 ⟨Nat.le_of_ble_eq_true rfl, Nat.le_of_ble_eq_true rfl⟩) hR.sS (fun q _ h => hFc q h) hFc (fun r25 u9 t9 H1 locs ht9 hvm9 hw9 hB9 hz9 hk9 hS => ?_)
                      have hR : Rep g ad A s U100 H1 locs := hR.call ht9 hB9 hR.w hS hFc
                      obtain ⟨rfl, hz_r25⟩ := hw9
                      clear hB9 hz9 hk9 hvm9 ht9 hS
                      generalize H1 = H at hR ⊢
                      have J_133 : ∀ (U133 : MS) (v133_1 : Int32) (v133_2 : Int32) (v133_3 : Int32) (H : Heap) (locs : List Loc) (ls : Array Slot), w_edges_J133 Q (w_edges_L100 Q (w_edges_L7 Q n7) n100) U133 v133_1 v133_2 v133_3 → shy S U133 → Rep g ad A s U133 H locs → lv_has ls 4 [(0, .ref (ad 0)), (1, .int v133_1), (2, .int v133_2), (3, .int v133_3)] → W p l e (headSpec (wt2 yX14_edges cX14_edges 4 none) ({ frames := 2, cells := 0, slots := 0, locals := 44 })).room s m ([.ref (ad 0)] : List Value).toArray below meth c H locs 0 0 (MQ below (va_Qv (fun (u : MS) => Q u ∧ wfM u ∧ shy S u) (fun (u : MS) (t : State) => qE g ad A u t) A) ([.ref (ad 0)] : List Value).toArray s 0 0 A) (F0 m 133 ls []) := by
                        intro U133 v133_1 v133_2 v133_3 H locs ls h hsh hR hl
                        unfold w_edges_J133 at h
                        obtain ⟨a27, ea27⟩ : ∃ z, z = (v133_3 + Int32.ofInt 1) := ⟨_, rfl⟩
                        replace h := h a27 ea27
                        refine lv_iinc (v := a27) (lv' := [(3, .int a27), (0, .ref (ad 0)), (1, .int v133_1), (2, .int v133_2)]) hx hb dX14_edges_133 hl (k := 3) rfl ea27.symm (by decide) rfl (fun ls hl => ?_)
                        refine lv_goto (tgt := 100) hx hb dX14_edges_136 (by decide) ?_
                        exact ih_100 U133 v133_1 v133_2 a27 _ _ ls h  hsh hR (lv_sub hl [1, 2, 3, 0] rfl)
                      refine lv_if_eq (tgt := 133) hx hb dX14_edges_114 (by decide) (fun c28 => ?_) (fun c28 => ?_)
                      · replace h := h.1 (k_eq rfl (by decide) c28)
                        exact J_133 U100 v100_1 v100_2 v100_3 _ _ ls h  hsh hR (lv_sub hl [0, 1, 2, 3] rfl)
                      · replace h := h.2 (k_ne rfl (by decide) c28)
                        refine lv_aload_n hx hb dX14_edges_117 rfl (lv_at hl 0 rfl) ?_
                        refine lv_iload_n hx hb dX14_edges_118 rfl (lv_at hl 1 rfl) ?_
                        refine lv_aload_n hx hb dX14_edges_119 rfl (lv_at hl 0 rfl) ?_
                        refine va_get (D := rD g) (ci := 13) (v := .ref (ad 50)) (C := RX14) (T := TX14) (N := 143) hx hb hts in2X14 hown hR.K hR.P 0 (hR.at14 hR.w.1) rfl 104 (by decide) (hts _ kx_669) (fun _ h9 => h9) (congrArg (fun z => some (vf ad z)) (hR.w.2.1 _ fin_104).1) dX14_edges_120 ?_
                        refine lv_aload_n hx hb dX14_edges_123 rfl (lv_at hl 0 rfl) ?_
                        refine lv_iload_n hx hb dX14_edges_124 rfl (lv_at hl 3 rfl) ?_
                        refine lv_iconst (v := 2) hx hb dX14_edges_125 (by decide) ?_
                        obtain ⟨hv29, h⟩ := h
                        have hFc := rfree hR hA
                        refine va_calli (va_runV (As := [.int v100_3, .int 2]) (rest := [.ref (ad 50), .int v100_1, .ref (ad 0)]) ⟨hx, hb, hml, hown, hts⟩ (r_catchWord l g ad H.size U100 v100_3 (2 : Int32) hR.w  hv29) (cwV 2 hts (gd2_V kx_375 kx_376 kx_377 kx_177 kx_378) rfl rfl rfl (by decide +kernel) ⟨Nat.le_of_ble_eq_true rfl, Nat.le_of_ble_eq_true rfl⟩) ⟨rblind, va_recv hR.K hR.P (ci := 13) (q0 := 0) rfl (hR.at14 hR.w.1), fun U hU hW9 => rmk hU hW9 hR hex hE hFc⟩ rfl rfl hl.1 rfl (lv_room (Nat.le_of_ble_eq_true rfl)) dX14_edges_126 ⟨Nat.le_of_ble_eq_true rfl, Nat.le_of_ble_eq_true rfl⟩) hR.sS (fun q _ h => hFc q h) hFc (fun r30 u9 t9 H1 locs ht9 hvm9 hw9 hB9 hz9 hk9 hS => ?_)
                        have hR : Rep g ad A s U100 H1 locs := hR.call ht9 hB9 hR.w hS hFc
                        obtain rfl : r30 = (f_catchWord U100 v100_3 (2 : Int32)) := hw9
                        clear hB9 hz9 hk9 hvm9 ht9 hS
                        generalize H1 = H at hR ⊢
                        obtain ⟨hv32, h⟩ := h
                        refine va_iald hx hb hR.K hR.P 50 1 (hR.atI (hR.w.2.1 _ fin_104).2.1) rfl (k_ixN (k_ix (n := 1201) (x := (f_catchWord U100 v100_3 (2 : Int32))) (a := (f_catchWord U100 v100_3 (2 : Int32)).toInt) rfl hv32) (hR.w.2.1 _ fin_104).2.2) dX14_edges_129 ?_
                        refine lv_topi (fun z33 ez33 => ?_)
                        obtain rfl : z33 = (qI U100 50 (((f_catchWord U100 v100_3 (2 : Int32)).toInt).toNat)) := ez33
                        obtain ⟨Q34, h0, h⟩ := h
                        have hFc := rfree hR hA
                        refine va_callv (va_runV (As := [.int v100_1, .int (qI U100 50 (((f_catchWord U100 v100_3 (2 : Int32)).toInt).toNat))]) (rest := []) ⟨hx, hb, hml, hown, hts⟩ (r_edgeInto l g ad H.size U100 v100_1 (qI U100 50 (((f_catchWord U100 v100_3 (2 : Int32)).toInt).toNat)) hR.w  Q34 h0) (cwV 2 hts (gd2_V kx_675 kx_676 kx_677 kx_177 kx_678) rfl rfl rfl (by decide +kernel) ⟨Nat.le_of_ble_eq_true rfl, Nat.le_of_ble_eq_true rfl⟩) ⟨rblind, va_recv hR.K hR.P (ci := 13) (q0 := 0) rfl (hR.at14 hR.w.1), fun U hU hW9 => rmk hU hW9 hR hex hE hFc⟩ rfl rfl hl.1 rfl (lv_room (Nat.le_of_ble_eq_true rfl)) dX14_edges_130 ⟨Nat.le_of_ble_eq_true rfl, Nat.le_of_ble_eq_true rfl⟩) hR.sS (fun q _ h => hFc q h) hFc (fun  S35 t9 H1 locs ht9 hvm9 hw9 hB9 hz9 hk9 hS => ?_)
                        obtain ⟨hq36, hw9, hs9⟩ := hw9
                        have hR : Rep g ad A s S35 H1 locs := hR.call ht9 hB9 hw9 hS hFc
                        have hsh := hsh.tr hs9
                        replace h := h  S35 hq36
                        clear hB9 hz9 hk9 hvm9 ht9 hw9 hs9 hS
                        generalize H1 = H at hR ⊢
                        exact J_133 S35 v100_1 v100_2 v100_3 _ _ ls h  hsh hR (lv_sub hl [0, 1, 2, 3] rfl)
                obtain ⟨n9, h⟩ := h
                exact J_100 n9 U67 v67_1 v67_2 0 _ _ ls h  hsh hR (lv_sub hl [1, 2, 3, 0] rfl)
              · replace h := h.2 (k_nle rfl rfl c21)
                refine lv_aload_n hx hb dX14_edges_76 rfl (lv_at hl 0 rfl) ?_
                refine lv_iload_n hx hb dX14_edges_77 rfl (lv_at hl 1 rfl) ?_
                refine lv_aload_n hx hb dX14_edges_78 rfl (lv_at hl 0 rfl) ?_
                refine va_get (D := rD g) (ci := 13) (v := .ref (ad 50)) (C := RX14) (T := TX14) (N := 143) hx hb hts in2X14 hown hR.K hR.P 0 (hR.at14 hR.w.1) rfl 104 (by decide) (hts _ kx_669) (fun _ h9 => h9) (congrArg (fun z => some (vf ad z)) (hR.w.2.1 _ fin_104).1) dX14_edges_79 ?_
                refine lv_aload_n hx hb dX14_edges_82 rfl (lv_at hl 0 rfl) ?_
                refine lv_iload_n hx hb dX14_edges_83 rfl (lv_at hl 2 rfl) ?_
                refine lv_iload_n hx hb dX14_edges_84 rfl (lv_at hl 3 rfl) ?_
                obtain ⟨hv37, h⟩ := h
                have hFc := rfree hR hA
                refine va_calli (va_runV (As := [.int v67_2, .int v67_3]) (rest := [.ref (ad 50), .int v67_1, .ref (ad 0)]) ⟨hx, hb, hml, hown, hts⟩ (r_way l g ad H.size U67 v67_2 v67_3 hR.w  hv37) (cwV 2 hts (gd2_V kx_443 kx_444 kx_445 kx_177 kx_446) rfl rfl rfl (by decide +kernel) ⟨Nat.le_of_ble_eq_true rfl, Nat.le_of_ble_eq_true rfl⟩) ⟨rblind, va_recv hR.K hR.P (ci := 13) (q0 := 0) rfl (hR.at14 hR.w.1), fun U hU hW9 => rmk hU hW9 hR hex hE hFc⟩ rfl rfl hl.1 rfl (lv_room (Nat.le_of_ble_eq_true rfl)) dX14_edges_85 ⟨Nat.le_of_ble_eq_true rfl, Nat.le_of_ble_eq_true rfl⟩) hR.sS (fun q _ h => hFc q h) hFc (fun r38 u9 t9 H1 locs ht9 hvm9 hw9 hB9 hz9 hk9 hS => ?_)
                have hR : Rep g ad A s U67 H1 locs := hR.call ht9 hB9 hR.w hS hFc
                obtain rfl : r38 = (f_way U67 v67_2 v67_3) := hw9
                clear hB9 hz9 hk9 hvm9 ht9 hS
                generalize H1 = H at hR ⊢
                obtain ⟨hv40, h⟩ := h
                refine va_iald hx hb hR.K hR.P 50 1 (hR.atI (hR.w.2.1 _ fin_104).2.1) rfl (k_ixN (k_ix (n := 1201) (x := (f_way U67 v67_2 v67_3)) (a := (f_way U67 v67_2 v67_3).toInt) rfl hv40) (hR.w.2.1 _ fin_104).2.2) dX14_edges_88 ?_
                refine lv_topi (fun z41 ez41 => ?_)
                obtain rfl : z41 = (qI U67 50 (((f_way U67 v67_2 v67_3).toInt).toNat)) := ez41
                obtain ⟨Q42, h0, h⟩ := h
                have hFc := rfree hR hA
                refine va_callv (va_runV (As := [.int v67_1, .int (qI U67 50 (((f_way U67 v67_2 v67_3).toInt).toNat))]) (rest := []) ⟨hx, hb, hml, hown, hts⟩ (r_edgeInto l g ad H.size U67 v67_1 (qI U67 50 (((f_way U67 v67_2 v67_3).toInt).toNat)) hR.w  Q42 h0) (cwV 2 hts (gd2_V kx_675 kx_676 kx_677 kx_177 kx_678) rfl rfl rfl (by decide +kernel) ⟨Nat.le_of_ble_eq_true rfl, Nat.le_of_ble_eq_true rfl⟩) ⟨rblind, va_recv hR.K hR.P (ci := 13) (q0 := 0) rfl (hR.at14 hR.w.1), fun U hU hW9 => rmk hU hW9 hR hex hE hFc⟩ rfl rfl hl.1 rfl (lv_room (Nat.le_of_ble_eq_true rfl)) dX14_edges_89 ⟨Nat.le_of_ble_eq_true rfl, Nat.le_of_ble_eq_true rfl⟩) hR.sS (fun q _ h => hFc q h) hFc (fun  S43 t9 H1 locs ht9 hvm9 hw9 hB9 hz9 hk9 hS => ?_)
                obtain ⟨hq44, hw9, hs9⟩ := hw9
                have hR : Rep g ad A s S43 H1 locs := hR.call ht9 hB9 hw9 hS hFc
                have hsh := hsh.tr hs9
                replace h := h  S43 hq44
                clear hB9 hz9 hk9 hvm9 ht9 hw9 hs9 hS
                generalize H1 = H at hR ⊢
                obtain ⟨a45, ea45⟩ : ∃ z, z = (v67_3 + Int32.ofInt 1) := ⟨_, rfl⟩
                replace h := h a45 ea45
                refine lv_iinc (v := a45) (lv' := [(3, .int a45), (0, .ref (ad 0)), (1, .int v67_1), (2, .int v67_2)]) hx hb dX14_edges_92 hl (k := 3) rfl ea45.symm (by decide) rfl (fun ls hl => ?_)
                refine lv_goto (tgt := 67) hx hb dX14_edges_95 (by decide) ?_
                exact ih_67 S43 v67_1 v67_2 a45 _ _ ls h  hsh hR (lv_sub hl [1, 2, 3, 0] rfl)
          obtain ⟨n9, h⟩ := h
          exact J_67 n9 U65 v65_1 v65_2 0 _ _ ls h  hsh hR (lv_sub hl [1, 2, 3, 0] rfl)
        refine lv_if_eq (tgt := 65) hx hb dX14_edges_44 (by decide) (fun c46 => ?_) (fun c46 => ?_)
        · replace h := h.1 (k_eq rfl (by decide) c46)
          exact J_65 S6 v7_1 a11 _ _ ls h  hsh hR (lv_sub hl [1, 2, 0] rfl)
        · replace h := h.2 (k_ne rfl (by decide) c46)
          refine lv_iload_n hx hb dX14_edges_47 rfl (lv_at hl 0 rfl) ?_
          refine lv_iconst (v := 1) hx hb dX14_edges_48 (by decide) ?_
          refine lv_iadd hx hb dX14_edges_49 ?_
          refine lv_topi (fun z47 ez47 => ?_)
          obtain rfl : z47 = (a11 + (1 : Int32)) := ez47
          refine lv_aload_n hx hb dX14_edges_50 rfl (lv_at hl 1 rfl) ?_
          refine va_get (D := rD g) (ci := 13) (v := .int (qI S6 0 52)) (C := RX14) (T := TX14) (N := 143) hx hb hts in2X14 hown hR.K hR.P 0 (hR.at14 hR.w.1) rfl 52 (by decide) (hts _ kx_370) (fun _ h9 => h9) rfl dX14_edges_51 ?_
          refine lv_icmp_ge (tgt := 65) hx hb dX14_edges_54 (by decide) (fun c48 => ?_) (fun c48 => ?_)
          · replace h := h.1 (k_le rfl rfl c48)
            exact J_65 S6 v7_1 a11 _ _ ls h  hsh hR (lv_sub hl [1, 2, 0] rfl)
          · replace h := h.2 (k_nle rfl rfl c48)
            refine lv_aload_n hx hb dX14_edges_57 rfl (lv_at hl 1 rfl) ?_
            refine lv_iload_n hx hb dX14_edges_58 rfl (lv_at hl 2 rfl) ?_
            refine lv_iload_n hx hb dX14_edges_59 rfl (lv_at hl 2 rfl) ?_
            refine lv_iconst (v := 1) hx hb dX14_edges_60 (by decide) ?_
            refine lv_iadd hx hb dX14_edges_61 ?_
            refine lv_topi (fun z49 ez49 => ?_)
            obtain rfl : z49 = (v7_1 + (1 : Int32)) := ez49
            obtain ⟨Q50, h0, h⟩ := h
            have hFc := rfree hR hA
            refine va_callv (va_runV (As := [.int v7_1, .int (v7_1 + (1 : Int32))]) (rest := []) ⟨hx, hb, hml, hown, hts⟩ (r_edgeInto l g ad H.size S6 v7_1 (v7_1 + (1 : Int32)) hR.w  Q50 h0) (cwV 2 hts (gd2_V kx_675 kx_676 kx_677 kx_177 kx_678) rfl rfl rfl (by decide +kernel) ⟨Nat.le_of_ble_eq_true rfl, Nat.le_of_ble_eq_true rfl⟩) ⟨rblind, va_recv hR.K hR.P (ci := 13) (q0 := 0) rfl (hR.at14 hR.w.1), fun U hU hW9 => rmk hU hW9 hR hex hE hFc⟩ rfl rfl hl.1 rfl (lv_room (Nat.le_of_ble_eq_true rfl)) dX14_edges_62 ⟨Nat.le_of_ble_eq_true rfl, Nat.le_of_ble_eq_true rfl⟩) hR.sS (fun q _ h => hFc q h) hFc (fun  S51 t9 H1 locs ht9 hvm9 hw9 hB9 hz9 hk9 hS => ?_)
            obtain ⟨hq52, hw9, hs9⟩ := hw9
            have hR : Rep g ad A s S51 H1 locs := hR.call ht9 hB9 hw9 hS hFc
            have hsh := hsh.tr hs9
            replace h := h  S51 hq52
            clear hB9 hz9 hk9 hvm9 ht9 hw9 hs9 hS
            generalize H1 = H at hR ⊢
            exact J_65 S51 v7_1 a11 _ _ ls h  hsh hR (lv_sub hl [1, 2, 0] rfl)
  obtain ⟨n9, h⟩ := h
  exact J_7 n9 S1 0 _ _ ls h  hsh hR (lv_sub hl [1, 0] rfl)
