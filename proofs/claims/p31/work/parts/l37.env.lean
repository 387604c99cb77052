def fl1 : List Cond := flatC (Cond.and given_1 narrow_1)
theorem fl_arr {args : Array Value} {s : State} {tm : Term} {ty : FieldType} {N off : Nat} {f : Nat → Int32} {A : Nat → Prop} (hs : ∀ c ∈ fl1, c.before args s = true) (hN : N < 2 ^ 31) (he : (fl1.drop off).take (N + 2) = Cond.arrayOf tm ty :: Cond.eq (.length tm) (.int (Int32.ofNat N)) :: (List.range N).map (fun j => Cond.eq (.elem tm (.int (Int32.ofNat j))) (.int (f j)))) (hA : ∀ a : Nat, a < s.heap.size → ¬ A a) : ∃ t : Nat, tm.eval args s none [] s = some (.ref t) ∧ va_T ty t N (fun j => .int (f j)) A s s.heap := by
  have m : ∀ c ∈ Cond.arrayOf tm ty :: Cond.eq (.length tm) (.int (Int32.ofNat N)) :: (List.range N).map (fun j => Cond.eq (.elem tm (.int (Int32.ofNat j))) (.int (f j))), c.before args s = true := by
    intro c hc
    rw [← he] at hc
    exact hs c (List.mem_of_mem_drop (List.mem_of_mem_take hc))
  exact va_Tof hN (m _ List.mem_cons_self) (va_eqt (m _ (List.mem_cons_of_mem _ List.mem_cons_self))) (fun j hj => va_eqt (m _ (List.mem_cons_of_mem _ (List.mem_cons_of_mem _ (List.mem_map.mpr ⟨j, List.mem_range.mpr hj, rfl⟩))))) hA
def txv (own : String) (k : Nat) : Term := .field (.string own k) "java/lang/String" "value" "[B"
theorem fl_txt {args : Array Value} {s : State} {own : String} {k n off : Nat} {f : Nat → Int32} {A : Nat → Prop} (hs : ∀ c ∈ fl1, c.before args s = true) (hn : n < 2 ^ 31) (he : (fl1.drop off).take (n + 4) = Cond.exactly (.string own k) "java/lang/String" :: Cond.eq (.field (.string own k) "java/lang/String" "coder" "B") (.int 0) :: Cond.arrayOf (txv own k) .byte :: Cond.eq (.length (txv own k)) (.int (Int32.ofNat n)) :: (List.range n).map (fun j => Cond.eq (.elem (txv own k) (.int (Int32.ofNat j))) (.int (f j)))) (hA : ∀ a : Nat, a < s.heap.size → ¬ A a) : ∃ b v : Nat, (Term.string own k).eval args s none [] s = some (.ref b) ∧ tx1 b v n f A s s.heap := by
  have m : ∀ c ∈ Cond.exactly (.string own k) "java/lang/String" :: Cond.eq (.field (.string own k) "java/lang/String" "coder" "B") (.int 0) :: Cond.arrayOf (txv own k) .byte :: Cond.eq (.length (txv own k)) (.int (Int32.ofNat n)) :: (List.range n).map (fun j => Cond.eq (.elem (txv own k) (.int (Int32.ofNat j))) (.int (f j))), c.before args s = true := by
    intro c hc
    rw [← he] at hc
    exact hs c (List.mem_of_mem_drop (List.mem_of_mem_take hc))
  have m0 := m _ List.mem_cons_self
  have m1 := m _ (List.mem_cons_of_mem _ List.mem_cons_self)
  have m2 := m _ (List.mem_cons_of_mem _ (List.mem_cons_of_mem _ List.mem_cons_self))
  have m3 := m _ (List.mem_cons_of_mem _ (List.mem_cons_of_mem _ (List.mem_cons_of_mem _ List.mem_cons_self)))
  obtain ⟨b, c, cell, k', q1, -⟩ := Cond.exactly_spec (args := args) (first := s) (o := none) (s := s) (idx := []) (t := .string own k) (cls := "java/lang/String") m0
  obtain ⟨v, v1, v2⟩ := va_Tof (f := fun j => .int (f j)) hn m2 (va_eqt m3) (fun j hj => va_eqt (m _ (List.mem_cons_of_mem _ (List.mem_cons_of_mem _ (List.mem_cons_of_mem _ (List.mem_cons_of_mem _ (List.mem_map.mpr ⟨j, List.mem_range.mpr hj, rfl⟩))))))) hA
  exact ⟨b, v, q1, va_Oof m0 q1 hA, vk_OFof q1 (va_eqt m1) hA, vk_OFof q1 v1 hA, v2⟩
theorem fe_MG : (fl1.drop 5).take (8 + 2) = Cond.arrayOf (.static "CodeFoundry" "MAGIC" "[I") .int :: Cond.eq (.length (.static "CodeFoundry" "MAGIC" "[I")) (.int (Int32.ofNat 8)) :: (List.range 8).map (fun j => Cond.eq (.elem (.static "CodeFoundry" "MAGIC" "[I") (.int (Int32.ofNat j))) (.int ((fun j => stMG.getD j 0) j))) := by decide +kernel
theorem fe_LN : (fl1.drop 21).take (202 + 2) = Cond.arrayOf (.static "CodeFoundry$Ops" "LENGTH_OF" "[I") .int :: Cond.eq (.length (.static "CodeFoundry$Ops" "LENGTH_OF" "[I")) (.int (Int32.ofNat 202)) :: (List.range 202).map (fun j => Cond.eq (.elem (.static "CodeFoundry$Ops" "LENGTH_OF" "[I") (.int (Int32.ofNat j))) (.int ((fun j => stLN.getD j 0) j))) := by decide +kernel
theorem fe_TK : (fl1.drop 226).take (202 + 2) = Cond.arrayOf (.static "CodeFoundry$Ops" "TAKES_OF" "[I") .int :: Cond.eq (.length (.static "CodeFoundry$Ops" "TAKES_OF" "[I")) (.int (Int32.ofNat 202)) :: (List.range 202).map (fun j => Cond.eq (.elem (.static "CodeFoundry$Ops" "TAKES_OF" "[I") (.int (Int32.ofNat j))) (.int ((fun j => stTK.getD j 0) j))) := by decide +kernel
theorem fe_GV : (fl1.drop 431).take (202 + 2) = Cond.arrayOf (.static "CodeFoundry$Ops" "GIVES_OF" "[I") .int :: Cond.eq (.length (.static "CodeFoundry$Ops" "GIVES_OF" "[I")) (.int (Int32.ofNat 202)) :: (List.range 202).map (fun j => Cond.eq (.elem (.static "CodeFoundry$Ops" "GIVES_OF" "[I") (.int (Int32.ofNat j))) (.int ((fun j => stGV.getD j 0) j))) := by decide +kernel
theorem fe_D1 : (fl1.drop 638).take (100 + 2) = Cond.arrayOf (.static "java/lang/Integer" "DigitOnes" "[B") .byte :: Cond.eq (.length (.static "java/lang/Integer" "DigitOnes" "[B")) (.int (Int32.ofNat 100)) :: (List.range 100).map (fun j => Cond.eq (.elem (.static "java/lang/Integer" "DigitOnes" "[B") (.int (Int32.ofNat j))) (.int (dgO j))) := by decide +kernel
theorem fe_D2 : (fl1.drop 741).take (100 + 2) = Cond.arrayOf (.static "java/lang/Integer" "DigitTens" "[B") .byte :: Cond.eq (.length (.static "java/lang/Integer" "DigitTens" "[B")) (.int (Int32.ofNat 100)) :: (List.range 100).map (fun j => Cond.eq (.elem (.static "java/lang/Integer" "DigitTens" "[B") (.int (Int32.ofNat j))) (.int (dgT j))) := by decide +kernel
theorem fe_c0 : (fl1.drop 885).take (sLc.getD 0 0 + 4) = Cond.exactly (.string "CodeFoundry$Reader" 218) "java/lang/String" :: Cond.eq (.field (.string "CodeFoundry$Reader" 218) "java/lang/String" "coder" "B") (.int 0) :: Cond.arrayOf (txv "CodeFoundry$Reader" 218) .byte :: Cond.eq (.length (txv "CodeFoundry$Reader" 218)) (.int (Int32.ofNat (sLc.getD 0 0))) :: (List.range (sLc.getD 0 0)).map (fun j => Cond.eq (.elem (txv "CodeFoundry$Reader" 218) (.int (Int32.ofNat j))) (.int ((sBc.getD 0 []).getD j 0))) := by decide +kernel
theorem fe_c1 : (fl1.drop 893).take (sLc.getD 1 0 + 4) = Cond.exactly (.string "CodeFoundry$Ops" 51) "java/lang/String" :: Cond.eq (.field (.string "CodeFoundry$Ops" 51) "java/lang/String" "coder" "B") (.int 0) :: Cond.arrayOf (txv "CodeFoundry$Ops" 51) .byte :: Cond.eq (.length (txv "CodeFoundry$Ops" 51)) (.int (Int32.ofNat (sLc.getD 1 0))) :: (List.range (sLc.getD 1 0)).map (fun j => Cond.eq (.elem (txv "CodeFoundry$Ops" 51) (.int (Int32.ofNat j))) (.int ((sBc.getD 1 []).getD j 0))) := by decide +kernel
theorem fe_c2 : (fl1.drop 908).take (sLc.getD 2 0 + 4) = Cond.exactly (.string "CodeFoundry$Ops" 53) "java/lang/String" :: Cond.eq (.field (.string "CodeFoundry$Ops" 53) "java/lang/String" "coder" "B") (.int 0) :: Cond.arrayOf (txv "CodeFoundry$Ops" 53) .byte :: Cond.eq (.length (txv "CodeFoundry$Ops" 53)) (.int (Int32.ofNat (sLc.getD 2 0))) :: (List.range (sLc.getD 2 0)).map (fun j => Cond.eq (.elem (txv "CodeFoundry$Ops" 53) (.int (Int32.ofNat j))) (.int ((sBc.getD 2 []).getD j 0))) := by decide +kernel
theorem fe_c3 : (fl1.drop 921).take (sLc.getD 3 0 + 4) = Cond.exactly (.string "CodeFoundry$Ops" 55) "java/lang/String" :: Cond.eq (.field (.string "CodeFoundry$Ops" 55) "java/lang/String" "coder" "B") (.int 0) :: Cond.arrayOf (txv "CodeFoundry$Ops" 55) .byte :: Cond.eq (.length (txv "CodeFoundry$Ops" 55)) (.int (Int32.ofNat (sLc.getD 3 0))) :: (List.range (sLc.getD 3 0)).map (fun j => Cond.eq (.elem (txv "CodeFoundry$Ops" 55) (.int (Int32.ofNat j))) (.int ((sBc.getD 3 []).getD j 0))) := by decide +kernel
theorem fe_c4 : (fl1.drop 935).take (sLc.getD 4 0 + 4) = Cond.exactly (.string "CodeFoundry$Ops" 57) "java/lang/String" :: Cond.eq (.field (.string "CodeFoundry$Ops" 57) "java/lang/String" "coder" "B") (.int 0) :: Cond.arrayOf (txv "CodeFoundry$Ops" 57) .byte :: Cond.eq (.length (txv "CodeFoundry$Ops" 57)) (.int (Int32.ofNat (sLc.getD 4 0))) :: (List.range (sLc.getD 4 0)).map (fun j => Cond.eq (.elem (txv "CodeFoundry$Ops" 57) (.int (Int32.ofNat j))) (.int ((sBc.getD 4 []).getD j 0))) := by decide +kernel
theorem fe_c5 : (fl1.drop 957).take (sLc.getD 5 0 + 4) = Cond.exactly (.string "CodeFoundry$Writer" 117) "java/lang/String" :: Cond.eq (.field (.string "CodeFoundry$Writer" 117) "java/lang/String" "coder" "B") (.int 0) :: Cond.arrayOf (txv "CodeFoundry$Writer" 117) .byte :: Cond.eq (.length (txv "CodeFoundry$Writer" 117)) (.int (Int32.ofNat (sLc.getD 5 0))) :: (List.range (sLc.getD 5 0)).map (fun j => Cond.eq (.elem (txv "CodeFoundry$Writer" 117) (.int (Int32.ofNat j))) (.int ((sBc.getD 5 []).getD j 0))) := by decide +kernel
theorem fe_c6 : (fl1.drop 948).take (sLc.getD 6 0 + 4) = Cond.exactly (.string "CodeFoundry$Writer" 77) "java/lang/String" :: Cond.eq (.field (.string "CodeFoundry$Writer" 77) "java/lang/String" "coder" "B") (.int 0) :: Cond.arrayOf (txv "CodeFoundry$Writer" 77) .byte :: Cond.eq (.length (txv "CodeFoundry$Writer" 77)) (.int (Int32.ofNat (sLc.getD 6 0))) :: (List.range (sLc.getD 6 0)).map (fun j => Cond.eq (.elem (txv "CodeFoundry$Writer" 77) (.int (Int32.ofNat j))) (.int ((sBc.getD 6 []).getD j 0))) := by decide +kernel
theorem fe_r0 : (fl1.drop 962).take (sLr.getD 0 0 + 4) = Cond.exactly (.string "CodeFoundryModel" 412) "java/lang/String" :: Cond.eq (.field (.string "CodeFoundryModel" 412) "java/lang/String" "coder" "B") (.int 0) :: Cond.arrayOf (txv "CodeFoundryModel" 412) .byte :: Cond.eq (.length (txv "CodeFoundryModel" 412)) (.int (Int32.ofNat (sLr.getD 0 0))) :: (List.range (sLr.getD 0 0)).map (fun j => Cond.eq (.elem (txv "CodeFoundryModel" 412) (.int (Int32.ofNat j))) (.int ((sBr.getD 0 []).getD j 0))) := by decide +kernel
theorem fe_r1 : (fl1.drop 972).take (sLr.getD 1 0 + 4) = Cond.exactly (.string "CodeFoundryModel" 532) "java/lang/String" :: Cond.eq (.field (.string "CodeFoundryModel" 532) "java/lang/String" "coder" "B") (.int 0) :: Cond.arrayOf (txv "CodeFoundryModel" 532) .byte :: Cond.eq (.length (txv "CodeFoundryModel" 532)) (.int (Int32.ofNat (sLr.getD 1 0))) :: (List.range (sLr.getD 1 0)).map (fun j => Cond.eq (.elem (txv "CodeFoundryModel" 532) (.int (Int32.ofNat j))) (.int ((sBr.getD 1 []).getD j 0))) := by decide +kernel
theorem fe_r2 : (fl1.drop 988).take (sLr.getD 2 0 + 4) = Cond.exactly (.string "CodeFoundryModel" 534) "java/lang/String" :: Cond.eq (.field (.string "CodeFoundryModel" 534) "java/lang/String" "coder" "B") (.int 0) :: Cond.arrayOf (txv "CodeFoundryModel" 534) .byte :: Cond.eq (.length (txv "CodeFoundryModel" 534)) (.int (Int32.ofNat (sLr.getD 2 0))) :: (List.range (sLr.getD 2 0)).map (fun j => Cond.eq (.elem (txv "CodeFoundryModel" 534) (.int (Int32.ofNat j))) (.int ((sBr.getD 2 []).getD j 0))) := by decide +kernel
theorem fe_r3 : (fl1.drop 1002).take (sLr.getD 3 0 + 4) = Cond.exactly (.string "CodeFoundryModel" 536) "java/lang/String" :: Cond.eq (.field (.string "CodeFoundryModel" 536) "java/lang/String" "coder" "B") (.int 0) :: Cond.arrayOf (txv "CodeFoundryModel" 536) .byte :: Cond.eq (.length (txv "CodeFoundryModel" 536)) (.int (Int32.ofNat (sLr.getD 3 0))) :: (List.range (sLr.getD 3 0)).map (fun j => Cond.eq (.elem (txv "CodeFoundryModel" 536) (.int (Int32.ofNat j))) (.int ((sBr.getD 3 []).getD j 0))) := by decide +kernel
theorem fe_r4 : (fl1.drop 1017).take (sLr.getD 4 0 + 4) = Cond.exactly (.string "CodeFoundryModel" 538) "java/lang/String" :: Cond.eq (.field (.string "CodeFoundryModel" 538) "java/lang/String" "coder" "B") (.int 0) :: Cond.arrayOf (txv "CodeFoundryModel" 538) .byte :: Cond.eq (.length (txv "CodeFoundryModel" 538)) (.int (Int32.ofNat (sLr.getD 4 0))) :: (List.range (sLr.getD 4 0)).map (fun j => Cond.eq (.elem (txv "CodeFoundryModel" 538) (.int (Int32.ofNat j))) (.int ((sBr.getD 4 []).getD j 0))) := by decide +kernel
theorem fe_r5 : (fl1.drop 1031).take (sLr.getD 5 0 + 4) = Cond.exactly (.string "CodeFoundryModel" 700) "java/lang/String" :: Cond.eq (.field (.string "CodeFoundryModel" 700) "java/lang/String" "coder" "B") (.int 0) :: Cond.arrayOf (txv "CodeFoundryModel" 700) .byte :: Cond.eq (.length (txv "CodeFoundryModel" 700)) (.int (Int32.ofNat (sLr.getD 5 0))) :: (List.range (sLr.getD 5 0)).map (fun j => Cond.eq (.elem (txv "CodeFoundryModel" 700) (.int (Int32.ofNat j))) (.int ((sBr.getD 5 []).getD j 0))) := by decide +kernel
theorem fe_r6 : (fl1.drop 1037).take (sLr.getD 6 0 + 4) = Cond.exactly (.string "CodeFoundryModel" 702) "java/lang/String" :: Cond.eq (.field (.string "CodeFoundryModel" 702) "java/lang/String" "coder" "B") (.int 0) :: Cond.arrayOf (txv "CodeFoundryModel" 702) .byte :: Cond.eq (.length (txv "CodeFoundryModel" 702)) (.int (Int32.ofNat (sLr.getD 6 0))) :: (List.range (sLr.getD 6 0)).map (fun j => Cond.eq (.elem (txv "CodeFoundryModel" 702) (.int (Int32.ofNat j))) (.int ((sBr.getD 6 []).getD j 0))) := by decide +kernel
theorem fe_r7 : (fl1.drop 1043).take (sLr.getD 7 0 + 4) = Cond.exactly (.string "CodeFoundryModel" 704) "java/lang/String" :: Cond.eq (.field (.string "CodeFoundryModel" 704) "java/lang/String" "coder" "B") (.int 0) :: Cond.arrayOf (txv "CodeFoundryModel" 704) .byte :: Cond.eq (.length (txv "CodeFoundryModel" 704)) (.int (Int32.ofNat (sLr.getD 7 0))) :: (List.range (sLr.getD 7 0)).map (fun j => Cond.eq (.elem (txv "CodeFoundryModel" 704) (.int (Int32.ofNat j))) (.int ((sBr.getD 7 []).getD j 0))) := by decide +kernel
theorem fe_r8 : (fl1.drop 1049).take (sLr.getD 8 0 + 4) = Cond.exactly (.string "CodeFoundryModel" 706) "java/lang/String" :: Cond.eq (.field (.string "CodeFoundryModel" 706) "java/lang/String" "coder" "B") (.int 0) :: Cond.arrayOf (txv "CodeFoundryModel" 706) .byte :: Cond.eq (.length (txv "CodeFoundryModel" 706)) (.int (Int32.ofNat (sLr.getD 8 0))) :: (List.range (sLr.getD 8 0)).map (fun j => Cond.eq (.elem (txv "CodeFoundryModel" 706) (.int (Int32.ofNat j))) (.int ((sBr.getD 8 []).getD j 0))) := by decide +kernel
theorem fe_r9 : (fl1.drop 1054).take (sLr.getD 9 0 + 4) = Cond.exactly (.string "CodeFoundryModel" 707) "java/lang/String" :: Cond.eq (.field (.string "CodeFoundryModel" 707) "java/lang/String" "coder" "B") (.int 0) :: Cond.arrayOf (txv "CodeFoundryModel" 707) .byte :: Cond.eq (.length (txv "CodeFoundryModel" 707)) (.int (Int32.ofNat (sLr.getD 9 0))) :: (List.range (sLr.getD 9 0)).map (fun j => Cond.eq (.elem (txv "CodeFoundryModel" 707) (.int (Int32.ofNat j))) (.int ((sBr.getD 9 []).getD j 0))) := by decide +kernel
theorem fe_r10 : (fl1.drop 1060).take (sLr.getD 10 0 + 4) = Cond.exactly (.string "CodeFoundryModel" 709) "java/lang/String" :: Cond.eq (.field (.string "CodeFoundryModel" 709) "java/lang/String" "coder" "B") (.int 0) :: Cond.arrayOf (txv "CodeFoundryModel" 709) .byte :: Cond.eq (.length (txv "CodeFoundryModel" 709)) (.int (Int32.ofNat (sLr.getD 10 0))) :: (List.range (sLr.getD 10 0)).map (fun j => Cond.eq (.elem (txv "CodeFoundryModel" 709) (.int (Int32.ofNat j))) (.int ((sBr.getD 10 []).getD j 0))) := by decide +kernel
theorem fe_r11 : (fl1.drop 1067).take (sLr.getD 11 0 + 4) = Cond.exactly (.string "CodeFoundryModel" 711) "java/lang/String" :: Cond.eq (.field (.string "CodeFoundryModel" 711) "java/lang/String" "coder" "B") (.int 0) :: Cond.arrayOf (txv "CodeFoundryModel" 711) .byte :: Cond.eq (.length (txv "CodeFoundryModel" 711)) (.int (Int32.ofNat (sLr.getD 11 0))) :: (List.range (sLr.getD 11 0)).map (fun j => Cond.eq (.elem (txv "CodeFoundryModel" 711) (.int (Int32.ofNat j))) (.int ((sBr.getD 11 []).getD j 0))) := by decide +kernel
theorem fe_r12 : (fl1.drop 1073).take (sLr.getD 12 0 + 4) = Cond.exactly (.string "CodeFoundryModel" 713) "java/lang/String" :: Cond.eq (.field (.string "CodeFoundryModel" 713) "java/lang/String" "coder" "B") (.int 0) :: Cond.arrayOf (txv "CodeFoundryModel" 713) .byte :: Cond.eq (.length (txv "CodeFoundryModel" 713)) (.int (Int32.ofNat (sLr.getD 12 0))) :: (List.range (sLr.getD 12 0)).map (fun j => Cond.eq (.elem (txv "CodeFoundryModel" 713) (.int (Int32.ofNat j))) (.int ((sBr.getD 12 []).getD j 0))) := by decide +kernel
theorem fe_r13 : (fl1.drop 1078).take (sLr.getD 13 0 + 4) = Cond.exactly (.string "CodeFoundryModel" 715) "java/lang/String" :: Cond.eq (.field (.string "CodeFoundryModel" 715) "java/lang/String" "coder" "B") (.int 0) :: Cond.arrayOf (txv "CodeFoundryModel" 715) .byte :: Cond.eq (.length (txv "CodeFoundryModel" 715)) (.int (Int32.ofNat (sLr.getD 13 0))) :: (List.range (sLr.getD 13 0)).map (fun j => Cond.eq (.elem (txv "CodeFoundryModel" 715) (.int (Int32.ofNat j))) (.int ((sBr.getD 13 []).getD j 0))) := by decide +kernel
theorem fe_r14 : (fl1.drop 1084).take (sLr.getD 14 0 + 4) = Cond.exactly (.string "CodeFoundryModel" 717) "java/lang/String" :: Cond.eq (.field (.string "CodeFoundryModel" 717) "java/lang/String" "coder" "B") (.int 0) :: Cond.arrayOf (txv "CodeFoundryModel" 717) .byte :: Cond.eq (.length (txv "CodeFoundryModel" 717)) (.int (Int32.ofNat (sLr.getD 14 0))) :: (List.range (sLr.getD 14 0)).map (fun j => Cond.eq (.elem (txv "CodeFoundryModel" 717) (.int (Int32.ofNat j))) (.int ((sBr.getD 14 []).getD j 0))) := by decide +kernel
theorem fe_r15 : (fl1.drop 1089).take (sLr.getD 15 0 + 4) = Cond.exactly (.string "CodeFoundryModel" 719) "java/lang/String" :: Cond.eq (.field (.string "CodeFoundryModel" 719) "java/lang/String" "coder" "B") (.int 0) :: Cond.arrayOf (txv "CodeFoundryModel" 719) .byte :: Cond.eq (.length (txv "CodeFoundryModel" 719)) (.int (Int32.ofNat (sLr.getD 15 0))) :: (List.range (sLr.getD 15 0)).map (fun j => Cond.eq (.elem (txv "CodeFoundryModel" 719) (.int (Int32.ofNat j))) (.int ((sBr.getD 15 []).getD j 0))) := by decide +kernel
theorem fe_r16 : (fl1.drop 1094).take (sLr.getD 16 0 + 4) = Cond.exactly (.string "CodeFoundryModel" 721) "java/lang/String" :: Cond.eq (.field (.string "CodeFoundryModel" 721) "java/lang/String" "coder" "B") (.int 0) :: Cond.arrayOf (txv "CodeFoundryModel" 721) .byte :: Cond.eq (.length (txv "CodeFoundryModel" 721)) (.int (Int32.ofNat (sLr.getD 16 0))) :: (List.range (sLr.getD 16 0)).map (fun j => Cond.eq (.elem (txv "CodeFoundryModel" 721) (.int (Int32.ofNat j))) (.int ((sBr.getD 16 []).getD j 0))) := by decide +kernel
theorem fe_r17 : (fl1.drop 1098).take (sLr.getD 17 0 + 4) = Cond.exactly (.string "CodeFoundryModel" 723) "java/lang/String" :: Cond.eq (.field (.string "CodeFoundryModel" 723) "java/lang/String" "coder" "B") (.int 0) :: Cond.arrayOf (txv "CodeFoundryModel" 723) .byte :: Cond.eq (.length (txv "CodeFoundryModel" 723)) (.int (Int32.ofNat (sLr.getD 17 0))) :: (List.range (sLr.getD 17 0)).map (fun j => Cond.eq (.elem (txv "CodeFoundryModel" 723) (.int (Int32.ofNat j))) (.int ((sBr.getD 17 []).getD j 0))) := by decide +kernel
theorem fe_r18 : (fl1.drop 1103).take (sLr.getD 18 0 + 4) = Cond.exactly (.string "CodeFoundryModel" 1285) "java/lang/String" :: Cond.eq (.field (.string "CodeFoundryModel" 1285) "java/lang/String" "coder" "B") (.int 0) :: Cond.arrayOf (txv "CodeFoundryModel" 1285) .byte :: Cond.eq (.length (txv "CodeFoundryModel" 1285)) (.int (Int32.ofNat (sLr.getD 18 0))) :: (List.range (sLr.getD 18 0)).map (fun j => Cond.eq (.elem (txv "CodeFoundryModel" 1285) (.int (Int32.ofNat j))) (.int ((sBr.getD 18 []).getD j 0))) := by decide +kernel
theorem env_J {p : Program} {s : State} {m : MethodId} {meth : Method} {c : Code} {b L : Nat} {xs : Nat → Int32} {A : Nat → Prop} (hAn : ∀ a : Nat, a < s.heap.size → ¬ A a) (C0 : lw_At p s m meth c b L xs) : jE A s s.heap := by
  obtain ⟨hx, hb, hr, hml, hown, hts1, hX, hbl, hlocks, hgv⟩ := id C0
  have hs : ∀ c ∈ fl1, c.before #[Value.ref b] s = true := flat_of_before _ hgv
  obtain ⟨tD1, uD1, vD1⟩ := fl_arr (A := A) hs (by decide) fe_D1 hAn
  obtain ⟨tD2, uD2, vD2⟩ := fl_arr (A := A) hs (by decide) fe_D2 hAn
  exact ⟨va_Zof (hts1 _ (List.mem_append_right _ (tck_4 _ (List.mem_of_getElem? (i := 123) rfl)))) (hts1 _ (List.mem_append_right _ (tck_1 _ (List.mem_of_getElem? (i := 21) rfl)))) (va_eqt (hs _ (List.mem_of_getElem? (i := 15) (by decide +kernel)))) hAn, va_Zqof (hts1 _ (List.mem_append_right _ (tck_4 _ (List.mem_of_getElem? (i := 139) rfl)))) (hts1 _ (List.mem_append_right _ (tck_1 _ (List.mem_of_getElem? (i := 23) rfl)))) (hs _ (List.mem_of_getElem? (i := 16) (by decide +kernel))) hAn, ⟨_, va_Zref (hts1 _ (List.mem_append_right _ (tck_17 _ (List.mem_of_getElem? (i := 148) rfl)))) (hts1 _ (List.mem_append_right _ (tck_1 _ (List.mem_of_getElem? (i := 30) rfl)))) uD1 hAn, vD1⟩, ⟨_, va_Zref (hts1 _ (List.mem_append_right _ (tck_17 _ (List.mem_of_getElem? (i := 150) rfl)))) (hts1 _ (List.mem_append_right _ (tck_1 _ (List.mem_of_getElem? (i := 30) rfl)))) uD2 hAn, vD2⟩⟩
theorem env_4 {p : Program} {s : State} {m : MethodId} {meth : Method} {c : Code} {b L : Nat} {xs : Nat → Int32} {A : Nat → Prop} (hAn : ∀ a : Nat, a < s.heap.size → ¬ A a) (C0 : lw_At p s m meth c b L xs) : s4C A s s.heap := by
  obtain ⟨hx, hb, hr, hml, hown, hts1, hX, hbl, hlocks, hgv⟩ := id C0
  have hs : ∀ c ∈ fl1, c.before #[Value.ref b] s = true := flat_of_before _ hgv
  obtain ⟨tMG, uMG, vMG⟩ := fl_arr (A := A) hs (by decide) fe_MG hAn
  obtain ⟨tLN, uLN, vLN⟩ := fl_arr (A := A) hs (by decide) fe_LN hAn
  obtain ⟨tTK, uTK, vTK⟩ := fl_arr (A := A) hs (by decide) fe_TK hAn
  obtain ⟨tGV, uGV, vGV⟩ := fl_arr (A := A) hs (by decide) fe_GV hAn
  exact ⟨⟨_, va_Zref (hts1 _ (List.mem_append_right _ (tck_3 _ (List.mem_of_getElem? (i := 188) rfl)))) (hts1 _ (List.mem_append_right _ (tck_1 _ (List.mem_of_getElem? (i := 1) rfl)))) uMG hAn, vMG⟩, ⟨_, va_Zref (hts1 _ (List.mem_append_right _ (tck_4 _ (List.mem_of_getElem? (i := 228) rfl)))) (hts1 _ (List.mem_append_right _ (tck_1 _ (List.mem_of_getElem? (i := 25) rfl)))) uLN hAn, vLN⟩, ⟨_, va_Zref (hts1 _ (List.mem_append_right _ (tck_6 _ (List.mem_of_getElem? (i := 55) rfl)))) (hts1 _ (List.mem_append_right _ (tck_1 _ (List.mem_of_getElem? (i := 25) rfl)))) uTK hAn, vTK⟩, ⟨_, va_Zref (hts1 _ (List.mem_append_right _ (tck_6 _ (List.mem_of_getElem? (i := 75) rfl)))) (hts1 _ (List.mem_append_right _ (tck_1 _ (List.mem_of_getElem? (i := 25) rfl)))) uGV hAn, vGV⟩⟩
theorem env_q {p : Program} {s : State} {m : MethodId} {meth : Method} {c : Code} {b L : Nat} {xs : Nat → Int32} {A : Nat → Prop} (hAn : ∀ a : Nat, a < s.heap.size → ¬ A a) (C0 : lw_At p s m meth c b L xs) : exq A s s.heap := by
  obtain ⟨hx, hb, hr, hml, hown, hts1, hX, hbl, hlocks, hgv⟩ := id C0
  have hs : ∀ c ∈ fl1, c.before #[Value.ref b] s = true := flat_of_before _ hgv
  exact ⟨vx_Zqof (hts1 _ (List.mem_append_right _ (tck_10 _ (List.mem_of_getElem? (i := 89) rfl)))) (hts1 _ (List.mem_append_right _ (tck_1 _ (List.mem_of_getElem? (i := 13) rfl)))) (hs _ (List.mem_of_getElem? (i := 635) (by decide +kernel))) hAn, vx_Zqof (hts1 _ (List.mem_append_right _ (tck_10 _ (List.mem_of_getElem? (i := 91) rfl)))) (hts1 _ (List.mem_append_right _ (tck_1 _ (List.mem_of_getElem? (i := 13) rfl)))) (hs _ (List.mem_of_getElem? (i := 636) (by decide +kernel))) hAn⟩
set_option maxRecDepth 100000 in
theorem env_C {p : Program} {s : State} {m : MethodId} {meth : Method} {c : Code} {b L : Nat} {xs : Nat → Int32} {A : Nat → Prop} (hAn : ∀ a : Nat, a < s.heap.size → ¬ A a) (C0 : lw_At p s m meth c b L xs) : ∃ tA : Nat → Nat, (∀ i : Nat, i < NTC → tx1 (tA (2 * i)) (tA (2 * i + 1)) (sLc.getD i 0) (fun k => (sBc.getD i []).getD k 0) A s s.heap) ∧ ∀ x ∈ ldcC, vk_R x.1 x.2.1 x.2.2.1 (tA (2 * x.2.2.2)) s := by
  obtain ⟨hx, hb, hr, hml, hown, hts1, hX, hbl, hlocks, hgv⟩ := id C0
  have hs : ∀ c ∈ fl1, c.before #[Value.ref b] s = true := flat_of_before _ hgv
  obtain ⟨b0, v0, e0, t0⟩ := fl_txt (A := A) hs (by decide) fe_c0 hAn
  obtain ⟨b1, v1, e1, t1⟩ := fl_txt (A := A) hs (by decide) fe_c1 hAn
  obtain ⟨b2, v2, e2, t2⟩ := fl_txt (A := A) hs (by decide) fe_c2 hAn
  obtain ⟨b3, v3, e3, t3⟩ := fl_txt (A := A) hs (by decide) fe_c3 hAn
  obtain ⟨b4, v4, e4, t4⟩ := fl_txt (A := A) hs (by decide) fe_c4 hAn
  obtain ⟨b5, v5, e5, t5⟩ := fl_txt (A := A) hs (by decide) fe_c5 hAn
  obtain ⟨b6, v6, e6, t6⟩ := fl_txt (A := A) hs (by decide) fe_c6 hAn
  refine ⟨fun h => ([b0, v0, b1, v1, b2, v2, b3, v3, b4, v4, b5, v5, b6, v6] : List Nat).getD h 0, fun i hi => ?_, fun x hx => ?_⟩
  · match i, hi with
    | 0, _ => exact t0
    | 1, _ => exact t1
    | 2, _ => exact t2
    | 3, _ => exact t3
    | 4, _ => exact t4
    | 5, _ => exact t5
    | 6, _ => exact t6
    | i + 7, hi => exact absurd hi (by unfold NTC; omega)
  · simp only [ldcC, List.mem_cons, List.not_mem_nil, or_false] at hx
    rcases hx with rfl | rfl | rfl | rfl | rfl | rfl | rfl
    · exact vk_R.of (hts1 _ (List.mem_append_right _ (tck_5 _ (List.mem_of_getElem? (i := 76) rfl)))) e1
    · exact vk_R.of (hts1 _ (List.mem_append_right _ (tck_5 _ (List.mem_of_getElem? (i := 77) rfl)))) e2
    · exact vk_R.of (hts1 _ (List.mem_append_right _ (tck_5 _ (List.mem_of_getElem? (i := 78) rfl)))) e3
    · exact vk_R.of (hts1 _ (List.mem_append_right _ (tck_5 _ (List.mem_of_getElem? (i := 79) rfl)))) e4
    · exact vk_R.of (hts1 _ (List.mem_append_right _ (tck_4 _ (List.mem_of_getElem? (i := 109) rfl)))) e0
    · exact vk_R.of (hts1 _ (List.mem_append_right _ (tck_7 _ (List.mem_of_getElem? (i := 40) rfl)))) e6
    · exact vk_R.of (hts1 _ (List.mem_append_right _ (tck_7 _ (List.mem_of_getElem? (i := 86) rfl)))) e5
set_option maxRecDepth 100000 in
theorem env_R {p : Program} {s : State} {m : MethodId} {meth : Method} {c : Code} {b L : Nat} {xs : Nat → Int32} {A : Nat → Prop} (hAn : ∀ a : Nat, a < s.heap.size → ¬ A a) (C0 : lw_At p s m meth c b L xs) : ∃ tA : Nat → Nat, (∀ i : Nat, i < NTX → tx1 (tA (2 * i)) (tA (2 * i + 1)) (sLr.getD i 0) (fun k => (sBr.getD i []).getD k 0) A s s.heap) ∧ ∀ x ∈ ldcL, vk_R RX14 x.1 x.2.1 (tA (2 * x.2.2)) s := by
  obtain ⟨hx, hb, hr, hml, hown, hts1, hX, hbl, hlocks, hgv⟩ := id C0
  have hs : ∀ c ∈ fl1, c.before #[Value.ref b] s = true := flat_of_before _ hgv
  obtain ⟨b0, v0, e0, t0⟩ := fl_txt (A := A) hs (by decide) fe_r0 hAn
  obtain ⟨b1, v1, e1, t1⟩ := fl_txt (A := A) hs (by decide) fe_r1 hAn
  obtain ⟨b2, v2, e2, t2⟩ := fl_txt (A := A) hs (by decide) fe_r2 hAn
  obtain ⟨b3, v3, e3, t3⟩ := fl_txt (A := A) hs (by decide) fe_r3 hAn
  obtain ⟨b4, v4, e4, t4⟩ := fl_txt (A := A) hs (by decide) fe_r4 hAn
  obtain ⟨b5, v5, e5, t5⟩ := fl_txt (A := A) hs (by decide) fe_r5 hAn
  obtain ⟨b6, v6, e6, t6⟩ := fl_txt (A := A) hs (by decide) fe_r6 hAn
  obtain ⟨b7, v7, e7, t7⟩ := fl_txt (A := A) hs (by decide) fe_r7 hAn
  obtain ⟨b8, v8, e8, t8⟩ := fl_txt (A := A) hs (by decide) fe_r8 hAn
  obtain ⟨b9, v9, e9, t9⟩ := fl_txt (A := A) hs (by decide) fe_r9 hAn
  obtain ⟨b10, v10, e10, t10⟩ := fl_txt (A := A) hs (by decide) fe_r10 hAn
  obtain ⟨b11, v11, e11, t11⟩ := fl_txt (A := A) hs (by decide) fe_r11 hAn
  obtain ⟨b12, v12, e12, t12⟩ := fl_txt (A := A) hs (by decide) fe_r12 hAn
  obtain ⟨b13, v13, e13, t13⟩ := fl_txt (A := A) hs (by decide) fe_r13 hAn
  obtain ⟨b14, v14, e14, t14⟩ := fl_txt (A := A) hs (by decide) fe_r14 hAn
  obtain ⟨b15, v15, e15, t15⟩ := fl_txt (A := A) hs (by decide) fe_r15 hAn
  obtain ⟨b16, v16, e16, t16⟩ := fl_txt (A := A) hs (by decide) fe_r16 hAn
  obtain ⟨b17, v17, e17, t17⟩ := fl_txt (A := A) hs (by decide) fe_r17 hAn
  obtain ⟨b18, v18, e18, t18⟩ := fl_txt (A := A) hs (by decide) fe_r18 hAn
  refine ⟨fun h => ([b0, v0, b1, v1, b2, v2, b3, v3, b4, v4, b5, v5, b6, v6, b7, v7, b8, v8, b9, v9, b10, v10, b11, v11, b12, v12, b13, v13, b14, v14, b15, v15, b16, v16, b17, v17, b18, v18] : List Nat).getD h 0, fun i hi => ?_, fun x hx => ?_⟩
  · match i, hi with
    | 0, _ => exact t0
    | 1, _ => exact t1
    | 2, _ => exact t2
    | 3, _ => exact t3
    | 4, _ => exact t4
    | 5, _ => exact t5
    | 6, _ => exact t6
    | 7, _ => exact t7
    | 8, _ => exact t8
    | 9, _ => exact t9
    | 10, _ => exact t10
    | 11, _ => exact t11
    | 12, _ => exact t12
    | 13, _ => exact t13
    | 14, _ => exact t14
    | 15, _ => exact t15
    | 16, _ => exact t16
    | 17, _ => exact t17
    | 18, _ => exact t18
    | i + 19, hi => exact absurd hi (by unfold NTX; omega)
  · simp only [ldcL, List.mem_cons, List.not_mem_nil, or_false] at hx
    rcases hx with rfl | rfl | rfl | rfl | rfl | rfl | rfl | rfl | rfl | rfl | rfl | rfl | rfl | rfl | rfl | rfl | rfl | rfl | rfl
    · exact vk_R.of (hts1 _ (List.mem_append_right _ (tck_13 _ (List.mem_of_getElem? (i := 70) rfl)))) e0
    · exact vk_R.of (hts1 _ (List.mem_append_right _ (tck_13 _ (List.mem_of_getElem? (i := 176) rfl)))) e1
    · exact vk_R.of (hts1 _ (List.mem_append_right _ (tck_13 _ (List.mem_of_getElem? (i := 177) rfl)))) e2
    · exact vk_R.of (hts1 _ (List.mem_append_right _ (tck_13 _ (List.mem_of_getElem? (i := 178) rfl)))) e3
    · exact vk_R.of (hts1 _ (List.mem_append_right _ (tck_13 _ (List.mem_of_getElem? (i := 179) rfl)))) e4
    · exact vk_R.of (hts1 _ (List.mem_append_right _ (tck_14 _ (List.mem_of_getElem? (i := 153) rfl)))) e5
    · exact vk_R.of (hts1 _ (List.mem_append_right _ (tck_14 _ (List.mem_of_getElem? (i := 154) rfl)))) e6
    · exact vk_R.of (hts1 _ (List.mem_append_right _ (tck_14 _ (List.mem_of_getElem? (i := 155) rfl)))) e7
    · exact vk_R.of (hts1 _ (List.mem_append_right _ (tck_14 _ (List.mem_of_getElem? (i := 156) rfl)))) e8
    · exact vk_R.of (hts1 _ (List.mem_append_right _ (tck_14 _ (List.mem_of_getElem? (i := 157) rfl)))) e9
    · exact vk_R.of (hts1 _ (List.mem_append_right _ (tck_14 _ (List.mem_of_getElem? (i := 158) rfl)))) e10
    · exact vk_R.of (hts1 _ (List.mem_append_right _ (tck_14 _ (List.mem_of_getElem? (i := 159) rfl)))) e11
    · exact vk_R.of (hts1 _ (List.mem_append_right _ (tck_14 _ (List.mem_of_getElem? (i := 160) rfl)))) e12
    · exact vk_R.of (hts1 _ (List.mem_append_right _ (tck_14 _ (List.mem_of_getElem? (i := 161) rfl)))) e13
    · exact vk_R.of (hts1 _ (List.mem_append_right _ (tck_14 _ (List.mem_of_getElem? (i := 162) rfl)))) e14
    · exact vk_R.of (hts1 _ (List.mem_append_right _ (tck_14 _ (List.mem_of_getElem? (i := 163) rfl)))) e15
    · exact vk_R.of (hts1 _ (List.mem_append_right _ (tck_14 _ (List.mem_of_getElem? (i := 168) rfl)))) e16
    · exact vk_R.of (hts1 _ (List.mem_append_right _ (tck_14 _ (List.mem_of_getElem? (i := 179) rfl)))) e17
    · exact vk_R.of (hts1 _ (List.mem_append_right _ (tck_17 _ (List.mem_of_getElem? (i := 94) rfl)))) e18
theorem nest_tl : ∀ w ∈ nestL, w ∈ tables_1 := by
  intro w hw
  simp only [nestL, List.mem_cons, List.not_mem_nil, or_false] at hw
  rcases hw with rfl | rfl | rfl | rfl | rfl | rfl | rfl | rfl | rfl | rfl | rfl | rfl | rfl | rfl | rfl | rfl | rfl | rfl | rfl
  · exact (tck_1 _ (List.mem_of_getElem? (i := 42) rfl))
  · exact (tck_1 _ (List.mem_of_getElem? (i := 63) rfl))
  · exact (tck_1 _ (List.mem_of_getElem? (i := 69) rfl))
  · exact (tck_1 _ (List.mem_of_getElem? (i := 179) rfl))
  · exact (tck_1 _ (List.mem_of_getElem? (i := 185) rfl))
  · exact (tck_2 _ (List.mem_of_getElem? (i := 9) rfl))
  · exact (tck_2 _ (List.mem_of_getElem? (i := 14) rfl))
  · exact (tck_2 _ (List.mem_of_getElem? (i := 16) rfl))
  · exact (tck_2 _ (List.mem_of_getElem? (i := 74) rfl))
  · exact (tck_2 _ (List.mem_of_getElem? (i := 147) rfl))
  · exact (tck_2 _ (List.mem_of_getElem? (i := 203) rfl))
  · exact (tck_10 _ (List.mem_of_getElem? (i := 132) rfl))
  · exact (tck_3 _ (List.mem_of_getElem? (i := 187) rfl))
  · exact (tck_7 _ (List.mem_of_getElem? (i := 198) rfl))
  · exact (tck_10 _ (List.mem_of_getElem? (i := 65) rfl))
  · exact (tck_10 _ (List.mem_of_getElem? (i := 67) rfl))
  · exact (tck_10 _ (List.mem_of_getElem? (i := 69) rfl))
  · exact (tck_10 _ (List.mem_of_getElem? (i := 64) rfl))
  · exact (tck_3 _ (List.mem_of_getElem? (i := 159) rfl))
theorem env_x {p : Program} {s : State} {m : MethodId} {meth : Method} {c : Code} {b L : Nat} {xs : Nat → Int32} (C0 : lw_At p s m meth c b L xs) : ex s := by
  obtain ⟨hx, hb, hr, hml, hown, hts1, hX, hbl, hlocks, hgv⟩ := id C0
  refine ⟨fun w hw => va_Nw.of (by simp only [nestL, List.mem_cons, List.not_mem_nil, or_false] at hw; rcases hw with rfl | rfl | rfl | rfl | rfl | rfl | rfl | rfl | rfl | rfl | rfl | rfl | rfl | rfl | rfl | rfl | rfl | rfl | rfl <;> rfl) (hts1 w (List.mem_append_right _ (nest_tl w hw))), fun C hC => ?_⟩
  simp only [aoL, List.mem_cons, List.not_mem_nil, or_false] at hC
  rcases hC with rfl | rfl | rfl | rfl
  · exact va_AO.of (hts1 _ (List.mem_append_right _ (tck_1 _ (List.mem_of_getElem? (i := 60) rfl))))
  · exact va_AO.of (hts1 _ (List.mem_append_right _ (tck_5 _ (List.mem_of_getElem? (i := 93) rfl))))
  · exact va_AO.of (hts1 _ (List.mem_append_right _ (tck_10 _ (List.mem_of_getElem? (i := 61) rfl))))
  · exact va_AO.of (hts1 _ (List.mem_append_right _ (tck_10 _ (List.mem_of_getElem? (i := 128) rfl))))
