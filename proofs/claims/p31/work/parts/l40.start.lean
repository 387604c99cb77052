theorem rnew_blind {av : List Value} {g : Gr} {ad : Nat → Nat} {H0 : Heap} {S : MS} : FrameBlind (va_Pc av (fun U => st_RH g ad H0 S U ∧ exq (va_A (Wd g ad S) H0.size) U U.heap)) := fun a U f mk q => ⟨(rblindH a U f mk ⟨q.1, q.2.1⟩).1, (rblindH a U f mk ⟨q.1, q.2.1⟩).2, exq_calling q.2.2⟩
theorem rnew_mk {av : List Value} {g : Gr} {ad : Nat → Nat} {H : Heap} {S : MS} {U : State} (h : va_Pc av (st_RH g ad H S) av.toArray U) (h2 : exq (va_A (Wd g ad S) H.size) U U.heap) : va_Pc av (fun U => st_RH g ad H S U ∧ exq (va_A (Wd g ad S) H.size) U U.heap) av.toArray U := ⟨h.1, h.2, h2⟩
theorem gd_LI {y : MethodName} {w0 : Cond} {ts : List Cond} (hts : ∀ w ∈ ts, w ∈ LWt ∧ goodWord w = true) (h : w0 ∈ tl) : GoodIn LWt (w0 :: ts) := fun w hw => by
  rcases List.mem_cons.mp hw with rfl | hw
  · exact ⟨LWt_t h, good_of_word (tl_good _ h)⟩
  · exact ⟨(hts w hw).1, good_of_word (hts w hw).2⟩
theorem jk_p {args : Array Value} {s : State} {ty : FieldType} (hp : ∀ C, ty ≠ .object C) (h : (Cond.arrayClass ty).before args s = true) : ∃ cA : ClassId, ArrOfT s cA ty ∧ va_RA s cA ty := by
  obtain ⟨cA, kA, comp, h1, h2, h3⟩ := Cond.arrayClass_spec h
  refine ⟨cA, fun N z => ⟨(fun k h => by cases h), kA, h2, comp, h3⟩, ?_⟩
  cases ty with
  | object C => exact absurd rfl (hp C)
  | _ => exact h1
theorem jk_o {args : Array Value} {s : State} {C : String} (h : (Cond.arrayOver (.object C)).before args s = true) : ∃ cA : ClassId, ArrOfT s cA (.object C) ∧ va_RA s cA (.object C) := by
  obtain ⟨comp, cA, kA, h1, h2, h3, h4, h5⟩ := Cond.arrayOver_spec h
  exact ⟨cA, fun N z => ⟨(fun k h => by cases h), kA, h3, comp, h4⟩, kA, comp, h3, h4, h1, h5⟩
theorem jw_up {D : va_G} {ws : va_W} {H : Heap} (h : va_P D cl0 ws H) : va_P D cl2 ws H := by
  intro k q e
  obtain ⟨a, x⟩ := q
  rcases x with x | x
  · exact h k _ e
  · obtain ⟨q', h1, r⟩ := h k _ e
    exact ⟨q', by unfold cl2; rw [List.getElem?_append_left (List.getElem?_eq_some_iff.mp h1).1]; exact h1, r⟩
theorem jw_down {D : va_G} {ws : va_W} {H H1 : Heap} (h : va_P D cl0 ws H) (h2 : va_P D cl2 ws H1) : va_P D cl0 ws H1 := by
  intro k q e
  obtain ⟨a, x⟩ := q
  rcases x with x | x
  · exact h2 k _ e
  · obtain ⟨q', h1, r⟩ := h k _ e
    obtain ⟨q'', g1, r1⟩ := h2 k _ e
    unfold cl2 at g1
    rw [List.getElem?_append_left (List.getElem?_eq_some_iff.mp h1).1] at g1
    exact ⟨q'', g1, r1⟩
theorem jn_left {D : va_G} {cl : List vw_C} {w1 w2 : va_W} {H : Heap} (h : va_P D cl (w1 ++ w2) H) : va_P D cl w1 H := fun k q e => h k q (by rw [List.getElem?_append_left (List.getElem?_eq_some_iff.mp e).1]; exact e)
theorem jn_right {D : va_G} {cl : List vw_C} {w1 : va_W} {q2 : Nat × va_E} {H : Heap} (h : va_P D cl (w1 ++ [q2]) H) : va_P D cl [q2] H := fun k q e => by
  have hk : k < 1 := (List.getElem?_eq_some_iff.mp e).1
  obtain rfl : k = 0 := by omega
  exact h w1.length q (by rw [List.getElem?_append_right (Nat.le_refl _), Nat.sub_self]; exact e)
theorem jn_Dr {A : Nat → Prop} {w1 : va_W} {q2 : Nat × va_E} (h : va_D A (w1 ++ [q2])) : va_D A [q2] := by
  have e9 : (w1 ++ [q2])[w1.length]? = some q2 := by rw [List.getElem?_append_right (Nat.le_refl _), Nat.sub_self]; rfl
  refine ⟨fun i j p q hi hj _ => ?_, fun k q e => ?_⟩
  · have h1 : i < 1 := (List.getElem?_eq_some_iff.mp hi).1
    have h2 : j < 1 := (List.getElem?_eq_some_iff.mp hj).1
    omega
  · have hk : k < 1 := (List.getElem?_eq_some_iff.mp e).1
    obtain rfl : k = 0 := by omega
    cases e
    exact h.2 _ _ e9
theorem jn_Dp {A : Nat → Prop} {w1 : va_W} {q2 : Nat × va_E} (h : va_D A (w1 ++ [q2])) : apw w1 [q2] := by
  have e9 : (w1 ++ [q2])[w1.length]? = some q2 := by rw [List.getElem?_append_right (Nat.le_refl _), Nat.sub_self]; rfl
  intro i j p q hi hj e
  have h1 := (List.getElem?_eq_some_iff.mp hi).1
  have h2 : j < 1 := (List.getElem?_eq_some_iff.mp hj).1
  obtain rfl : j = 0 := by omega
  cases hj
  have := h.1 i w1.length p q2 (by rw [List.getElem?_append_left h1]; exact hi) e9 e
  omega
set_option maxRecDepth 100000 in
theorem env_K {p : Program} {s : State} {m : MethodId} {meth : Method} {c : Code} {b L : Nat} {xs : Nat → Int32} (C0 : lw_At p s m meth c b L xs) : ∃ (dC : Nat → ClassId) (dI : Nat → Nat → Nat) (cB cI cZ cL cS cF cS' cF' : ClassId), va_K (rD (dC, dI, cB, cI, cZ, cL, cS, cF)) cl0 (tyC (dC, dI, cB, cI, cZ, cL, cS, cF)) s ∧ va_K (rD (dC, dI, cB, cI, cZ, cL, cS', cF')) cl2 (tyR (dC, dI, cB, cI, cZ, cL, cS', cF')) s := by
  obtain ⟨hx, hb, hr, hml, hown, hts0, hX, hbl, hlocks, hgv⟩ := id C0
  have hts1 := hts0
  have hts : ∀ w ∈ tb, w.before #[Value.ref b] s = true := fun w h => LWt_ok hts0 w (LWt_1 h)
  have hts2 : ∀ w ∈ tb2, w.before #[Value.ref b] s = true := fun w h => LWt_ok hts0 w (LWt_2 h)
  obtain ⟨c0, iS0, hKn0⟩ := u_known (C := RX0) (T := TX0) (N := 2) (n := 2) hts inX0 (hts1 (.instantiable RX0 2) (List.mem_append_right _ (tck_1 _ (List.mem_of_getElem? (i := 41) rfl))))
  obtain ⟨c1, iS1, hKn1⟩ := u_known (C := RX1) (T := TX1) (N := 10) (n := 10) hts inX1 (hts1 (.instantiable RX1 10) (List.mem_append_right _ (tck_1 _ (List.mem_of_getElem? (i := 178) rfl))))
  obtain ⟨c2, iS2, hKn2⟩ := u_known (C := RX2) (T := TX2) (N := 12) (n := 12) hts inX2 (hts1 (.instantiable RX2 12) (List.mem_append_right _ (tck_1 _ (List.mem_of_getElem? (i := 62) rfl))))
  obtain ⟨c3, iS3, hKn3⟩ := u_known (C := RX3) (T := TX3) (N := 16) (n := 16) hts inX3 (hts1 (.instantiable RX3 16) (List.mem_append_right _ (tck_2 _ (List.mem_of_getElem? (i := 146) rfl))))
  obtain ⟨c4, iS4, hKn4⟩ := u_known (C := RX4) (T := TX4) (N := 8) (n := 8) hts inX4 (hts1 (.instantiable RX4 8) (List.mem_append_right _ (tck_1 _ (List.mem_of_getElem? (i := 184) rfl))))
  obtain ⟨c5, iS5, hKn5⟩ := u_known (C := RX5) (T := TX5) (N := 20) (n := 20) hts inX5 (hts1 (.instantiable RX5 20) (List.mem_append_right _ (tck_2 _ (List.mem_of_getElem? (i := 73) rfl))))
  obtain ⟨c6, iS6, hKn6⟩ := u_known (C := RX7) (T := TX7) (N := 17) (n := 17) hts inX7 (hts1 (.instantiable RX7 17) (List.mem_append_right _ (tck_1 _ (List.mem_of_getElem? (i := 68) rfl))))
  obtain ⟨c7, iS7, hKn7⟩ := u_known (C := RX8) (T := TX8) (N := 15) (n := 15) hts inX8 (hts1 (.instantiable RX8 15) (List.mem_append_right _ (tck_2 _ (List.mem_of_getElem? (i := 208) rfl))))
  obtain ⟨c8, iS8, hKn8⟩ := u_known (C := RX9) (T := TX9) (N := 6) (n := 6) hts inX9 (hts1 (.instantiable RX9 6) (List.mem_append_right _ (tck_2 _ (List.mem_of_getElem? (i := 202) rfl))))
  obtain ⟨c9, iS9, hKn9⟩ := u_known (C := RX10) (T := TX10) (N := 18) (n := 18) hts inX10 (hts1 (.instantiable RX10 18) (List.mem_append_right _ (tck_5 _ (List.mem_of_getElem? (i := 86) rfl))))
  obtain ⟨c10, iS10, hKn10⟩ := u_known (C := RX11) (T := TX11) (N := 18) (n := 18) hts inX11 (hts1 (.instantiable RX11 18) (List.mem_append_right _ (tck_2 _ (List.mem_of_getElem? (i := 8) rfl))))
  obtain ⟨c11, iS11, hKn11⟩ := u_known (C := RX12) (T := TX12) (N := 18) (n := 18) hts inX12 (hts1 (.instantiable RX12 18) (List.mem_append_right _ (tck_1 _ (List.mem_of_getElem? (i := 33) rfl))))
  obtain ⟨c12, iS12, hKn12⟩ := u_known (C := RX13) (T := TX13) (N := 23) (n := 23) hts inX13 (hts1 (.instantiable RX13 23) (List.mem_append_right _ (tck_10 _ (List.mem_of_getElem? (i := 131) rfl))))
  obtain ⟨c13, iS13, hKn13⟩ := u_known (C := RX14) (T := TX14) (N := 143) (n := 143) hts inX14 (hts1 (.instantiable RX14 143) (List.mem_append_right _ (tck_10 _ (List.mem_of_getElem? (i := 55) rfl))))
  obtain ⟨c14, iS14, hKn14⟩ : ∃ (cC : ClassId) (iS : Nat → Nat), u_Kn s RJxb5711 TJxb5711 0 cC iS := by
    obtain ⟨cc9, kk9, h1, h2, h3, -⟩ := Cond.instantiable_spec (hts1 (.instantiable RJxb5711 6) (List.mem_append_right _ (tck_10 _ (List.mem_of_getElem? (i := 63) rfl))))
    exact ⟨cc9, fun _ => 0, fun k hk => absurd hk (Nat.not_lt_zero _), h1, kk9, h2, h3⟩
  obtain ⟨c15, iS15, hKn15⟩ := u_known (C := RJ0) (T := TJ0) (N := 4) (n := 4) hts2 (fun _ h => List.mem_append_right _ (List.mem_append_right _ (List.mem_append_left _ h))) (hts1 (.instantiable RJ0 4) (List.mem_append_right _ (tck_14 _ (List.mem_of_getElem? (i := 37) rfl))))
  obtain ⟨c16, iS16, hKn16⟩ := u_known (C := RJ4) (T := TJ4) (N := 4) (n := 4) hts2 (fun _ h => List.mem_append_right _ (List.mem_append_right _ (List.mem_append_right _ (List.mem_append_left _ h)))) (hts1 (.instantiable RJ4 4) (List.mem_append_right _ (tck_13 _ (List.mem_of_getElem? (i := 185) rfl))))
  obtain ⟨cB, acB⟩ := jk_p (ty := .byte) (fun C h => by cases h) (hts1 _ (List.mem_append_right _ (tck_1 _ (List.mem_of_getElem? (i := 58) rfl))))
  obtain ⟨cI, acI⟩ := jk_p (ty := .int) (fun C h => by cases h) (hts1 _ (List.mem_append_right _ (tck_1 _ (List.mem_of_getElem? (i := 138) rfl))))
  obtain ⟨cZ, acZ⟩ := jk_p (ty := .boolean) (fun C h => by cases h) (hts1 _ (List.mem_append_right _ (tck_1 _ (List.mem_of_getElem? (i := 215) rfl))))
  obtain ⟨cL, acL⟩ := jk_p (ty := .long) (fun C h => by cases h) (hts1 _ (List.mem_append_right _ (tck_2 _ (List.mem_of_getElem? (i := 144) rfl))))
  obtain ⟨cS, acS⟩ := jk_o (C := RX10) (hts1 _ (List.mem_append_right _ (tck_1 _ (List.mem_of_getElem? (i := 60) rfl))))
  obtain ⟨cF, acF⟩ := jk_o (C := RX8) (hts1 _ (List.mem_append_right _ (tck_5 _ (List.mem_of_getElem? (i := 93) rfl))))
  obtain ⟨cS', acS'⟩ := jk_o (C := "java/lang/String") (hts1 _ (List.mem_append_right _ (tck_10 _ (List.mem_of_getElem? (i := 128) rfl))))
  obtain ⟨cF', acF'⟩ := jk_o (C := RX13) (hts1 _ (List.mem_append_right _ (tck_10 _ (List.mem_of_getElem? (i := 61) rfl))))
  obtain ⟨dC, dI, hKc⟩ : ∃ (dC : Nat → ClassId) (dI : Nat → Nat → Nat), ∀ (k : Nat) (q : vw_C), cl2[k]? = some q → u_Kn s q.1 q.2.1 q.2.2 (dC k) (dI k) := by
    refine ⟨fun k => if k = 0 then c0 else if k = 1 then c1 else if k = 2 then c2 else if k = 3 then c3 else if k = 4 then c4 else if k = 5 then c5 else if k = 6 then c6 else if k = 7 then c7 else if k = 8 then c8 else if k = 9 then c9 else if k = 10 then c10 else if k = 11 then c11 else if k = 12 then c12 else if k = 13 then c13 else if k = 14 then c14 else if k = 15 then c15 else c16, fun k => if k = 0 then iS0 else if k = 1 then iS1 else if k = 2 then iS2 else if k = 3 then iS3 else if k = 4 then iS4 else if k = 5 then iS5 else if k = 6 then iS6 else if k = 7 then iS7 else if k = 8 then iS8 else if k = 9 then iS9 else if k = 10 then iS10 else if k = 11 then iS11 else if k = 12 then iS12 else if k = 13 then iS13 else if k = 14 then iS14 else if k = 15 then iS15 else iS16, ?_⟩
    intro k q hq
    match k, hq with
    | 0, hq => have hq : some (RX0, TX0, 2) = some q := hq; cases hq; exact hKn0
    | 1, hq => have hq : some (RX1, TX1, 10) = some q := hq; cases hq; exact hKn1
    | 2, hq => have hq : some (RX2, TX2, 12) = some q := hq; cases hq; exact hKn2
    | 3, hq => have hq : some (RX3, TX3, 16) = some q := hq; cases hq; exact hKn3
    | 4, hq => have hq : some (RX4, TX4, 8) = some q := hq; cases hq; exact hKn4
    | 5, hq => have hq : some (RX5, TX5, 20) = some q := hq; cases hq; exact hKn5
    | 6, hq => have hq : some (RX7, TX7, 17) = some q := hq; cases hq; exact hKn6
    | 7, hq => have hq : some (RX8, TX8, 15) = some q := hq; cases hq; exact hKn7
    | 8, hq => have hq : some (RX9, TX9, 6) = some q := hq; cases hq; exact hKn8
    | 9, hq => have hq : some (RX10, TX10, 18) = some q := hq; cases hq; exact hKn9
    | 10, hq => have hq : some (RX11, TX11, 18) = some q := hq; cases hq; exact hKn10
    | 11, hq => have hq : some (RX12, TX12, 18) = some q := hq; cases hq; exact hKn11
    | 12, hq => have hq : some (RX13, TX13, 23) = some q := hq; cases hq; exact hKn12
    | 13, hq => have hq : some (RX14, TX14, 143) = some q := hq; cases hq; exact hKn13
    | 14, hq => have hq : some (RJxb5711, TJxb5711, 0) = some q := hq; cases hq; exact hKn14
    | 15, hq => have hq : some (RJ0, TJ0, 4) = some q := hq; cases hq; exact hKn15
    | 16, hq => have hq : some (RJ4, TJ4, 4) = some q := hq; cases hq; exact hKn16
    | k + 17, hq => simp [cl2, cl0] at hq
  refine ⟨dC, dI, cB, cI, cZ, cL, cS, cF, cS', cF', ⟨fun k q hq => hKc k q (by unfold cl2; rw [List.getElem?_append_left (List.getElem?_eq_some_iff.mp hq).1]; exact hq), fun k q hq => ?_⟩, ⟨hKc, fun k q hq => ?_⟩⟩
  · match k, hq with
    | 0, hq => cases hq; exact acB
    | 1, hq => cases hq; exact acI
    | 2, hq => cases hq; exact acZ
    | 3, hq => cases hq; exact acL
    | 4, hq => cases hq; exact acS
    | 5, hq => cases hq; exact acF
    | k + 6, hq => simp [tyC] at hq
  · match k, hq with
    | 0, hq => cases hq; exact acB
    | 1, hq => cases hq; exact acI
    | 2, hq => cases hq; exact acZ
    | 3, hq => cases hq; exact acL
    | 4, hq => cases hq; exact acS'
    | 5, hq => cases hq; exact acF'
    | k + 6, hq => simp [tyR] at hq
set_option maxHeartbeats 4000000 in
set_option maxRecDepth 100000 in
theorem whole_start {p : Program} {e : Env} {s : State} {m : MethodId} {below : List Frame} {meth : Method} {c : Code} (l : Launch) (hlt : l.stackTraces = false) {b L : Nat} {xs : Nat → Int32} (hL : L ≤ 3072) (C0 : lw_At p s m meth c b L xs) : W p l e room_1 s m #[Value.ref b] below meth c s.heap [] 0 0 (lw_Z below #[Value.ref b] s) (entryFrame m ([Value.ref b] : List Value).toArray 4) := by
  obtain ⟨hx, hb, hr, hml, hown, hts1, hX, hbl, hlocks, hgv⟩ := id C0
  have hts : ∀ w ∈ LWt, w.before #[Value.ref b] s = true := LWt_ok hts1
  have hown : s.vm.findClass RL = some m.cls := hown
  have z : TXB = 10000000 := rfl
  have hex := env_x C0
  obtain ⟨A, hAd⟩ : ∃ A : Nat → Prop, A = fun q : Nat => s.heap.size ≤ q := ⟨_, rfl⟩
  have hA : ∀ q : Nat, s.heap.size ≤ q → A q := fun q h => by rw [hAd]; exact h
  have hAn : ∀ a : Nat, a < s.heap.size → ¬ A a := fun a h => by rw [hAd]; exact Nat.not_le.mpr h
  have hJE := env_J hAn C0
  have h4 := env_4 hAn C0
  have hEq := env_q hAn C0
  obtain ⟨tA, htA, hlA⟩ := env_C hAn C0
  obtain ⟨tB, htB, hlB⟩ := env_R hAn C0
  obtain ⟨dC, dI, cB, cI, cZ, cL, cS, cF, cS', cF', hK, hK'⟩ := env_K C0
  have hS : va_S A s.heap s.heap [] := va_S.rf
  have hP0 : va_P (dC, dI) cl0 [] s.heap := fun k q h => by simp at h
  have hD0 : va_D A [] := ⟨fun i j p q h => by simp at h, fun k q h => by simp at h⟩
  have hl := lv_entry ([.ref b]) (n := 4) (Nat.le_of_ble_eq_true rfl)
  rw [lg_entry_eq]
  generalize (lg_sl ([.ref b]) ++ List.replicate (4 - (lg_sl ([.ref b])).length) Slot.unset).toArray = ls at hl ⊢
  have hl : lv_has ls 4 [(0, .ref b)] := hl
  refine va_new (ci := 11) (fs := dfX12) (C := RX12) (T := TX12) (N := 18) hx hb hts (fun w h => LWt_1 (inX12 w h)) tyX12 tyX12_ok hown (hts _ (LWt_t lk_243)) (hts _ (LWt_t lk_244)) (hts _ (LWt_t lk_4)) hK hP0 hD0 hS hA rfl dfX12_ok (Nat.le_of_ble_eq_true rfl) (Nat.le_of_ble_eq_true rfl) dL_law_0 (fun q1 H hP hD hS => ?_)
  have hP : va_P (dC, dI) cl0 [(q1, .inr (11, dfX12))] H := hP
  have hD : va_D A [(q1, .inr (11, dfX12))] := hD
  refine lv_dup hx hb dL_law_3 rfl ?_
  obtain ⟨ad, had0, hadt⟩ : ∃ ad : Nat → Nat, ad 0 = q1 ∧ ∀ j : Nat, ad (TXB + j) = tA j := ⟨fun h => if h = 0 then q1 else tA (h - TXB), rfl, fun j => by show (if TXB + j = 0 then q1 else tA (TXB + j - TXB)) = _; rw [if_neg (by omega), Nat.add_sub_cancel_left]⟩
  subst had0
  obtain ⟨g, hg⟩ : ∃ g : Gr, g = (dC, dI, cB, cI, cZ, cL, cS, cF) := ⟨_, rfl⟩
  obtain ⟨g', hg'⟩ : ∃ g' : Gr, g' = (dC, dI, cB, cI, cZ, cL, cS', cF') := ⟨_, rfl⟩
  have er : rD g = (dC, dI) := by rw [hg]
  have er' : rD g' = (dC, dI) := by rw [hg']
  rw [← hg] at hK
  rw [← hg'] at hK'
  clear hg hg'
  have eW : WdC g ad Sc0 = [(ad 0, .inr (11, dfX12))] := by
    unfold WdC
    show [(ad 0, celC g ad Sc0 0)] = _
    rw [celC51 (S := Sc0) rfl]
    rfl
  have hR : RepCZ g ad A s Sc0 H [] := ⟨hK, by rw [eW, er]; exact hP, by rw [eW]; exact hD, hS, wfc0⟩
  have hEc : ogC ad A s s.heap := ⟨⟨hJE, h4⟩, fun i hi => by rw [Nat.add_assoc, hadt, hadt]; exact htA i hi, fun x hx => by rw [hadt]; exact hlA x hx⟩
  obtain ⟨Q9, h9, k9⟩ := cj_new stc0
  have hFc := cfreeZ hR hA
  refine W_led2 (fun hL0 => ?_)
  refine va_callv (va_runI (As := []) (rest := [.ref (ad 0)]) ⟨hx, hb, hml, hown, hts⟩ (rzX12_init l g ad H Sc0 0 hR.w rfl Q9 h9) (cwI 0 hts (gd_LI (y := yX12_init) (fun w k => ⟨LWt_1 k, tb_good w k⟩) lk_249) rfl rfl rfl (hts _ (LWt_t lk_4)) (hts _ (LWt_t lk_247)) (hts _ (LWt_t lk_251)) rfl (by decide +kernel) ⟨Nat.le_of_ble_eq_true rfl, Nat.le_of_ble_eq_true rfl⟩) ⟨cblindH, fun U hU hW9 => cmkHZ hU hW9 hR hex hEc hFc⟩ rfl rfl hl.1 rfl (lv_room (Nat.le_of_ble_eq_true rfl)) dL_law_4 ⟨Nat.le_of_ble_eq_true rfl, Nat.le_of_ble_eq_true rfl⟩) hR.sS (fun q _ h => hFc q h) hFc (fun u9 t9 H1 locs1 ht9 hvm9 hw9 hB9 hz9 hk9 hS9 => ?_)
  rcases u9 with ⟨S1, ad1⟩
  obtain ⟨hB9, dc9, ds9, hL9, hl9⟩ := hB9
  dsimp only at hw9 hB9 hl9
  rw [ht9] at hL9
  obtain ⟨hq9, hw9, hs9, hk8⟩ := hw9
  have ea : ad1 0 = ad 0 := hk8 _ (Or.inl (by decide))
  obtain ⟨hwC, hC, e7⟩ := k9 S1 hq9
  have hRC : RepC g ad1 A s S1 H1 locs1 := ⟨hK, by rw [← ht9]; exact hB9.1, hB9.2.weaken (fun _ _ _ h => hFc _ h), hS9, hwC⟩
  have hEc := hEc.ad hk8
  have hb1 : qn S1 ≤ KCC ∧ qu S1 ≤ KSC ∧ dc9 = qn S1 - 1 ∧ ds9 = qu S1 - 18 ∧ 1 ≤ qn S1 ∧ 18 ≤ qu S1 := by
    obtain ⟨h1, h2, h3, h4, h5, h6⟩ := hl9
    have n1 : qn Sc0 = 1 := rfl
    have n2 : qu Sc0 = 18 := rfl
    have n3 : KCC = 300000 := rfl
    have n4 : KSC = 3553400 := rfl
    omega
  have hLL := hL0.tr hL9
  refine W_tight2 (cells' := qn S1) (slots' := qu S1) (by have := hLL.1; omega) (by have := hLL.2.1; omega) ?_
  clear hLL hL0 hL9 hl9 hk9 hz9 hvm9 hB9 hFc hw9 hs9 hS hP hD hR k9 hq9 ht9 eW
  refine lv_astore_n (lv' := [(1, .ref (ad 0)), (0, .ref b)]) hx hb dL_law_7 rfl hl (by decide) rfl (fun ls hl => ?_)
  rw [← ea] at hl
  have hP2 : va_P (rD g') cl2 (WdC g ad1 S1) H1 := by rw [er']; exact er ▸ jw_up hRC.P
  refine va_new (ci := 13) (fs := dfX14) (C := RX14) (T := TX14) (N := 143) hx hb hts (fun w h => LWt_1 (inX14 w h)) tyX14 tyX14_ok hown (hts _ (LWt_t lk_245)) (hts _ (LWt_t lk_246)) (hts _ (LWt_t lk_9)) hK' hP2 hRC.D hRC.sS hA rfl dfX14_ok (by show qn S1 + 1 ≤ 601024; have n3 : KCC = 300000 := rfl; omega) (by show qu S1 + 143 ≤ 7293033; have n4 : KSC = 3553400 := rfl; omega) dL_law_8 (fun q2 H2 hP hD hS => ?_)
  refine lv_dup hx hb dL_law_11 rfl ?_
  have hap := jn_Dp hD
  have hRC : RepC g ad1 A s S1 H2 locs1 := ⟨hK, jw_down hRC.P (by rw [er]; exact er' ▸ jn_left hP), hRC.D, hS, hRC.w⟩
  obtain ⟨ae, hae0, haet⟩ : ∃ ae : Nat → Nat, ae 0 = q2 ∧ ∀ j : Nat, ae (TXB + j) = tB j := ⟨fun h => if h = 0 then q2 else tB (h - TXB), rfl, fun j => by show (if TXB + j = 0 then q2 else tB (TXB + j - TXB)) = _; rw [if_neg (by omega), Nat.add_sub_cancel_left]⟩
  subst hae0
  have eW : Wd g' ae Sr0 = [(ae 0, .inr (13, dfX14))] := by
    unfold Wd
    show [(ae 0, cel g' ae Sr0 0)] = _
    rw [cel14 (S := Sr0) rfl]
    rfl
  have hR : RepZ g' ae A s Sr0 H2 locs1 := ⟨hK', by rw [eW]; exact jn_right hP, by rw [eW]; exact jn_Dr hD, hS, wfr0⟩
  rw [← eW] at hap
  have hEr : ogR ae A s s.heap := ⟨hJE, fun i hi => by rw [Nat.add_assoc, haet, haet]; exact htB i hi, fun x hx => by rw [haet]; exact hlB x hx⟩
  have hFc := rfreeZ hR hA
  have h9 := zr_new str0
  refine W_led2 (fun hL0 => ?_)
  refine va_callv (va_runI (As := []) (rest := [.ref (ae 0)]) ⟨hx, hb, hml, hown, hts⟩ (r_newZ l g' ae H2 Sr0 hR.w _ rfl hlt h9) (cwI 0 hts (gd_LI (y := yX14_init) (fun w k => ⟨LWt_2 k, tb2_good w k⟩) lk_250) rfl rfl rfl (hts _ (LWt_t lk_9)) (hts _ (LWt_t lk_248)) (hts _ (LWt_t lk_252)) rfl (by decide +kernel) ⟨Nat.le_of_ble_eq_true rfl, Nat.le_of_ble_eq_true rfl⟩) ⟨rnew_blind, fun U hU hW9 => rnew_mk (rmkHZ hU hW9 hR hex hEr hFc) (exq_pass hEq hS hFc hU hW9)⟩ rfl rfl hl.1 rfl (lv_room (Nat.le_of_ble_eq_true rfl)) dL_law_12 ⟨(by show qn S1 + 1 + (KC - 1) ≤ 601024; have n3 : KCC = 300000 := rfl; have n5 : KC = 300000 := rfl; omega), (by show qu S1 + 143 + (KS - 143) ≤ 7293033; have n4 : KSC = 3553400 := rfl; have n6 : KS = 3720000 := rfl; omega)⟩) hR.sS (fun q _ h => hFc q h) hFc (fun u9 t9 H3 locs3 ht9 hvm9 hw9 hB9 hz9 hk9 hS9 => ?_)
  rcases u9 with ⟨S2, ad2⟩
  obtain ⟨hB9, dc8, ds8, hL9, hl9⟩ := hB9
  dsimp only at hw9 hB9 hl9
  rw [ht9] at hL9
  obtain ⟨hq9, hw9, hs9, hk8⟩ := hw9
  have ea2 : ad2 0 = ae 0 := hk8 _ (Or.inl (by decide))
  have hwM := zr_wfM hw9 hq9
  obtain ⟨hG, e8⟩ := zr_gi hwM hq9
  have hb2 : qn S2 ≤ KC ∧ qu S2 ≤ KS ∧ dc8 = qn S2 - 1 ∧ ds8 = qu S2 - 143 ∧ 1 ≤ qn S2 ∧ 143 ≤ qu S2 := by
    obtain ⟨h1, h2, h3, h4, h5, h6⟩ := hl9
    have n1 : qn Sr0 = 1 := rfl
    have n2 : qu Sr0 = 143 := rfl
    have n3 : KC = 300000 := rfl
    have n4 : KS = 3720000 := rfl
    omega
  have hLL := hL0.tr hL9
  refine W_tight2 (cells' := qn S1 + qn S2) (slots' := qu S1 + qu S2) (by have := hLL.1; omega) (by have := hLL.2.1; omega) ?_
  have hJ : LB g g' ad1 ad2 A s S1 S2 H3 locs3 := ⟨⟨hK, jn_P hRC.P hap.sy hk9, hRC.D, hS9, hRC.w⟩, ⟨hK', by rw [← ht9]; exact hB9.1, hB9.2.weaken (fun _ _ _ h => hFc _ h), hS9, hwM⟩, (jn_ap hap.sy hRC.P hB9.2).sy, ⟨hb1.1, hb1.2.1, hb2.1, hb2.2.1⟩, hEc, hEr.ad hk8⟩
  refine lv_astore_n (lv' := [(2, .ref (ae 0)), (1, .ref (ad1 0)), (0, .ref b)]) hx hb dL_law_15 rfl hl (by decide) rfl (fun ls hl => ?_)
  refine lv_iconst (v := 0) hx hb dL_law_16 (by decide) ?_
  refine lv_istore_n (lv' := [(3, .int 0), (2, .ref (ae 0)), (1, .ref (ad1 0)), (0, .ref b)]) hx hb dL_law_17 rfl hl (by decide) rfl (fun ls hl => ?_)
  rw [← ea2] at hl
  have hl := lv_sub hl (l' := [(0, .ref b), (1, .ref (ad1 0)), (2, .ref (ad2 0)), (3, .int 0)]) [3, 2, 1, 0] rfl
  exact law_lp hAd C0 hex hL (L + 1) (k := 0) (i := 0) (by omega) rfl (by omega) hJ hC hG (rn_both e7 e8) hl
