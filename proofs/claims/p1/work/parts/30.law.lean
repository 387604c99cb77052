/-! THE CLAIM OUT OF ONE WALK OF THE LAW'S BODY. Your part is whole_start (and what it stands on); all else here is the same for every law, but numbers. -/
def R_law : String := "CodeFoundryLaw"
def lw_P (b : Addr) (xs : List Int32) (args : Array Value) (s : State) : Prop := args = #[.ref b] ∧ s.IntsAt b xs ∧ xs.length ≤ 6 ∧ (Jvm.Cond.and given_1 narrow_1).before args s = true
def lw_Q (_ : Array Value) (s : State) (o : Outcome) (t : State) : Prop := o = .returned (some (.int 1)) ∧ Framed s o t [] 600002 7302232
def lw_Z (below : List Frame) (a : Array Value) (s : State) : State → Prop := fun t => ∃ o, t.status = .running ∧ Ended t below o ∧ lw_Q a s o t
/-- the law's own end, with 1 on the stack, nothing written that was there before, its room as the claim has it -/
theorem lw_ret {p : Program} {l : Launch} {e : Env} {s : State} {m : MethodId} {below : List Frame} {meth : Method} {c : Code} {b : Nat} (hx : p.tables.exec = Jvm.exec) (hb : c.code = code) (hr : meth.sig.returnType = ret) (hlocks : meth.locks = false) {pc : Nat} {H : Heap} {ls : Array Slot} (hdg : decode code pc = .ok (.ireturn, 1)) : W p l e room_1 s m #[Value.ref b] below meth c H [] 600002 7302232 (lw_Z below #[Value.ref b] s) (F0 m pc ls [.int 1]) := by
  intro T hT X
  obtain ⟨fs, hret, hrun, hended, hW, hframe⟩ := X.leave (v := some (.int 1)) (hlocks := hlocks) (fun h => by rw [hr] at h; cases h)
  have hmeth' : T.vm.method? m = some meth := X.method'
  refine ⟨T.setFrames fs, ?_, .returned (some (.int 1)), hrun, hended, rfl, ⟨_, rfl⟩, hW, hframe⟩
  jvm_step X.here [X.here.top, hx, hb, hdg, hmeth', hr, ret, narrow_b1]
  (try refine ⟨rfl, ?_⟩); (try refine ⟨rfl, ?_⟩)
  first | (intro acts; rw [hret _ acts rfl rfl rfl]) | rw [hret _ _ rfl rfl rfl]
  exact Steps.refl _
/-- what holds at the law's entry: the machine, the code, the tables' words (any of lw_tbl by 'hts w (by decide +kernel)'), the script of L ints xs at the cell b, what the Statement gives of the start (any of its parts by flat_of_before) -/
def lw_At (p : Program) (s : State) (m : MethodId) (meth : Method) (c : Code) (b L : Nat) (xs : Nat → Int32) : Prop :=
  p.tables.exec = Jvm.exec ∧ c.code = code ∧ meth.sig.returnType = ret ∧ c.maxLocals = 4 ∧ s.vm.findClass R_law = some m.cls ∧ (∀ w ∈ lw_tbl, w.before #[Value.ref b] s = true) ∧ va_X b L xs s s.heap ∧ b < s.heap.size ∧ meth.locks = false ∧ (Jvm.Cond.and given_1 narrow_1).before #[Value.ref b] s = true
def law_fr (dC : Nat → ClassId) (dI : Nat → Nat → Nat) (A : Nat → Prop) (x0 y0 : Nat) (s : State) (H : Heap) : Prop := ∃ (fx : List Value), ∃ (ht : Nat), ∃ (ft : List Value), ∃ (htd : Nat), ∃ (cB : ClassId), ∃ (hw : Nat), ∃ (fw : List Value), ∃ (hc : Nat), ∃ (fc : List Value), ∃ (hr : Nat), ∃ (fr : List Value), ∃ (hm : Nat), ∃ (fm : List Value), ∃ (hma : Nat), ∃ (cJ : ClassId), ∃ (hs : Nat), ∃ (fq : List Value), ∃ (hsa : Nat), ∃ (cI : ClassId), ∃ (fy : List Value), ∃ (hyt : Nat), ∃ (cB2 : ClassId), ∃ (hst : Nat), ∃ (hya : Nat), ∃ (cJ2 : ClassId), ∃ (hyd : Nat), ∃ (cI2 : ClassId), (fx.length = 18) ∧ (fx[0]? = some (.ref ht)) ∧ (fx[1]? = some (.ref hw)) ∧ (fx[4]? = some (.ref hc)) ∧ (fx[7]? = some (.ref hm)) ∧ (fx[9]? = some (.ref hs)) ∧ (fx[10]? = some (.int 0)) ∧ (fx[11]? = some (.int 0)) ∧ (fx[12]? = some (.int 0)) ∧ (fx[13]? = some (.int 0)) ∧ (fx[14]? = some (.int (-1))) ∧ (fx[15]? = some (.int (-1))) ∧ (fx[16]? = some (.int (-1))) ∧ (ft.length = 2) ∧ (ft[0]? = some (.ref htd)) ∧ (ft[1]? = some (.int 0)) ∧ (fw.length = 2) ∧ (fw[1]? = some (.int 0)) ∧ (fc.length = 12) ∧ (fc[0]? = some (.ref hr)) ∧ (fr.length = 17) ∧ (fm.length = 20) ∧ (fm[0]? = some (.null)) ∧ (fm[5]? = some (.int 0)) ∧ (fm[6]? = some (.ref hma)) ∧ (fm[7]? = some (.int 0)) ∧ (fm[16]? = some (.long 0)) ∧ (fm[17]? = some (.int (-1))) ∧ (fm[18]? = some (.int 0)) ∧ (fm[19]? = some (.int 0)) ∧ (fq.length = 6) ∧ (fq[1]? = some (.ref hsa)) ∧ (fy.length = 143) ∧ (fy[1]? = some (.int 0)) ∧ (fy[3]? = some (.ref hyt)) ∧ (fy[4]? = some (.int 0)) ∧ (fy[5]? = some (.int 0)) ∧ (fy[6]? = some (.ref hst)) ∧ (fy[9]? = some (.int 0)) ∧ (fy[10]? = some (.int (-1))) ∧ (fy[64]? = some (.int (-1))) ∧ (fy[65]? = some (.int (-1))) ∧ (fy[78]? = some (.int 0)) ∧ (fy[80]? = some (.null)) ∧ (fy[85]? = some (.int 0)) ∧ (fy[87]? = some (.ref hya)) ∧ (fy[88]? = some (.int 0)) ∧ (fy[96]? = some (.int 0)) ∧ (fy[100]? = some (.int 0)) ∧ (fy[101]? = some (.long 0)) ∧ (fy[102]? = some (.int (-1))) ∧ (fy[124]? = some (.ref hyd)) ∧ va_P (dC, dI) cl0 [(x0, .inr (10, fx)), (ht, .inr (0, ft)), (htd, .inl (cB, 64, .inl (fun _ => 0))), (hw, .inr (0, fw)), (hc, .inr (2, fc)), (hr, .inr (6, fr)), (hm, .inr (5, fm)), (hma, .inl (cJ, 8, .inr (.inl (fun _ => 0)))), (hs, .inr (8, fq)), (hsa, .inl (cI, 12, .inl (fun _ => 0))), (y0, .inr (12, fy)), (hyt, .inl (cB2, 16000, .inl (fun _ => 0))), (hst, .inr (13, [])), (hya, .inl (cJ2, 8, .inr (.inl (fun _ => 0)))), (hyd, .inl (cI2, 12, .inl (fun _ => 0)))] H ∧ va_K (dC, dI) cl0 [(cB, .byte), (cJ, .long), (cI, .int), (cB2, .byte), (cJ2, .long), (cI2, .int)] s ∧ va_D A [(x0, .inr (10, fx)), (ht, .inr (0, ft)), (htd, .inl (cB, 64, .inl (fun _ => 0))), (hw, .inr (0, fw)), (hc, .inr (2, fc)), (hr, .inr (6, fr)), (hm, .inr (5, fm)), (hma, .inl (cJ, 8, .inr (.inl (fun _ => 0)))), (hs, .inr (8, fq)), (hsa, .inl (cI, 12, .inl (fun _ => 0))), (y0, .inr (12, fy)), (hyt, .inl (cB2, 16000, .inl (fun _ => 0))), (hst, .inr (13, [])), (hya, .inl (cJ2, 8, .inr (.inl (fun _ => 0)))), (hyd, .inl (cI2, 12, .inl (fun _ => 0)))]
set_option maxHeartbeats 4000000 in
/-- behind the one call: six ints on, and no more calls -/
theorem law_end {p : Program} {l : Launch} {e : Env} {s : State} {m : MethodId} {below : List Frame} {meth : Method} {c : Code} {b : Nat} {xs : Nat → Int32} {A : Nat → Prop} (hAd : A = fun q : Nat => s.heap.size ≤ q) (C0 : lw_At p s m meth c b 6 xs) {x0 y0 : Nat} {H : Heap} {locs : List Loc} (hS : va_S A s.heap H locs) {ls : Array Slot} (hl : lv_has ls 4 [(0, .ref b), (1, .ref x0), (2, .ref y0), (3, .int 0)]) : W p l e room_1 s m #[Value.ref b] below meth c H locs 173 857181 (lw_Z below #[Value.ref b] s) (F0 m 1010 ls []) := by
  obtain ⟨hx, hb, hr, hml, hown, hts1, hX, hbl, hlocks, hgv⟩ := id C0
  have hbA : ¬ A b := by rw [hAd]; exact Nat.not_le.mpr hbl
  refine lv_iinc (v := 6) (lv' := [(3, .int 6), (0, .ref b), (1, .ref x0), (2, .ref y0)]) hx hb dL_law_1010 hl (k := 3) rfl (by decide) (by decide) rfl (fun ls hl => ?_)
  refine lv_goto (tgt := 18) hx hb dL_law_1013 (by decide) ?_
  refine lv_iload_n hx hb dL_law_18 rfl (lv_at hl 0 rfl) ?_
  refine lv_aload_n hx hb dL_law_19 rfl (lv_at hl 1 rfl) ?_
  refine va_slen hx hb hX hbl hbA hS dL_law_20 ?_
  refine lv_bipush (v := 6) hx hb dL_law_21 (by decide) ?_
  refine lv_isub hx hb dL_law_23 ?_
  refine lv_icmp_gt (tgt := 1016) hx hb dL_law_24 (by decide) (fun _ => ?_) (fun c9 => absurd (by decide) c9)
  refine lv_iconst (v := 1) hx hb dL_law_1016 (by decide) ?_
  refine va_forget (fun q hq => by have := hS.2.2 q hq; rw [hAd] at this; exact this) ?_
  refine W.widen (k := 600002) (n := 7302232) (Nat.le_of_ble_eq_true rfl) (Nat.le_of_ble_eq_true rfl) ?_
  exact lw_ret hx hb hr hlocks dL_law_1017
