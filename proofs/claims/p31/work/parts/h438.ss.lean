/-! Smith's rules: jumps, stores -/
section SS
variable {B : Nat × Nat} {S u v U : MS} {x : Int32}
theorem op_in {p : Nat} (h : ¬ (fX8_opAt S p x).toInt = -1) : 0 ≤ x.toInt ∧ x.toInt < (qI S p 2).toInt := by
  by_cases z : 0 ≤ x.toInt ∧ x.toInt < (qI S p 2).toInt
  · exact z
  · rw [rv_op0 z] at h; exact absurd (by decide) h
theorem jd_J113 {t0 t1 t2 i n : Int32} (g : ShC B S) (rv : RvK S (qO S 66 0)) (hn : 2 ≤ n.toInt ∧ n.toInt ≤ 3) (hi : 0 ≤ i.toInt ∧ i.toInt + n.toInt < (qI S (qO S 66 0) 2).toInt) (hp : (rOp S (qO S 66 0) i.toInt.toNat).toInt = 17 ∨ (rOp S (qO S 66 0) i.toInt.toNat).toInt = 20) (hj : 153 ≤ (rOp S (qO S 66 0) (i.toInt.toNat + (n.toInt.toNat - 1))).toInt ∧ (rOp S (qO S 66 0) (i.toInt.toNat + (n.toInt.toNat - 1))).toInt ≤ 167) : w_X9_isJumpDecided_J113 (fun _ u => SmL B S u (qO S 66 0)) S t0 t1 t2 i n := by
  unfold w_X9_isJumpDecided_J113
  intro w
  have k := k66 w
  have R2 := (g.row k).2
  refine ⟨dd_X6_isTaken, fun _ k' => ⟨_, sp_remove w g k' rv (by omega) (by omega), fun S33 q _ _ => q.sl⟩, fun _ => ⟨dd_X8_argAt w g k, fun k' => ⟨_, sp_set9 w g k' rv (by omega) (no_sw (by omega)) (no_sw (by decide)), fun S43 st w43 _ k43 => ?_⟩⟩⟩
  have e : qO S43 66 0 = qO S 66 0 := st.2.2.2.2
  have c2 : qI S43 (qO S 66 0) 2 = qI S (qO S 66 0) 2 := st.2.1 2
  have e1 : (i + (1 : Int32)).toInt = i.toInt + 1 := by rw [t_addk (by rw [li_1k]; omega), li_1k]
  have en : (n - (1 : Int32)).toInt = n.toInt - 1 := by rw [t_subk (by rw [li_1k]; omega), li_1k]
  rw [e] at k43 ⊢
  refine ⟨_, sp_remove w43 st.1.1 k43 st.2.2.1 (by omega) (by rw [c2, e1, en]; omega), fun S49 q49 _ _ => ?_⟩
  rw [show (i + (1 : Int32)).toInt.toNat = i.toInt.toNat + 1 by omega, show (n - (1 : Int32)).toInt.toNat = n.toInt.toNat - 1 by omega] at q49
  refine st.rm q49 (by omega) ?_
  have a := (rW_rg (o := (rOp S (qO S 66 0) i.toInt.toNat).toInt) (a := rAr S (qO S 66 0) i.toInt.toNat)).1
  have c := rWs_mo (S := S) (p := qO S 66 0) (i := i.toInt.toNat + 1) (n.toInt.toNat - 2)
  rw [show i.toInt.toNat + 1 + (n.toInt.toNat - 2) = i.toInt.toNat + (n.toInt.toNat - 1) by omega] at c
  have d : rWs S (qO S 66 0) (i.toInt.toNat + (n.toInt.toNat - 1) + 1) = rWs S (qO S 66 0) (i.toInt.toNat + (n.toInt.toNat - 1)) + rW (rOp S (qO S 66 0) (i.toInt.toNat + (n.toInt.toNat - 1))).toInt (rAr S (qO S 66 0) (i.toInt.toNat + (n.toInt.toNat - 1))) := rfl
  rw [show i.toInt.toNat + (n.toInt.toNat - 1) + 1 = i.toInt.toNat + 1 + (n.toInt.toNat - 1) by omega, rW_n (o := (rOp S (qO S 66 0) (i.toInt.toNat + (n.toInt.toNat - 1))).toInt) (by omega), aW_j (Or.inl hj)] at d
  rw [rW_n (o := (167 : Int32).toInt) (by decide), aW_j (Or.inl (by decide))]
  omega
theorem jd_J55 {t i n o : Int32} (g : ShC B S) (rv : RvK S (qO S 66 0)) (ht : t.toInt = 159 ∨ t.toInt = 153) (hn : 2 ≤ n.toInt ∧ n.toInt ≤ 3) (h5 : i.toInt ≤ 50000) (ho : o = fX8_opAt S (qO S 66 0) ((i + n) - (1 : Int32))) (hp : (fX8_opAt S (qO S 66 0) i).toInt = 17) : w_X9_isJumpDecided_J55 (fun _ u => SmL B S u (qO S 66 0)) S t i n o := by
  unfold w_X9_isJumpDecided_J55
  intro w
  have k := k66 w
  have rf : SmL B S S (qO S 66 0) := SmL.rf g rv
  have e6 : (t + (6 : Int32)).toInt = t.toInt + 6 := by rw [t_addk (by rw [show (6 : Int32).toInt = 6 from by decide]; omega), show (6 : Int32).toInt = 6 from by decide]
  refine ⟨fun _ => rf, fun c1 => ⟨fun _ => rf, fun c2 => ⟨dd_X9_isWindow w g (by omega) (by omega) (by omega), fun _ => rf, fun cw => ?_⟩⟩⟩
  obtain ⟨w1, w2⟩ := wn_of cw
  have es : (i + n).toInt = i.toInt + n.toInt := t_addk (by omega)
  have em : ((i + n) - (1 : Int32)).toInt = i.toInt + n.toInt - 1 := by rw [t_subk (by rw [li_1k]; omega), li_1k, es]
  rw [es] at w2
  rw [rv_op (by omega) (by omega)] at hp
  rw [rv_op (by omega) (by omega), show ((i + n) - (1 : Int32)).toInt.toNat = i.toInt.toNat + (n.toInt.toNat - 1) by omega] at ho
  rw [ho] at c1 c2
  have J : ∀ a b c : Int32, w_X9_isJumpDecided_J113 (fun _ u => SmL B S u (qO S 66 0)) S a b c i n := fun a b c => jd_J113 g rv hn ⟨w1, w2⟩ (Or.inl hp) (by omega)
  exact ⟨dd_X8_argAt w g k, fun _ => ⟨dd_X8_argAt w g k, J _ _ _⟩, fun _ => J _ _ _⟩
theorem sp_isJumpDecided {i : Int32} (w : wfC S) (g : ShC B S) (rv : RvK S (qO S 66 0)) (hi : i.toInt ≤ 50000) : wX9_isJumpDecided S i (fun _ u => SmL B S u (qO S 66 0)) := by
  have k := k66 w
  have rf : SmL B S S (qO S 66 0) := SmL.rf g rv
  have J27 : ∀ n : Int32, 2 ≤ n.toInt ∧ n.toInt ≤ 3 → (fX8_opAt S (qO S 66 0) i).toInt = 17 → w_X9_isJumpDecided_J27 (fun _ u => SmL B S u (qO S 66 0)) S n i := fun n hn hp => by
    unfold w_X9_isJumpDecided_J27
    exact fun _ => ⟨dd_X8_opAt w g k, fun a15 e15 => ⟨fun _ => jd_J55 g rv (by decide) hn hi e15 hp, fun _ => jd_J55 g rv (by decide) hn hi e15 hp⟩⟩
  unfold wX9_isJumpDecided
  refine ⟨dd_X9_pushKind w g, fun c => ?_, fun _ => rf⟩
  have hp : (fX8_opAt S (qO S 66 0) i).toInt = 17 := by
    unfold fX9_pushKind at c
    by_cases z : (fX8_opAt S (qO S 66 0) i).toInt = 17
    · exact z
    · rw [if_neg z] at c
      by_cases y : (fX8_opAt S (qO S 66 0) i).toInt = 20
      · rw [if_pos y] at c; exact absurd c (by decide)
      · rw [if_neg y] at c; exact absurd c (by decide)
  exact ⟨dd_X9_pushKind w g, fun _ => J27 3 (by decide) hp, fun _ => J27 2 (by decide) hp⟩
theorem ds_J76 {i t : Int32} (g : ShC B S) (rv : RvK S (qO S 66 0)) (ht : t.toInt = 88 ∨ t.toInt = 87) (hs : (fX8_opAt S (qO S 66 0) i).toInt = 54 ∨ (fX8_opAt S (qO S 66 0) i).toInt = 55 ∨ (fX8_opAt S (qO S 66 0) i).toInt = 58) : w_X9_isDeadStoreDone_J76 (fun _ u => SmL B S u (qO S 66 0)) S t i (qO S 66 0) := by
  unfold w_X9_isDeadStoreDone_J76
  intro w _ k
  have h := op_in (S := S) (p := qO S 66 0) (x := i) (by omega)
  rw [rv_op h.1 h.2] at hs
  refine ⟨_, sp_set9 w g k rv h (no_sw (by omega)) (no_sw (by omega)), fun S18 st _ _ => st.sl (by omega) ?_⟩
  rw [rW_n (o := t.toInt) (by omega), aW_o (by omega) (by omega), rW_n (by omega)]
  unfold aW
  repeat' split
  all_goals omega
theorem ds_J23 {i o : Int32} (g : ShC B S) (rv : RvK S (qO S 66 0)) (eo : o = fX8_opAt S (qO S 66 0) i) (hs : o.toInt = 132 ∨ o.toInt = 54 ∨ o.toInt = 55 ∨ o.toInt = 58) : w_X9_isDeadStoreDone_J23 (fun _ u => SmL B S u (qO S 66 0)) S i o := by
  unfold w_X9_isDeadStoreDone_J23
  intro w
  refine ⟨_, frX9_liveBehind w (sgX9_liveBehind w g), fun r7 S8 q w8 s8 => ?_⟩
  obtain ⟨⟨g8, _⟩, f8⟩ := q
  have k := k66 w
  have e : qO S8 66 0 = qO S 66 0 := qO_eq (f8.kO (w.2.1 _ finC_31).2.1 (by decide) (by decide))
  have m := rSm.fr w k (g.row k) f8 rfl rfl rfl
  have s : SmL B S S8 (qO S 66 0) := SmL.sm g8 f8.1 (rfr.of f8 rfl rfl) m rv
  have rv8 : RvK S8 (qO S8 66 0) := by rw [e]; exact s.2.2.1
  have h := op_in (S := S) (p := qO S 66 0) (x := i) (by rw [← eo]; omega)
  have eo8 : o = fX8_opAt S8 (qO S8 66 0) i := by
    rw [e, rv_op h.1 (by rw [m.1.1]; exact h.2), m.xOp, ← rv_op h.1 h.2]; exact eo
  have tr : ∀ {v : MS}, SmL B S8 v (qO S8 66 0) → SmL B S v (qO S 66 0) := fun {v} z => by rw [e] at z; exact s.tr z
  refine ⟨dd_X9_localBits w8 g8, fun _ => ⟨fun _ k8 => ⟨_, sp_remove w8 g8 k8 rv8 (by decide) (by rw [e, m.1.1, li_1k]; omega), fun S23 q23 _ _ => tr q23.sl⟩, fun c => ⟨fun _ => ?_, fun _ => ?_⟩⟩, fun _ => s⟩
  all_goals
    have J := fun (t : Int32) (ht : t.toInt = 88 ∨ t.toInt = 87) => ds_J76 (B := B) (S := S8) (i := i) (t := t) g8 rv8 ht (by rw [← eo8]; omega)
  · have := J 88 (by decide)
    unfold w_X9_isDeadStoreDone_J76 at this ⊢
    intro a b c
    obtain ⟨Q, q1, q2⟩ := this a b c
    exact ⟨Q, q1, fun S18 x1 x2 x3 => tr (q2 S18 x1 x2 x3)⟩
  · have := J 87 (by decide)
    unfold w_X9_isDeadStoreDone_J76 at this ⊢
    intro a b c
    obtain ⟨Q, q1, q2⟩ := this a b c
    exact ⟨Q, q1, fun S18 x1 x2 x3 => tr (q2 S18 x1 x2 x3)⟩
theorem sp_isDeadStoreDone {i : Int32} (w : wfC S) (g : ShC B S) (rv : RvK S (qO S 66 0)) : wX9_isDeadStoreDone S i (fun _ u => SmL B S u (qO S 66 0)) := by
  have k := k66 w
  have rf : SmL B S S (qO S 66 0) := SmL.rf g rv
  unfold wX9_isDeadStoreDone
  refine ⟨dd_X8_opAt w g k, fun a5 e5 => ⟨fun c => ds_J23 g rv e5 (by omega), fun _ => ⟨dd_X6_isStore, fun _ => rf, fun c => ds_J23 g rv e5 ?_⟩⟩⟩
  unfold fX6_isStore at c
  by_cases a : a5.toInt = 54
  · omega
  · by_cases b : a5.toInt = 55
    · omega
    · by_cases d : a5.toInt = 58
      · omega
      · rw [if_neg a, if_neg b, if_neg d] at c; exact absurd rfl c
end SS
/-! Smith goes through its Row -/
section SD
variable {B : Nat × Nat} {S u v U V : MS} {x : Int32}
theorem sp_isDone {r i : Int32} (w : wfC S) (g : ShC B S) (rv : RvK S (qO S 66 0)) (hi : i.toInt ≤ 50000) : wX9_isDone S r i (fun _ u => SmL B S u (qO S 66 0)) := by
  have k := k66 w
  have rf : SmL B S S (qO S 66 0) := SmL.rf g rv
  have J1 : ∀ {U : MS}, SmL B S U (qO S 66 0) → w_X9_isDone_J115 (fun _ u => SmL B S u (qO S 66 0)) U := fun {U} h => by unfold w_X9_isDone_J115; exact fun _ => h
  have J2 : ∀ {U : MS}, SmL B S U (qO S 66 0) → w_X9_isDone_J141 (fun _ u => SmL B S u (qO S 66 0)) U := fun {U} h => by unfold w_X9_isDone_J141; exact fun _ => h
  have J3 : ∀ {U : MS}, SmL B S U (qO S 66 0) → w_X9_isDone_J191 (fun _ u => SmL B S u (qO S 66 0)) U := fun {U} h => by unfold w_X9_isDone_J191; exact fun _ => h
  have J4 : ∀ {U : MS}, SmL B S U (qO S 66 0) → w_X9_isDone_J223 (fun _ u => SmL B S u (qO S 66 0)) U := fun {U} h => by unfold w_X9_isDone_J223; exact fun _ => h
  have J5 : ∀ {U : MS}, SmL B S U (qO S 66 0) → w_X9_isDone_J255 (fun _ u => SmL B S u (qO S 66 0)) U := fun {U} h => by unfold w_X9_isDone_J255; exact fun _ => h
  have wn : ¬ (fX9_isWindow S i 2).toInt = 0 → 0 ≤ i.toInt ∧ i.toInt + (2 : Int32).toInt ≤ (qI S (qO S 66 0) 2).toInt := fun c => by
    obtain ⟨w1, w2⟩ := wn_of c
    rw [t_addk (by rw [li_2k]; omega)] at w2
    omega
  have dw : d_X9_isWindow S i 2 := dd_X9_isWindow w g (by decide) (by decide) (by omega)
  unfold wX9_isDone
  refine ⟨fun _ => ⟨_, sp_isRedirected w g rv, fun r u q _ _ => q⟩, fun _ => ⟨fun _ => ⟨fun _ => ⟨dd_X8_opAt w g k, fun c => ⟨dd_X8_argAt w g k, fun _ => ?_, fun _ => J1 rf⟩, fun _ => J1 rf⟩, fun _ => ⟨fun _ => ⟨dd_X8_opAt w g k, fun c => ?_, fun _ => J2 rf⟩, fun _ => ⟨fun _ => ⟨_, sp_isFolded w g rv hi, fun r u q _ _ => q⟩, fun _ => ⟨fun _ => ⟨_, sp_isUnaryFolded w g rv hi, fun r u q _ _ => q⟩, fun _ => ⟨fun _ => ⟨_, sp_isJumpDecided w g rv hi, fun r u q _ _ => q⟩, fun _ => ⟨fun _ => ⟨dw, fun _ => J3 rf, fun c => ⟨dd_X9_isNeutral w g, fun _ => J3 rf, fun _ => ?_⟩⟩, fun _ => ⟨fun _ => ⟨dw, fun _ => J4 rf, fun c => ⟨dd_X9_isPopped w g, fun _ => J4 rf, fun _ => ?_⟩⟩, fun _ => ⟨fun _ => ⟨dw, fun _ => J5 rf, fun c => ⟨_, frX9_isPassedOn w (sgX9_isPassedOn w g), fun r75 S76 q w76 s76 => ?_⟩⟩, fun _ => ⟨_, sp_isDeadStoreDone w g rv, fun r u q _ _ => q⟩⟩⟩⟩⟩⟩⟩⟩⟩, fun _ => rf⟩⟩
  · have h := op_in (S := S) (p := qO S 66 0) (x := i) (by omega)
    exact ⟨_, sp_isDropped w g rv (by decide) (by rw [li_1k]; omega), fun r u q _ _ => ⟨fun _ => J1 q, fun _ => q⟩⟩
  · have h := op_in (S := S) (p := qO S 66 0) (x := i) (by omega)
    exact ⟨_, sp_isDropped w g rv (by decide) (by rw [li_1k]; omega), fun r u q _ _ => ⟨fun _ => J2 q, fun _ => q⟩⟩
  · exact ⟨_, sp_isDropped w g rv (by decide) (wn c), fun r u q _ _ => ⟨fun _ => J3 q, fun _ => q⟩⟩
  · exact ⟨_, sp_isDropped w g rv (by decide) (wn c), fun r u q _ _ => ⟨fun _ => J4 q, fun _ => q⟩⟩
  · obtain ⟨⟨g8, _⟩, f8⟩ := q
    have e : qO S76 66 0 = qO S 66 0 := qO_eq (f8.kO (w.2.1 _ finC_31).2.1 (by decide) (by decide))
    have m := rSm.fr w k (g.row k) f8 rfl rfl rfl
    have s : SmL B S S76 (qO S 66 0) := SmL.sm g8 f8.1 (rfr.of f8 rfl rfl) m rv
    have rv8 : RvK S76 (qO S76 66 0) := by rw [e]; exact s.2.2.1
    have tr : ∀ {v : MS}, SmL B S76 v (qO S76 66 0) → SmL B S v (qO S 66 0) := fun {v} z => by rw [e] at z; exact s.tr z
    refine ⟨fun _ => J5 s, fun _ => ⟨_, sp_isDropped w76 g8 rv8 (by decide) (by rw [e, m.1.1]; exact wn c), fun r u q _ _ => ⟨fun _ => J5 (tr q), fun _ => tr q⟩⟩⟩
/-- the Row of Smith is the same one, and no heavier -/
def SgIk (B : Nat × Nat) (S U : MS) : Prop := qO U 66 0 = qO S 66 0 ∧ SmL B S U (qO S 66 0)
theorem SgIk.g (h : SgIk B S U) : ShC B U := h.2.1.1
theorem SgIk.rv (h : SgIk B S U) : RvK U (qO U 66 0) := by rw [h.1]; exact h.2.2.2.1
theorem SgIk.rf (g : ShC B S) (rv : RvK S (qO S 66 0)) : SgIk B S S := ⟨rfl, SmL.rf g rv⟩
theorem SgIk.tr (h : SgIk B S U) (k : SgIk B U V) : SgIk B S V := ⟨k.1.trans h.1, by have := k.2; rw [h.1] at this; exact h.2.tr this⟩
theorem SgIk.sm {K : List Nat} {F : List (Nat × Nat)} (h : SgIk B S U) (w : wfC U) (g : ShC B V) (f : cfr K F U V) (e : qO V 66 0 = qO U 66 0) (a1 : okM K = true) (a2 : okL LMr F = true) (a3 : okO F = true) (a4 : K.all (fun x => !rowA x) = true) (a5 : F.all (fun x => !rowA x.1) = true) : SgIk B S V :=
  h.tr ⟨e, SmL.sm g f.1 (rfr.of f a4 a5) (rSm.fr w (k66 w) (h.g.row (k66 w)) f a1 a2 a3) h.rv⟩
theorem SgIk.ap {i : Nat} {y : Int32} (h : SgIk B S U) (w : wfC U) (k : qT U 75 = 228) (e : V = wI U 75 i y) : SgIk B S V := by
  have f : cfr [228] [] U V := by rw [e]; exact cfr.aI k rfl
  exact h.sm w (ShC.ws w h.g f (by rw [e]; rfl) (by rw [e]; rfl) (by rw [e]; rfl) rfl rfl) f (by rw [e]; rfl) rfl rfl rfl rfl rfl
theorem gt_J68 {Q : Int32 → MS → Prop} {k10 : MS → Int32 → Int32 → Int32 → Int32 → Int32 → Prop} {r v2 v4 v5 : Int32} (h : SgIk B S U) (hr : 1 ≤ r.toInt ∧ r.toInt ≤ 11) (h4 : v4.toInt ≤ 50000) (hk : ∀ (V : MS) (a2 a3 a4 a : Int32), SgIk B S V → a = v5 + Int32.ofInt 1 → k10 V r a2 a3 a4 a) : w_X9_goThrough_J68 Q k10 U r v2 v4 v5 := by
  unfold w_X9_goThrough_J68
  intro w _
  refine ⟨_, frX9_isDone w (sp_isDone w h.g h.rv h4), fun r5 S6 q w6 s6 => ?_⟩
  have e : qO S6 66 0 = qO U 66 0 := qO_eq (q.2.kO (w.2.1 _ finC_31).2.1 (by decide) (by decide))
  have h6 : SgIk B S S6 := h.tr ⟨e, q.1⟩
  refine ⟨fun _ a10 _ => ?_, fun _ => ⟨by omega, by omega, fun S15 e15 k15 w15 => ?_⟩⟩
  · unfold w_X9_goThrough_J98
    exact fun _ _ _ a ea => hk S6 _ _ _ a h6 ea
  · unfold w_X9_goThrough_J98
    exact fun _ _ _ a ea => hk S15 _ _ _ a (h6.ap w6 k15 e15) ea
theorem gt_J49 {Q : Int32 → MS → Prop} {k10 : MS → Int32 → Int32 → Int32 → Int32 → Int32 → Prop} {r v2 v3 v4 v5 : Int32} (h : SgIk B S U) (hr : 1 ≤ r.toInt ∧ r.toInt ≤ 11) (h4 : v4.toInt ≤ 50000) (hk : ∀ (V : MS) (a2 a3 a4 a : Int32), SgIk B S V → a = v5 + Int32.ofInt 1 → k10 V r a2 a3 a4 a) : w_X9_goThrough_J49 Q k10 U r v2 v3 v4 v5 := by
  unfold w_X9_goThrough_J49
  intro w _ _
  refine ⟨fun _ => gt_J68 h hr h4 hk, fun _ => ⟨fun _ => gt_J68 h hr h4 hk, fun _ => ⟨fun _ => gt_J68 h hr h4 hk, fun _ => ⟨_, frX9_findMarked w (sgX9_findMarked w h.g), fun S20 q w20 _ => ?_⟩⟩⟩⟩
  have e : qO S20 66 0 = qO U 66 0 := qO_eq (q.2.kO (w.2.1 _ finC_31).2.1 (by decide) (by decide))
  exact gt_J68 (h.sm w q.1.1 q.2 e rfl rfl rfl rfl rfl) hr h4 hk
theorem gt_J45 {Q : Int32 → MS → Prop} {k10 : MS → Int32 → Int32 → Int32 → Int32 → Int32 → Prop} {r v2 v3 v4 v5 : Int32} (h : SgIk B S U) (hr : 1 ≤ r.toInt ∧ r.toInt ≤ 11) (h4 : v4.toInt ≤ 50000) (hk : ∀ (V : MS) (a2 a3 a4 a : Int32), SgIk B S V → a = v5 + Int32.ofInt 1 → k10 V r a2 a3 a4 a) : w_X9_goThrough_J45 Q k10 U r v2 v3 v4 v5 := by
  unfold w_X9_goThrough_J45
  intro w _ _
  refine ⟨_, frX9_findLive w (sgX9_findLive w h.g), fun S24 q w24 _ => ?_⟩
  have e : qO S24 66 0 = qO U 66 0 := qO_eq (q.2.kO (w.2.1 _ finC_31).2.1 (by decide) (by decide))
  exact gt_J49 (h.sm w q.1.1 q.2 e rfl rfl rfl rfl rfl) hr h4 hk
theorem gt_L10 {r : Int32} (hr : 1 ≤ r.toInt ∧ r.toInt ≤ 11) : ∀ (n : Nat) {U : MS} {v2 v3 v4 v5 : Int32}, SgIk B S U → 2147483648 - v5.toInt < n → w_X9_goThrough_L10 (fun _ u => SgIk B S u) n U r v2 v3 v4 v5 := by
  intro n
  induction n with
  | zero => intro U v2 v3 v4 v5 _ hm; have := rgI v5; omega
  | succ n ih =>
    intro U v2 v3 v4 v5 h hm
    unfold w_X9_goThrough_L10
    intro w _ _
    have R2 := (h.g.row (k66 w)).2
    refine ⟨fun _ => h, fun c => ⟨fun _ => h, fun c5 => ?_⟩⟩
    have h4 : v4.toInt ≤ 50000 := by omega
    have hk : ∀ (V : MS) (a2 a3 a4 a : Int32), SgIk B S V → a = v5 + Int32.ofInt 1 → w_X9_goThrough_L10 (fun _ u => SgIk B S u) n V r a2 a3 a4 a := fun V a2 a3 a4 a hV ea => by
      have e := t_inc ea (by omega)
      exact ih hV (by omega)
    exact ⟨fun _ => gt_J49 h hr h4 hk, fun _ => ⟨fun _ => gt_J45 h hr h4 hk, fun _ => ⟨fun _ => gt_J45 h hr h4 hk, fun _ => gt_J49 h hr h4 hk⟩⟩⟩
theorem sp_goThrough {r : Int32} (h : SgIk B S U) (hr : 1 ≤ r.toInt ∧ r.toInt ≤ 11) : wX9_goThrough U r (fun _ u => SgIk B S u) := by
  unfold wX9_goThrough
  exact ⟨2147483649, gt_L10 hr _ h (by rw [li_0k]; decide)⟩
end SD
/-! Smith: what is not reached; the rounds -/
section SE
variable {B : Nat × Nat} {S u v U V : MS} {x : Int32}
theorem du_J62 {Q : Int32 → MS → Prop} {k19 : MS → Int32 → Int32 → Int32 → Int32 → Prop} {v1 v2 v3 v4 : Int32} (hk : ∀ a : Int32, a = v4 + Int32.ofInt 1 → k19 U v1 v2 v3 a) : w_X9_dropUnreached_J62 Q k19 U v1 v2 v3 v4 := by
  unfold w_X9_dropUnreached_J62
  exact fun _ _ a ea => hk a ea
theorem du_L19 {v3 : Int32} (h3 : v3.toInt ≤ 1296) : ∀ (n : Nat) {U : MS} {v1 v2 v4 : Int32}, SgIk B S U → (qI U (qO U 66 0) 2).toInt = v3.toInt - (v4.toInt - v2.toInt) → 0 ≤ v2.toInt → v2.toInt ≤ v4.toInt → v3.toInt ≤ (qN U (qO U (qO U 66 0) 0) : Int) → 2147483648 - v4.toInt < n → w_X9_dropUnreached_L19 (fun _ u => SgIk B S u) n U v1 v2 v3 v4 := by
  intro n
  induction n with
  | zero => intro U v1 v2 v4 _ _ _ _ _ hm; have := rgI v4; omega
  | succ n ih =>
    intro U v1 v2 v4 h hc h0 h1 hl hm
    unfold w_X9_dropUnreached_L19
    intro w _
    have k := k66 w
    have R := h.g.row k
    have sk := h.g.smk.2.1
    refine ⟨fun _ => h, fun c => ⟨⟨by omega, by omega⟩, fun _ k' => ⟨_, frX8_remove w (sp_remove w h.g k' h.rv (by decide) (by rw [li_1k]; omega)), fun S15 q w15 _ S19 e19 k19 w19 => du_J62 (fun a ea => ?_)⟩, fun _ a20 e20 => du_J62 (fun a ea => ?_)⟩⟩
    · have e := t_inc ea (by omega)
      have eO : qO S15 66 0 = qO U 66 0 := qO_eq (q.2.kO (w.2.1 _ finC_31).2.1 (by decide) (by decide))
      have h15 : SgIk B S S15 := h.tr ⟨eO, q.1.sl⟩
      have c15 : (qI S15 (qO U 66 0) 2).toInt = (qI U (qO U 66 0) 2).toInt - ((1 : Int32).toInt.toNat : Nat) := q.1.2.1.1
      have n1 : ((1 : Int32).toInt.toNat : Nat) = 1 := rfl
      have l15 : (qN S15 (qO S15 (qO U 66 0) 0) : Int) = (qN U (qO U (qO U 66 0) 0) : Int) := q.2.kL (j := 0) w k R.1.1 (by decide) (by decide)
      have o19 : qO S19 66 0 = qO U 66 0 := by rw [← eO, e19]; rfl
      have c19 : qI S19 (qO U 66 0) 2 = qI S15 (qO U 66 0) 2 := by rw [e19, qI_wI, if_neg (fun z => absurd z.2 (by decide))]
      have l19 : (qN S19 (qO S19 (qO U 66 0) 0) : Int) = (qN S15 (qO S15 (qO U 66 0) 0) : Int) := by rw [e19]; rfl
      refine ih (h15.ap w15 k19 e19) ?_ h0 (by omega) ?_ (by omega)
      · rw [o19, c19]; omega
      · rw [o19, l19, l15]; exact hl
    · have e := t_inc ea (by omega)
      have e2 := t_inc e20 (by omega)
      exact ih h (by omega) (by omega) (by omega) hl (by omega)
theorem sp_dropUnreached (w : wfC U) (h : SgIk B S U) : wX9_dropUnreached U (fun _ u => SgIk B S u) := by
  unfold wX9_dropUnreached
  refine ⟨_, frX9_findReached w (sgX9_findReached w h.g), fun S2 q w2 _ a5 e5 => ⟨2147483649, ?_⟩⟩
  have e : qO S2 66 0 = qO U 66 0 := qO_eq (q.2.kO (w.2.1 _ finC_31).2.1 (by decide) (by decide))
  have h2 := h.sm w q.1.1 q.2 e rfl rfl rfl rfl rfl
  have R2 := (h2.g.row (k66 w2)).2
  exact du_L19 (by rw [e5]; omega) _ h2 (by rw [e5, li_0k]; omega) (by decide) (by decide) (by rw [e5]; omega) (by rw [li_0k]; decide)
theorem mb_L34 {Q : MS → Prop} {k18 : MS → Int32 → Int32 → Int32 → Prop} {v2 v4 : Int32} (hk : ∀ (V : MS) (a3 a : Int32), SgIk B S V → a = v4 + Int32.ofInt 1 → k18 V v2 a3 a) : ∀ (n : Nat) {U : MS} {v3 v5 : Int32}, SgIk B S U → 1 ≤ v5.toInt → 2147483648 - v5.toInt < n → w_X9_makeBetter_L34 Q k18 n U v2 v3 v4 v5 := by
  intro n
  induction n with
  | zero => intro U v3 v5 _ _ hm; have := rgI v5; omega
  | succ n ih =>
    intro U v3 v5 h h1 hm
    unfold w_X9_makeBetter_L34
    intro w
    refine ⟨fun _ a12 ea => hk U v3 a12 h ea, fun c => ?_⟩
    have J74 : ∀ (V : MS) (a3 : Int32), SgIk B S V → w_X9_makeBetter_J74 Q (w_X9_makeBetter_L34 Q k18 n) V v2 a3 v4 v5 := fun V a3 hV => by
      unfold w_X9_makeBetter_J74
      intro _ a ea
      have e := t_inc ea (by omega)
      exact ih hV (by omega) (by omega)
    have J72 : ∀ (V : MS) (a b : Int32), SgIk B S V → w_X9_makeBetter_J72 Q (w_X9_makeBetter_L34 Q k18 n) V a b v2 v4 v5 := fun V a b hV => by
      unfold w_X9_makeBetter_J72
      exact fun _ _ a19 _ => J74 V a19 hV
    exact ⟨fun _ => J74 U v3 h, fun _ => ⟨fun _ => ⟨_, sp_dropUnreached w h, fun r26 S27 q _ _ => J72 S27 r26 v3 q⟩, fun _ => ⟨_, sp_goThrough h ⟨h1, by omega⟩, fun r22 S23 q _ _ => J72 S23 r22 v3 q⟩⟩⟩
theorem mb_L18 {Q : MS → Prop} {v2 : Int32} (hQ : ∀ V : MS, wfC V → SgIk B S V → Q V) : ∀ (n : Nat) {U : MS} {v3 v4 : Int32}, SgIk B S U → 2147483648 - v4.toInt < n → w_X9_makeBetter_L18 Q n U v2 v3 v4 := by
  intro n
  induction n with
  | zero => intro U v3 v4 _ hm; have := rgI v4; omega
  | succ n ih =>
    intro U v3 v4 h hm
    unfold w_X9_makeBetter_L18
    intro w
    refine ⟨fun _ => hQ U w h, fun _ => ⟨fun _ => hQ U w h, fun c => ⟨2147483649, mb_L34 (fun V a3 a hV ea => ?_) _ h (by decide) (by rw [li_1k]; decide)⟩⟩⟩
    have e := t_inc ea (by omega)
    exact ih hV (by omega)
end SE
/-! a Row is copied -/
section CF
variable {B : Nat × Nat} {S u v U V : MS} {p q : Nat} {x : Int32}
theorem RvK.cp (h : RvK S q) (e2 : (qI u p 2).toInt = (qI S q 2).toInt) (e4 : (qI u p 4).toInt = (qI S q 4).toInt) (eo : ∀ i : Nat, (i : Int) < (qI S q 2).toInt → rOp u p i = rOp S q i ∧ rAr u p i = rAr S q i) (et : ∀ j : Nat, (j : Int) < (qI S q 4).toInt → qI u (qO u p 3) j = qI S (qO S q 3) j) : RvK u p := by
  have sm : ∀ i : Nat, (i : Int) < (qI S q 2).toInt → swO (rOp u p i) → swO (rOp S q i) ∧ aTk u p i = aTk S q i ∧ mT u p i = mT S q i ∧ eT u p i = eT S q i := fun i hi sw => by
    obtain ⟨o1, o2⟩ := eo i hi
    have sw' : swO (rOp S q i) := by rw [← o1]; exact sw
    have ea : aTk u p i = aTk S q i := by unfold rAr at o2; unfold aTk; rw [o2]
    obtain ⟨a1, a2, a3, a4⟩ := h.1 i hi sw'
    have sz := szT_ge (o := rOp S q i) a2
    have ee : eT S q i = aTk S q i + szT (rOp S q i) (mT S q i) := rfl
    have em : mT u p i = mT S q i := by unfold mT; rw [ea, et _ (by omega)]
    exact ⟨sw', ea, em, by unfold eT; rw [ea, em, o1]⟩
  unfold RvK
  rw [e2, e4]
  refine ⟨fun i hi sw => ?_, fun i i' hl hi s1 s2 => ?_⟩
  · obtain ⟨a1, a2, a3, a4⟩ := sm i hi sw
    rw [a2, a3, a4]; exact h.1 i hi a1
  · obtain ⟨a1, a2, a3, a4⟩ := sm i (by omega) s1
    obtain ⟨b1, b2, b3, b4⟩ := sm i' hi s2
    rw [a4, b2]; exact h.2 i i' hl hi a1 b1
theorem rWs_cp : ∀ (n : Nat), (∀ i, i < n → rOp u p i = rOp S q i ∧ rAr u p i = rAr S q i) → rWs u p n = rWs S q n := by
  intro n
  induction n with
  | zero => intro _; rfl
  | succ n ih => intro h; rw [rWs_s, rWs_s, ih (fun i hi => h i (by omega)), (h n (by omega)).1, (h n (by omega)).2]
/-- the first c instructions are there -/
def CfIk (B : Nat × Nat) (S : MS) (p q c : Nat) (U : MS) : Prop := (ShC B U ∧ shx S U ∧ rfr p S U) ∧ (qI U p 2).toInt = c ∧ ∀ i : Nat, i < c → rOp U p i = rOp S q i ∧ rAr U p i = rAr S q i
def CfT (B : Nat × Nat) (S : MS) (p q c t : Nat) (U : MS) : Prop := CfIk B S p q c U ∧ (qI U p 4).toInt = t ∧ ∀ j : Nat, j < t → qI U (qO U p 3) j = qI S (qO S q 3) j
def CpQ (B : Nat × Nat) (S : MS) (p q : Nat) (u : MS) : Prop := (ShC B u ∧ shx S u ∧ rfr p S u) ∧ ((qI u p 2).toInt = (qI S q 2).toInt ∧ (qI u p 4).toInt = (qI S q 4).toInt) ∧ RvK u p ∧ rWs u p (qI u p 2).toInt.toNat = rWs S q (qI S q 2).toInt.toNat
theorem cf_L83 {Q : MS → Prop} (hQ : ∀ u : MS, ((ShC B u ∧ shx V u ∧ rfr p V u) ∧ rSm V u p) → Q u) : ∀ (n : Nat) {U : MS} {v2 : Int32}, ((ShC B U ∧ shx V U ∧ rfr p V U) ∧ rSm V U p) → 0 ≤ v2.toInt → 2147483648 - v2.toInt < n → w_X8_copyFrom_L83 Q n U p q v2 := by
  intro n
  induction n with
  | zero => intro U v2 _ _ hm; have := rgI v2; omega
  | succ n ih =>
    intro U v2 h h0 hm
    unfold w_X8_copyFrom_L83
    intro w kp kq
    have R := h.1.1.row kq
    have R2 := R.2
    refine ⟨fun _ => hQ U h, fun c => ⟨R.1.2.2.2.1, by omega, R.1.2.2.2.2.1, by omega, R.1.2.2.2.2.2.1, by omega, R.1.2.2.2.2.2.2, by omega, fun k' => ⟨_, sp_addCatch w h.1.1 k', fun S25 q25 w25 _ a27 ea => ?_⟩⟩⟩
    have e := t_inc ea (by omega)
    exact ih ⟨⟨q25.1.1, h.1.2.1.tr q25.1.2.1, h.1.2.2.tr h.1.2.1 q25.1.2.2⟩, h.2.tr q25.2⟩ (by omega) (by omega)
theorem cf_L52 {Q : MS → Prop} {c : Nat} (w : wfC S) (g : ShC B S) (k0 : qT S p = 47) (k1 : qT S q = 47) (ne : q ≠ p) (hl : (qI S q 4).toInt ≤ (qN S (qO S p 3) : Int)) (hX : ∀ V : MS, wfC V → CfT B S p q c (qI S q 4).toInt.toNat V → ∃ n, w_X8_copyFrom_L83 Q n V p q 0) : ∀ (n t : Nat) {U : MS} {v2 : Int32}, CfT B S p q c t U → v2.toInt = t → (t : Int) ≤ (qI S q 4).toInt → 2147483648 - v2.toInt < n → w_X8_copyFrom_L52 Q n U p q v2 := by
  intro n
  induction n with
  | zero => intro t U v2 _ _ _ hm; have := rgI v2; omega
  | succ n ih =>
    intro t U v2 h h2 ht hm
    obtain ⟨⟨⟨gU, sU, fU⟩, hc, ho⟩, h4, hj⟩ := h
    unfold w_X8_copyFrom_L52
    intro wU kp kq
    have m := fU.row w k0 (g.row k0) k1 (g.row k1) ne
    have R := gU.row kq
    have R2 := R.2
    have Rp := gU.row kp
    have atU := Rp.at wU kp
    have atS := (g.row k0).at w k0
    have c4 : qI U q 4 = qI S q 4 := m.1.2
    have lN : (qN U (qO U p 3) : Int) = (qN S (qO S p 3) : Int) := by
      rw [atU.2.2.1, atS.2.2.1, (sU.1 (p + 3) (by rw [((g.row k0).kd w k0).2.2.1]; decide)).2]
    refine ⟨fun c S6 e6 k6 w6 => ?_, fun c => ⟨R.1.2.2.1, by omega, fun k' => ⟨_, frX8_addToTable wU (sp_addToTable wU gU k' (by rw [c4] at c; omega)), fun S33 q33 w33 _ a35 ea => ?_⟩⟩⟩
    · rw [c4] at c
      have f : cfr [] [(47, 9)] U S6 := by rw [e6]; exact cfr.oI k6 rfl
      have m6 := rSm.fr wU kp Rp f rfl rfl rfl
      have et : t = (qI S q 4).toInt.toNat := by omega
      refine hX S6 w6 ⟨⟨⟨by rw [e6]; exact ShC.cnt wU gU kp (Or.inr (Or.inr ⟨rfl, by decide, by rw [li_0k]; omega⟩)), sU.tr f.1, fU.tr sU (by rw [e6]; exact rfr.inI (Nat.le_refl _) (by omega))⟩, by rw [m6.1.1]; exact hc, fun i hi => ⟨by rw [m6.xOp]; exact (ho i hi).1, by rw [m6.xAr]; exact (ho i hi).2⟩⟩, by rw [m6.1.2, ← et]; exact h4, fun j hjt => ?_⟩
      rw [m6.2.1.2.2, m6.2.2.2.2]
      exact hj j (by omega)
    · have e := t_inc ea (by omega)
      obtain ⟨⟨g33, ⟨⟨a4, a2, a0, a1, a3⟩, ao, aj, ax⟩, f33⟩, fr33⟩ := q33
      refine ih (t + 1) ⟨⟨⟨g33, sU.tr fr33.1, fU.tr sU f33⟩, by rw [a2]; exact hc, fun i hi => ⟨by rw [(ao i).1]; exact (ho i hi).1, by rw [(ao i).2]; exact (ho i hi).2⟩⟩, by omega, fun j hjt => ?_⟩ (by omega) (by rw [c4] at c; omega) (by omega)
      rw [a3]
      by_cases z : j = (qI U p 4).toInt.toNat
      · rw [z, ax, show v2.toInt.toNat = (qI U p 4).toInt.toNat by omega, m.2.1.2.2, m.2.2.2.2]
      · rw [aj j z]; exact hj j (by omega)
theorem cf_L15 {Q : MS → Prop} (w : wfC S) (g : ShC B S) (k0 : qT S p = 47) (k1 : qT S q = 47) (ne : q ≠ p) (hl : (qI S q 2).toInt ≤ (qN S (qO S p 0) : Int)) (hX : ∀ V : MS, wfC V → CfT B S p q (qI S q 2).toInt.toNat 0 V → ∃ n, w_X8_copyFrom_L52 Q n V p q 0) : ∀ (n c : Nat) {U : MS} {v2 : Int32}, CfIk B S p q c U → v2.toInt = c → (c : Int) ≤ (qI S q 2).toInt → 2147483648 - v2.toInt < n → w_X8_copyFrom_L15 Q n U p q v2 := by
  intro n
  induction n with
  | zero => intro c U v2 _ _ _ hm; have := rgI v2; omega
  | succ n ih =>
    intro c U v2 h h2 hc' hm
    obtain ⟨⟨gU, sU, fU⟩, hc, ho⟩ := h
    unfold w_X8_copyFrom_L15
    intro wU kp kq
    have m := fU.row w k0 (g.row k0) k1 (g.row k1) ne
    have R := gU.row kq
    have R2 := R.2
    have Rp := gU.row kp
    have atU := Rp.at wU kp
    have atS := (g.row k0).at w k0
    have c2 : qI U q 2 = qI S q 2 := m.1.1
    have lN : (qN U (qO U p 0) : Int) = (qN S (qO S p 0) : Int) := by
      rw [atU.1, atS.1, (sU.1 (p + 1) (by rw [((g.row k0).kd w k0).1]; decide)).2]
    refine ⟨fun d S4 e4 k4 w4 => ?_, fun d => ⟨R.1.1, by omega, R.1.2.1, by omega, fun k' => ⟨_, frX8_add wU (sp_add wU gU k'), fun S45 q45 w45 _ a47 ea => ?_⟩⟩⟩
    · rw [c2] at d
      have ec : c = (qI S q 2).toInt.toNat := by omega
      have i4 : ∀ a j, ¬ (a = p ∧ j = 4) → qI S4 a j = qI U a j := fun a j z => by rw [e4, qI_wI, if_neg z]
      have o4 : ∀ a j, qO S4 a j = qO U a j := fun a j => by rw [e4]; rfl
      have f : cfr [] [(47, 4)] U S4 := by rw [e4]; exact cfr.oI k4 rfl
      refine hX S4 w4 ⟨⟨⟨by rw [e4]; exact ShC.cnt wU gU kp (Or.inr (Or.inl ⟨rfl, by decide, by rw [li_0k]; omega⟩)), sU.tr f.1, fU.tr sU (by rw [e4]; exact rfr.inI (Nat.le_refl _) (by omega))⟩, ?_, fun i hi => ⟨?_, ?_⟩⟩, by rw [e4, qI_wI, if_pos ⟨rfl, rfl⟩, li_0k]; rfl, fun j hj => absurd hj (by omega)⟩
      · rw [i4 _ _ (fun z => absurd z.2 (by decide)), ← ec]; exact hc
      · have := (ho i (by omega)).1
        rw [← this]
        unfold rOp
        rw [o4, i4 _ _ (fun z => by omega)]
      · have := (ho i (by omega)).2
        rw [← this]
        unfold rAr
        rw [o4, e4]; rfl
    · have e := t_inc ea (by omega)
      rw [c2] at d
      obtain ⟨⟨g45, ⟨_, ad⟩, f45⟩, fr45⟩ := q45
      rcases ad with ⟨_, full, _⟩ | ⟨n2, _, ao, ax, ay⟩
      · exfalso; omega
      · refine ih (c + 1) ⟨⟨g45, sU.tr fr45.1, fU.tr sU f45⟩, by omega, fun i hi => ?_⟩ (by omega) (by omega) (by omega)
        by_cases z : i = (qI U p 2).toInt.toNat
        · rw [z, ax, ay, show v2.toInt.toNat = (qI U p 2).toInt.toNat by omega]
          exact ⟨m.xOp _, m.xAr _⟩
        · rw [(ao i z).1, (ao i z).2]; exact ho i (by omega)
theorem sp_copyFrom (w : wfC S) (g : ShC B S) (k0 : qT S p = 47) (k1 : qT S q = 47) (ne : q ≠ p) (rv : RvK S q) (hl : (qI S q 2).toInt ≤ (qN S (qO S p 0) : Int) ∧ (qI S q 4).toInt ≤ (qN S (qO S p 3) : Int)) : wX8_copyFrom S p q (fun u => CpQ B S p q u) := by
  have R2 := (g.row k0).2
  have Rq := (g.row k1).2
  unfold wX8_copyFrom
  intro S1 e1 h1 w1 S2 e2 h2 w2
  have f1 : cfr [] [(47, 11)] S S1 := by rw [e1]; exact cfr.oI h1 rfl
  have g1 : ShC B S1 := ShC.ws w g f1 (by rw [e1]; rfl) (by rw [e1]; rfl) (by rw [e1]; rfl) rfl rfl
  have r1 : rfr p S S1 := by rw [e1]; exact rfr.inI (Nat.le_refl _) (by omega)
  have f2 : cfr [] [(47, 2)] S1 S2 := by rw [e2]; exact cfr.oI h2 rfl
  have g2 : ShC B S2 := by rw [e2]; exact ShC.cnt w1 g1 h2 (Or.inl ⟨rfl, by decide, by rw [li_0k]; omega⟩)
  have r2 : rfr p S1 S2 := by rw [e2]; exact rfr.inI (Nat.le_refl _) (by omega)
  refine ⟨2147483649, cf_L15 w g k0 k1 ne hl.1 (fun V wV hV => ⟨2147483649, cf_L52 w g k0 k1 ne hl.2 (fun W wW hW => ⟨2147483649, cf_L83 (V := W) (fun u hu => ?_) _ ⟨⟨hW.1.1.1, shx.rf, rfr.rf⟩, rSm.rf⟩ (by decide) (by rw [li_0k]; decide)⟩) _ 0 hV (by decide) (by omega) (by rw [li_0k]; decide)⟩) _ 0 ⟨⟨g2, f1.1.tr f2.1, r1.tr f1.1 r2⟩, by rw [e2, qI_wI, if_pos ⟨rfl, rfl⟩, li_0k]; rfl, fun i hi => absurd hi (by omega)⟩ (by decide) (by omega) (by rw [li_0k]; decide)⟩
  obtain ⟨⟨⟨gW, sW, fW⟩, hc, ho⟩, h4, hj⟩ := hW
  obtain ⟨⟨gu, su, fu⟩, mp⟩ := hu
  have e2' : (qI u p 2).toInt = (qI S q 2).toInt := by rw [mp.1.1, hc]; omega
  have e4' : (qI u p 4).toInt = (qI S q 4).toInt := by rw [mp.1.2, h4]; omega
  have eo : ∀ i : Nat, (i : Int) < (qI S q 2).toInt → rOp u p i = rOp S q i ∧ rAr u p i = rAr S q i := fun i hi => by
    obtain ⟨a, b⟩ := ho i (by omega)
    exact ⟨by rw [mp.xOp]; exact a, by rw [mp.xAr]; exact b⟩
  refine ⟨⟨gu, sW.tr su, fW.tr sW fu⟩, ⟨e2', e4'⟩, rv.cp e2' e4' eo (fun j hj' => ?_), ?_⟩
  · rw [mp.2.1.2.2, mp.2.2.2.2]; exact hj j (by omega)
  · rw [e2']; exact rWs_cp _ (fun i hi => eo i (by omega))
end CF
/-! makeBetter whole -/
/-- Smith has a Row of its own, wide enough; all Rows are as they were -/
def MrQ (B : Nat × Nat) (S u : MS) : Prop := (ShC B u ∧ shx S u) ∧ ((qN u (qO u (qO u 66 0) 0) : Int) = 1296 ∧ (qN u (qO u (qO u 66 0) 3) : Int) = 1200) ∧ ((∀ r, qT S r = 47 → rSm S u r) ∧ rfr (qO u 66 0) S u) ∧ (qO u 66 0 = qO S 66 0 ∨ qT S (qO u 66 0) = 0)
theorem mr69 {B : Nat × Nat} {S U : MS} {p : Nat} (g : ShC B U) (s : shx S U) (h : (qN U (qO U (qO U 66 0) 0) : Int) = 1296) (h3 : (qN U (qO U (qO U 66 0) 3) : Int) = 1200) (m : (∀ r, qT S r = 47 → rSm S U r) ∧ rfr (qO U 66 0) S U) (o : qO U 66 0 = qO S 66 0 ∨ qT S (qO U 66 0) = 0) : w_X9_makeRoom_J69 (fun u => MrQ B S u) U p := by
  unfold w_X9_makeRoom_J69
  intro w k S6 e6 k6 w6
  have f : cfr [] [(47, 11)] U S6 := by rw [e6]; exact cfr.oI k6 rfl
  refine ⟨⟨ShC.ws w g f (by rw [e6]; rfl) (by rw [e6]; rfl) (by rw [e6]; rfl) rfl rfl, s.tr f.1⟩, ⟨by rw [e6]; exact h, by rw [e6]; exact h3⟩, ⟨fun r kr => (m.1 r kr).tr ?_, (show qO S6 66 0 = qO U 66 0 by rw [e6]; rfl) ▸ m.2.tr s (show rfr (qO U 66 0) U S6 by rw [e6]; exact rfr.inI (Nat.le_refl _) (by omega))⟩, by rw [e6]; exact o⟩
  have krU : qT U r = 47 := s.T kr (by decide)
  exact rSm.fr w krU (g.row krU) f rfl rfl rfl
theorem sp_makeRoom9 {B : Nat × Nat} {S : MS} {p1 : Nat} (w : wfC S) (g : ShC B S) (k1 : qT S p1 = 47) (hTb : (qN S (qO S (qO S 66 0) 0) : Int) = 1296 → (qN S (qO S (qO S 66 0) 3) : Int) = 1200) : wX9_makeRoom S p1 (fun u => MrQ B S u) := by
  have R := g.row w.k67
  have R2 := R.2
  have sk := g.smk
  unfold SmK at sk
  have rm := g.rm
  have cp := g.cap
  unfold wX9_makeRoom
  refine ⟨R.1.1, fun c => mr69 g shx.rf (by omega) (hTb (by omega)) ⟨fun r _ => rSm.rf, rfr.rf⟩ (Or.inl rfl), fun c => ?_⟩
  have c0 : qN S (qO S 66 2) = 0 := by omega
  have hroom : qn S + 12 ≤ KCC ∧ qu S + 9059 ≤ KSC := by
    unfold RmK PSc PNc at rm
    unfold CpK at cp
    have z : hp2 S ≤ 20000 := by unfold hp2; split <;> omega
    omega
  have hT := KC_TX (n := qn S) (by omega)
  refine ⟨⟨by omega, by omega⟩, fun S11 e11 w11 k11 => ?_⟩
  have q11 : qn S11 = qn S + 1 := by rw [e11]; rfl
  have u11 : qu S11 = qu S + 15 := by rw [e11]; rfl
  have l1 : (1296 : Int32).toInt.toNat = 1296 := by decide
  have l2 : (1200 : Int32).toInt.toNat = 1200 := by decide
  have l3 : (16 : Int32).toInt.toNat = 16 := by decide
  refine ⟨_, sp_initR k11 q11 (by decide) (by decide) (by decide) ⟨by omega, by rw [l1, l2, l3]; omega⟩ (Q := fun u => NwRk S11 u (qn S) 1296 1200 16) (fun u _ h => by rw [l1, l2, l3] at h; exact h), ?_⟩
  rintro S14 N14 w14 s14 S17 e17 k17 w17
  obtain ⟨a14, t14, i14, r14, n14, kk14, q14, u14⟩ := N14
  have z := w.nx hT
  have hX : ∀ x, qT S x ≠ 0 → x < qn S ∨ qn S + 8 ≤ x := fun x hx => by
    by_cases e12 : qT S x = 12
    · obtain ⟨i, -, h1⟩ := w.t12 _ e12
      right
      have e7 : TXB = 10000000 := rfl
      have e8 : KCC = 300000 := rfl
      omega
    · by_cases e22 : qT S x = 22
      · have := w.t22 _ e22
        have e7 : TXB = 10000000 := rfl
        have e8 : KCC = 300000 := rfl
        omega
      · exact Or.inl (w.lt4 _ hx e12 e22)
  have s11 : ∀ x, x ≠ qn S → qI S11 x = qI S x ∧ qJ S11 x = qJ S x ∧ qR S11 x = qR S x ∧ qT S11 x = qT S x ∧ qN S11 x = qN S x := fun x hne => by
    rw [e11]
    exact ⟨if_neg hne, if_neg hne, if_neg hne, if_neg hne, if_neg hne⟩
  have old : ∀ x, qT S x ≠ 0 → qI S14 x = qI S x ∧ qJ S14 x = qJ S x ∧ qR S14 x = qR S x ∧ qT S14 x = qT S x ∧ qN S14 x = qN S x := fun x hx => by
    have h8 := hX x hx
    obtain ⟨p1', p2', p3', p4', p5'⟩ := a14 x h8
    rw [p1', p2', p3', p4', p5']
    exact s11 x (by omega)
  have f14 : cfr [] [] S S14 := ⟨⟨fun b hb => ⟨(old b hb).2.2.2.1, (old b hb).2.2.2.2⟩, by omega⟩, by omega, fun a j a0 _ _ => by
    obtain ⟨p1', p2', p3', _, _⟩ := old a a0
    rw [p1', p2', p3']
    exact ⟨rfl, rfl, rfl⟩⟩
  have d14 : dnC S14 := fun a ha => by
    by_cases h : a < qn S
    · rw [(a14 a (Or.inl h)).2.2.2.1, (s11 a (by omega)).2.2.2.1]
      exact g.dn a h
    · have : a = qn S ∨ a = qn S + 1 ∨ a = qn S + 2 ∨ a = qn S + 3 ∨ a = qn S + 4 ∨ a = qn S + 5 ∨ a = qn S + 6 ∨ a = qn S + 7 := by omega
      obtain ⟨m1, m2, m3, m4, m5, m6, m7⟩ := kk14
      rcases this with rfl | rfl | rfl | rfl | rfl | rfl | rfl | rfl
      · rw [t14]; decide
      · rw [m1]; decide
      · rw [m2]; decide
      · rw [m3]; decide
      · rw [m4]; decide
      · rw [m5]; decide
      · rw [m6]; decide
      · rw [m7]; decide
  have f17 : cfr [] [(48, 0), (48, 2), (48, 3), (48, 4), (48, 5)] S14 S17 := by rw [e17]; exact cfr.oR k17 rfl
  have d17 : dnC S17 := by rw [e17]; exact d14
  have q17 : qn S17 = qn S + 8 := by rw [e17]; exact q14
  have u17 : qu S17 = qu S + 15 + (2 * 1296 + 1200 + 4 * 16) := by rw [e17]; show qu S14 = _; rw [u14, u11]
  refine ⟨⟨by omega, by omega⟩, fun S21 e21 w21 S23 e23 k23 w23 => ?_⟩
  obtain ⟨f1, n1, d1, q1, u1, r1, l1', t1, o1⟩ := nw_step (K := []) (F := [(48, 0), (48, 2), (48, 3), (48, 4), (48, 5)]) w17 d17 e21 w21 e23 k23 rfl (by decide)
  refine ⟨⟨by omega, by omega⟩, fun S27 e27 w27 S29 e29 k29 w29 => ?_⟩
  obtain ⟨f2, n2, d2, q2, u2, r2, l2', t2, o2⟩ := nw_step (K := []) (F := [(48, 0), (48, 2), (48, 3), (48, 4), (48, 5)]) w23 d1 e27 w27 e29 k29 rfl (by decide)
  refine ⟨⟨by omega, by omega⟩, fun S33 e33 w33 S35 e35 k35 w35 => ?_⟩
  obtain ⟨f3, n3, d3, q3, u3, r3, l3', t3, o3⟩ := nw_step (K := []) (F := [(48, 0), (48, 2), (48, 3), (48, 4), (48, 5)]) w29 d2 e33 w33 e35 k35 rfl (by decide)
  refine ⟨⟨by omega, by omega⟩, fun S39 e39 w39 S41 e41 k41 w41 => ?_⟩
  obtain ⟨f4, n4, d4, q4, u4, r4, l4', t4, o4⟩ := nw_step (K := []) (F := [(48, 0), (48, 2), (48, 3), (48, 4), (48, 5)]) w35 d3 e39 w39 e41 k41 rfl (by decide)
  have fB := ((f1.tr f2).tr f3).tr f4
  have nB := ((n1.tr n2 f2.1).tr n3 f3.1).tr n4 f4.1
  have f : cfr [] [(48, 0), (48, 2), (48, 3), (48, 4), (48, 5)] S S41 := ((f14.mo rfl rfl).tr f17).tr fB
  have T1 := KC_TX (n := qn S23) (by omega)
  have T2 := KC_TX (n := qn S29) (by omega)
  have T3 := KC_TX (n := qn S35) (by omega)
  have T0 := KC_TX (n := qn S17) (by omega)
  have m0 := w17.ne T0 w17.k66 (by decide)
  have m1 := w23.ne T1 w23.k66 (by decide)
  have m2 := w29.ne T2 w29.k66 (by decide)
  have m3 := w35.ne T3 w35.k66 (by decide)
  have P0 : qR S41 66 0 = some (qn S) := by rw [o4 66 0 (fun _ => by decide) m3, o3 66 0 (fun _ => by decide) m2, o2 66 0 (fun _ => by decide) m1, o1 66 0 (fun _ => by decide) m0, e17, qR_wR, if_pos ⟨rfl, rfl⟩]
  have P2 : qR S41 66 2 = some (qn S17) := by rw [o4 66 2 (fun _ => by decide) m3, o3 66 2 (fun _ => by decide) m2, o2 66 2 (fun _ => by decide) m1, r1]
  have P3 : qR S41 66 3 = some (qn S23) := by rw [o4 66 3 (fun _ => by decide) m3, o3 66 3 (fun _ => by decide) m2, r2]
  have P4 : qR S41 66 4 = some (qn S29) := by rw [o4 66 4 (fun _ => by decide) m3, r3]
  have N2 : qN S41 (qn S17) = 1297 := by rw [(f4.1.1 _ (by rw [f3.1.T (f2.1.T t1 (by decide)) (by decide)]; decide)).2, (f3.1.1 _ (by rw [f2.1.T t1 (by decide)]; decide)).2, (f2.1.1 _ (by rw [t1]; decide)).2, l1']
  have N3 : qN S41 (qn S23) = 1297 := by rw [(f4.1.1 _ (by rw [f3.1.T t2 (by decide)]; decide)).2, (f3.1.1 _ (by rw [t2]; decide)).2, l2']
  have N4 : qN S41 (qn S29) = 1297 := by rw [(f4.1.1 _ (by rw [t3]; decide)).2, l3']
  -- the new Row
  have kr17 : qT S17 (qn S) = 47 := by rw [e17]; exact t14
  have fr9 : ∀ j, qI S41 (qn S) j = qI S14 (qn S) j ∧ qR S41 (qn S) j = qR S14 (qn S) j := fun j => by
    have h1 := fB.2.2 (qn S) j (by rw [kr17]; decide) rfl (by rw [kr17]; rfl)
    have ne66 : qn S ≠ 66 := fun q => by rw [q] at kr17; have := w17.k66; omega
    rw [h1.1, h1.2.2]
    refine ⟨by rw [e17]; rfl, ?_⟩
    rw [e17, qR_wR, if_neg (fun q => ne66 q.1)]
  have nn : ∀ x t, qT S14 x = t → t ≠ 0 → qN S41 x = qN S14 x := fun x t e h0 => by
    have e1 : qT S17 x = t := by rw [e17]; exact e
    rw [(fB.1.1 x (by rw [e1]; exact h0)).2, e17]; rfl
  have i0 : ∀ j, qI S41 (qn S) j = 0 := fun j => by
    rw [(fr9 j).1, i14, e11]
    exact congrFun (if_pos rfl) j
  obtain ⟨ra, rb, rc, rd, re, rf, rg⟩ := r14
  obtain ⟨na, nb, nc, nd, ne, nf, ng⟩ := n14
  obtain ⟨ka, kb, kc, kd, ke, kf, kg⟩ := kk14
  have A0 : qR S41 (qn S) 0 = some (qn S + 1) := by rw [(fr9 0).2]; exact ra
  have A1 : qR S41 (qn S) 1 = some (qn S + 2) := by rw [(fr9 1).2]; exact rb
  have A3 : qR S41 (qn S) 3 = some (qn S + 3) := by rw [(fr9 3).2]; exact rc
  have A5 : qR S41 (qn S) 5 = some (qn S + 4) := by rw [(fr9 5).2]; exact rd
  have A6 : qR S41 (qn S) 6 = some (qn S + 5) := by rw [(fr9 6).2]; exact re
  have A7 : qR S41 (qn S) 7 = some (qn S + 6) := by rw [(fr9 7).2]; exact rf
  have A8 : qR S41 (qn S) 8 = some (qn S + 7) := by rw [(fr9 8).2]; exact rg
  have zz := li_0k
  have RW : RwK S41 (qn S) := by
    refine ⟨⟨by rw [qO_of A0]; exact A0, by rw [qO_of A1]; exact A1, by rw [qO_of A3]; exact A3, by rw [qO_of A5]; exact A5, by rw [qO_of A6]; exact A6, by rw [qO_of A7]; exact A7, by rw [qO_of A8]; exact A8⟩, ?_⟩
    rw [qO_of A0, qO_of A1, qO_of A3, qO_of A5, qO_of A6, qO_of A7, qO_of A8, i0, i0, i0, nn _ _ ka (by decide), nn _ _ kb (by decide), nn _ _ kc (by decide), nn _ _ kd (by decide), nn _ _ ke (by decide), nn _ _ kf (by decide), nn _ _ kg (by decide), na, nb, nc, nd, ne, nf, ng, zz]
    omega
  have O0 := qO_of P0
  have op : (qN S41 (qO S41 (qO S41 66 0) 0) : Int) = 1296 := by rw [O0, qO_of A0, nn _ _ ka (by decide), na]; rfl
  have G : ShC B S41 := by
    refine ShC.g_sm (r := qn S) w g f (fun a e => ?_) d4 RW ?_ c0 (by rw [qO_of P2]; exact N2) (by omega) (by omega)
    · by_cases e17' : qT S17 a = 0
      · have := nB.1 a e17'
        exact ⟨this.2.1, this.2.2, fun q => absurd q this.1⟩
      · have e41 : qT S41 a = qT S14 a := by rw [(fB.1.1 a e17').1, e17]; rfl
        have hin : ¬ (a < qn S ∨ qn S + 8 ≤ a) := fun q => e17' (by
          have h2 : qT S17 a = qT S14 a := by rw [e17]; rfl
          rw [h2, (a14 a q).2.2.2.1, (s11 a (by omega)).2.2.2.1]; exact e)
        have : a = qn S ∨ a = qn S + 1 ∨ a = qn S + 2 ∨ a = qn S + 3 ∨ a = qn S + 4 ∨ a = qn S + 5 ∨ a = qn S + 6 ∨ a = qn S + 7 := by omega
        rw [e41]
        rcases this with rfl | rfl | rfl | rfl | rfl | rfl | rfl | rfl
        · rw [t14]; exact ⟨by decide, by decide, fun _ => rfl⟩
        · rw [ka]; exact ⟨by decide, by decide, fun q => absurd q (by decide)⟩
        · rw [kb]; exact ⟨by decide, by decide, fun q => absurd q (by decide)⟩
        · rw [kc]; exact ⟨by decide, by decide, fun q => absurd q (by decide)⟩
        · rw [kd]; exact ⟨by decide, by decide, fun q => absurd q (by decide)⟩
        · rw [ke]; exact ⟨by decide, by decide, fun q => absurd q (by decide)⟩
        · rw [kf]; exact ⟨by decide, by decide, fun q => absurd q (by decide)⟩
        · rw [kg]; exact ⟨by decide, by decide, fun q => absurd q (by decide)⟩
    · unfold SmK
      rw [op, qO_of P2, qO_of P3, qO_of P4, qO_of r4, N2, N3, N4, l4']
      omega
  have tb : (qN S41 (qO S41 (qO S41 66 0) 3) : Int) = 1200 := by rw [O0, qO_of A3, nn _ _ kc (by decide), nc]; rfl
  have fresh : qT S (qn S) = 0 := Decidable.byContradiction (fun hx => by have := hX (qn S) hx; omega)
  exact mr69 G f.1 op tb ⟨fun r kr => rSm.fr w kr (g.row kr) f rfl rfl rfl, rfr.of f rfl rfl⟩ (Or.inr (by rw [O0]; exact fresh))
/-- what makeBetter leaves -/
def MbQ (B : Nat × Nat) (S : MS) (q : Nat) (u : MS) : Prop := (ShC B u ∧ shx S u) ∧ ((∀ r, qT S r = 47 → r ≠ qO S 66 0 → rSm S u r) ∧ rfr (qO u 66 0) S u) ∧ (qO u 66 0 = qO S 66 0 ∨ qT S (qO u 66 0) = 0) ∧ (qN u (qO u (qO u 66 0) 3) : Int) = 1200 ∧ RvK u (qO u 66 0) ∧ (qI u (qO u 66 0) 2).toInt ≤ (qI S q 2).toInt ∧ (qI u (qO u 66 0) 4).toInt = (qI S q 4).toInt ∧ rWs u (qO u 66 0) (qI u (qO u 66 0) 2).toInt.toNat ≤ rWs S q (qI S q 2).toInt.toNat
theorem sp_makeBetter {B : Nat × Nat} {S : MS} {q : Nat} {x2 : Int32} (w : wfC S) (g : ShC B S) (k1 : qT S q = 47) (rv : RvK S q) (hTb : (qN S (qO S (qO S 66 0) 0) : Int) = 1296 → (qN S (qO S (qO S 66 0) 3) : Int) = 1200) (ne : q ≠ qO S 66 0) : wX9_makeBetter S q x2 (fun u => MbQ B S q u) := by
  unfold wX9_makeBetter
  refine fun _ => ⟨_, sp_makeRoom9 w g k1 hTb, fun S2 h2 w2 s2 k20 k21 => ?_⟩
  obtain ⟨⟨g2, sx2⟩, ⟨l0, l3⟩, ⟨m2, x2⟩, o2⟩ := h2
  have mq := m2 q k1
  have nr : ∀ r, qT S r = 47 → r ≠ qO S 66 0 → r ≠ qO S2 66 0 := fun r kr hr => by
    rcases o2 with o | o
    · rw [o]; exact hr
    · intro z; rw [← z, kr] at o; exact absurd o (by decide)
  have Rq := (g2.row k21).2
  refine ⟨_, frX8_copyFrom w2 (sp_copyFrom w2 g2 k20 k21 (nr q k1 ne) (rv.mv mq) ⟨by omega, by omega⟩), fun S7 q7 w7 _ => ?_⟩
  obtain ⟨⟨⟨g7, s7, r7⟩, ⟨c7, t7⟩, rv7, w7'⟩, f7⟩ := q7
  have e7 : qO S7 66 0 = qO S2 66 0 := qO_eq (f7.kO (w2.2.1 _ finC_31).2.1 (by decide) (by decide))
  refine ⟨2147483649, mb_L18 (S := S7) (fun V wV hV => ?_) _ (SgIk.rf g7 (by rw [e7]; exact rv7)) (by rw [li_0k]; decide)⟩
  have rvV := hV.rv
  obtain ⟨eV, ⟨gV, sV, fV⟩, ⟨cV, tV⟩, _, wV'⟩ := hV
  rw [e7] at eV fV cV tV wV'
  have k7 : qT S7 (qO S2 66 0) = 47 := s7.T k20 (by decide)
  have kV : qT V (qO S2 66 0) = 47 := sV.T k7 (by decide)
  have l3V : (qN V (qO V (qO S2 66 0) 3) : Int) = 1200 := by
    have a2 := (g2.row k20).at w2 k20
    have aV := (gV.row kV).at wV kV
    have kd := (g2.row k20).kd w2 k20
    rw [a2.2.2.1] at l3
    rw [aV.2.2.1, ((s7.tr sV).1 _ (by rw [kd.2.2.1]; decide)).2]
    exact l3
  refine ⟨⟨gV, (sx2.tr s7).tr sV⟩, ⟨fun r kr hr => ?_, by rw [eV]; exact (x2.tr sx2 r7).tr (sx2.tr s7) fV⟩, by rw [eV]; exact o2, by rw [eV]; exact l3V, rvV, ?_, ?_, ?_⟩
  · have k2 : qT S2 r = 47 := sx2.T kr (by decide)
    have k7' : qT S7 r = 47 := s7.T k2 (by decide)
    exact ((m2 r kr).tr (r7.row w2 k20 (g2.row k20) k2 (g2.row k2) (nr r kr hr))).tr (fV.row w7 k7 (g7.row k7) k7' (g7.row k7') (nr r kr hr))
  · rw [eV, ← mq.1.1]; omega
  · rw [eV, tV, t7, mq.1.2]
  · rw [eV, ← mq.1.1, ← mq.xW, ← w7']; exact wV'
/-! putCounters: the ways and the catches behind the counters -/
section PC
variable {B : Nat × Nat} {S u v U V : MS} {p q : Nat} {x : Int32}
theorem pc_L290 {Q : MS → Prop} (hQ : ∀ u : MS, wfC u → ((ShC B u ∧ shx V u ∧ rfr p V u) ∧ qO u 66 0 = p ∧ rSm V u p) → Q u) : ∀ (n : Nat) {U : MS} {v2 : Int32}, ((ShC B U ∧ shx V U ∧ rfr p V U) ∧ qO U 66 0 = p ∧ rSm V U p) → 0 ≤ v2.toInt → 2147483648 - v2.toInt < n → w_X9_putCounters_L290 Q n U q v2 := by
  intro n
  induction n with
  | zero => intro U v2 _ _ hm; have := rgI v2; omega
  | succ n ih =>
    intro U v2 h h0 hm
    unfold w_X9_putCounters_L290
    intro w kq
    have R := h.1.1.row kq
    rw [h.2.1]
    have R2 := R.2
    refine ⟨fun _ => hQ U w h, fun c => ⟨R.1.2.2.2.1, by omega, dd_X9_placeOf, fun a31 _ => ⟨R.1.2.2.2.2.1, by omega, dd_X9_placeOf, fun a39 _ => ⟨R.1.2.2.2.2.2.1, by omega, dd_X9_placeOf, fun a47 _ => ⟨R.1.2.2.2.2.2.2, by omega, fun k' => ⟨_, frX8_addCatch w (sp_addCatch w h.1.1 k'), fun S53 q53 w53 _ a55 ea => ?_⟩⟩⟩⟩⟩⟩
    have e := t_inc ea (by omega)
    have eo : qO S53 66 0 = qO U 66 0 := qO_eq (q53.2.kO (w.2.1 _ finC_31).2.1 (by decide) (by decide))
    exact ih ⟨⟨q53.1.1.1, h.1.2.1.tr q53.2.1, h.1.2.2.tr h.1.2.1 q53.1.1.2.2⟩, eo.trans h.2.1, h.2.2.tr q53.1.2⟩ (by omega) (by omega)
theorem pc_L234 {Q : MS → Prop} {k208 : MS → Nat → Int32 → Prop} {v5 v6 : Int32} (rv : RvK S p) (h6 : v6.toInt = (fX8_targetCount S p v5).toInt) (hk : ∀ (V : MS) (a : Int32), RkE B S V p → qO V 66 0 = p → a = v5 + Int32.ofInt 1 → k208 V q a) : ∀ (n : Nat) {U : MS} {v7 : Int32}, RkE B S U p → qO U 66 0 = p → 0 ≤ v7.toInt → 2147483648 - v7.toInt < n → w_X9_putCounters_L234 Q k208 n U q v5 v6 v7 := by
  intro n
  induction n with
  | zero => intro U v7 _ _ _ hm; have := rgI v7; omega
  | succ n ih =>
    intro U v7 h ho h0 hm
    unfold w_X9_putCounters_L234
    intro w kq
    rw [ho]
    have kp : qT U p = 47 := by have := k66 w; rw [ho] at this; exact this
    refine ⟨fun _ a ea => hk U a h ho ea, fun c => ⟨dd_X8_targetAt w h.1.1 kp, fun a68 _ => ⟨dd_X9_placeOf, fun a72 _ k' => ⟨_, frX8_setTarget w (sp_setTarget w h.1.1 k' h.2.2.2.1 ⟨h0, by rw [h.tc rv]; omega⟩), fun S74 q74 w74 _ a76 ea => ?_⟩⟩⟩⟩
    have r6 := rgI v6
    have e := t_inc ea (by omega)
    have eo : qO S74 66 0 = qO U 66 0 := qO_eq (q74.2.kO (w.2.1 _ finC_31).2.1 (by decide) (by decide))
    exact ih (h.tr q74.1) (eo.trans ho) (by omega) (by omega)
theorem pc_L208 {Q : MS → Prop} (rv : RvK S p) (hX : ∀ V : MS, wfC V → RkE B S V p → qO V 66 0 = p → ∀ S21 : MS, S21 = wI V p 9 (0 : Int32) → wfC S21 → ∃ n, w_X9_putCounters_L290 Q n S21 q 0) : ∀ (n : Nat) {U : MS} {v5 : Int32}, RkE B S U p → qO U 66 0 = p → 2147483648 - v5.toInt < n → w_X9_putCounters_L208 Q n U q v5 := by
  intro n
  induction n with
  | zero => intro U v5 _ _ hm; have := rgI v5; omega
  | succ n ih =>
    intro U v5 h ho hm
    unfold w_X9_putCounters_L208
    intro w kq
    rw [ho]
    have kp : qT U p = 47 := by have := k66 w; rw [ho] at this; exact this
    refine ⟨fun _ S21 e21 _ w21 => hX U w h ho S21 e21 w21, fun c => ⟨dd_X8_targetCount w h.1.1 kp, fun a60 e60 => ⟨2147483649, pc_L234 rv (by rw [e60, h.tc rv]) (fun V a hV hVo ea => ?_) _ h ho (by decide) (by rw [li_0k]; decide)⟩⟩⟩
    have rc := rgI (qI U p 2)
    have e := t_inc ea (by omega)
    exact ih hV hVo (by omega)
/-- switches that keep their order, at other places -/
theorem RvK.cpm {P : Nat → Nat} (h : RvK S q) (e4 : (qI u p 4).toInt = (qI S q 4).toInt) (mo : ∀ a b, a < b → P a < P b) (eo : ∀ i : Nat, (i : Int) < (qI S q 2).toInt → rOp u p (P i) = rOp S q i ∧ rAr u p (P i) = rAr S q i) (sw : ∀ m : Nat, (m : Int) < (qI u p 2).toInt → swO (rOp u p m) → ∃ i : Nat, (i : Int) < (qI S q 2).toInt ∧ m = P i) (et : ∀ j : Nat, (j : Int) < (qI S q 4).toInt → qI u (qO u p 3) j = qI S (qO S q 3) j) : RvK u p := by
  have sm : ∀ i : Nat, (i : Int) < (qI S q 2).toInt → swO (rOp u p (P i)) → swO (rOp S q i) ∧ aTk u p (P i) = aTk S q i ∧ mT u p (P i) = mT S q i ∧ eT u p (P i) = eT S q i := fun i hi s => by
    obtain ⟨o1, o2⟩ := eo i hi
    have sw' : swO (rOp S q i) := by rw [← o1]; exact s
    have ea : aTk u p (P i) = aTk S q i := by unfold rAr at o2; unfold aTk; rw [o2]
    obtain ⟨a1, a2, a3, a4⟩ := h.1 i hi sw'
    have sz := szT_ge (o := rOp S q i) a2
    have ee : eT S q i = aTk S q i + szT (rOp S q i) (mT S q i) := rfl
    have em : mT u p (P i) = mT S q i := by unfold mT; rw [ea, et _ (by omega)]
    exact ⟨sw', ea, em, by unfold eT; rw [ea, em, o1]⟩
  unfold RvK
  rw [e4]
  refine ⟨fun m hm s => ?_, fun m m' hl hm s1 s2 => ?_⟩
  · obtain ⟨i, hi, rfl⟩ := sw m hm s
    obtain ⟨a1, a2, a3, a4⟩ := sm i hi s
    rw [a2, a3, a4]; exact h.1 i hi a1
  · obtain ⟨i, hi, rfl⟩ := sw m (by omega) s1
    obtain ⟨i', hi', rfl⟩ := sw m' hm s2
    have hii : i < i' := by
      by_cases z : i < i'
      · exact z
      · by_cases y : i = i'
        · rw [y] at hl; omega
        · have := mo i' i (by omega); omega
    obtain ⟨a1, a2, a3, a4⟩ := sm i hi s1
    obtain ⟨b1, b2, b3, b4⟩ := sm i' hi' s2
    rw [a4, b2]; exact h.2 i i' hii hi' a1 b1
end PC
/-! putCounters: the table -/
section PD
variable {B : Nat × Nat} {S u v U V : MS} {p q : Nat} {x : Int32}
/-- the table so far; the instructions as they were at the start -/
def PdI (B : Nat × Nat) (S : MS) (p q t : Nat) (U : MS) : Prop := ((ShC B U ∧ shx S U ∧ rfr p S U) ∧ qO U 66 0 = p) ∧ (qI U p 2 = qI S p 2 ∧ ∀ i, rOp U p i = rOp S p i ∧ rAr U p i = rAr S p i) ∧ (qI U p 4).toInt = t ∧ ∀ j : Nat, j < t → qI U (qO U p 3) j = qI S (qO S q 3) j
theorem pc_L176 {Q : MS → Prop} (w : wfC S) (g : ShC B S) (k0 : qT S p = 47) (k1 : qT S q = 47) (ne : q ≠ p) (hl : (qI S q 4).toInt ≤ (qN S (qO S p 3) : Int)) (hX : ∀ V : MS, wfC V → PdI B S p q (qI S q 4).toInt.toNat V → ∃ n, w_X9_putCounters_L208 Q n V q 0) : ∀ (n t : Nat) {U : MS} {v5 : Int32}, PdI B S p q t U → v5.toInt = t → (t : Int) ≤ (qI S q 4).toInt → 2147483648 - v5.toInt < n → w_X9_putCounters_L176 Q n U q v5 := by
  intro n
  induction n with
  | zero => intro t U v5 _ _ _ hm; have := rgI v5; omega
  | succ n ih =>
    intro t U v5 h h2 ht hm
    have h' := h
    obtain ⟨⟨⟨gU, sU, fU⟩, oU⟩, ⟨hc, ho⟩, h4, hj⟩ := h
    unfold w_X9_putCounters_L176
    intro wU kq
    rw [oU]
    have kp : qT U p = 47 := sU.T k0 (by decide)
    have m := fU.row w k0 (g.row k0) k1 (g.row k1) ne
    have R := gU.row kq
    have R2 := R.2
    have Rp := gU.row kp
    have atU := Rp.at wU kp
    have atS := (g.row k0).at w k0
    have c4 : qI U q 4 = qI S q 4 := m.1.2
    have lN : (qN U (qO U p 3) : Int) = (qN S (qO S p 3) : Int) := by
      rw [atU.2.2.1, atS.2.2.1, (sU.1 (p + 3) (by rw [((g.row k0).kd w k0).2.2.1]; decide)).2]
    refine ⟨fun c => hX U wU ?_, fun c => ⟨R.1.2.2.1, by omega, fun k' => ⟨_, frX8_addToTable wU (sp_addToTable wU gU k' (by rw [c4] at c; omega)), fun S83 q83 w83 _ a85 ea => ?_⟩⟩⟩
    · rw [c4] at c
      rw [show (qI S q 4).toInt.toNat = t by omega]
      exact h'
    · have e := t_inc ea (by omega)
      obtain ⟨⟨g33, ⟨⟨a4, a2, a0, a1, a3⟩, ao, aj, ax⟩, f33⟩, fr33⟩ := q83
      have eo : qO S83 66 0 = qO U 66 0 := qO_eq (fr33.kO (wU.2.1 _ finC_31).2.1 (by decide) (by decide))
      refine ih (t + 1) ⟨⟨⟨g33, sU.tr fr33.1, fU.tr sU f33⟩, eo.trans oU⟩, ⟨a2.trans hc, fun i => ⟨(ao i).1.trans (ho i).1, (ao i).2.trans (ho i).2⟩⟩, by omega, fun j hjt => ?_⟩ (by omega) (by rw [c4] at c; omega) (by omega)
      rw [a3]
      by_cases z : j = (qI U p 4).toInt.toNat
      · rw [z, ax, show v5.toInt.toNat = (qI U p 4).toInt.toNat by omega, m.2.1.2.2, m.2.2.2.2]
      · rw [aj j z]; exact hj j (by omega)
end PD
/-! Graph stays while Smith's Row is filled -/
section GS
variable {B : Nat × Nat} {S u v : MS}
/-- Graph is as it was, and so is the Row that it drew -/
def GsM (S u : MS) : Prop := qR u 52 0 = qR S 52 0 ∧ (∀ j, qI u 52 j = qI S 52 j) ∧ (∀ j : Nat, 2 ≤ j → (52, j) ∈ ptrC → qO u 52 j = qO S 52 j ∧ qN u (qO S 52 j) = qN S (qO S 52 j) ∧ qI u (qO S 52 j) = qI S (qO S 52 j)) ∧ rSm S u (qO S 52 0)
theorem GsM.rf : GsM S S := ⟨rfl, fun _ => rfl, fun _ _ _ => ⟨rfl, rfl, rfl⟩, rSm.rf⟩
theorem GsM.tr (h : GsM S u) (k : GsM u v) : GsM S v := by
  obtain ⟨h1, h2, h3, h4⟩ := h
  obtain ⟨k1, k2, k3, k4⟩ := k
  rw [qO_eq h1] at k4
  refine ⟨k1.trans h1, fun j => (k2 j).trans (h2 j), fun j hj hp => ?_, h4.tr k4⟩
  obtain ⟨a1, a2, a3⟩ := h3 j hj hp
  obtain ⟨b1, b2, b3⟩ := k3 j hj hp
  rw [a1] at b1 b2 b3
  exact ⟨b1, b2.trans a2, b3.trans a3⟩
theorem GsM.at' (h : GsM S u) (x : Int32) : fX3_blockAt u x = fX3_blockAt S x := by
  obtain ⟨h1, h2, h3, h4⟩ := h
  obtain ⟨a1, a2, a3⟩ := h3 2 (by decide) (by decide)
  obtain ⟨b1, b2, b3⟩ := h3 3 (by decide) (by decide)
  unfold fX3_blockAt
  rw [a1, b1, b2, a3, b3, h2, qO_eq h1, h4.1.1]
  rfl
theorem GsM.rc (h : GsM S u) (x : Int32) : fX3_isReached u x = fX3_isReached S x := by
  obtain ⟨h1, h2, h3, h4⟩ := h
  obtain ⟨a1, a2, a3⟩ := h3 8 (by decide) (by decide)
  unfold fX3_isReached
  rw [a1, a3, h2]
  rfl
theorem GsM.dB (h : GsM S u) (d : GB4 B S) (x : Int32) : d_X3_blockAt u x ∧ d_X3_isReached u x := by
  have n := d.num
  have l2 := d.1.1.1.2.1.1.1
  have b1 := d.1.1.2.1.1
  have rp := d.1.1.1.rp
  obtain ⟨h1, h2, h3, h4⟩ := h
  obtain ⟨a1, a2, a3⟩ := h3 2 (by decide) (by decide)
  obtain ⟨c1, c2, c3⟩ := h3 3 (by decide) (by decide)
  obtain ⟨e1, e2, e3⟩ := h3 8 (by decide) (by decide)
  unfold d_X3_blockAt d_X3_blockAt_J59 d_X3_isReached d_X3_isReached_J25
  rw [a1, c1, a2, c2, a3, c3, e1, e2, e3, h2, h1, qO_eq h1, h4.1.1]
  refine ⟨?_, ?_⟩
  · split
    · trivial
    · split
      · trivial
      · refine ⟨rp, ?_⟩
        split
        · refine ⟨by omega, ?_⟩
          split
          · trivial
          · split
            · trivial
            · refine ⟨by omega, ?_⟩
              split <;> trivial
        · trivial
  · split
    · trivial
    · split
      · trivial
      · refine ⟨by omega, ?_⟩
        split <;> trivial
end GS
/-! .. out of a frame -/
section GT
variable {B : Nat × Nat} {S u v : MS}
theorem gs_of {K : List Nat} {F : List (Nat × Nat)} (w : wfC S) (f : cfr K F S u) (h43 : K.contains 43 = false) (hF : ∀ j, F.contains (43, j) = false) (hk : ∀ t : Nat, (202 ≤ t ∧ t ≤ 216 ∨ t = 303 ∨ t = 401) → K.contains t = false) (hA : okO F = true) (m : rSm S u (qO S 52 0)) : GsM S u := by
  have k52 := w.k52
  have a52 : ∀ j, qI u 52 j = qI S 52 j ∧ qR u 52 j = qR S 52 j := fun j => by
    have := f.2.2 52 j (by rw [k52]; decide) (by rw [k52]; exact h43) (by rw [k52]; exact hF j)
    exact ⟨this.1, this.2.2⟩
  refine ⟨(a52 0).2, fun j => (a52 j).1, fun j hj hp => ⟨qO_eq (a52 j).2, ?_⟩, m⟩
  have kj : ∀ t : Nat, qT S (qO S 52 j) = t → (202 ≤ t ∧ t ≤ 216 ∨ t = 303 ∨ t = 401) → qN u (qO S 52 j) = qN S (qO S 52 j) ∧ qI u (qO S 52 j) = qI S (qO S 52 j) := fun t e ht => by
    refine ⟨(f.1.1 _ (by omega)).2, funext fun i => (f.2.2 _ i (by omega) (by rw [e]; exact hk t ht) (by rw [e]; exact okO_n hA (by omega))).1⟩
  have hj' : j = 2 ∨ j = 3 ∨ j = 4 ∨ j = 5 ∨ j = 6 ∨ j = 7 ∨ j = 8 ∨ j = 9 ∨ j = 11 ∨ j = 12 ∨ j = 13 ∨ j = 14 ∨ j = 15 := by
    revert hp
    have all : ptrC.all (fun a => a.1 != 52 || ([0, 2, 3, 4, 5, 6, 7, 8, 9, 11, 12, 13, 14, 15] : List Nat).contains a.2) = true := by decide
    intro hp
    have := List.all_eq_true.mp all _ hp
    simp at this
    omega
  rcases hj' with rfl | rfl | rfl | rfl | rfl | rfl | rfl | rfl | rfl | rfl | rfl | rfl | rfl
  all_goals exact kj _ (w.ref (w.ptr hp) w.k52) (by decide)
end GT
/-! a Row with counters, step by step -/
def rcNk (S : MS) (n : Nat) : Nat := if (fX3_isReached S (fX3_blockAt S (Int32.ofInt n))).toInt = 0 then 0 else 1
def nC (S : MS) : Nat → Nat
  | 0 => 0
  | n + 1 => nC S n + rcNk S n
def Pm (S : MS) (j : Nat) : Nat := j + 4 * nC S (j + 1)
section PK
variable {B : Nat × Nat} {S u v U V : MS} {p q i c : Nat} {x : Int32} {y : Int64} {W : Int}
theorem nC_s {n : Nat} : nC S (n + 1) = nC S n + rcNk S n := rfl
theorem nC_mo {n : Nat} : ∀ k : Nat, nC S n ≤ nC S (n + k) := by
  intro k
  induction k with
  | zero => exact Nat.le_refl _
  | succ k ih => rw [show n + (k + 1) = n + k + 1 from rfl, nC_s]; omega
theorem Pm_mo {a b : Nat} (h : a < b) : Pm S a < Pm S b := by
  have := nC_mo (S := S) (n := a + 1) (b - a)
  rw [show a + 1 + (b - a) = b + 1 by omega] at this
  unfold Pm
  omega
def PkI (B : Nat × Nat) (S : MS) (p q i c : Nat) (W : Int) (U : MS) : Prop := ((ShC B U ∧ shx S U ∧ rfr p S U) ∧ qO U 66 0 = p ∧ GsM S U) ∧ ((qI U p 2).toInt = c ∧ rWs U p c = W) ∧ (∀ m, m < c → swO (rOp U p m) → ∃ j, j < i ∧ m = Pm S j) ∧ ∀ j, j < i → Pm S j < c ∧ rOp U p (Pm S j) = rOp S q j ∧ rAr U p (Pm S j) = rAr S q j
theorem gs_add {K : List Nat} (w : wfC U) (f : cfr K [(47, 2)] U u) (hK : K = [222, 406]) (m : rSm U u (qO U 52 0)) : GsM U u := by
  rw [hK] at f
  exact gs_of w f rfl (fun j => rfl) (fun t ht => by simp; omega) rfl m
theorem PkI.ad (h : PkI B S p q i c W U) (wU : wfC U) (room : (c : Int) < (qN U (qO U p 0) : Int)) (a : (ShC B u ∧ AdP U u p x y ∧ rfr p U u) ∧ cfr [222, 406] [(47, 2)] U u) (m : rSm U u (qO U 52 0)) (ns : ¬ swO x) : PkI B S p q i (c + 1) (W + rW x.toInt y) u := by
  obtain ⟨⟨⟨g1, s1, f1⟩, o1, m1⟩, ⟨hc, hw⟩, hs, hp⟩ := h
  obtain ⟨⟨gu, ⟨_, ad⟩, fu⟩, fr⟩ := a
  have hcn : (qI U p 2).toInt.toNat = c := by omega
  have eo : qO u 66 0 = qO U 66 0 := qO_eq (fr.kO (wU.2.1 _ finC_31).2.1 (by decide) (by decide))
  rcases ad with ⟨_, full, _⟩ | ⟨n2, _, ao, ax, ay⟩
  · exfalso; omega
  · rw [hcn] at ao ax ay
    refine ⟨⟨⟨gu, s1.tr fr.1, f1.tr s1 fu⟩, eo.trans o1, m1.tr (gs_add wU fr rfl m)⟩, ⟨by omega, ?_⟩, fun m hm sw => ?_, fun j hj => ?_⟩
    · rw [rWs_s, ax, ay, rWs_eq c (fun j hj => ao j (by omega)), hw]
    · by_cases z : m = c
      · rw [z, ax] at sw; exact absurd sw ns
      · rw [(ao m z).1] at sw; exact hs m (by omega) sw
    · obtain ⟨b1, b2, b3⟩ := hp j hj
      exact ⟨by omega, by rw [(ao _ (by omega)).1]; exact b2, by rw [(ao _ (by omega)).2]; exact b3⟩
theorem PkI.mv (h : PkI B S p q i c W U) (wU : wfC U) (room : (c : Int) < (qN U (qO U p 0) : Int)) (hP : Pm S i = c) (a : (ShC B u ∧ AdP U u p (rOp S q i) (rAr S q i) ∧ rfr p U u) ∧ cfr [222, 406] [(47, 2)] U u) (m : rSm U u (qO U 52 0)) : PkI B S p q (i + 1) (c + 1) (W + rW (rOp S q i).toInt (rAr S q i)) u := by
  obtain ⟨⟨⟨g1, s1, f1⟩, o1, m1⟩, ⟨hc, hw⟩, hs, hp⟩ := h
  obtain ⟨⟨gu, ⟨_, ad⟩, fu⟩, fr⟩ := a
  have hcn : (qI U p 2).toInt.toNat = c := by omega
  have eo : qO u 66 0 = qO U 66 0 := qO_eq (fr.kO (wU.2.1 _ finC_31).2.1 (by decide) (by decide))
  rcases ad with ⟨_, full, _⟩ | ⟨n2, _, ao, ax, ay⟩
  · exfalso; omega
  · rw [hcn] at ao ax ay
    refine ⟨⟨⟨gu, s1.tr fr.1, f1.tr s1 fu⟩, eo.trans o1, m1.tr (gs_add wU fr rfl m)⟩, ⟨by omega, ?_⟩, fun m hm sw => ?_, fun j hj => ?_⟩
    · rw [rWs_s, ax, ay, rWs_eq c (fun j hj => ao j (by omega)), hw]
    · by_cases z : m = c
      · exact ⟨i, by omega, by omega⟩
      · rw [(ao m z).1] at sw
        obtain ⟨j, hj, e⟩ := hs m (by omega) sw
        exact ⟨j, by omega, e⟩
    · by_cases z : j = i
      · rw [z, hP]; exact ⟨by omega, ax, ay⟩
      · obtain ⟨b1, b2, b3⟩ := hp j (by omega)
        exact ⟨by omega, by rw [(ao _ (by omega)).1]; exact b2, by rw [(ao _ (by omega)).2]; exact b3⟩
end PK
/-! a Row with counters: the loop -/
section PL
variable {B : Nat × Nat} {S u v U V : MS} {p q i c : Nat} {x : Int32} {y : Int64} {W : Int}
theorem rW_f {o : Int} (h : o = 178 ∨ o = 179) : rW o y = 9 := by
  unfold rW
  rw [if_neg (by omega)]
  unfold aW
  rw [if_neg (by omega), if_neg (by omega), if_neg (by omega), if_neg (by omega), if_neg (by omega), if_pos (by omega)]
theorem rW_20 : rW (20 : Int32).toInt 1 = 3 := by decide
theorem rW_97 : rW (97 : Int32).toInt 0 = 3 := by decide
/-- what putCounters starts from -/
def PcX (B : Nat × Nat) (S : MS) (p q : Nat) : Prop := (wfC S ∧ ShC B S ∧ qT S p = 47 ∧ qT S q = 47) ∧ q ≠ p ∧ qO S 52 0 = q ∧ GB4 B S ∧ (qN S (qO S p 0) : Int) = 1296
theorem PkI.pre (X : PcX B S p q) (h : PkI B S p q i c W U) (wU : wfC U) : (qT U p = 47 ∧ qT U q = 47 ∧ ShC B U) ∧ (qN U (qO U p 0) : Int) = 1296 ∧ qO U 52 0 = q ∧ rSm S U q ∧ qO U 66 0 = p := by
  obtain ⟨⟨w, g, k0, k1⟩, ne, hg, d, l0⟩ := X
  obtain ⟨⟨⟨g1, s1, f1⟩, o1, m1⟩, _⟩ := h
  have kp := s1.T k0 (by decide)
  refine ⟨⟨kp, s1.T k1 (by decide), g1⟩, ?_, by rw [qO_eq m1.1]; exact hg, f1.row w k0 (g.row k0) k1 (g.row k1) ne, o1⟩
  rw [← l0, ((g1.row kp).at wU kp).1, ((g.row k0).at w k0).1, (s1.1 (p + 1) (by rw [((g.row k0).kd w k0).1]; decide)).2]
theorem PkI.stp (X : PcX B S p q) (h : PkI B S p q i c W U) (wU : wfC U) (hc : c < 1296) (ns : ¬ swO x) {K : MS → Prop} (hK : ∀ u : MS, wfC u → PkI B S p q i (c + 1) (W + rW x.toInt y) u → K u) : ∃ Q, wX8_add U (qO U 66 0) x y Q ∧ ∀ u, Q u → wfC u → shy U u → K u := by
  obtain ⟨⟨kp, kq, gU⟩, l0, o52, mq, o66⟩ := h.pre X wU
  rw [o66]
  refine ⟨_, frX8_add wU (sp_add wU gU kp), fun u a wu _ => hK u wu (h.ad wU (by omega) a ?_ ns)⟩
  rw [o52]
  exact a.1.2.2.row wU kp (gU.row kp) kq (gU.row kq) X.2.1
theorem pc_J114 {Q : MS → Prop} {k19 : MS → Nat → Int32 → Int32 → Prop} {v4 v5 : Int32} (X : PcX B S p q) (h : PkI B S p q i c W U) (h5 : v5.toInt = i) (hi : (i : Int) < (qI S q 2).toInt) (hP : Pm S i = c) (hc : c < 1296) (hk : ∀ (V : MS) (a : Int32), PkI B S p q (i + 1) (c + 1) (W + rW (rOp S q i).toInt (rAr S q i)) V → a = v5 + Int32.ofInt 1 → k19 V q v4 a) : w_X9_putCounters_J114 Q k19 U q v4 v5 := by
  unfold w_X9_putCounters_J114
  intro wU kq'
  obtain ⟨⟨kp, kq, gU⟩, l0, o52, mq, o66⟩ := h.pre X wU
  refine ⟨dd_X8_opAt wU gU kq, fun a106 e106 => ⟨dd_X8_argAt wU gU kq, fun a110 e110 _ => ?_⟩⟩
  have n5 : v5.toInt.toNat = i := by omega
  rw [rv_op (by omega) (by rw [mq.1.1]; omega), n5, mq.xOp] at e106
  rw [rv_arg (by omega) (by rw [mq.1.1]; omega), n5] at e110
  have e110' : a110 = rAr S q i := by rw [e110]; exact mq.xAr i
  rw [o66, e106, e110']
  refine ⟨_, frX8_add wU (sp_add wU gU kp), fun u a wu _ a114 ea => hk u a114 (h.mv wU (by omega) hP a ?_) ea⟩
  rw [o52]
  exact a.1.2.2.row wU kp (gU.row kp) kq (gU.row kq) X.2.1
end PL
/-! a Row with counters: the loop's end -/
section PM
variable {B : Nat × Nat} {S u v U V : MS} {p q i c : Nat} {x : Int32} {y : Int64} {W : Int}
theorem PkI.np {k : Nat} (X : PcX B S p q) (h : PkI B S p q i c W U) (wU : wfC U) (e : u = wI U (qO U 66 5) k x) (k5 : qT U (qO U 66 5) = 230) : PkI B S p q i c W u := by
  obtain ⟨⟨kp, kq, gU⟩, l0, o52, mq, o66⟩ := h.pre X wU
  obtain ⟨⟨⟨g1, s1, f1⟩, o1, m1⟩, ⟨hc, hw⟩, hs, hp⟩ := h
  have f : cfr [230] [] U u := by rw [e]; exact cfr.aI k5 rfl
  have m := rSm.fr wU kp (gU.row kp) f rfl rfl rfl
  have m' := rSm.fr wU kq (gU.row kq) f rfl rfl rfl
  refine ⟨⟨⟨ShC.ws wU gU f (by rw [e]; rfl) (by rw [e]; rfl) (by rw [e]; rfl) rfl rfl, s1.tr f.1, f1.tr s1 (rfr.of f rfl rfl)⟩, by rw [← o1, e]; rfl, m1.tr (gs_of wU f rfl (fun j => rfl) (fun t ht => by simp; omega) rfl (by rw [o52]; exact m'))⟩, ⟨by rw [m.1.1]; exact hc, by rw [m.xW]; exact hw⟩, fun mm hm sw => hs mm hm (by rw [← m.xOp]; exact sw), fun j hj => ?_⟩
  obtain ⟨b1, b2, b3⟩ := hp j hj
  exact ⟨b1, by rw [m.xOp]; exact b2, by rw [m.xAr]; exact b3⟩
theorem pc_L19 {Q : MS → Prop} (X : PcX B S p q) (hn : nC S (qI S q 2).toInt.toNat ≤ 24) (hq : (qI S q 2).toInt ≤ 1200) (hX : ∀ V : MS, wfC V → PkI B S p q (qI S q 2).toInt.toNat ((qI S q 2).toInt.toNat + 4 * nC S (qI S q 2).toInt.toNat) (rWs S q (qI S q 2).toInt.toNat + 24 * (nC S (qI S q 2).toInt.toNat : Int)) V → w_X9_putCounters_J139 Q V q) : ∀ (n i c : Nat) (W : Int) {U : MS} {v4 v5 : Int32}, PkI B S p q i c W U → c = i + 4 * nC S i → W = rWs S q i + 24 * (nC S i : Int) → v5.toInt = i → (i : Int) ≤ (qI S q 2).toInt → 2147483648 - v5.toInt < n → w_X9_putCounters_L19 Q n U q v4 v5 := by
  intro n
  induction n with
  | zero => intro i c W U v4 v5 _ _ _ _ _ hm; have := rgI v5; omega
  | succ n ih =>
    intro i c W U v4 v5 h hcE hWE h5 hi hm
    unfold w_X9_putCounters_L19
    intro wU kq'
    obtain ⟨⟨kp, kq, gU⟩, l0, o52, mq, o66⟩ := h.pre X wU
    have c2 : qI U q 2 = qI S q 2 := mq.1.1
    have sk : (qN U (qO U (qO U 66 0) 0) : Int) ≤ (qN U (qO U 66 5) : Int) := gU.smk.2.2.2.1
    rw [o66] at sk
    refine ⟨fun d => ?_, fun d => ⟨fun d2 => by exfalso; rw [c2] at d; omega, fun d2 => ⟨by omega, fun S93 e93 k93 w93 => ?_⟩⟩⟩
    · rw [c2] at d
      have ei : i = (qI S q 2).toInt.toNat := by omega
      rw [hcE, hWE, ei] at h
      exact hX U wU h
    · rw [c2] at d
      have h93 := h.np X wU e93 k93
      have hd := h93.1.2.2
      refine ⟨(hd.dB X.2.2.2.1 v5).1, fun a97 e97 => ⟨(hd.dB X.2.2.2.1 a97).2, fun a101 e101 => ?_⟩⟩
      have v5e : Int32.ofInt (i : Int) = v5 := by rw [← h5]; exact Int32.ofInt_toInt v5
      have er : rcNk S i = if a101.toInt = 0 then 0 else 1 := by
        unfold rcNk
        rw [v5e, ← hd.at', ← e97, ← hd.rc, ← e101]
      have n1 : nC S (i + 1) = nC S i + rcNk S i := rfl
      have n2 := nC_mo (S := S) (n := i + 1) ((qI S q 2).toInt.toNat - (i + 1))
      rw [show i + 1 + ((qI S q 2).toInt.toNat - (i + 1)) = (qI S q 2).toInt.toNat by omega] at n2
      have hPm : Pm S i = i + 4 * nC S (i + 1) := rfl
      have ws : rWs S q (i + 1) = rWs S q i + rW (rOp S q i).toInt (rAr S q i) := rfl
      refine ⟨fun z => ?_, fun z _ => ?_⟩
      · rw [if_pos z] at er
        refine pc_J114 X h93 h5 (by omega) (by omega) (by omega) (fun V a hV ea => ?_)
        have e := t_inc ea (by omega)
        exact ih (i + 1) _ _ hV (by omega) (by omega) (by omega) (by omega) (by omega)
      · rw [if_neg z] at er
        refine h93.stp X w93 (by omega) (no_sw (by decide)) (fun u1 w1 h1 _ => h1.stp X w1 (by omega) (no_sw (by decide)) (fun u2 w2 h2 _ => h2.stp X w2 (by omega) (no_sw (by decide)) (fun u3 w3 h3 _ => h3.stp X w3 (by omega) (no_sw (by decide)) (fun u4 w4 h4 a132 _ => pc_J114 X h4 h5 (by omega) (by omega) (by omega) (fun V a hV ea => ?_)))))
        have e := t_inc ea (by omega)
        have y1 : rW (178 : Int32).toInt v4.toInt64 = 9 := rW_f (Or.inl (by decide))
        have y2 : rW (179 : Int32).toInt v4.toInt64 = 9 := rW_f (Or.inr (by decide))
        rw [y1, rW_20, rW_97, y2] at hV
        exact ih (i + 1) _ _ hV (by omega) (by omega) (by omega) (by omega) (by omega)
end PM
/-! Graph, as it was -/
section GG
variable {B B' : Nat × Nat} {S u v : MS}
theorem GB4.gs (h : GB4 B S) (g : ShC B' u) (m : GsM S u) : GB4 B' u := by
  obtain ⟨m1, m2, m3, m4⟩ := m
  have o0 := qO_eq m1
  obtain ⟨o2, n2, i2⟩ := m3 2 (by decide) (by decide)
  obtain ⟨o3, n3, i3⟩ := m3 3 (by decide) (by decide)
  obtain ⟨o4, n4, i4⟩ := m3 4 (by decide) (by decide)
  obtain ⟨o5, n5, i5⟩ := m3 5 (by decide) (by decide)
  obtain ⟨o6, n6, i6⟩ := m3 6 (by decide) (by decide)
  obtain ⟨o7, n7, i7⟩ := m3 7 (by decide) (by decide)
  obtain ⟨o8, n8, i8⟩ := m3 8 (by decide) (by decide)
  obtain ⟨o9, n9, i9⟩ := m3 9 (by decide) (by decide)
  obtain ⟨o11, n11, i11⟩ := m3 11 (by decide) (by decide)
  obtain ⟨o12, n12, i12⟩ := m3 12 (by decide) (by decide)
  obtain ⟨o13, n13, i13⟩ := m3 13 (by decide) (by decide)
  obtain ⟨o14, n14, i14⟩ := m3 14 (by decide) (by decide)
  obtain ⟨o15, n15, i15⟩ := m3 15 (by decide) (by decide)
  have g2 : ∀ k, gi u 2 k = gi S 2 k := fun k => by unfold gi; rw [o2, i2]
  have g3 : ∀ k, gi u 3 k = gi S 3 k := fun k => by unfold gi; rw [o3, i3]
  have g4 : ∀ k, gi u 4 k = gi S 4 k := fun k => by unfold gi; rw [o4, i4]
  have g5 : ∀ k, gi u 5 k = gi S 5 k := fun k => by unfold gi; rw [o5, i5]
  have g6 : ∀ k, gi u 6 k = gi S 6 k := fun k => by unfold gi; rw [o6, i6]
  have g7 : ∀ k, gi u 7 k = gi S 7 k := fun k => by unfold gi; rw [o7, i7]
  obtain ⟨⟨⟨⟨h1, h2, ⟨h3, h4⟩, h5⟩, h6, h7⟩, h8⟩, h9⟩ := h
  refine ⟨⟨⟨⟨g, ?_, ⟨?_, ?_⟩, ?_⟩, ?_, ?_⟩, ?_⟩, ?_⟩
  · unfold GrL at h2 ⊢; simp only [o2, o3, o4, o5, o6, o7, o8, o9, o11, o12, o13, o14, o15, n2, n3, n4, n5, n6, n7, n8, n9, n11, n12, n13, n14, n15, o0, m2, m4.1.1, g2, g3, g4, g5, g6, g7]; exact h2
  · rw [m1, o0]; exact h3
  · rw [o0]; exact h4.mv m4
  · rw [o0, m4.1.1]; exact h5
  · unfold FbP at h6 ⊢; simp only [o2, o3, o4, o5, o6, o7, o8, o9, o11, o12, o13, o14, o15, n2, n3, n4, n5, n6, n7, n8, n9, n11, n12, n13, n14, n15, o0, m2, m4.1.1, g2, g3, g4, g5, g6, g7]; exact h6
  · unfold WdP at h7 ⊢; simp only [o2, o3, o4, o5, o6, o7, o8, o9, o11, o12, o13, o14, o15, n2, n3, n4, n5, n6, n7, n8, n9, n11, n12, n13, n14, n15, o0, m2, m4.1.1, g2, g3, g4, g5, g6, g7]; exact h7
  · unfold EdP at h8 ⊢; simp only [o2, o3, o4, o5, o6, o7, o8, o9, o11, o12, o13, o14, o15, n2, n3, n4, n5, n6, n7, n8, n9, n11, n12, n13, n14, n15, o0, m2, m4.1.1, g2, g3, g4, g5, g6, g7]; exact h8
  · unfold BkP at h9 ⊢; simp only [o2, o3, o4, o5, o6, o7, o8, o9, o11, o12, o13, o14, o15, n2, n3, n4, n5, n6, n7, n8, n9, n11, n12, n13, n14, n15, o0, m2, m4.1.1, g2, g3, g4, g5, g6, g7]; exact h9
end GG
/-! behind the first loop of putCounters -/
section PJ
variable {B : Nat × Nat} {S u v U V : MS} {p q i c : Nat} {W : Int}
theorem pc_J139 {Q : MS → Prop} (X : PcX B S p q) (h : PkI B S p q i c W U) (hq : (qI S q 2).toInt ≤ 1200) (hX : ∀ S14 S16 : MS, wfC S14 → PkI B S p q i c W S14 → S16 = wI S14 p 4 (0 : Int32) → wfC S16 → ∃ n, w_X9_putCounters_L176 Q n S16 q 0) : w_X9_putCounters_J139 Q U q := by
  unfold w_X9_putCounters_J139
  intro wU kq'
  obtain ⟨⟨kp, kq, gU⟩, l0, o52, mq, o66⟩ := h.pre X wU
  have c2 : qI U q 2 = qI S q 2 := mq.1.1
  have Rq := (gU.row kq).2
  have sk : (qN U (qO U (qO U 66 0) 0) : Int) ≤ (qN U (qO U 66 5) : Int) := gU.smk.2.2.2.1
  rw [o66] at sk
  have k5 : qT U (qO U 66 5) = 230 := wU.ref (wU.ptr (by decide)) (wU.2.1 _ finC_31).2.1
  have l5 := wU.len9 k5 (by decide)
  have e1 : ((Int32.ofNat (qN U (qO U 66 5))) - (1 : Int32)).toInt = (qN U (qO U 66 5) : Int) - 1 := by
    rw [t_subk (by rw [toI_len l5, li_1k]; omega), toI_len l5, li_1k]
  have nl : ¬ ((Int32.ofNat (qN U (qO U 66 5))) - (1 : Int32)) < (qI U q 2) := fun z => by
    have := n_lt.mp z
    rw [e1, c2] at this
    omega
  rw [if_neg nl]
  have c2i : (qI U q 2).toInt = (qI S q 2).toInt := by rw [c2]
  refine ⟨by omega, fun S14 e14 k14 w14 S16 e16 k16 w16 => ?_⟩
  have h14 := h.np X wU e14 k14
  have o14 : qO S14 66 0 = p := h14.1.2.1
  rw [o14] at e16
  exact hX S14 S16 w14 h14 e16 w16
end PJ
/-! putCounters whole -/
section PW
variable {B : Nat × Nat} {S u v U V : MS} {p q : Nat} {x : Int32}
theorem nC_gs (m : GsM S u) : ∀ n, nC u n = nC S n := by
  intro n
  induction n with
  | zero => rfl
  | succ n ih => rw [nC_s, nC_s, ih]; unfold rcNk; rw [m.at', m.rc]
/-- what putCounters leaves -/
def PcQ (B : Nat × Nat) (S : MS) (q : Nat) (u : MS) : Prop := (ShC B u ∧ shx S u) ∧ ((∀ r, qT S r = 47 → r ≠ qO S 66 0 → rSm S u r) ∧ rfr (qO u 66 0) S u) ∧ (qO u 66 0 = qO S 66 0 ∨ qT S (qO u 66 0) = 0) ∧ (qN u (qO u (qO u 66 0) 3) : Int) = 1200 ∧ RvK u (qO u 66 0) ∧ (qI u (qO u 66 0) 2).toInt = (qI S q 2).toInt + 4 * (nC S (qI S q 2).toInt.toNat : Int) ∧ (qI u (qO u 66 0) 4).toInt = (qI S q 4).toInt ∧ rWs u (qO u 66 0) (qI u (qO u 66 0) 2).toInt.toNat = rWs S q (qI S q 2).toInt.toNat + 24 * (nC S (qI S q 2).toInt.toNat : Int)
theorem sp_putCounters (w : wfC S) (g : ShC B S) (k1 : qT S q = 47) (rv : RvK S q) (hTb : (qN S (qO S (qO S 66 0) 0) : Int) = 1296 → (qN S (qO S (qO S 66 0) 3) : Int) = 1200) (ne : q ≠ qO S 66 0) (o52 : qO S 52 0 = q) (d : GB4 B S) (hq : (qI S q 2).toInt ≤ 1200) (hn : nC S (qI S q 2).toInt.toNat ≤ 24) : wX9_putCounters S q x (fun u => PcQ B S q u) := by
  unfold wX9_putCounters
  refine fun _ => ⟨_, frX9_makeRoom w (sp_makeRoom9 w g k1 hTb), fun S2 h2 w2 _ S6 e6 k6 w6 => ?_⟩
  obtain ⟨⟨⟨g2, sx2⟩, ⟨l0, l3⟩, ⟨m2, x2⟩, o2⟩, f2⟩ := h2
  have mq := m2 q k1
  have nr : ∀ r, qT S r = 47 → r ≠ qO S 66 0 → r ≠ qO S2 66 0 := fun r kr hr => by
    rcases o2 with o | o
    · rw [o]; exact hr
    · intro z; rw [← z, kr] at o; exact absurd o (by decide)
  have M2 : GsM S S2 := gs_of w f2 rfl (fun j => rfl) (fun t ht => rfl) rfl (by rw [o52]; exact mq)
  generalize hp : qO S2 66 0 = p at e6 k6 l0 l3 x2 o2 nr
  have nq := nr q k1 ne
  have kq2 : qT S2 q = 47 := sx2.T k1 (by decide)
  have f6 : cfr [] [(47, 2)] S2 S6 := by rw [e6]; exact cfr.oI k6 rfl
  have g6 : ShC B S6 := by rw [e6]; exact ShC.cnt w2 g2 k6 (Or.inl ⟨rfl, by decide, by rw [li_0k]; omega⟩)
  have r6 : rfr p S2 S6 := by rw [e6]; exact rfr.inI (Nat.le_refl _) (by omega)
  have mq6 : rSm S2 S6 q := r6.row w2 k6 (g2.row k6) kq2 (g2.row kq2) nq
  have o52' : qO S2 52 0 = q := by rw [qO_eq M2.1]; exact o52
  have M6 : GsM S2 S6 := gs_of w2 f6 rfl (fun j => rfl) (fun t ht => rfl) rfl (by rw [o52']; exact mq6)
  have e66 : qO S6 66 0 = p := by rw [e6]; exact hp
  have MM := M2.tr M6
  have c6 : qI S6 q 2 = qI S q 2 := mq6.1.1.trans mq.1.1
  have kp6 : qT S6 p = 47 := f6.1.T k6 (by decide)
  have kq6 : qT S6 q = 47 := f6.1.T kq2 (by decide)
  have Rq6 := (g6.row kq6).2
  have X : PcX B S6 p q := ⟨⟨w6, g6, kp6, kq6⟩, nq, by rw [qO_eq MM.1]; exact o52, d.gs g6 MM, by rw [e6]; exact l0⟩
  have nn : nC S6 (qI S6 q 2).toInt.toNat = nC S (qI S q 2).toInt.toNat := by rw [c6]; exact nC_gs MM _
  refine ⟨2147483649, pc_L19 X (by rw [nn]; exact hn) (by rw [c6]; exact hq) (fun V wV hV => ?_) _ 0 0 0 ⟨⟨⟨g6, shx.rf, rfr.rf⟩, e66, GsM.rf⟩, ⟨by rw [e6, qI_wI, if_pos ⟨rfl, rfl⟩, li_0k]; rfl, rfl⟩, fun m hm => absurd hm (by omega), fun j hj => absurd hj (by omega)⟩ rfl rfl (by decide) (by omega) (by rw [li_0k]; decide)⟩
  refine pc_J139 X hV (by rw [c6]; exact hq) (fun S14 S16 w14 h14 e16 w16 => ?_)
  obtain ⟨⟨⟨g14, s14, f14⟩, o14, M14⟩, ⟨c14, ww14⟩, sw14, pl14⟩ := h14
  have kp14 : qT S14 p = 47 := s14.T kp6 (by decide)
  have kq14 : qT S14 q = 47 := s14.T kq6 (by decide)
  have R14 := (g14.row kp14).2
  have at14 := (g14.row kp14).at w14 kp14
  have f16 : cfr [] [(47, 4)] S14 S16 := by rw [e16]; exact cfr.oI kp14 rfl
  have g16 : ShC B S16 := by rw [e16]; exact ShC.cnt w14 g14 kp14 (Or.inr (Or.inl ⟨rfl, by decide, by rw [li_0k]; omega⟩))
  have r16 : rfr p S14 S16 := by rw [e16]; exact rfr.inI (Nat.le_refl _) (by omega)
  have kp16 : qT S16 p = 47 := f16.1.T kp14 (by decide)
  have kq16 : qT S16 q = 47 := f16.1.T kq14 (by decide)
  have mq14 : rSm S6 S14 q := f14.row w6 kp6 (g6.row kp6) kq6 (g6.row kq6) nq
  have mq16 : rSm S14 S16 q := r16.row w14 kp14 (g14.row kp14) kq14 (g14.row kq14) nq
  have msq : rSm S S16 q := ((mq.tr mq6).tr mq14).tr mq16
  have rop16 : ∀ i, rOp S16 p i = rOp S14 p i := fun i => by
    unfold rOp
    rw [e16, show qO (wI S14 p 4 (0 : Int32)) p 0 = qO S14 p 0 from rfl, qI_wI, if_neg (fun z => by have := at14.1; omega)]
  have rar16 : ∀ i, rAr S16 p i = rAr S14 p i := fun i => by unfold rAr; rw [e16]; rfl
  have c16 : qI S16 p 2 = qI S14 p 2 := by rw [e16, qI_wI, if_neg (fun z => absurd z.2 (by decide))]
  have s16 := (f6.1.tr s14).tr f16.1
  have l16 : (qN S16 (qO S16 p 3) : Int) = 1200 := by
    have a2 := (g2.row k6).at w2 k6
    have a16 := (g16.row kp16).at w16 kp16
    have kd := (g2.row k6).kd w2 k6
    rw [a2.2.2.1] at l3
    rw [a16.2.2.1, (s16.1 _ (by rw [kd.2.2.1]; decide)).2]
    exact l3
  have Rq16 := (g16.row kq16).2
  refine ⟨2147483649, pc_L176 w16 g16 kp16 kq16 nq (by omega) (fun V5 wV5 hV5 => ?_) _ 0 ⟨⟨⟨g16, shx.rf, rfr.rf⟩, by rw [e16]; exact o14⟩, ⟨rfl, fun i => ⟨rfl, rfl⟩⟩, by rw [e16, qI_wI, if_pos ⟨rfl, rfl⟩, li_0k]; rfl, fun j hj => absurd hj (by omega)⟩ (by decide) (by omega) (by rw [li_0k]; decide)⟩
  obtain ⟨⟨⟨g5, s5, f5⟩, o5⟩, ⟨c5, ro5⟩, h54, hj5⟩ := hV5
  have q4 : qI S16 q 4 = qI S q 4 := msq.1.2
  have e54 : (qI V5 p 4).toInt = (qI S q 4).toInt := by rw [h54, ← q4]; omega
  have c5' : qI V5 p 2 = qI S14 p 2 := c5.trans c16
  have rv5 : RvK V5 p := by
    refine rv.cpm (P := Pm S6) e54 (fun a b h => Pm_mo h) (fun i hi => ?_) (fun m hm sw => ?_) (fun j hj => ?_)
    · obtain ⟨-, b2, b3⟩ := pl14 i (by rw [c6]; omega)
      rw [(ro5 _).1, (ro5 _).2, rop16, rar16, b2, b3, (mq.tr mq6).xOp, (mq.tr mq6).xAr]
      exact ⟨rfl, rfl⟩
    · rw [(ro5 m).1, rop16] at sw
      rw [c5', c14] at hm
      obtain ⟨j, hj, e⟩ := sw14 m (by omega) sw
      exact ⟨j, by rw [c6] at hj; omega, e⟩
    · rw [hj5 j (by rw [q4]; omega), msq.2.1.2.2, msq.2.2.2.2]
  refine ⟨2147483649, pc_L208 rv5 (fun V7 w7 h7 o7 S21 e21 w21 => ?_) _ (RkE.rf g5 rv5) o5 (by rw [li_0k]; decide)⟩
  obtain ⟨⟨g7, s7, f7⟩, ⟨c7, t7⟩, ro7, rv7, ww7, -⟩ := h7
  have kp7 : qT V7 p = 47 := s7.T (s5.T kp16 (by decide)) (by decide)
  have R7 := (g7.row kp7).2
  have f21 : cfr [] [(47, 9)] V7 S21 := by rw [e21]; exact cfr.oI kp7 rfl
  have g21 : ShC B S21 := by rw [e21]; exact ShC.cnt w7 g7 kp7 (Or.inr (Or.inr ⟨rfl, by decide, by rw [li_0k]; omega⟩))
  have r21 : rfr p V7 S21 := by rw [e21]; exact rfr.inI (Nat.le_refl _) (by omega)
  have m21 : rSm V7 S21 p := rSm.fr w7 kp7 (g7.row kp7) f21 rfl rfl rfl
  refine ⟨2147483649, pc_L290 (V := S21) (p := p) (fun u wu hu => ?_) _ ⟨⟨g21, shx.rf, rfr.rf⟩, by rw [e21]; exact o7, rSm.rf⟩ (by decide) (by rw [li_0k]; decide)⟩
  obtain ⟨⟨gu, su, fu⟩, ou, mu⟩ := hu
  have A : rfr p S2 u := r6.tr f6.1 (f14.tr s14 (r16.tr f16.1 (f5.tr s5 (f7.tr s7 (r21.tr f21.1 fu)))))
  have sA : shx S2 u := (((s16.tr s5).tr s7).tr f21.1).tr su
  have kpu : qT u p = 47 := sA.T k6 (by decide)
  have cu : (qI u p 2).toInt = (qI S q 2).toInt + 4 * (nC S (qI S q 2).toInt.toNat : Int) := by
    rw [mu.1.1, m21.1.1, c7, c5', c14, nn, c6]
    rw [c6] at Rq6
    omega
  have wu' : ∀ n, rWs u p n = rWs S14 p n := fun n => by
    rw [mu.xW, m21.xW, ww7]
    exact rWs_eq n (fun i _ => ⟨by rw [(ro5 i).1, rop16], by rw [(ro5 i).2, rar16]⟩)
  refine ⟨⟨gu, sx2.tr sA⟩, ⟨fun r kr hr => ?_, by rw [ou]; exact x2.tr sx2 A⟩, by rw [ou]; exact o2, ?_, by rw [ou]; exact (rv7.mv m21).mv mu, by rw [ou]; exact cu, ?_, ?_⟩
  · have k2r : qT S2 r = 47 := sx2.T kr (by decide)
    exact (m2 r kr).tr (A.row w2 k6 (g2.row k6) k2r (g2.row k2r) (nr r kr hr))
  · rw [ou, ← l16, ((gu.row kpu).at wu kpu).2.2.1, ((g16.row kp16).at w16 kp16).2.2.1, ((((s5.tr s7).tr f21.1).tr su).1 _ (by rw [((g16.row kp16).kd w16 kp16).2.2.1]; decide)).2]
  · rw [ou, mu.1.2, m21.1.2, t7, e54]
  · rw [ou, wu', mu.1.1, m21.1.1, c7, c5', c14]
    rw [show ((((qI S6 q 2).toInt.toNat + 4 * nC S6 (qI S6 q 2).toInt.toNat : Nat) : Int)).toNat = (qI S6 q 2).toInt.toNat + 4 * nC S6 (qI S6 q 2).toInt.toNat by omega, ww14, nn, c6, (mq.tr mq6).xW]
end PW
/-! what Graph draws hangs on the Row alone: the blocks -/
def upN (f : Nat → Int) (k : Nat) (x : Int) : Nat → Int := fun j => if j = k then x else f j
def bgF (N : Int) (M : Nat → Int) (x : Int) : Nat → Int := if 0 ≤ x ∧ x < N then upN M x.toNat 1 else M
def nR (S : MS) (r : Nat) : Int := (qI S r 2).toInt
def tcR (S : MS) (r i : Nat) : Int := (fX8_targetCount S r (Int32.ofInt i)).toInt
def taR (S : MS) (r i j : Nat) : Int := (fX8_targetAt S r (Int32.ofInt i) (Int32.ofInt j)).toInt
def goR (S : MS) (r i : Nat) : Int := (fX6_goesOn S (fX8_opAt S r (Int32.ofInt i))).toInt
def caR (S : MS) (r j c : Nat) : Int := (qI S (qO S r j) c).toInt
def mJ (S : MS) (r i : Nat) (M : Nat → Int) : Nat → Nat → Int
  | 0 => M
  | j + 1 => bgF (nR S r) (mJ S r i M j) (taR S r i j)
def mI (S : MS) (r i : Nat) (M : Nat → Int) : Nat → Int := if 0 < tcR S r i ∨ goR S r i = 0 then bgF (nR S r) (mJ S r i M (tcR S r i).toNat) ((i : Int) + 1) else mJ S r i M (tcR S r i).toNat
def mLk (S : MS) (r : Nat) : Nat → Nat → Int
  | 0 => bgF (nR S r) (fun _ => 0) 0
  | i + 1 => mI S r i (mLk S r i)
def mC (S : MS) (r : Nat) : Nat → Nat → Int
  | 0 => mLk S r (nR S r).toNat
  | c + 1 => bgF (nR S r) (bgF (nR S r) (bgF (nR S r) (mC S r c) (caR S r 5 c)) (caR S r 6 c)) (caR S r 7 c)
def mK (S : MS) (r : Nat) : Nat → Int := mC S r (qI S r 9).toInt.toNat
def bN (M : Nat → Int) : Nat → Nat
  | 0 => 0
  | i + 1 => bN M i + (if M i = 0 then 0 else 1)
def sF (M : Nat → Int) : Nat → Nat → Int
  | 0 => fun _ => 0
  | i + 1 => if M i = 0 then sF M i else upN (sF M i) (bN M i) i
/-- Row r as it was, its catches too -/
def rC (S u : MS) (r : Nat) : Prop := rSm S u r ∧ qI u r 9 = qI S r 9 ∧ (qO u r 5 = qO S r 5 ∧ qO u r 6 = qO S r 6 ∧ qO u r 7 = qO S r 7) ∧ qI u (qO S r 5) = qI S (qO S r 5) ∧ qI u (qO S r 6) = qI S (qO S r 6) ∧ qI u (qO S r 7) = qI S (qO S r 7)
section GV
variable {B : Nat × Nat} {K : List Nat} {F : List (Nat × Nat)} {S u v U V : MS} {p r i j : Nat} {x y : Int32}
theorem rC.rf : rC S S r := ⟨rSm.rf, rfl, ⟨rfl, rfl, rfl⟩, rfl, rfl, rfl⟩
theorem rC.tr (h : rC S u r) (k : rC u v r) : rC S v r := by
  obtain ⟨a, b, ⟨c5, c6, c7⟩, d5, d6, d7⟩ := h
  obtain ⟨a', b', ⟨c5', c6', c7'⟩, d5', d6', d7'⟩ := k
  rw [c5] at d5'
  rw [c6] at d6'
  rw [c7] at d7'
  exact ⟨a.tr a', b'.trans b, ⟨c5'.trans c5, c6'.trans c6, c7'.trans c7⟩, d5'.trans d5, d6'.trans d6, d7'.trans d7⟩
theorem rC.op (h : rC S u r) : fX8_opAt u r x = fX8_opAt S r x := by
  have s := h.1
  unfold fX8_opAt
  rw [s.1.1, s.2.1.1, s.2.2.1]
  rfl
theorem rC.tc (h : rC S u r) : fX8_targetCount u r x = fX8_targetCount S r x := by
  have s := h.1
  unfold fX8_targetCount fX8_opAt fX8_argAt fX8_tableAt
  rw [s.1.1, s.1.2, s.2.1.1, s.2.1.2.1, s.2.1.2.2, s.2.2.1, s.2.2.2.1, s.2.2.2.2]
  rfl
theorem rC.ta (h : rC S u r) : fX8_targetAt u r x y = fX8_targetAt S r x y := by
  have s := h.1
  unfold fX8_targetAt fX8_opAt fX8_argAt fX8_tableAt
  rw [s.1.1, s.1.2, s.2.1.1, s.2.1.2.1, s.2.1.2.2, s.2.2.1, s.2.2.2.1, s.2.2.2.2]
  rfl
theorem rC.ch (h : rC S u r) : fX8_catchHas u r x y = fX8_catchHas S r x y := by
  obtain ⟨a, b, ⟨c5, c6, c7⟩, d5, d6, d7⟩ := h
  unfold fX8_catchHas
  rw [b, c5, c6, d5, d6]
  rfl
theorem rC.nE (h : rC S u r) : nR u r = nR S r := by unfold nR; rw [h.1.1.1]
theorem rC.ca (h : rC S u r) {c : Nat} (hj : j = 5 ∨ j = 6 ∨ j = 7) : caR u r j c = caR S r j c := by
  obtain ⟨a, b, ⟨c5, c6, c7⟩, d5, d6, d7⟩ := h
  unfold caR
  rcases hj with rfl | rfl | rfl
  · rw [c5, d5]
  · rw [c6, d6]
  · rw [c7, d7]
/-- what Graph may touch -/
def okVk (K : List Nat) : Bool := K.all (fun x => ([202, 203, 204, 205, 206, 207, 208, 209, 210, 211, 212, 303, 401] : List Nat).contains x)
def okFk (F : List (Nat × Nat)) : Bool := F.all (fun x => x.1 == 43 && !(x.2 == 0))
theorem okV_n {t : Nat} (h : okVk K = true) (m : ([202, 203, 204, 205, 206, 207, 208, 209, 210, 211, 212, 303, 401] : List Nat).contains t = false) : K.contains t = false := by
  cases e : K.contains t with
  | false => rfl
  | true =>
    have := List.all_eq_true.mp h _ (List.contains_iff_mem.mp e)
    rw [m] at this
    cases this
theorem okF_n {t : Nat} (h : okFk F = true) (m : t ≠ 43 ∨ j = 0) : F.contains (t, j) = false := by
  cases e : F.contains (t, j) with
  | false => rfl
  | true =>
    have := List.all_eq_true.mp h _ (List.contains_iff_mem.mp e)
    simp at this
    rcases m with m | m
    · exact absurd this.1 m
    · exact absurd m this.2
def VwI (S : MS) (r : Nat) (U : MS) : Prop := (qO U 52 0 = r ∧ rC S U r) ∧ qT U r = 47 ∧ RwK U r
theorem VwI.fr (h : VwI S r U) (w : wfC U) (f : cfr K F U u) (hK : okVk K = true) (hF : okFk F = true) : VwI S r u := by
  obtain ⟨⟨o, c⟩, k, R⟩ := h
  have g : ∀ j, qI u r j = qI U r j ∧ qR u r j = qR U r j := fun j => by
    have := f.2.2 r j (by rw [k]; decide) (by rw [k]; exact okV_n hK (by decide)) (by rw [k]; exact okF_n hF (Or.inl (by decide)))
    exact ⟨this.1, this.2.2⟩
  have a : ∀ {b t : Nat}, qT U b = t → t ≠ 0 → t ≠ 43 → ([202, 203, 204, 205, 206, 207, 208, 209, 210, 211, 212, 303, 401] : List Nat).contains t = false → qI u b = qI U b ∧ qJ u b = qJ U b := fun {b t} e h0 h43 m => by
    exact ⟨funext fun j => (f.2.2 b j (by rw [e]; exact h0) (by rw [e]; exact okV_n hK m) (by rw [e]; exact okF_n hF (Or.inl h43))).1, funext fun j => (f.2.2 b j (by rw [e]; exact h0) (by rw [e]; exact okV_n hK m) (by rw [e]; exact okF_n hF (Or.inl h43))).2.1⟩
  obtain ⟨e0, e1, e3, e5, e6, e7, e8⟩ := R.1
  refine ⟨⟨?_, c.tr ⟨⟨⟨(g 2).1, (g 4).1⟩, ⟨qO_eq (g 0).2, qO_eq (g 1).2, qO_eq (g 3).2⟩, ?_, ?_, ?_⟩, (g 9).1, ⟨qO_eq (g 5).2, qO_eq (g 6).2, qO_eq (g 7).2⟩, ?_, ?_, ?_⟩⟩, f.1.T k (by decide), R.mv w f.1 (fun j _ => (g j).1) (fun j _ => (g j).2)⟩
  · rw [qO_eq (f.kO w.k52 (okV_n hK (by decide)) (okF_n hF (Or.inr rfl)))]; exact o
  · exact (a (w.ref e0 k : qT U (qO U r 0) = 222) (by decide) (by decide) (by decide)).1
  · exact (a (w.ref e1 k : qT U (qO U r 1) = 406) (by decide) (by decide) (by decide)).2
  · exact (a (w.ref e3 k : qT U (qO U r 3) = 223) (by decide) (by decide) (by decide)).1
  · exact (a (w.ref e5 k : qT U (qO U r 5) = 224) (by decide) (by decide) (by decide)).1
  · exact (a (w.ref e6 k : qT U (qO U r 6) = 225) (by decide) (by decide) (by decide)).1
  · exact (a (w.ref e7 k : qT U (qO U r 7) = 226) (by decide) (by decide) (by decide)).1
theorem ofI {v : Int32} (h : v.toInt = (i : Int)) : Int32.ofInt (i : Int) = v := by rw [← h]; exact Int32.ofInt_toInt v
theorem ct_begin {Q : MS → Prop} (w : wfC S) (h : wX3_begin S x Q) : wX3_begin S x (fun u => (Q u ∧ ∀ k, gi u 3 k = bgF (nR S (qO S 52 0)) (gi S 3) x.toInt k) ∧ cfr [203] [] S u) := by
  refine frX3_begin w ?_
  unfold wX3_begin at h ⊢
  refine ⟨fun c => ⟨h.1 c, fun k => ?_⟩, fun c => ⟨(h.2 c).1, fun d => ⟨(h.2 c).2.1 d, fun k => ?_⟩, fun d => ⟨((h.2 c).2.2 d).1, fun S7 e7 k7 w7 => ⟨((h.2 c).2.2 d).2 S7 e7 k7 w7, fun k => ?_⟩⟩⟩⟩
  · unfold bgF; rw [if_neg (by omega)]
  · unfold bgF nR; rw [if_neg (by omega)]
  · unfold bgF nR
    rw [if_pos (by omega)]
    unfold upN gi
    rw [show qO S7 52 3 = qO S 52 3 by rw [e7]; rfl, e7, qI_wI]
    by_cases z : k = x.toInt.toNat
    · rw [if_pos ⟨rfl, z⟩, if_pos z]; exact li_1k
    · rw [if_neg (fun y => z y.2), if_neg z]
/-- the marks so far -/
def MkIk (S : MS) (r : Nat) (M : Nat → Int) (U : MS) : Prop := VwI S r U ∧ ∀ k : Nat, (k : Int) < nR S r → gi U 3 k = M k
theorem MkIk.bg {M : Nat → Int} {e : Int} (h : MkIk S r M U) (w : wfC U) (q : (∀ k, gi u 3 k = bgF (nR U (qO U 52 0)) (gi U 3) x.toInt k) ∧ cfr [203] [] U u) (ex : x.toInt = e) : MkIk S r (bgF (nR S r) M e) u := by
  obtain ⟨h1, h2⟩ := h
  refine ⟨h1.fr w q.2 rfl rfl, fun k hk => ?_⟩
  rw [q.1 k, h1.1.1, h1.1.2.nE, ex]
  unfold bgF
  split
  · unfold upN
    split
    · rfl
    · exact h2 k hk
  · exact h2 k hk
theorem ct_J131 {Q Q' : MS → Prop} {k60 k60' : MS → Int32 → Prop} {M : Nat → Int} {v1 : Int32} (h1 : v1.toInt = (i : Int)) (hi : i < 1300) (g : MkIk S r M U) (hk : ∀ (V : MS) (a : Int32), k60 V a → MkIk S r M V → a.toInt = ((i + 1 : Nat) : Int) → k60' V a) (h : w_X3_findBlocks_J131 Q k60 U v1) : w_X3_findBlocks_J131 Q' k60' U v1 := by
  unfold w_X3_findBlocks_J131 at h ⊢
  intro w a ea
  have e := t_inc ea (by omega)
  exact hk U a (h w a ea) g (by omega)
theorem ct_J124 {Q Q' : MS → Prop} {k60 k60' : MS → Int32 → Prop} {M : Nat → Int} {v1 : Int32} (h1 : v1.toInt = (i : Int)) (hi : i < 1300) (g : MkIk S r M U) (hk : ∀ (V : MS) (a : Int32), k60 V a → MkIk S r (bgF (nR S r) M ((i : Int) + 1)) V → a.toInt = ((i + 1 : Nat) : Int) → k60' V a) (h : w_X3_findBlocks_J124 Q k60 U v1) : w_X3_findBlocks_J124 Q' k60' U v1 := by
  unfold w_X3_findBlocks_J124 at h ⊢
  intro w
  obtain ⟨Q73, b1, b2⟩ := h w
  refine ⟨_, ct_begin w b1, fun S74 q w74 s74 => ct_J131 h1 hi (g.bg w ⟨q.1.2, q.2⟩ ?_) hk (b2 S74 q.1.1 w74 s74)⟩
  rw [t_addk (by rw [li_1k]; omega), li_1k, h1]
theorem ct_L82 {Q Q' : MS → Prop} {k60 k60' : MS → Int32 → Prop} {M : Nat → Int} {v1 v2 : Int32} (h1 : v1.toInt = (i : Int)) (hi : i < 1300) (h2 : v2.toInt = tcR S r i) (hk : ∀ (V : MS) (a : Int32), k60 V a → MkIk S r (mI S r i M) V → a.toInt = ((i + 1 : Nat) : Int) → k60' V a) : ∀ (n : Nat) {U : MS} {v3 : Int32} (j : Nat), w_X3_findBlocks_L82 Q k60 n U v1 v2 v3 → MkIk S r (mJ S r i M j) U → v3.toInt = (j : Int) → ((j : Int) ≤ v2.toInt ∨ j = 0) → w_X3_findBlocks_L82 Q' k60' n U v1 v2 v3 := by
  intro n
  induction n with
  | zero => intro U v3 j h; unfold w_X3_findBlocks_L82 at h; exact h.elim
  | succ n ih =>
    intro U v3 j h g hj hle
    unfold w_X3_findBlocks_L82 at h ⊢
    intro w
    replace h := h w
    have o := g.1.1.1
    refine ⟨fun c => ?_, fun c => ?_⟩
    · replace h := h.1 c
      have ej : j = (tcR S r i).toNat := by omega
      rw [ej] at g
      refine ⟨fun d => ?_, fun d => ?_⟩
      · refine ct_J124 h1 hi g (fun V a k m ea => hk V a k ?_ ea) (h.1 d)
        unfold mI
        rw [if_pos (Or.inl (by omega))]; exact m
      · replace h := h.2 d
        refine ⟨h.1, h.2.1, fun a ea => ?_⟩
        replace h := h.2.2 a ea
        refine ⟨h.1, fun b eb => ?_⟩
        replace h := h.2 b eb
        have eg : goR S r i = b.toInt := by
          rw [eb, ea, o, g.1.1.2.op]
          unfold goR
          rw [ofI h1]
          rfl
        refine ⟨fun z => ct_J124 h1 hi g (fun V a k m ea => hk V a k ?_ ea) (h.1 z), fun z => ct_J131 h1 hi g (fun V a k m ea => hk V a k ?_ ea) (h.2 z)⟩
        · unfold mI
          rw [if_pos (Or.inr (by omega))]; exact m
        · unfold mI
          rw [if_neg (by omega)]; exact m
    · replace h := h.2 c
      refine ⟨h.1, h.2.1, fun a ea => ?_⟩
      obtain ⟨Q94, b1, b2⟩ := h.2.2 a ea
      refine ⟨_, ct_begin w b1, fun S95 q w95 s95 a97 e97 => ?_⟩
      have r2 := rgI v2
      have e := t_inc e97 (by omega)
      refine ih (j + 1) (b2 S95 q.1.1 w95 s95 a97 e97) (g.bg w ⟨q.1.2, q.2⟩ ?_) (by omega) (by omega)
      rw [ea, o, g.1.1.2.ta]
      unfold taR
      rw [ofI h1, ofI hj]
end GV
/-! what Graph draws hangs on the Row alone: the blocks, its loops -/
section GW
variable {B : Nat × Nat} {S u v U V : MS} {r i j : Nat} {x y : Int32} {M : Nat → Int}
theorem bN_s {n : Nat} : bN M (n + 1) = bN M n + (if M n = 0 then 0 else 1) := rfl
theorem bN_le : ∀ n : Nat, bN M n ≤ n := by
  intro n
  induction n with
  | zero => exact Nat.le_refl _
  | succ n ih => rw [bN_s]; split <;> omega
def BfI (S : MS) (r : Nat) (M : Nat → Int) (i : Nat) (U : MS) : Prop := VwI S r U ∧ (qI U 52 1).toInt = (bN M i : Int) ∧ (∀ k : Nat, k < i → gi U 3 k = (bN M (k + 1) : Int) - 1) ∧ (∀ k : Nat, i ≤ k → (k : Int) < nR S r → gi U 3 k = M k) ∧ ∀ b : Nat, b < bN M i → gi U 2 b = sF M i b
/-- the blocks of Row r -/
def BkC (S : MS) (r : Nat) (U : MS) : Prop := BfI S r (mK S r) (nR S r).toNat U
theorem ct_J242 {Q Q' : MS → Prop} {k202 k202' : MS → Int32 → Prop} {v1 : Int32} (h1 : v1.toInt = (i : Int)) (hi : i < 1300) (g1 : VwI S r U) (g2 : (qI U 52 1).toInt = (bN M (i + 1) : Int)) (g3 : ∀ k : Nat, k < i → gi U 3 k = (bN M (k + 1) : Int) - 1) (g4 : ∀ k : Nat, i < k → (k : Int) < nR S r → gi U 3 k = M k) (g5 : ∀ b : Nat, b < bN M (i + 1) → gi U 2 b = sF M (i + 1) b) (hk : ∀ (V : MS) (a : Int32), k202 V a → BfI S r M (i + 1) V → a.toInt = ((i + 1 : Nat) : Int) → k202' V a) (h : w_X3_findBlocks_J242 Q k202 U v1) : w_X3_findBlocks_J242 Q' k202' U v1 := by
  unfold w_X3_findBlocks_J242 at h ⊢
  intro w
  replace h := h w
  refine ⟨h.1, fun S28 e28 k28 w28 a ea => hk S28 a (h.2 S28 e28 k28 w28 a ea) ?_ (by have := t_inc ea (by omega); omega)⟩
  have f : cfr [203] [] U S28 := by rw [e28]; exact cfr.aI k28 rfl
  have bl := bN_le (M := M) (i + 1)
  have gg2 := (gi_fr w f w.g2 rfl rfl rfl rfl (by decide)).1
  have gg3 : ∀ k, gi S28 3 k = if k = i then (bN M (i + 1) : Int) - 1 else gi U 3 k := fun k => by
    unfold gi
    rw [show qO S28 52 3 = qO U 52 3 by rw [e28]; rfl, e28, qI_wI, show v1.toInt.toNat = i by omega]
    by_cases z : k = i
    · rw [if_pos ⟨rfl, z⟩, if_pos z, t_subk (by rw [li_1k]; omega), li_1k, g2]
    · rw [if_neg (fun y => z y.2), if_neg z]
  refine ⟨g1.fr w f rfl rfl, by rw [f.kI w.k52 rfl rfl]; exact g2, fun k hk' => ?_, fun k h1' h2' => ?_, fun b hb => by rw [gg2]; exact g5 b hb⟩
  · rw [gg3]
    by_cases z : k = i
    · rw [if_pos z, z]
    · rw [if_neg z]; exact g3 k (by omega)
  · rw [gg3, if_neg (by omega)]; exact g4 k (by omega) h2'
theorem ct_L202 {Q Q' : MS → Prop} (hN : 0 ≤ nR S r ∧ nR S r ≤ 1200) (hQ : ∀ U : MS, Q U → BfI S r M (nR S r).toNat U → Q' U) : ∀ (n : Nat) {U : MS} {v1 : Int32} (i : Nat), w_X3_findBlocks_L202 Q n U v1 → BfI S r M i U → v1.toInt = (i : Int) → (i : Int) ≤ nR S r → w_X3_findBlocks_L202 Q' n U v1 := by
  intro n
  induction n with
  | zero => intro U v1 i h; unfold w_X3_findBlocks_L202 at h; exact h.elim
  | succ n ih =>
    intro U v1 i h g h1 hi
    obtain ⟨g1, g2, g3, g4, g5⟩ := id g
    unfold w_X3_findBlocks_L202 at h ⊢
    intro w
    replace h := h w
    have eN : (qI U (qO U 52 0) 2).toInt = nR S r := by rw [g1.1.1, g1.1.2.1.1.1]; rfl
    have n1 : v1.toInt.toNat = i := by omega
    refine ⟨h.1, fun c => hQ U (h.2.1 c) ?_, fun c => ?_⟩
    · rw [show (nR S r).toNat = i by omega]; exact g
    · replace h := h.2.2 c
      have hi' : (i : Int) < nR S r := by omega
      have gM := g4 i (Nat.le_refl _) hi'
      have bl := bN_le (M := M) i
      have nx : ∀ (V : MS) (a : Int32), w_X3_findBlocks_L202 Q n V a → BfI S r M (i + 1) V → a.toInt = ((i + 1 : Nat) : Int) → w_X3_findBlocks_L202 Q' n V a := fun V a k m e => ih (i + 1) k m e (by omega)
      refine ⟨h.1, fun d => ?_, fun d => ?_⟩
      · have z : M i = 0 := by rw [← gM]; unfold gi; rw [← n1]; exact d
        refine ct_J242 h1 (by omega) g1 (by rw [bN_s, if_pos z]; exact g2) g3 (fun k a b => g4 k (by omega) b) (fun b hb => ?_) nx (h.2.1 d)
        rw [bN_s, if_pos z] at hb
        unfold sF
        rw [if_pos z]
        exact g5 b hb
      · replace h := h.2.2 d
        have z : M i ≠ 0 := fun q => d (by rw [n1]; rw [q] at gM; exact gM)
        refine ⟨h.1, fun S33 e33 k33 w33 S35 e35 k35 w35 => ?_⟩
        replace h := h.2 S33 e33 k33 w33 S35 e35 k35 w35
        have f33 : cfr [202] [] U S33 := by rw [e33]; exact cfr.aI k33 rfl
        have f35 : cfr [] [(43, 1)] S33 S35 := by rw [e35]; exact cfr.oI k35 rfl
        have c33 : qI S33 52 1 = qI U 52 1 := f33.kI w.k52 rfl rfl
        have gg3 : ∀ k, gi S35 3 k = gi U 3 k := fun k => by rw [(gi_fr w33 f35 w33.g3 rfl rfl rfl rfl (by decide)).1, (gi_fr w f33 w.g3 rfl rfl rfl rfl (by decide)).1]
        have gg2 : ∀ k, gi S35 2 k = if k = bN M i then (i : Int) else gi U 2 k := fun k => by
          rw [(gi_fr w33 f35 w33.g2 rfl rfl rfl rfl (by decide)).1]
          unfold gi
          rw [show qO S33 52 2 = qO U 52 2 by rw [e33]; rfl, e33, qI_wI, show (qI U 52 1).toInt.toNat = bN M i by omega]
          by_cases y : k = bN M i
          · rw [if_pos ⟨rfl, y⟩, if_pos y, h1]
          · rw [if_neg (fun t => y t.2), if_neg y]
        refine ct_J242 h1 (by omega) ((g1.fr w f33 rfl rfl).fr w33 f35 rfl rfl) ?_ (fun k hk => by rw [gg3]; exact g3 k hk) (fun k a b => by rw [gg3]; exact g4 k (by omega) b) (fun b hb => ?_) nx h
        · rw [e35, qI_wI, if_pos ⟨rfl, rfl⟩, c33, t_addk (by rw [li_1k]; omega), li_1k, g2, bN_s, if_neg z]
          omega
        · rw [bN_s, if_neg z] at hb
          rw [gg2]
          unfold sF
          rw [if_neg z]
          unfold upN
          by_cases y : b = bN M i
          · rw [if_pos y, if_pos y]
          · rw [if_neg y, if_neg y]; exact g5 b (by omega)
theorem ct_L139 {Q Q' : MS → Prop} (hN : 0 ≤ nR S r ∧ nR S r ≤ 1200) (hQ : ∀ U : MS, Q U → BkC S r U → Q' U) : ∀ (n : Nat) {U : MS} {v1 : Int32} (c : Nat), w_X3_findBlocks_L139 Q n U v1 → MkIk S r (mC S r c) U → v1.toInt = (c : Int) → ((c : Int) ≤ (qI S r 9).toInt ∨ c = 0) → w_X3_findBlocks_L139 Q' n U v1 := by
  intro n
  induction n with
  | zero => intro U v1 c h; unfold w_X3_findBlocks_L139 at h; exact h.elim
  | succ n ih =>
    intro U v1 c h g h1 hc
    unfold w_X3_findBlocks_L139 at h ⊢
    intro w
    replace h := h w
    have n1 : v1.toInt.toNat = c := by omega
    have o := g.1.1.1
    have e9 : qI U (qO U 52 0) 9 = qI S r 9 := by rw [o]; exact g.1.1.2.2.1
    refine ⟨h.1, fun d S18 e18 k18 w18 => ?_, fun d => ?_⟩
    · obtain ⟨m, hm⟩ := h.2.1 d S18 e18 k18 w18
      have f : cfr [] [(43, 1)] U S18 := by rw [e18]; exact cfr.oI k18 rfl
      rw [e9] at d
      refine ⟨m, ct_L202 (M := mK S r) hN hQ m 0 hm ⟨g.1.fr w f rfl rfl, by rw [e18, qI_wI, if_pos ⟨rfl, rfl⟩]; rfl, fun k hk => absurd hk (by omega), fun k _ hk => ?_, fun b hb => absurd hb (by unfold bN; omega)⟩ (by decide) hN.1⟩
      rw [(gi_fr w f w.g3 rfl rfl rfl rfl (by decide)).1, g.2 k hk]
      unfold mK
      rw [show (qI S r 9).toInt.toNat = c by omega]
    · replace h := h.2.2 d
      rw [e9] at d
      have ca : ∀ {V : MS} {M' : Nat → Int} (j : Nat), MkIk S r M' V → (j = 5 ∨ j = 6 ∨ j = 7) → (qI V (qO V (qO V 52 0) j) v1.toInt.toNat).toInt = caR S r j c := fun {V M'} j m hj => by
        rw [m.1.1.1, n1, ← m.1.1.2.ca hj]
        rfl
      refine ⟨h.1, h.2.1, h.2.2.1, ?_⟩
      obtain ⟨Q42, a1, a2⟩ := h.2.2.2
      refine ⟨_, ct_begin w a1, fun S43 q43 w43 s43 => ?_⟩
      replace h := a2 S43 q43.1.1 w43 s43
      have g43 := g.bg w ⟨q43.1.2, q43.2⟩ (ca 5 g (by omega))
      refine ⟨h.1, h.2.1, h.2.2.1, ?_⟩
      obtain ⟨Q51, b1, b2⟩ := h.2.2.2
      refine ⟨_, ct_begin w43 b1, fun S52 q52 w52 s52 => ?_⟩
      replace h := b2 S52 q52.1.1 w52 s52
      have g52 := g43.bg w43 ⟨q52.1.2, q52.2⟩ (ca 6 g43 (by omega))
      refine ⟨h.1, h.2.1, h.2.2.1, ?_⟩
      obtain ⟨Q60, c1, c2⟩ := h.2.2.2
      refine ⟨_, ct_begin w52 c1, fun S61 q61 w61 s61 a ea => ?_⟩
      have g61 := g52.bg w52 ⟨q61.1.2, q61.2⟩ (ca 7 g52 (by omega))
      have rr := rgI (qI S r 9)
      have e := t_inc ea (by omega)
      exact ih (c + 1) (c2 S61 q61.1.1 w61 s61 a ea) g61 (by omega) (by omega)
theorem ct_L60 {Q Q' : MS → Prop} (hN : 0 ≤ nR S r ∧ nR S r ≤ 1200) (hQ : ∀ U : MS, Q U → BkC S r U → Q' U) : ∀ (n : Nat) {U : MS} {v1 : Int32} (i : Nat), w_X3_findBlocks_L60 Q n U v1 → MkIk S r (mLk S r i) U → v1.toInt = (i : Int) → (i : Int) ≤ nR S r → w_X3_findBlocks_L60 Q' n U v1 := by
  intro n
  induction n with
  | zero => intro U v1 i h; unfold w_X3_findBlocks_L60 at h; exact h.elim
  | succ n ih =>
    intro U v1 i h g h1 hi
    unfold w_X3_findBlocks_L60 at h ⊢
    intro w
    replace h := h w
    have o := g.1.1.1
    have eN : (qI U (qO U 52 0) 2).toInt = nR S r := by rw [o, g.1.1.2.1.1.1]; rfl
    refine ⟨h.1, fun d => ?_, fun d => ?_⟩
    · obtain ⟨m, hm⟩ := h.2.1 d
      refine ⟨m, ct_L139 hN hQ m 0 hm ?_ (by decide) (Or.inr rfl)⟩
      show MkIk S r (mLk S r (nR S r).toNat) U
      rw [show (nR S r).toNat = i by omega]
      exact g
    · replace h := h.2.2 d
      refine ⟨h.1, h.2.1, fun a ea => ?_⟩
      obtain ⟨m, hm⟩ := h.2.2 a ea
      refine ⟨m, ct_L82 (i := i) (M := mLk S r i) h1 (by omega) ?_ (fun V a k mk e => ih (i + 1) k mk e (by omega)) m 0 hm g (by decide) (Or.inr rfl)⟩
      rw [ea, o, g.1.1.2.tc]
      unfold tcR
      rw [ofI h1]
theorem cf_fill {p : Nat} {x1 : Int32} {Q : MS → Prop} : ∀ (n : Nat) {U : MS} {x2 x3 : Int32}, w_J7_fill_53178_L5 Q n U p x1 x2 x3 → 0 ≤ x2.toInt → (∀ k : Nat, (k : Int) < x2.toInt → qI U p k = x1) → w_J7_fill_53178_L5 (fun u => Q u ∧ ∀ k : Nat, (k : Int) < x3.toInt → qI u p k = x1) n U p x1 x2 x3 := by
  intro n
  induction n with
  | zero => intro U x2 x3 h; unfold w_J7_fill_53178_L5 at h; exact h.elim
  | succ n ih =>
    intro U x2 x3 h h0 hf
    unfold w_J7_fill_53178_L5 at h ⊢
    intro w
    replace h := h w
    refine ⟨fun c => ⟨h.1 c, fun k hk => hf k (by omega)⟩, fun c => ⟨(h.2 c).1, fun S4 e4 w4 a ea => ?_⟩⟩
    have r3 := rgI x3
    have e := t_inc ea (by omega)
    refine ih ((h.2 c).2 S4 e4 w4 a ea) (by omega) (fun k hk => ?_)
    rw [e4, qI_wI]
    by_cases z : k = x2.toInt.toNat
    · rw [if_pos ⟨rfl, z⟩]
    · rw [if_neg (fun y => z y.2)]; exact hf k (by omega)
theorem cf_fillS {p kd : Nat} {x1 : Int32} {Q : MS → Prop} (w : wfC S) (hk : qT S p = kd) (h0 : kd ≠ 0) (hl : qN S p < 2147483648) (h : wJ7_fill_53178 S p x1 Q) : wJ7_fill_53178 S p x1 (fun u => (Q u ∧ ∀ k : Nat, k < qN S p → qI u p k = x1) ∧ cfr [kd] [] S u) := by
  refine frJ7_fill_53178 hk h0 ?_
  unfold wJ7_fill_53178 at h ⊢
  intro a ea
  obtain ⟨n, hn⟩ := h a ea
  refine ⟨n, ?_⟩
  have el : a.toInt = qN S p := by rw [ea]; exact toI_nat hl
  have := cf_fill n hn (by decide) (fun k hk => by rw [li_0k] at hk; omega)
  rw [el] at this
  have e2 : (fun u : MS => Q u ∧ ∀ k : Nat, (k : Int) < (qN S p : Int) → qI u p k = x1) = (fun u : MS => Q u ∧ ∀ k : Nat, k < qN S p → qI u p k = x1) := by
    funext u
    simp only [Int.ofNat_lt]
  rw [← e2]
  exact this
theorem ct_J45 {Q Q' : MS → Prop} (hN : 0 ≤ nR S r ∧ nR S r ≤ 1200) (hQ : ∀ U : MS, Q U → BkC S r U → Q' U) (g : VwI S r U) (hl : nR S r ≤ (qN U (qO U 52 3) : Int)) (h : w_X3_findBlocks_J45 Q U) : w_X3_findBlocks_J45 Q' U := by
  unfold w_X3_findBlocks_J45 at h ⊢
  intro w k3
  obtain ⟨Q6, a1, a2⟩ := h w k3
  refine ⟨_, cf_fillS w k3 (by decide) (by have := w.len9 k3 (by decide); omega) a1, fun S7 q7 w7 s7 => ?_⟩
  obtain ⟨Q9, b1, b2⟩ := a2 S7 q7.1.1 w7 s7
  refine ⟨_, ct_begin w7 b1, fun S10 q10 w10 s10 => ?_⟩
  obtain ⟨n, hn⟩ := b2 S10 q10.1.1 w10 s10
  have g7 : MkIk S r (fun _ => 0) S7 := ⟨g.fr w q7.2 rfl rfl, fun k hk => by
    unfold gi
    rw [qO_eq (q7.2.kO w.k52 rfl rfl), q7.1.2 k (by omega)]
    exact li_0k⟩
  exact ⟨n, ct_L60 hN hQ n 0 hn (g7.bg w7 ⟨q10.1.2, q10.2⟩ li_0k) (by decide) hN.1⟩
theorem ct_findBlocks {Q : MS → Prop} (w : wfC U) (hN : 0 ≤ nR S r ∧ nR S r ≤ 1200) (g : VwI S r U) (h : wX3_findBlocks U Q) : wX3_findBlocks U (fun u => Q u ∧ BkC S r u) := by
  have eN : (qI U (qO U 52 0) 2).toInt = nR S r := by rw [g.1.1, g.1.2.1.1.1]; rfl
  unfold wX3_findBlocks at h ⊢
  refine ⟨h.1, fun c => ct_J45 hN (fun V a b => ⟨a, b⟩) g (by omega) (h.2.1 c), fun c => ?_⟩
  replace h := h.2.2 c
  have m2 := mul2_of (x := qI U (qO U 52 0) 2) (by omega)
  refine ⟨h.1, h.2.1, fun S1 e1 w1 S2 e2 k2 w2 => ?_⟩
  have hT : qn U < TXB := KC_TX h.2.1.2.1
  replace h := h.2.2 S1 e1 w1 S2 e2 k2 w2
  have f1 : cfr [] [(43, 2), (43, 3)] U S1 := by rw [e1]; exact cfr.new w (e1 ▸ w1)
  have f2 : cfr [] [(43, 2), (43, 3)] S1 S2 := by rw [e2]; exact cfr.oR k2 rfl
  refine ⟨h.1, h.2.1, fun S3 e3 w3 S4 e4 k4 w4 => ?_⟩
  have hT2 : qn S2 < TXB := KC_TX h.2.1.2.1
  replace h := h.2.2 S3 e3 w3 S4 e4 k4 w4
  have f3 : cfr [] [(43, 2), (43, 3)] S2 S3 := by rw [e3]; exact cfr.new w2 (e3 ▸ w3)
  have f4 : cfr [] [(43, 2), (43, 3)] S3 S4 := by rw [e4]; exact cfr.oR k4 rfl
  have F := ((f1.tr f2).tr f3).tr f4
  have n52 := w2.ne hT2 w2.k52 (by decide)
  have O3 : qR S4 52 3 = some (qn U) := by
    rw [e4, qR_wR, if_neg (fun z => absurd z.2 (by decide)), e3]
    show (if 52 = qn S2 then fun _ => none else qR S2 52) 3 = _
    rw [if_neg n52, e2, qR_wR, if_pos ⟨rfl, rfl⟩]
  have N3 : qN S4 (qn U) = ((2 : Int32) * (qI U (qO U 52 0) 2)).toInt.toNat := by
    have t1 : qT S2 (qn U) = 203 := by rw [e2, e1]; exact if_pos rfl
    rw [(f3.tr f4).1.1 _ (by rw [t1]; decide) |>.2, e2, e1]
    exact if_pos rfl
  refine ct_J45 hN (fun V a b => ⟨a, b⟩) (g.fr w F rfl rfl) ?_ h
  rw [qO_of O3, N3]
  omega
end GW
