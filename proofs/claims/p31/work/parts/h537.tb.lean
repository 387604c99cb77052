/-! Machine: what the instructions take and give, by the tables -/
abbrev odO (n : Int) : Prop := n = 178 ∨ n = 179 ∨ n = 184 ∨ n = 89 ∨ n = 90 ∨ n = 92 ∨ n = 95
theorem tb_k1 : ∀ n : Fin 202, (¬ (fX6_isBinary S00k (Int32.ofNat n.val)).toInt = 0 ∨ ¬ (fX6_isUnary S00k (Int32.ofNat n.val)).toInt = 0) → ¬ (fX6_goesOn S00k (Int32.ofNat n.val)).toInt = 0 ∧ ¬ odO (n.val : Int) := by decide +kernel
theorem tb_k2 : ∀ n : Fin 202, ¬ (fX6_isJump S00k (Int32.ofNat n.val)).toInt = 0 → ¬ odO (n.val : Int) ∧ (¬ (n.val : Int) = 167 → ¬ (fX6_goesOn S00k (Int32.ofNat n.val)).toInt = 0) := by decide +kernel
theorem tb_k3 : ∀ n : Fin 202, (n.val = 170 ∨ n.val = 171) → plK (fX6_takes S00k (Int32.ofNat n.val)) = 1 ∧ plK (fX6_gives S00k (Int32.ofNat n.val)) = 0 := by decide +kernel
theorem tb_k4 : ∀ n : Fin 202, okTab.contains n.val = true → 87 ≤ n.val → n.val ≤ 95 → plK (fX6_takes S00k (Int32.ofNat n.val)) = (shV (n.val : Int)).1 ∧ (if (n.val : Int) = 89 ∨ (n.val : Int) = 95 then 2 else if (n.val : Int) = 90 then 3 else if (n.val : Int) = 92 then 4 else plK (fX6_gives S00k (Int32.ofNat n.val))) = (shV (n.val : Int)).2 ∧ ¬ (fX6_goesOn S00k (Int32.ofNat n.val)).toInt = 0 := by decide +kernel
theorem tb_k5 : ∀ n : Fin 202, okTab.contains n.val = true → (fX6_isBinary S00k (Int32.ofNat n.val)).toInt = 0 → (fX6_isUnary S00k (Int32.ofNat n.val)).toInt = 0 → (fX6_isJump S00k (Int32.ofNat n.val)).toInt = 0 → (fX6_isSwitch S00k (Int32.ofNat n.val)).toInt = 0 → (n.val < 87 ∨ 95 < n.val) → (n.val < 172 ∨ 177 < n.val) → n.val < 178 → ¬ n.val = 46 → ¬ n.val = 79 → (n.val = 0 ∨ n.val = 1 ∨ n.val = 17 ∨ n.val = 20 ∨ n.val = 21 ∨ n.val = 22 ∨ n.val = 25 ∨ n.val = 54 ∨ n.val = 55 ∨ n.val = 58 ∨ n.val = 132) := by decide +kernel
theorem tb_k6 : ∀ n : Fin 202, okTab.contains n.val = true → 172 ≤ n.val → n.val ≤ 177 → plK (fX6_takes S00k (Int32.ofNat n.val)) = plO (fX6_takes S00k (Int32.ofNat n.val)) := by decide +kernel
theorem tb_k7 : ∀ n : Fin 202, okTab.contains n.val = true → (fX6_isJump S00k (Int32.ofNat n.val)).toInt = 0 → 178 ≤ n.val → (n.val = 178 ∨ n.val = 179 ∨ n.val = 184 ∨ n.val = 188 ∨ n.val = 190 ∨ n.val = 191) := by decide +kernel
theorem tb_k8 : plK (fX6_takes S00k 188) = 1 ∧ plK (fX6_gives S00k 188) = 1 ∧ plK (fX6_takes S00k 190) = 1 ∧ plK (fX6_gives S00k 190) = 1 ∧ plK (fX6_takes S00k 191) = 1 ∧ plK (fX6_takes S00k 46) = 2 ∧ plK (fX6_gives S00k 46) = 1 ∧ plK (fX6_takes S00k 79) = 3 ∧ plK (fX6_gives S00k 79) = 0 ∧ plK (fX6_takes S00k 178) = 0 ∧ plK (fX6_gives S00k 179) = 0 := by decide +kernel
theorem tb_k9 : ∀ n : Fin 202, (n.val = 0 ∨ n.val = 1 ∨ n.val = 17 ∨ n.val = 20 ∨ n.val = 21 ∨ n.val = 22 ∨ n.val = 25 ∨ n.val = 54 ∨ n.val = 55 ∨ n.val = 58 ∨ n.val = 132) → ¬ odO (n.val : Int) ∧ ¬ (fX6_goesOn S00k (Int32.ofNat n.val)).toInt = 0 ∧ (¬ n.val = 0 → ¬ n.val = 1 → ¬ n.val = 17 → ¬ n.val = 20 → ¬ (fX6_usesLocal S00k (Int32.ofNat n.val)).toInt = 0) := by decide +kernel
theorem tb_kk : ∀ n : Fin 16, plK (Int32.ofNat n.val) = plO (Int32.ofNat n.val) := by decide +kernel
section MTC
variable {S : MS} {o k : Int32}
theorem kd_pl (h : 0 ≤ k.toInt ∧ k.toInt ≤ 15) : plK k = plO k := by
  have e := i32nk h.1
  have z := tb_kk ⟨k.toInt.toNat, by omega⟩
  rw [← e] at z
  exact z
theorem fin_o (h : 0 ≤ o.toInt ∧ o.toInt < 202) {P : Nat → Int32 → Prop} (z : ∀ n : Fin 202, P n.val (Int32.ofNat n.val)) : P o.toInt.toNat o := by
  have y := z ⟨o.toInt.toNat, by omega⟩
  rw [← i32nk h.1] at y
  exact y
theorem od_n {n : Nat} (h : ¬ odO (n : Int)) (e : (n : Int) = o.toInt) : ¬ odO o.toInt := by rw [← e]; exact h
theorem k_bu (h : 0 ≤ o.toInt ∧ o.toInt < 202) (b : ¬ (fX6_isBinary S o).toInt = 0 ∨ ¬ (fX6_isUnary S o).toInt = 0) : ¬ (fX6_goesOn S o).toInt = 0 ∧ ¬ odO o.toInt := by
  have z := fin_o h (P := fun n x => (¬ (fX6_isBinary S00k x).toInt = 0 ∨ ¬ (fX6_isUnary S00k x).toInt = 0) → ¬ (fX6_goesOn S00k x).toInt = 0 ∧ ¬ odO (n : Int)) tb_k1
  obtain ⟨a, c⟩ := z b
  exact ⟨a, od_n c (by omega)⟩
theorem k_jm (h : 0 ≤ o.toInt ∧ o.toInt < 202) (b : ¬ (fX6_isJump S o).toInt = 0) : ¬ odO o.toInt ∧ (¬ o.toInt = 167 → ¬ (fX6_goesOn S o).toInt = 0) := by
  have z := fin_o h (P := fun n x => ¬ (fX6_isJump S00k x).toInt = 0 → ¬ odO (n : Int) ∧ (¬ (n : Int) = 167 → ¬ (fX6_goesOn S00k x).toInt = 0)) tb_k2
  obtain ⟨a, c⟩ := z b
  exact ⟨od_n a (by omega), fun d => c (by omega)⟩
theorem k_sw (h : 0 ≤ o.toInt ∧ o.toInt < 202) (b : o.toInt = 170 ∨ o.toInt = 171) : plK (fX6_takes S o) = 1 ∧ plK (fX6_gives S o) = 0 := by
  have z := fin_o h (P := fun n x => (n = 170 ∨ n = 171) → plK (fX6_takes S00k x) = 1 ∧ plK (fX6_gives S00k x) = 0) tb_k3
  exact z (by omega)
theorem k_sh (h : okOp o.toInt) (h1 : 87 ≤ o.toInt) (h2 : o.toInt ≤ 95) : plK (fX6_takes S o) = (shV o.toInt).1 ∧ (if o.toInt = 89 ∨ o.toInt = 95 then 2 else if o.toInt = 90 then 3 else if o.toInt = 92 then 4 else plK (fX6_gives S o)) = (shV o.toInt).2 ∧ ¬ (fX6_goesOn S o).toInt = 0 := by
  have z := fin_o ⟨h.1, h.2.1⟩ (P := fun n x => okTab.contains n = true → 87 ≤ n → n ≤ 95 → plK (fX6_takes S00k x) = (shV (n : Int)).1 ∧ (if (n : Int) = 89 ∨ (n : Int) = 95 then 2 else if (n : Int) = 90 then 3 else if (n : Int) = 92 then 4 else plK (fX6_gives S00k x)) = (shV (n : Int)).2 ∧ ¬ (fX6_goesOn S00k x).toInt = 0) tb_k4
  have e : ((o.toInt.toNat : Nat) : Int) = o.toInt := by have := h.1; omega
  rw [e] at z
  exact z h.2.2 (by omega) (by omega)
theorem k_mv (h : okOp o.toInt) (n1 : (fX6_isBinary S o).toInt = 0) (n2 : (fX6_isUnary S o).toInt = 0) (n3 : (fX6_isJump S o).toInt = 0) (n4 : (fX6_isSwitch S o).toInt = 0) (n5 : o.toInt < 87 ∨ 95 < o.toInt) (n6 : o.toInt < 172 ∨ 177 < o.toInt) (n7 : o.toInt < 178) (n8 : ¬ o.toInt = 46) (n9 : ¬ o.toInt = 79) : isMv o.toInt := by
  have z := fin_o ⟨h.1, h.2.1⟩ (P := fun n x => okTab.contains n = true → (fX6_isBinary S00k x).toInt = 0 → (fX6_isUnary S00k x).toInt = 0 → (fX6_isJump S00k x).toInt = 0 → (fX6_isSwitch S00k x).toInt = 0 → (n < 87 ∨ 95 < n) → (n < 172 ∨ 177 < n) → n < 178 → ¬ n = 46 → ¬ n = 79 → (n = 0 ∨ n = 1 ∨ n = 17 ∨ n = 20 ∨ n = 21 ∨ n = 22 ∨ n = 25 ∨ n = 54 ∨ n = 55 ∨ n = 58 ∨ n = 132)) tb_k5
  have h0 := h.1
  have y := z h.2.2 n1 n2 n3 n4 (by omega) (by omega) (by omega) (by omega) (by omega)
  unfold isMv
  omega
theorem k_rt (h : okOp o.toInt) (h1 : 172 ≤ o.toInt) (h2 : o.toInt ≤ 177) : plK (fX6_takes S o) = plO (fX6_takes S o) := by
  have z := fin_o ⟨h.1, h.2.1⟩ (P := fun n x => okTab.contains n = true → 172 ≤ n → n ≤ 177 → plK (fX6_takes S00k x) = plO (fX6_takes S00k x)) tb_k6
  exact z h.2.2 (by omega) (by omega)
theorem k_us (h : okOp o.toInt) (n3 : (fX6_isJump S o).toInt = 0) (h1 : 178 ≤ o.toInt) : o.toInt = 178 ∨ o.toInt = 179 ∨ o.toInt = 184 ∨ o.toInt = 188 ∨ o.toInt = 190 ∨ o.toInt = 191 := by
  have z := fin_o ⟨h.1, h.2.1⟩ (P := fun n x => okTab.contains n = true → (fX6_isJump S00k x).toInt = 0 → 178 ≤ n → (n = 178 ∨ n = 179 ∨ n = 184 ∨ n = 188 ∨ n = 190 ∨ n = 191)) tb_k7
  have y := z h.2.2 n3 (by omega)
  omega
theorem k_ml (h : isMv o.toInt) : ¬ odO o.toInt ∧ ¬ (fX6_goesOn S o).toInt = 0 ∧ (¬ o.toInt = 0 → ¬ o.toInt = 1 → ¬ o.toInt = 17 → ¬ o.toInt = 20 → ¬ (fX6_usesLocal S o).toInt = 0) := by
  have r : 0 ≤ o.toInt ∧ o.toInt < 202 := by unfold isMv at h; omega
  have z := fin_o r (P := fun n x => (n = 0 ∨ n = 1 ∨ n = 17 ∨ n = 20 ∨ n = 21 ∨ n = 22 ∨ n = 25 ∨ n = 54 ∨ n = 55 ∨ n = 58 ∨ n = 132) → ¬ odO (n : Int) ∧ ¬ (fX6_goesOn S00k x).toInt = 0 ∧ (¬ n = 0 → ¬ n = 1 → ¬ n = 17 → ¬ n = 20 → ¬ (fX6_usesLocal S00k x).toInt = 0)) tb_k9
  obtain ⟨a, b, c⟩ := z (by unfold isMv at h; omega)
  exact ⟨od_n a (by omega), b, fun c1 c2 c3 c4 => c (by omega) (by omega) (by omega) (by omega)⟩
theorem o_eq {n : Nat} (h : o.toInt = (n : Int)) : o = Int32.ofNat n := by
  have e := i32nk (x := o) (by omega)
  rw [e]
  congr 1
  omega
end MTC
/-! Machine: what an instruction that is no field, call or shuffle leaves -/
section MLF
variable {A S : MS} {q r : Nat} {x : Int32}
theorem nd_pl (h : ¬ odO (fX8_opAt A r x).toInt) : ndW A q r x = plK (fX6_takes A (fX8_opAt A r x)) ∧ pgV A q r x = plK (fX6_gives A (fX8_opAt A r x)) := by
  unfold odO at h
  unfold ndW pgV fX10_takes fX10_gives
  rw [if_neg (by omega), if_neg (by omega), if_neg (by omega), if_neg (by omega), if_neg (by omega), if_neg (by omega), if_neg (by omega)]
  exact ⟨rfl, rfl⟩
theorem nd_sh (h1 : 87 ≤ (fX8_opAt A r x).toInt) (h2 : (fX8_opAt A r x).toInt ≤ 95) (k : okOp (fX8_opAt A r x).toInt) : ndW A q r x = (shV (fX8_opAt A r x).toInt).1 ∧ pgV A q r x = (shV (fX8_opAt A r x).toInt).2 := by
  obtain ⟨a, b, c⟩ := k_sh (S := A) k h1 h2
  unfold ndW pgV fX10_takes fX10_gives
  rw [if_neg (by omega), if_neg (by omega), if_neg (show ¬ (fX8_opAt A r x).toInt = 178 by omega), if_neg (show ¬ (fX8_opAt A r x).toInt = 184 by omega)]
  exact ⟨a, b⟩
end MLF
/-! Machine: elements, lengths, throws, returns -/
def KW : List Nat := [215, 216, 402, 404, 405]
def FW : List (Nat × Nat) := [(45, 2), (45, 3), (45, 4), (45, 5), (45, 7), (45, 13), (45, 14), (45, 15), (45, 16), (45, 17), (45, 18)]
section MSA
variable {A S u v U V : MS} {q r m d : Nat} {C : Nat → Nat → Prop} {x y : Int32} {z : Int64} {Q : MS → Prop} {G : MS → Prop}
theorem Y3E.mvx (w : wfC S) (h : Y3E A q S) (f : cfr KW FW S v) (ar : ArIk v) : Y3E A q v := by
  obtain ⟨a, b, c, d, e⟩ := h
  exact ⟨a.tr (f.mo rfl rfl), by rw [f.kO w.k44 (by decide) (by decide)]; exact b, by rw [f.kI w.k44 (by decide) (by decide)]; exact c, d.fr w f (by decide) (by decide) (by decide) (by decide), ar⟩
theorem dp_fx (w : wfC S) (f : cfr KW FW S v) : dpM v = dpM S := by unfold dpM; rw [f.kI w.k44 (by decide) (by decide)]
theorem fm_fx (w : wfC S) (f : cfr KW FW S v) (j : Nat) : qI v 51 j = qI S 51 j := f.kI w.k51 (by decide) (okO_n (F := FW) (by decide) (by decide))
theorem md_fx (w : wfC S) (f : cfr KW FW S v) : mD v (dpM v) = mD S (dpM S) := by unfold mD; rw [dp_fx w f, fm_fx w f]
theorem Y3B.mvx (w : wfC S) (h : Y3B A q C S) (f : cfr KW FW S v) (ar : ArIk v) (hp : PcI A q C (mD S (dpM S)) (qI v 44 13)) : Y3B A q C v := by
  obtain ⟨a, b, c, d, e⟩ := h
  refine ⟨a.mvx w f ar, fun d hd => (b d (by rw [dp_fx w f] at hd; exact hd)).eq (fun j _ => fm_fx w f j), by rw [dp_fx w f, fm_fx w f]; exact c, by rw [md_fx w f]; exact hp, ?_⟩
  rw [md_fx w f, f.kO w.k44 (by decide) (by decide)]
  exact e
/-- on to the next instruction, by what the height there is -/
theorem Y3I.gx (w : wfC S) (M : MdA A q C) (h : Y3B A q C S) (f : cfr KW FW S v) (ar : ArIk v) (ho : ¬ (fX6_goesOn A (fX8_opAt A (rwM A q (mD S (dpM S))) (qI S 44 13))).toInt = 0) (ht : tpM v = lfV A q (rwM A q (mD S (dpM S))) (qI S 44 13) (fX8_heightAt A (rwM A q (mD S (dpM S))) (qI S 44 13)).toInt) (hp : qI v 44 13 = qI S 44 13 + 1) : Y3I A q C v := by
  obtain ⟨hg, _, _⟩ := h.hg M
  obtain ⟨h1, h2, _, _⟩ := hg
  obtain ⟨n1, n2, n3⟩ := h2 ho
  have hb := h
  obtain ⟨a, b, c, ⟨d1, d2, d3⟩, e⟩ := h
  obtain ⟨md, ch, pt⟩ := M.2 _ d1
  have l1 := li_1k
  have rb : nR A (rwM A q (mD S (dpM S))) ≤ 1296 := by have := md.2.2.1.2; unfold nR; omega
  have e1 : (qI S 44 13 + 1).toInt = (qI S 44 13).toInt + 1 := by rw [t_addk (by rw [l1]; omega), l1]
  have P : PcI A q C (mD S (dpM S)) (qI v 44 13) := by rw [hp]; exact ⟨d1, ⟨by omega, n1⟩, n2⟩
  refine ⟨hb.mvx w f ar P, ?_, ?_⟩
  · rw [md_fx w f, hp, n3, ht]
  · rw [ht]
    have := pt.1
    omega
theorem Y3B.pp (w : wfC S) (h : Y3B A q C S) (f : cfr KV FV S v) (e : qI v 44 13 = qI S 44 13) : Y3B A q C v := h.mv w f (by rw [e]; exact h.2.2.2.1)
theorem tp_fr {K : List Nat} {F : List (Nat × Nat)} (w : wfC S) (f : cfr K F S v) (h1 : K.contains 45 = false) (h2 : F.contains (45, 14) = false) : tpM v = tpM S := by unfold tpM; rw [f.kI w.k44 h1 h2]
theorem ct_mtell (w : wfC S) (m : Mx S) (ht : 0 ≤ tpM S ∧ tpM S < 24) (hG : ∀ u, cfr [405] [(45, 13), (45, 14)] S u → tpM u = tpM S + 1 → qI u 44 13 = qI S 44 13 + 1 → G u) (hr : ∀ (k : Int32) (Qr : MS → Prop), wX5_raise S k Qr → wX5_raise S k (fun u => Qr u ∧ G u)) (h : wX5_tellLength S z Q) : wX5_tellLength S z (fun u => Q u ∧ G u) := by
  unfold wX5_tellLength at h ⊢
  refine ⟨fun c => ?_, fun c => ?_⟩
  · obtain ⟨Q11, p11, h11⟩ := h.1 c
    exact ⟨_, hr _ Q11 p11, fun S12 g w' s => ⟨h11 S12 g.1 w' s, g.2⟩⟩
  · obtain ⟨d, Q6, p6, h6⟩ := h.2 c
    refine ⟨d, _, ct_mpush m ht p6, ?_⟩
    rintro S7 ⟨⟨g7, t7⟩, f7⟩ w7 s7 S10 e10 k10 w10
    have f10 : cfr [] [(45, 13)] S7 S10 := by rw [e10]; exact cfr.oI k10 rfl
    refine ⟨h6 S7 g7 w7 s7 S10 e10 k10 w10, hG S10 ((f7.mo rfl rfl).tr (f10.mo rfl rfl)) ?_ ?_⟩
    · rw [tp_fr w7 f10 rfl rfl, t7]
    · rw [e10, qI_wI, if_pos ⟨rfl, rfl⟩, f7.kI w.k44 (by decide) (by decide)]
theorem ct_mthrow (hr : ∀ (k : Int32) (Qr : MS → Prop), wX5_raise S k Qr → wX5_raise S k (fun u => Qr u ∧ G u)) (h : wX5_throwIt S z Q) : wX5_throwIt S z (fun u => Q u ∧ G u) := by
  have J : w_X5_throwIt_J24 Q S → w_X5_throwIt_J24 (fun u => Q u ∧ G u) S := fun hj => by
    unfold w_X5_throwIt_J24 at hj ⊢
    intro w
    obtain ⟨Q2, p2, h2⟩ := hj w
    exact ⟨_, hr _ Q2 p2, fun S3 g w' s => ⟨h2 S3 g.1 w' s, g.2⟩⟩
  unfold wX5_throwIt at h ⊢
  refine ⟨fun c => J (h.1 c), fun c => ⟨fun c2 => J ((h.2 c).1 c2), fun c2 => ?_⟩⟩
  obtain ⟨Q9, p9, h9⟩ := (h.2 c).2 c2
  exact ⟨_, hr _ Q9 p9, fun S3 g w' s => ⟨h9 S3 g.1 w' s, g.2⟩⟩
/-- an element of an array is in the heap -/
theorem ArIk.el (h : ArIk S) (hi : 0 ≤ y.toInt) (hl : y.toInt < (fX5_lengthOf S x).toInt) : 0 ≤ ((fX5_arrayStart S x) + y).toInt ∧ ((fX5_arrayStart S x) + y).toInt < (qI S 44 3).toInt ∧ ((fX5_arrayStart S x) + y).toInt < (qN S (qO S 44 2) : Int) := by
  obtain ⟨⟨a0, a1, a2⟩, ⟨b0, b1, b2⟩, c⟩ := h
  have l1 := li_1k
  have m1 : (-1 : Int32).toInt = -1 := by decide
  have k1 : (1 : Int64).toInt = 1 := by decide
  unfold fX5_lengthOf at hl
  by_cases z : (fX5_isArray S (x.toInt64)).toInt = 0
  · rw [if_pos z] at hl; omega
  rw [if_neg z] at hl
  have rx : 1 ≤ x.toInt ∧ x.toInt ≤ (qI S 44 5).toInt := by
    unfold fX5_isArray at z
    by_cases c1 : (lg_cmp x.toInt64 1).toInt < 0
    · rw [if_pos c1] at z; exact absurd (show (f_X5_isArray_J20 S).toInt = 0 from rfl) z
    rw [if_neg c1] at z
    by_cases c2 : 0 < (lg_cmp x.toInt64 ((qI S 44 5).toInt64)).toInt
    · rw [if_pos c2] at z; exact absurd (show (f_X5_isArray_J20 S).toInt = 0 from rfl) z
    have t1 := c_cmpk (x := x.toInt64) (y := 1)
    have t2 := c_cmpk (x := x.toInt64) (y := (qI S 44 5).toInt64)
    rw [i64_toInt] at t1 t2
    rw [i64_toInt] at t2
    rw [k1] at t1
    constructor <;> omega
  have s1 : fX5_arrayStart S x = qI S (qO S 44 4) x.toInt.toNat := by
    unfold fX5_arrayStart
    rw [if_pos rx.2, if_neg (by omega), if_pos (by omega)]
  have e1 := c x.toInt.toNat (by omega) (by omega)
  have x1 : (x + (1 : Int32)).toInt = x.toInt + 1 := by rw [t_addk (by rw [l1]; omega), l1]
  have s2 : (fX5_arrayStart S (x + (1 : Int32))).toInt ≤ (qI S 44 3).toInt ∧ 0 ≤ (fX5_arrayStart S (x + (1 : Int32))).toInt := by
    unfold fX5_arrayStart
    by_cases c1 : (x + (1 : Int32)).toInt ≤ (qI S 44 5).toInt
    · rw [if_pos c1, if_neg (by omega), if_pos (by omega)]
      have := c (x + (1 : Int32)).toInt.toNat (by omega) (by omega)
      omega
    · rw [if_neg c1]; omega
  rw [s1] at hl ⊢
  rw [t_subk (by omega)] at hl
  rw [t_addk (by omega)]
  omega
theorem ct_muel (w : wfC S) (m : Mx S) (ar : ArIk S) (hx : x.toInt = 46 ∨ x.toInt = 79) (ht : (if x.toInt = 46 then 2 else 3) ≤ tpM S ∧ tpM S ≤ 24) (hG : ∀ u, cfr [215, 405] [(45, 13), (45, 14)] S u → tpM u = tpM S - (if x.toInt = 46 then 2 else 3) + (if x.toInt = 46 then 1 else 0) → qI u 44 13 = qI S 44 13 + 1 → G u) (hr : ∀ (U : MS) (k : Int32) (Qr : MS → Prop), wfC U → cfr [] [(45, 14)] S U → wX5_raise U k Qr → wX5_raise U k (fun u => Qr u ∧ G u)) (h : wX5_useElement S x Q) : wX5_useElement S x (fun u => Q u ∧ G u) := by
  have J15 : ∀ (U : MS) (t : Int32), wfC U → cfr [] [(45, 14)] S U → tpM U = tpM S - (if x.toInt = 46 then 0 else 1) → w_X5_useElement_J15 Q U t x → w_X5_useElement_J15 (fun u => Q u ∧ G u) U t x := fun U t wU fU tU hj => by
    have mU := m.fr w fU (by decide) (by decide) (by decide) (by decide)
    have ct : 2 ≤ tpM U ∧ tpM U ≤ 24 := by
      by_cases c : x.toInt = 46
      · rw [if_pos c] at ht tU; omega
      · rw [if_neg c] at ht tU; omega
    unfold w_X5_useElement_J15 at hj ⊢
    intro w'
    obtain ⟨Q1, p1, h1⟩ := hj w'
    refine ⟨_, ct_mpop mU ⟨by omega, by omega⟩ p1, ?_⟩
    rintro r2 S3 ⟨⟨g3, t3⟩, f3⟩ w3 s3 a5 e5
    obtain ⟨Q6, p6, h6⟩ := h1 r2 S3 g3 w3 s3 a5 e5
    have m3 := mU.fr wU f3 (by decide) (by decide) (by decide) (by decide)
    refine ⟨_, ct_mpop m3 ⟨by omega, by omega⟩ p6, ?_⟩
    rintro r7 S8 ⟨⟨g8, t8⟩, f8⟩ w8 s8 a10 e10
    obtain ⟨h7, h8⟩ := h6 r7 S8 g8 w8 s8 a10 e10
    have m8 := m3.fr w3 f8 (by decide) (by decide) (by decide) (by decide)
    have F8 : cfr [] [(45, 14)] S S8 := (fU.tr f3).tr f8
    have ar8 : ArIk S8 := ar.mv w F8 rfl rfl rfl rfl
    have T8 : tpM S8 = tpM S - (if x.toInt = 46 then 2 else 3) := by
      by_cases c : x.toInt = 46
      · rw [if_pos c] at tU ⊢; omega
      · rw [if_neg c] at tU ⊢; omega
    have P8 : qI S8 44 13 = qI S 44 13 := F8.kI w.k44 (by decide) (by decide)
    have J54 : w_X5_useElement_J54 Q S8 → w_X5_useElement_J54 (fun u => Q u ∧ G u) S8 := fun hk => by
      unfold w_X5_useElement_J54 at hk ⊢
      intro w'
      obtain ⟨Q12, p12, h12⟩ := hk w'
      exact ⟨_, hr S8 _ Q12 w8 F8 p12, fun S13 g w' s => ⟨h12 S13 g.1 w' s, g.2⟩⟩
    have J113 : ∀ V : MS, wfC V → cfr [215, 405] [(45, 14)] S8 V → tpM V = tpM S8 + (if x.toInt = 46 then 1 else 0) → w_X5_useElement_J113 Q V → w_X5_useElement_J113 (fun u => Q u ∧ G u) V := fun V wV fV tV hk => by
      unfold w_X5_useElement_J113 at hk ⊢
      intro w' S26 e26 k26 w26
      have f26 : cfr [] [(45, 13)] V S26 := by rw [e26]; exact cfr.oI k26 rfl
      refine ⟨hk w' S26 e26 k26 w26, hG S26 (((F8.mo rfl rfl).tr (fV.mo rfl rfl)).tr (f26.mo rfl rfl)) ?_ ?_⟩
      · rw [tp_fr wV f26 rfl rfl, tV, T8]
      · rw [e26, qI_wI, if_pos ⟨rfl, rfl⟩, fV.kI w8.k44 (by decide) (by decide), P8]
    refine ⟨fun c1 => ?_, fun c1 => ?_⟩
    · obtain ⟨Q42, p42, h42⟩ := h7 c1
      exact ⟨_, hr S8 _ Q42 w8 F8 p42, fun S13 g w' s => ⟨h42 S13 g.1 w' s, g.2⟩⟩
    obtain ⟨h9, h10⟩ := h8 c1
    refine ⟨fun c2 => J54 (h9 c2), fun c2 => ?_⟩
    obtain ⟨d, h11, h12⟩ := h10 c2
    refine ⟨d, fun c3 => ?_, fun c3 => J54 (h12 c3)⟩
    obtain ⟨d2, h13⟩ := h11 c3
    refine ⟨d2, fun a24 e24 => ?_⟩
    have el := ar8.el (x := a10) (y := a5) (by omega) c3
    rw [← e24] at el
    obtain ⟨h14, h15⟩ := h13 a24 e24
    refine ⟨fun c4 => ?_, fun c4 => ?_⟩
    · obtain ⟨Q35, p35, h35⟩ := h14 c4
      refine ⟨_, ct_mheap el p35, ?_⟩
      rintro r36 S37 ⟨g37, e37⟩ w37 s37
      have h36 := h35 r36 S37 g37 w37 s37
      rw [e37] at h36 ⊢
      obtain ⟨Q39, p39, h39⟩ := h36
      rw [if_pos c4] at T8 ht
      refine ⟨_, ct_mpush m8 ⟨by omega, by omega⟩ p39, ?_⟩
      rintro S40 ⟨⟨g40, t40⟩, f40⟩ w40 s40
      exact J113 S40 w40 (f40.mo rfl rfl) (by rw [if_pos c4]; exact t40) (h39 S40 g40 w40 s40)
    · obtain ⟨h16, h17⟩ := h15 c4
      refine ⟨fun c5 => absurd c5 (by omega), fun c5 => ?_⟩
      obtain ⟨h18, h19⟩ := h17 c5
      refine ⟨fun c6 => absurd c6 (by omega), fun c6 => ?_⟩
      obtain ⟨b, h20⟩ := h19 c6
      refine ⟨b, fun S34 e34 k34 w34 => ?_⟩
      have f34 : cfr [215] [] S8 S34 := by rw [e34]; exact cfr.aI k34 rfl
      exact J113 S34 w34 (f34.mo rfl rfl) (by rw [tp_fr w8 f34 rfl rfl, if_neg c4]; omega) (h20 S34 e34 k34 w34)
  unfold wX5_useElement at h ⊢
  refine ⟨fun c => ?_, fun c => J15 S 0 w cfr.rf (by rw [if_pos (by omega)]; omega) (h.2 c)⟩
  obtain ⟨Q46, p46, h46⟩ := h.1 c
  have n46 : ¬ x.toInt = 46 := by omega
  refine ⟨_, ct_mpop m (by rw [if_neg n46] at ht; omega) p46, ?_⟩
  rintro r47 S48 ⟨⟨g48, t48⟩, f48⟩ w48 s48
  exact J15 S48 _ w48 f48 (by rw [if_neg n46]; exact t48) (h46 r47 S48 g48 w48 s48)
end MSA
/-! Machine: a new array -/
def FA : List (Nat × Nat) := [(45, 2), (45, 3), (45, 4), (45, 5)]
/-- on the way: the new array's number is told, its place not yet -/
def MaR (S : MS) (v : Int32) (U : MS) : Prop := cfr [215, 216] FA S U ∧ (1 ≤ (qI U 44 5).toInt ∧ (qI U 44 5).toInt ≤ 400) ∧ (0 ≤ (qI U 44 3).toInt ∧ 0 ≤ v.toInt ∧ (qI U 44 3).toInt + v.toInt ≤ 20000) ∧ ∀ a : Nat, 1 ≤ a → (a : Int) < (qI U 44 5).toInt → 0 ≤ (qI U (qO U 44 4) a).toInt ∧ (qI U (qO U 44 4) a).toInt ≤ (qI U 44 3).toInt
def MaQ (S : MS) (v : Int32) (U : MS) : Prop := MaR S v U ∧ (qI U 44 5).toInt < (qN U (qO U 44 4) : Int) ∧ (qI U 44 3).toInt + v.toInt ≤ (qN U (qO U 44 2) : Int) ∧ 0 ≤ (qI U (qO U 44 4) (qI U 44 5).toInt.toNat).toInt ∧ (qI U (qO U 44 4) (qI U 44 5).toInt.toNat).toInt ≤ (qI U 44 3).toInt
section MAA
variable {S u v U V : MS} {x y k : Int32} {Q : MS → Prop} {G : MS → Prop}
theorem ma_J167 (wS : wfC S) (m : Mx S) (ht : 0 ≤ tpM S ∧ tpM S < 24) (hG : ∀ u, cfr KW FW S u → ArIk u → tpM u = tpM S + 1 → qI u 44 13 = qI S 44 13 + 1 → G u) (p : MaQ S k U) (hj : w_X5_makeArray_J167 Q U k) : w_X5_makeArray_J167 (fun u => Q u ∧ G u) U k := by
  unfold w_X5_makeArray_J167 at hj ⊢
  intro w S19 e19 k19 w19
  obtain ⟨Q20, p20, h20⟩ := hj w S19 e19 k19 w19
  obtain ⟨⟨f, a, b, c⟩, p1, p2, p3, p4⟩ := p
  have f19 : cfr [] [(45, 3)] U S19 := by rw [e19]; exact cfr.oI k19 rfl
  have k4 : qT U (qO U 44 4) = 216 := w.ref (w.ptr (by decide)) w.k44
  have F19 : cfr [215, 216] FA S S19 := f.tr (f19.mo rfl rfl)
  have m19 : Mx S19 := m.fr wS F19 (by decide) (by decide) (by decide) (by decide)
  have T19 : tpM S19 = tpM S := tp_fr wS F19 rfl rfl
  have u3 : (qI S19 44 3).toInt = (qI U 44 3).toInt + k.toInt := by rw [e19, qI_wI, if_pos ⟨rfl, rfl⟩, t_addk (by omega)]
  have u5 : qI S19 44 5 = qI U 44 5 := f19.kI w.k44 (by decide) (by decide)
  have o4 : qO S19 44 4 = qO U 44 4 := qO_eq (f19.kO w.k44 (by decide) (by decide))
  have l4 := f19.kL (j := 4) w w.k44 (w.ptr (by decide)) (by decide) (by decide)
  have l2 := f19.kL (j := 2) w w.k44 (w.ptr (by decide)) (by decide) (by decide)
  have i4 : ∀ j, qI S19 (qO U 44 4) j = qI U (qO U 44 4) j := fun j => f19.kI k4 (by decide) (okO_n (F := [(45, 3)]) (by decide) (by decide))
  have ar : ArIk S19 := by
    refine ⟨by rw [u5, l4]; omega, by rw [u3, l2]; omega, fun j h1 h2 => ?_⟩
    rw [u5] at h2
    rw [o4, i4, u3]
    by_cases z : (j : Int) < (qI U 44 5).toInt
    · have := c j h1 z; omega
    · have e : j = (qI U 44 5).toInt.toNat := by omega
      rw [e]; omega
  refine ⟨_, ct_mpush m19 (by rw [T19]; exact ht) p20, ?_⟩
  rintro S21 ⟨⟨g21, t21⟩, f21⟩ w21 s21 S24 e24 k24 w24
  have f24 : cfr [] [(45, 13)] S21 S24 := by rw [e24]; exact cfr.oI k24 rfl
  have F24 : cfr [405] [(45, 13), (45, 14)] S19 S24 := (f21.mo rfl rfl).tr (f24.mo rfl rfl)
  refine ⟨h20 S21 g21 w21 s21 S24 e24 k24 w24, hG S24 ((F19.mo rfl rfl).tr (F24.mo rfl rfl)) (ar.mv w19 F24 rfl rfl rfl rfl) ?_ ?_⟩
  · rw [tp_fr w21 f24 rfl rfl, t21, T19]
  · rw [e24, qI_wI, if_pos ⟨rfl, rfl⟩, f21.kI w19.k44 (by decide) (by decide), F19.kI wS.k44 (by decide) (by decide)]
theorem MaQ.mv (w : wfC U) (p : MaQ S k U) (f : cfr [215] [] U V) : MaQ S k V := by
  obtain ⟨⟨f0, a, b, c⟩, p1, p2, p3, p4⟩ := p
  have k4 : qT U (qO U 44 4) = 216 := w.ref (w.ptr (by decide)) w.k44
  have u3 : qI V 44 3 = qI U 44 3 := f.kI w.k44 (by decide) (by decide)
  have u5 : qI V 44 5 = qI U 44 5 := f.kI w.k44 (by decide) (by decide)
  have o4 : qO V 44 4 = qO U 44 4 := qO_eq (f.kO w.k44 (by decide) (by decide))
  have l4 := f.kL (j := 4) w w.k44 (w.ptr (by decide)) (by decide) (by decide)
  have l2 := f.kL (j := 2) w w.k44 (w.ptr (by decide)) (by decide) (by decide)
  have i4 : ∀ j, qI V (qO U 44 4) j = qI U (qO U 44 4) j := fun j => f.kI k4 (by decide) rfl
  refine ⟨⟨f0.tr (f.mo rfl rfl), by rw [u5]; exact a, by rw [u3]; exact b, fun j h1 h2 => ?_⟩, by rw [u5, l4]; exact p1, by rw [u3, l2]; exact p2, by rw [o4, u5, i4]; exact p3, by rw [o4, u5, i4, u3]; exact p4⟩
  rw [u5] at h2
  rw [o4, i4, u3]
  exact c j h1 h2
theorem ma_L135 (wS : wfC S) (m : Mx S) (ht : 0 ≤ tpM S ∧ tpM S < 24) (hG : ∀ u, cfr KW FW S u → ArIk u → tpM u = tpM S + 1 → qI u 44 13 = qI S 44 13 + 1 → G u) : ∀ (n : Nat) {U : MS} {v2 : Int32}, MaQ S k U → w_X5_makeArray_L135 Q n U k v2 → w_X5_makeArray_L135 (fun u => Q u ∧ G u) n U k v2 := by
  intro n
  induction n with
  | zero => intro U v2 p h; exact h
  | succ n ih =>
    intro U v2 p h
    unfold w_X5_makeArray_L135 at h ⊢
    intro w
    obtain ⟨h1, h2⟩ := h w
    refine ⟨fun c => ma_J167 wS m ht hG p (h1 c), fun c => ?_⟩
    obtain ⟨h3, h4⟩ := h2 c
    refine ⟨fun c2 => ma_J167 wS m ht hG p (h3 c2), fun c2 => ?_⟩
    obtain ⟨b, h5⟩ := h4 c2
    refine ⟨b, fun S31 e31 k31 w31 a32 e32 => ?_⟩
    exact ih (p.mv w (by rw [e31]; exact cfr.aI k31 rfl)) (h5 S31 e31 k31 w31 a32 e32)
theorem ma_J117 (wS : wfC S) (m : Mx S) (ht : 0 ≤ tpM S ∧ tpM S < 24) (hG : ∀ u, cfr KW FW S u → ArIk u → tpM u = tpM S + 1 → qI u 44 13 = qI S 44 13 + 1 → G u) (p : MaR S k U) (p1 : (qI U 44 5).toInt < (qN U (qO U 44 4) : Int)) (p2 : (qI U 44 3).toInt + k.toInt ≤ (qN U (qO U 44 2) : Int)) (hj : w_X5_makeArray_J117 Q U k) : w_X5_makeArray_J117 (fun u => Q u ∧ G u) U k := by
  unfold w_X5_makeArray_J117 at hj ⊢
  intro w
  obtain ⟨b0, h1⟩ := hj w
  refine ⟨b0, fun S15 e15 k15 w15 a16 e16 => ?_⟩
  obtain ⟨n, h2⟩ := h1 S15 e15 k15 w15 a16 e16
  refine ⟨n, ma_L135 wS m ht hG n ?_ h2⟩
  obtain ⟨f0, a, b, c⟩ := p
  have f : cfr [216] [] U S15 := by rw [e15]; exact cfr.aI k15 rfl
  have u3 : qI S15 44 3 = qI U 44 3 := f.kI w.k44 (by decide) (by decide)
  have u5 : qI S15 44 5 = qI U 44 5 := f.kI w.k44 (by decide) (by decide)
  have o4 : qO S15 44 4 = qO U 44 4 := qO_eq (f.kO w.k44 (by decide) (by decide))
  have l4 := f.kL (j := 4) w w.k44 (w.ptr (by decide)) (by decide) (by decide)
  have l2 := f.kL (j := 2) w w.k44 (w.ptr (by decide)) (by decide) (by decide)
  have i4 : ∀ j, qI S15 (qO U 44 4) j = if j = (qI U 44 5).toInt.toNat then qI U 44 3 else qI U (qO U 44 4) j := fun j => by
    rw [e15, qI_wI]
    by_cases z : j = (qI U 44 5).toInt.toNat
    · rw [if_pos ⟨rfl, z⟩, if_pos z]
    · rw [if_neg (fun q => z q.2), if_neg z]
  refine ⟨⟨f0.tr (f.mo rfl rfl), by rw [u5]; exact a, by rw [u3]; exact b, fun j h1 h2 => ?_⟩, by rw [u5, l4]; exact p1, by rw [u3, l2]; exact p2, ?_, ?_⟩
  · rw [u5] at h2
    rw [o4, i4, u3, if_neg (by omega)]
    exact c j h1 h2
  · rw [o4, u5, i4, if_pos rfl]; exact b.1
  · rw [o4, u5, i4, if_pos rfl, u3]; omega
theorem ma_J78 (wS : wfC S) (m : Mx S) (ht : 0 ≤ tpM S ∧ tpM S < 24) (hG : ∀ u, cfr KW FW S u → ArIk u → tpM u = tpM S + 1 → qI u 44 13 = qI S 44 13 + 1 → G u) (p : MaR S k U) (p1 : (qI U 44 5).toInt < (qN U (qO U 44 4) : Int)) (hj : w_X5_makeArray_J78 Q U k) : w_X5_makeArray_J78 (fun u => Q u ∧ G u) U k := by
  unfold w_X5_makeArray_J78 at hj ⊢
  intro w
  obtain ⟨h1, h2⟩ := hj w
  have p' := p
  obtain ⟨f0, a, b, c⟩ := p
  have e1 : ((qI U 44 3) + k).toInt = (qI U 44 3).toInt + k.toInt := t_addk (by omega)
  refine ⟨fun c1 => ma_J117 wS m ht hG p' p1 (by rw [e1] at c1; exact c1) (h1 c1), fun c1 => ?_⟩
  rw [e1] at c1
  obtain h3 := h2 (by rw [e1]; exact c1)
  refine fun k5 => ?_
  obtain ⟨Q38, p38, h38⟩ := h3 k5
  have l2 : (2 : Int32).toInt = 2 := by decide
  have lm : (20000 : Int32).toInt = 20000 := by decide
  have e2 : ((2 : Int32) * ((qI U 44 3) + k)).toInt = 2 * ((qI U 44 3).toInt + k.toInt) := by rw [t_mulk (by rw [l2, e1]; omega), l2, e1]
  have ex : (qI U 44 3).toInt + k.toInt ≤ (if ((2 : Int32) * ((qI U 44 3) + k)) < (20000 : Int32) then ((2 : Int32) * ((qI U 44 3) + k)) else (20000 : Int32)).toInt := by
    split
    · rw [e2]; omega
    · rw [lm]; omega
  refine ⟨_, cf_copyOf w (by omega) (Nat.ne_of_lt (w.lt k5 (by decide) (by decide) (by decide))) (by omega) p38, ?_⟩
  rintro b43 S40 ⟨⟨g40, ⟨eb, en⟩, _⟩, f40⟩ w40 s40 k40 S44 e44 k44 w44
  have k4 : qT U (qO U 44 4) = 216 := w.ref (w.ptr (by decide)) w.k44
  have f44 : cfr [] [(45, 2)] S40 S44 := by rw [e44]; exact cfr.oR k44 rfl
  have f : cfr [] [(45, 2)] U S44 := (f40.mo rfl rfl).tr f44
  have u3 : qI S44 44 3 = qI U 44 3 := f.kI w.k44 (by decide) (by decide)
  have u5 : qI S44 44 5 = qI U 44 5 := f.kI w.k44 (by decide) (by decide)
  have o4 : qO S44 44 4 = qO U 44 4 := qO_eq (f.kO w.k44 (by decide) (by decide))
  have l4 := f.kL (j := 4) w w.k44 (w.ptr (by decide)) (by decide) (by decide)
  have i4 : ∀ j, qI S44 (qO U 44 4) j = qI U (qO U 44 4) j := fun j => f.kI k4 (by decide) (okO_n (F := [(45, 2)]) (by decide) (by decide))
  have o2 : qO S44 44 2 = b43 := qO_of (by rw [e44, qR_wR, if_pos ⟨rfl, rfl⟩])
  have n2 : qN S44 b43 = qN S40 b43 := by rw [e44]; rfl
  refine ma_J117 wS m ht hG ⟨f0.tr (f.mo rfl rfl), by rw [u5]; exact a, by rw [u3]; exact b, fun j h1 h2 => ?_⟩ (by rw [u5, l4]; exact p1) ?_ (h38 b43 S40 g40 w40 s40 k40 S44 e44 k44 w44)
  · rw [u5] at h2
    rw [o4, i4, u3]
    exact c j h1 h2
  · rw [u3, o2, n2, en]
    omega
theorem ct_mmake (w : wfC S) (m : Mx S) (ar : ArIk S) (ht : 0 ≤ tpM S ∧ tpM S < 24) (hG : ∀ u, cfr KW FW S u → ArIk u → tpM u = tpM S + 1 → qI u 44 13 = qI S 44 13 + 1 → G u) (hr : ∀ (i : Int32) (Qr : MS → Prop), wX5_raise S i Qr → wX5_raise S i (fun u => Qr u ∧ G u)) (hz : ∀ u, cfr [] [(45, 15)] S u → 0 ≤ (qI u 44 15).toInt → G u) (h : wX5_makeArray S x Q) : wX5_makeArray S x (fun u => Q u ∧ G u) := by
  have J32 : w_X5_makeArray_J32 Q S → w_X5_makeArray_J32 (fun u => Q u ∧ G u) S := fun hj => by
    unfold w_X5_makeArray_J32 at hj ⊢
    intro w' S2 e2 k2 w2
    refine ⟨hj w' S2 e2 k2 w2, hz S2 (by rw [e2]; exact cfr.oI k2 rfl) ?_⟩
    rw [e2, qI_wI, if_pos ⟨rfl, rfl⟩]
    decide
  unfold wX5_makeArray at h ⊢
  refine ⟨fun c => ?_, fun c => ?_⟩
  · obtain ⟨h1, h2⟩ := h.1 c
    refine ⟨fun c1 => J32 (h1 c1), fun c1 => ?_⟩
    obtain ⟨h3, h4⟩ := h2 c1
    refine ⟨fun c2 => ?_, fun c2 => J32 (h4 c2)⟩
    intro S7 e7 k7 w7
    obtain ⟨h5, h6⟩ := h3 c2 S7 e7 k7 w7
    obtain ⟨⟨a0, a1, a2⟩, ⟨b0, b1, b2⟩, cc⟩ := ar
    have l1 := li_1k
    have lm : (20000 : Int32).toInt = 20000 := by decide
    have es : ((20000 : Int32) - (qI S 44 3)).toInt = 20000 - (qI S 44 3).toInt := by rw [t_subk (by rw [lm]; omega), lm]
    rw [es] at c2
    have k4 : qT S (qO S 44 4) = 216 := w.ref (w.ptr (by decide)) w.k44
    have f : cfr [] [(45, 5)] S S7 := by rw [e7]; exact cfr.oI k7 rfl
    have u3 : qI S7 44 3 = qI S 44 3 := f.kI w.k44 (by decide) (by decide)
    have u5 : (qI S7 44 5).toInt = (qI S 44 5).toInt + 1 := by rw [e7, qI_wI, if_pos ⟨rfl, rfl⟩, t_addk (by rw [l1]; omega), l1]
    have o4 : qO S7 44 4 = qO S 44 4 := qO_eq (f.kO w.k44 (by decide) (by decide))
    have l4 := f.kL (j := 4) w w.k44 (w.ptr (by decide)) (by decide) (by decide)
    have i4 : ∀ j, qI S7 (qO S 44 4) j = qI S (qO S 44 4) j := fun j => f.kI k4 (by decide) (okO_n (F := [(45, 5)]) (by decide) (by decide))
    refine ⟨fun c3 => ma_J78 w m ht hG ⟨f.mo rfl rfl, by omega, by rw [u3]; omega, fun j j1 j2 => ?_⟩ c3 (h5 c3), fun c3 => ?_⟩
    · rw [o4, i4, u3]
      exact cc j j1 (by omega)
    · refine fun k5 => ?_
      obtain ⟨Q50, p50, h50⟩ := h6 c3 k5
      have l2 : (2 : Int32).toInt = 2 := by decide
      have en : (Int32.ofNat (qN S7 (qO S7 44 4))).toInt = (qN S7 (qO S7 44 4) : Int) := toI_nat (by omega)
      have ex : ((2 : Int32) * (Int32.ofNat (qN S7 (qO S7 44 4)))).toInt = 2 * (qN S7 (qO S7 44 4) : Int) := by rw [t_mulk (by rw [l2, en]; omega), l2, en]
      refine ⟨_, cf_copyOf w7 (by omega) (Nat.ne_of_lt (w7.lt k5 (by decide) (by decide) (by decide))) (by rw [ex]; omega) p50, ?_⟩
      rintro b55 S52 ⟨⟨g52, ⟨eb, en5⟩, ec⟩, f52⟩ w52 s52 k52 S56 e56 k56 w56
      have f56 : cfr [] [(45, 4)] S52 S56 := by rw [e56]; exact cfr.oR k56 rfl
      have f' : cfr [] [(45, 4)] S7 S56 := (f52.mo rfl rfl).tr f56
      have v3 : qI S56 44 3 = qI S 44 3 := (f'.kI w7.k44 (by decide) (by decide)).trans u3
      have v5 : qI S56 44 5 = qI S7 44 5 := f'.kI w7.k44 (by decide) (by decide)
      have p4 : qO S56 44 4 = b55 := qO_of (by rw [e56, qR_wR, if_pos ⟨rfl, rfl⟩])
      have n4 : qN S56 b55 = qN S52 b55 := by rw [e56]; rfl
      have j4 : ∀ j, qI S56 b55 j = qI S52 b55 j := fun j => by rw [e56]; rfl
      refine ma_J78 w m ht hG ⟨(f.mo rfl rfl).tr (f'.mo rfl rfl), by rw [v5]; omega, by rw [v3]; omega, fun j j1 j2 => ?_⟩ ?_ (h50 b55 S52 g52 w52 s52 k52 S56 e56 k56 w56)
      · rw [v5, u5] at j2
        rw [p4, j4, ec j (by omega), o4, i4, v3]
        exact cc j j1 (by omega)
      · rw [v5, p4, n4, en5, ex]
        omega
  · obtain ⟨Q57, p57, h57⟩ := h.2 c
    exact ⟨_, hr _ Q57 p57, fun S58 g w' s => ⟨h57 S58 g.1 w' s, g.2⟩⟩
end MAA
/-! Machine: frames that open; returns -/
def FrY (A : MS) (q : Nat) (C : Nat → Nat → Prop) (u : MS) (d : Nat) : Prop := 0 ≤ (qI u 51 (3 * d)).toInt ∧ PcI A q C (mD u d) (qI u 51 (3 * d + 1)) ∧ (fX8_opAt A (rwM A q (mD u d)) (qI u 51 (3 * d + 1))).toInt = 184 ∧ (qI u 51 (3 * d + 2)).toInt = (fX8_heightAt A (rwM A q (mD u d)) (qI u 51 (3 * d + 1))).toInt - ndW A q (rwM A q (mD u d)) (qI u 51 (3 * d + 1))
section MOE
variable {A S u v U V : MS} {q r m d : Nat} {C : Nat → Nat → Prop} {x y k : Int32} {z : Int64} {Q : MS → Prop} {G : MS → Prop}
theorem FrY.fr (h : FrY A q C u d) (e : (fX8_argAt A (rwM A q (mD u d)) (qI u 51 (3 * d + 1))).toInt32 = qI u 51 (3 * (d + 1))) : FrX A q C u d := ⟨h.1, h.2.1, h.2.2.1, h.2.2.2, e⟩
theorem FrX.toY (h : FrX A q C u d) : FrY A q C u d := ⟨h.1, h.2.1, h.2.2.1, h.2.2.2.1⟩
theorem FrY.eq (h : FrY A q C S d) (e : ∀ j, j < 3 * (d + 1) → qI v 51 j = qI S 51 j) : FrY A q C v d := by
  have e0 := e (3 * d) (by omega)
  have e1 := e (3 * d + 1) (by omega)
  have e2 := e (3 * d + 2) (by omega)
  have em : mD v d = mD S d := by unfold mD; rw [e0]
  unfold FrY at h ⊢
  rw [e0, e1, e2, em]
  exact h
theorem ct_msetF (h11 : 0 ≤ (qI S 44 11).toInt ∧ (qI S 44 11).toInt ≤ 59) (hx : 0 ≤ x.toInt ∧ x.toInt ≤ 2) (h : wX5_setFrame S x y Q) : wX5_setFrame S x y (fun u => (Q u ∧ u = wI S 51 (3 * dpM S + x.toInt.toNat) y) ∧ cfr [217] [] S u) := by
  have l3 := li_3k
  have a : ((3 : Int32) * (qI S 44 11)).toInt = 3 * (qI S 44 11).toInt := by rw [t_mulk (by rw [l3]; omega), l3]
  have b : (((3 : Int32) * (qI S 44 11)) + x).toInt = 3 * (qI S 44 11).toInt + x.toInt := by rw [t_addk (by rw [a]; omega), a]
  have e : (((3 : Int32) * (qI S 44 11)) + x).toInt.toNat = 3 * dpM S + x.toInt.toNat := by rw [b]; unfold dpM; omega
  unfold wX5_setFrame at h ⊢
  refine ⟨fun c => absurd c (by omega), fun c => ⟨fun c2 => absurd c2 (by omega), fun c2 => ?_⟩⟩
  obtain ⟨bd, h3⟩ := (h.2 c).2 c2
  refine ⟨bd, fun S6 e6 k6 w6 => ⟨⟨h3 S6 e6 k6 w6, by rw [e6, e]⟩, by rw [e6]; exact cfr.aI k6 rfl⟩⟩
theorem ct_mopen (M : MdA A q C) (wA : wfC A) (w : wfC S) (E : Y3E A q S) (m0 : 0 ≤ x.toInt) (m1 : x.toInt < (qI A q 8).toInt) (fr : ∀ d, d + 1 < dpM S → FrX A q C S d) (fl : ∀ d, d + 1 = dpM S → FrY A q C S d ∧ (fX8_argAt A (rwM A q (mD S d)) (qI S 51 (3 * d + 1))).toInt32 = x) (h : wX5_openFrame S x Q) : wX5_openFrame S x (fun u => Q u ∧ Y3I A q C u ∧ qI u 44 15 = qI S 44 15 ∧ qI u 44 7 = qI S 44 7) := by
  have dp := E.dp
  have k51 := w.k51
  obtain ⟨md, ch, pt⟩ := M.2 x.toInt.toNat (by omega)
  have uu := uC.fr wA M.1.1 M.1.2.1 E.1 (by decide)
  have q0 : qO S 44 0 = q := qO_of E.2.1
  have q13 : qO S q 13 = qO A q 13 := qO_eq (E.1.kO M.1.1 (by decide) (by decide))
  have k6 : qT A (qO A q 13) = 6 := wA.ref M.1.2.1.1.2.2.2.2.2.2.2.2 M.1.1
  have r13 : qR S (qO S q 13) x.toInt.toNat = some (rwM A q x.toInt.toNat) := by
    rw [q13, E.1.kO k6 (by decide) (okO_n (F := FX) (by decide) (by decide))]
    exact md.1
  have e8 : qI S q 8 = qI A q 8 := E.1.kI M.1.1 (by decide) (by decide)
  unfold wX5_openFrame at h ⊢
  obtain ⟨r0, h⟩ := h
  refine ⟨r0, fun k49 => ?_⟩
  obtain ⟨Q3, p3, h3⟩ := h k49
  rw [q0] at p3 ⊢
  refine ⟨_, ct_mrow w uu.2.1 uu.2.2 (by rw [e8]; exact ⟨m0, m1⟩) r13 p3, ?_⟩
  rintro b7 S5 ⟨g5, eb, e5⟩ w5 s5 k5 S8 e8' k8 w8 S9 e9 k9 w9 S10 e10 k10 w10
  obtain ⟨Q11, p11, h11⟩ := h3 b7 S5 g5 w5 s5 k5 S8 e8' k8 w8 S9 e9 k9 w9 S10 e10 k10 w10
  rw [e5] at e8'
  have f8 : cfr [] [(45, 12)] S S8 := by rw [e8']; exact cfr.oR w.k44 rfl
  have f9 : cfr [] [(45, 13)] S8 S9 := by rw [e9]; exact cfr.oI k9 rfl
  have f10 : cfr [] [(45, 14)] S9 S10 := by rw [e10]; exact cfr.oI k10 rfl
  have F10 : cfr [] [(45, 12), (45, 13), (45, 14)] S S10 := ((f8.mo rfl rfl).tr (f9.mo rfl rfl)).tr (f10.mo rfl rfl)
  have d10 : qI S10 44 11 = qI S 44 11 := F10.kI w.k44 (by decide) (by decide)
  have D10 : dpM S10 = dpM S := by unfold dpM; rw [d10]
  refine ⟨_, ct_msetF (by rw [d10]; exact dp) (by decide) p11, ?_⟩
  rintro S12 ⟨⟨g12, e12⟩, f12⟩ w12 s12
  have F : cfr [217] [(45, 12), (45, 13), (45, 14)] S S12 := (F10.mo rfl rfl).tr (f12.mo rfl rfl)
  have i12 : ∀ j, qI S12 51 j = if j = 3 * dpM S then x else qI S 51 j := fun j => by
    rw [e12, qI_wI, D10]
    by_cases c : j = 3 * dpM S
    · rw [if_pos ⟨rfl, by rw [c]; rfl⟩, if_pos c]
    · rw [if_neg (fun z => c (by have := z.2; rw [show (0 : Int32).toInt.toNat = 0 from rfl] at this; omega)), if_neg c]
      exact F10.kI k51 (by decide) (okO_n (F := [(45, 12), (45, 13), (45, 14)]) (by decide) (by decide))
  have D12 : dpM S12 = dpM S := by unfold dpM; rw [F.kI w.k44 (by decide) (by decide)]
  have I0 : qI S12 51 (3 * dpM S12) = x := by rw [D12, i12, if_pos rfl]
  have m12 : mD S12 (dpM S12) = x.toInt.toNat := by unfold mD; rw [I0]
  have t12 : tpM S12 = 0 := by
    unfold tpM
    rw [f12.kI w10.k44 (by decide) (by decide), e10, qI_wI, if_pos ⟨rfl, rfl⟩]
    rfl
  have p12 : qI S12 44 13 = 0 := by rw [f12.kI w10.k44 (by decide) (by decide), f10.kI w9.k44 (by decide) (by decide), e9, qI_wI, if_pos ⟨rfl, rfl⟩]
  have R12 : qR S12 44 12 = some (rwM A q x.toInt.toNat) := by
    rw [f12.kO w10.k44 (by decide) (by decide), f10.kO w9.k44 (by decide) (by decide), f9.kO w8.k44 (by decide) (by decide), e8', qR_wR, if_pos ⟨rfl, rfl⟩]
    exact eb
  obtain ⟨E1, E2, E3, E4, E5⟩ := E
  have nr := md.2.2.2.1
  have c0 := ch.1 nr
  refine ⟨h11 S12 g12 w12 s12, ⟨⟨⟨E1.tr (F.mo rfl rfl), by rw [F.kO w.k44 (by decide) (by decide)]; exact E2, by rw [F.kI w.k44 (by decide) (by decide)]; exact E3, E4.fr w F (by decide) (by decide) (by decide) (by decide), E5.mv w F rfl rfl rfl rfl⟩, fun d hd => ?_, by rw [I0]; exact m0, ?_, by rw [m12]; exact R12⟩, ?_, by rw [t12]; decide⟩, F.kI w.k44 (by decide) (by decide), F.kI w.k44 (by decide) (by decide)⟩
  · rw [D12] at hd
    by_cases c : d + 1 < dpM S
    · exact (fr d c).eq (fun j hj => by rw [i12, if_neg (by omega)])
    · obtain ⟨fy, fa⟩ := fl d (by omega)
      refine FrY.fr (fy.eq (fun j hj => by rw [i12, if_neg (by omega)])) ?_
      have em : mD S12 d = mD S d := by unfold mD; rw [i12, if_neg (by omega)]
      rw [em, i12 (3 * d + 1), if_neg (by omega), fa, i12, if_pos (by omega)]
  · rw [m12, p12]
    exact ⟨by omega, ⟨by decide, by rw [show (0 : Int32).toInt = 0 from rfl]; exact nr⟩, c0.1⟩
  · rw [m12, p12, t12]
    exact c0.2.symm
theorem ct_mleave (M : MdA A q C) (wA : wfC A) (w : wfC S) (I : Y3I A q C S) (ex : x = fX8_opAt A (rwM A q (mD S (dpM S))) (qI S 44 13)) (hx : 172 ≤ x.toInt ∧ x.toInt ≤ 177) (h : wX5_leave S x Q) : wX5_leave S x (fun u => Q u ∧ Y3J A q C u) := by
  obtain ⟨B, hh, h24⟩ := I
  obtain ⟨⟨hg1, _, _, _⟩, rt, po⟩ := B.hg M
  have dp := B.1.dp
  have od : ¬ odO (fX8_opAt A (rwM A q (mD S (dpM S))) (qI S 44 13)).toInt := by rw [← ex]; unfold odO; omega
  have nd := (nd_pl (q := q) od).1
  rw [← ex] at nd
  have ok : okOp x.toInt := by rw [ex]; exact po.1
  have tk := k_rt (S := S) ok hx.1 hx.2
  have tA : fX6_takes S x = fX6_takes A x := rfl
  have rt := rt (by rw [← ex]; exact hx.1) (by rw [← ex]; exact hx.2)
  have b1 := plO_b (fX6_takes S x)
  have md := (M.2 _ B.2.2.2.1.1).1
  have B0 := B.2.2.1
  unfold wX5_leave at h ⊢
  obtain ⟨d0, h⟩ := h
  refine ⟨d0, fun a4 e4 => ?_⟩
  obtain ⟨Q5, p5, h5⟩ := h a4 e4
  subst e4
  have hp : plO (fX6_takes S x) ≤ tpM S := by rw [← tk, hh, tA, ← nd]; exact hg1.2.1
  refine ⟨_, ct_mpop2 w B.1.2.2.2.1 ⟨hp, h24⟩ p5, ?_⟩
  rintro r6 S7 ⟨⟨g7, t7⟩, f7⟩ w7 s7
  obtain ⟨h6, h7⟩ := h5 r6 S7 g7 w7 s7
  have B7 : Y3B A q C S7 := B.pp w (f7.mo rfl rfl) (f7.kI w.k44 (by decide) (by decide))
  refine ⟨fun c S18 e18 k18 w18 S19 e19 k19 w19 => ⟨h6 c S18 e18 k18 w18 S19 e19 k19 w19, ?_⟩, fun c => ?_⟩
  · have f18 : cfr [] [(45, 15)] S7 S18 := by rw [e18]; exact cfr.oI k18 rfl
    have f19 : cfr [] [(45, 16)] S18 S19 := by rw [e19]; exact cfr.oJ k19 rfl
    refine (B7.1.mv w7 ((f18.mo rfl rfl).tr (f19.mo rfl rfl))).j ?_
    rw [f19.kI w18.k44 (by decide) (by decide), e18, qI_wI, if_pos ⟨rfl, rfl⟩]
    decide
  obtain ⟨Q10, p10, h10⟩ := h7 c
  have dp7 := B7.1.dp
  have nd7 := B7.1.nd
  refine ⟨_, ct_mclose M wA w7 B7.1 (by omega) B7.2.1 p10, ?_⟩
  rintro S11 ⟨g11, B11, D11, T11, P11, i11, _⟩ w11 s11
  obtain ⟨Q13, p13, h13⟩ := h10 S11 g11 w11 s11
  have fx := B7.2.1 (dpM S11) (by omega)
  have F7 : ∀ j, qI S7 51 j = qI S 51 j := fun j => f7.kI w.k51 (by decide) (okO_n (F := [(45, 14)]) (by decide) (by decide))
  have D7 : dpM S7 = dpM S := by unfold dpM; rw [f7.kI w.k44 (by decide) (by decide)]
  have m11 : mD S11 (dpM S11) = mD S7 (dpM S11) := by unfold mD; rw [i11]
  obtain ⟨y0, y1, y2, y3, y4⟩ := fx
  rw [← m11, ← P11] at y2 y3 y4
  have ea : (fX8_argAt A (rwM A q (mD S11 (dpM S11))) (qI S11 44 13)).toInt32 = qI A (rwM A q (mD S (dpM S))) 11 := by
    refine Int32.toInt_inj.mp ?_
    rw [y4, md.2.2.2.2, F7, D11, D7]
    unfold mD
    omega
  have pg : pgV A q (rwM A q (mD S11 (dpM S11))) (qI S11 44 13) = plO (fX6_takes S x) := by
    have n4 : fX10_takes A q (rwM A q (mD S (dpM S))) (qI S 44 13) = fX6_takes S x := by
      unfold fX10_takes
      rw [if_neg (by rw [← ex]; omega), if_neg (by rw [← ex]; omega), ← ex]
      rfl
    rw [n4] at rt
    unfold pgV fX10_gives
    rw [if_neg (by omega), if_neg (by omega), if_neg (by omega), if_neg (by omega), if_pos y2, ea, ← tk]
    unfold plK
    rw [rt]
  have hg11 := (B11.hg M).1.1
  unfold lfV at hg11
  have tT : tpM S11 = (fX8_heightAt A (rwM A q (mD S11 (dpM S11))) (qI S11 44 13)).toInt - ndW A q (rwM A q (mD S11 (dpM S11))) (qI S11 44 13) := by rw [T11]; exact y3
  have w24 := ((M.2 _ B11.2.2.2.1.1).2.2).1
  refine ⟨_, ct_mpush2 w11 B11.1.2.2.2.1 ⟨by omega, by omega⟩ p13, ?_⟩
  rintro S14 ⟨⟨g14, t14⟩, f14⟩ w14 s14 S17 e17 k17 w17
  have f17 : cfr [] [(45, 13)] S14 S17 := by rw [e17]; exact cfr.oI k17 rfl
  have F17 : cfr [405] [(45, 13), (45, 14)] S11 S17 := (f14.mo rfl rfl).tr (f17.mo rfl rfl)
  refine ⟨h13 S14 g14 w14 s14 S17 e17 k17 w17, Y3I.j (Y3I.gx w11 M B11 (F17.mo rfl rfl) (B11.1.2.2.2.2.mv w11 F17 rfl rfl rfl rfl) ?_ ?_ ?_)⟩
  · unfold fX6_goesOn
    rw [if_neg (by omega), if_neg (by omega), if_neg (by omega), if_neg (by omega)]
    exact show ¬ (1 : Int32).toInt = 0 by decide
  · rw [tp_fr w14 f17 rfl rfl, t14, tT]
    unfold lfV
    omega
  · rw [e17, qI_wI, if_pos ⟨rfl, rfl⟩, f14.kI w11.k44 (by decide) (by decide)]
end MOE
/-! Machine: a call -/
section MEN
variable {A S u v U V : MS} {q r m d : Nat} {C : Nat → Nat → Prop} {x y k : Int32} {Q : MS → Prop} {Q1 : Int32 → MS → Prop}
theorem ct_menter (M : MdA A q C) (wA : wfC A) (w : wfC S) (I : Y3I A q C S) (eo : (fX8_opAt A (rwM A q (mD S (dpM S))) (qI S 44 13)).toInt = 184) (ex : x = (fX8_argAt A (rwM A q (mD S (dpM S))) (qI S 44 13)).toInt32) (h : wX5_enter S x Q) : wX5_enter S x (fun u => Q u ∧ Y3J A q C u) := by
  obtain ⟨B, hh, h24⟩ := I
  obtain ⟨⟨hg1, _, _, _⟩, rt, po⟩ := B.hg M
  have dp := B.1.dp
  have nd := B.1.nd
  have l1 := li_1k
  have l24 : (24 : Int32).toInt = 24 := by decide
  have mx := B.1.2.2.2.1
  have mc := po.2.2.2.2.2 eo
  rw [← ex] at mc
  obtain ⟨o12, q0, rcs, ⟨uc, ku, uk⟩, hx⟩ := B.at wA M
  have md := (M.2 x.toInt.toNat (by omega)).1
  have q13 : qO S q 13 = qO A q 13 := qO_eq (B.1.1.kO M.1.1 (by decide) (by decide))
  have k6 : qT A (qO A q 13) = 6 := wA.ref M.1.2.1.1.2.2.2.2.2.2.2.2 M.1.1
  have r13 : qR S (qO S q 13) x.toInt.toNat = some (rwM A q x.toInt.toNat) := by
    rw [q13, B.1.1.kO k6 (by decide) (okO_n (F := FX) (by decide) (by decide))]
    exact md.1
  have e8 : qI S q 8 = qI A q 8 := B.1.1.kI M.1.1 (by decide) (by decide)
  have s1 : ((qI S 44 11) + (1 : Int32)).toInt = (qI S 44 11).toInt + 1 := by rw [t_addk (by rw [l1]; omega), l1]
  have hnd : ndW A q (rwM A q (mD S (dpM S))) (qI S 44 13) = plK (fX10_takesOfMethod A q x) := by
    unfold ndW fX10_takes
    rw [if_neg (by omega), if_pos eo, ← ex]
  unfold wX5_enter at h ⊢
  refine ⟨fun c => ?_, fun c S54 e54 k54 w54 => ?_⟩
  · rw [s1] at c
    obtain ⟨g0, d0, h⟩ := h.1 (by rw [s1]; exact c)
    refine ⟨g0, d0, fun a8 e8' => ?_⟩
    obtain ⟨Q9, p9, h9⟩ := h a8 e8'
    have ea8 : a8 = fX10_takesOfMethod A q x := by rw [e8', q0, uc.fk.2.1]
    subst ea8
    refine ⟨_, ct_places p9, ?_⟩
    rintro r10 S11 ⟨g11, e11, z11⟩ w11 s11
    have h10 := h9 r10 S11 g11 w11 s11
    rw [e11] at h10 ⊢
    intro a16 e16 a19 e19
    obtain ⟨g1, h12⟩ := h10 a16 e16 a19 e19
    refine ⟨g1, fun k1 => ?_⟩
    obtain ⟨Q22, p22, h22⟩ := h12 k1
    rw [q0] at p22 ⊢
    refine ⟨_, ct_mrow w ku uk (by rw [e8]; exact mc) r13 p22, ?_⟩
    rintro b26 S24 ⟨g24, eb, e24⟩ w24 s24 k24
    have h24' := h22 b26 S24 g24 w24 s24 k24
    rw [e24] at h24' ⊢
    have pl := plK_b (fX10_takesOfMethod A q x)
    have ht : r10.toInt ≤ tpM S := by rw [z11, ← hnd, hh]; exact hg1.2.1
    have em : ((qI S 44 11) * (24 : Int32)).toInt = 24 * (qI S 44 11).toInt := by rw [t_mulk (by rw [l24]; omega), l24]; omega
    have et : (qI S 44 14).toInt = tpM S := rfl
    have e19' : a19.toInt = 24 * (qI S 44 11).toInt + 24 := by rw [e19, t_mulk (by rw [s1, l24]; omega), s1, l24]; omega
    have e19r : (a19 + r10).toInt = 24 * (qI S 44 11).toInt + 24 + r10.toInt := by rw [t_addk (by omega), e19']
    refine ⟨fun c1 => (by rw [eb] at c1; cases c1), fun c1 => ⟨fun c2 => absurd c2 (by omega), fun c2 => ⟨fun c3 => ?_, fun c3 => ⟨fun c4 => ?_, fun c4 => absurd c4 (by omega)⟩⟩⟩⟩
    · have := mx.2.1
      exact absurd c3 (by omega)
    obtain ⟨bd, h5⟩ := (((h24'.2 c1).2 c2).2 c3).1 c4
    refine ⟨bd, fun S41 e41 k41 w41 => ?_⟩
    obtain ⟨Q42, p42, h42⟩ := h5 S41 e41 k41 w41
    have f41 : cfr [404] [] S S41 := by rw [e41]; exact cfr.aL k41 rfl
    have d41 : qI S41 44 11 = qI S 44 11 := f41.kI w.k44 (by decide) (by decide)
    have D41 : dpM S41 = dpM S := by unfold dpM; rw [d41]
    refine ⟨_, ct_msetF (by rw [d41]; exact dp) (by decide) p42, ?_⟩
    rintro S43 ⟨⟨g43, e43⟩, f43⟩ w43 s43
    obtain ⟨Q46, p46, h46⟩ := h42 S43 g43 w43 s43
    have d43 : qI S43 44 11 = qI S 44 11 := (f43.kI w41.k44 (by decide) (by decide)).trans d41
    have D43 : dpM S43 = dpM S := by unfold dpM; rw [d43]
    refine ⟨_, ct_msetF (by rw [d43]; exact dp) (by decide) p46, ?_⟩
    rintro S47 ⟨⟨g47, e47⟩, f47⟩ w47 s47 S50 e50 k50 w50
    obtain ⟨Q51, p51, h51⟩ := h46 S47 g47 w47 s47 S50 e50 k50 w50
    have F47 : cfr [404, 217] [] S S47 := ((f41.mo rfl rfl).tr (f43.mo rfl rfl)).tr (f47.mo rfl rfl)
    have f50 : cfr [] [(45, 11)] S47 S50 := by rw [e50]; exact cfr.oI k50 rfl
    have F : cfr [404, 217] [(45, 11)] S S50 := (F47.mo rfl rfl).tr (f50.mo rfl rfl)
    have d47 : qI S47 44 11 = qI S 44 11 := F47.kI w.k44 (by decide) (by decide)
    have d50 : (qI S50 44 11).toInt = (qI S 44 11).toInt + 1 := by rw [e50, qI_wI, if_pos ⟨rfl, rfl⟩, d47, s1]
    have D50 : dpM S50 = dpM S + 1 := by unfold dpM; rw [d50]; omega
    have i0 : ∀ j, qI S41 51 j = qI S 51 j := fun j => f41.kI w.k51 (by decide) (by rfl)
    have p13 : qI S41 44 13 = qI S 44 13 := f41.kI w.k44 (by decide) (by decide)
    have t14 : qI S43 44 14 = qI S 44 14 := (f43.kI w41.k44 (by decide) (by decide)).trans (f41.kI w.k44 (by decide) (by decide))
    have i50 : ∀ j, qI S50 51 j = if j = 3 * dpM S + 2 then qI S 44 14 - r10 else if j = 3 * dpM S + 1 then qI S 44 13 else qI S 51 j := fun j => by
      have a : qI S50 51 j = qI S47 51 j := by rw [e50, qI_wI, if_neg (fun z => by cases z.1)]
      rw [a, e47, qI_wI, D43, t14]
      by_cases c5 : j = 3 * dpM S + 2
      · rw [if_pos ⟨rfl, by rw [c5]; rfl⟩, if_pos c5]
      · rw [if_neg (fun z => c5 z.2), if_neg c5, e43, qI_wI, D41, p13]
        by_cases c6 : j = 3 * dpM S + 1
        · rw [if_pos ⟨rfl, by rw [c6]; rfl⟩, if_pos c6]
        · rw [if_neg (fun z => c6 z.2), if_neg c6, i0]
    obtain ⟨E1, E2, E3, E4, E5⟩ := B.1
    have E50 : Y3E A q S50 := by
      obtain ⟨M1, M2, M3⟩ := E4
      refine ⟨E1.tr (F.mo rfl rfl), by rw [F.kO w.k44 (by decide) (by decide)]; exact E2, by rw [F.kI w.k44 (by decide) (by decide)]; exact E3, ⟨by omega, ?_, ?_⟩, E5.mv w F rfl rfl rfl rfl⟩
      · rw [F.kL w w.k44 (w.ptr (by decide)) (by decide) (by decide)]; exact M2
      · rw [F.kL w w.k44 (w.ptr (by decide)) (by decide) (by decide)]; exact M3
    have mdE : mD S50 (dpM S) = mD S (dpM S) := by unfold mD; rw [i50, if_neg (by omega), if_neg (by omega)]
    refine ⟨_, ct_mopen M wA w50 E50 mc.1 mc.2 (fun d hd => ?_) (fun d hd => ?_) p51, fun S52 g52 w52 s52 => ⟨h51 S52 g52.1 w52 s52, g52.2.1.j⟩⟩
    · rw [D50] at hd
      exact (B.2.1 d (by omega)).eq (fun j hj => by rw [i50, if_neg (by omega), if_neg (by omega)])
    · have ed : d = dpM S := by omega
      subst ed
      have j1 : qI S50 51 (3 * dpM S + 1) = qI S 44 13 := by rw [i50, if_neg (by omega), if_pos rfl]
      refine ⟨⟨by rw [i50, if_neg (by omega), if_neg (by omega)]; exact B.2.2.1, by rw [mdE, j1]; exact B.2.2.2.1, by rw [mdE, j1]; exact eo, ?_⟩, by rw [mdE, j1]; exact ex.symm⟩
      rw [mdE, j1, i50, if_pos rfl, t_subk (by omega), et, z11, hh, hnd]
  · refine ⟨h.2 c S54 e54 k54 w54, (B.1.mv w (by rw [e54]; exact cfr.oI k54 rfl)).j ?_⟩
    rw [e54, qI_wI, if_pos ⟨rfl, rfl⟩]
    decide
end MEN
/-! Machine: switches, and what uses the stage -/
section MUS
variable {A S u v U V : MS} {q r m d : Nat} {C : Nat → Nat → Prop} {x y k : Int32} {Q : MS → Prop} {Q1 : Int32 → MS → Prop}
theorem ct_swL {U : MS} {a t n : Int32} {T : Int} (hT : n.toInt + 1 = T ∧ T ≤ 2147483647) (n0 : 0 ≤ n.toInt) : ∀ (g : Nat) {k : Int32}, 1 ≤ k.toInt → w_X5_switchChoice_L80 Q1 g U a t n k → w_X5_switchChoice_L80 (fun z u => Q1 z u ∧ u = U ∧ 0 ≤ z.toInt ∧ z.toInt < T) g U a t n k := by
  intro g
  induction g with
  | zero => intro k _ h; exact h
  | succ g ih =>
    intro k k1 h
    have rn := rgI n
    unfold w_X5_switchChoice_L80 at h ⊢
    intro w
    obtain ⟨h1, h2⟩ := h w
    refine ⟨fun c => ⟨h1 c, rfl, by rw [li_0k]; omega, by rw [li_0k]; omega⟩, fun c => ?_⟩
    obtain ⟨e1, d1, h3, h4⟩ := h2 c
    refine ⟨e1, d1, fun c2 => ⟨h3 c2, rfl, by omega, by omega⟩, fun c2 a25 e25 => ?_⟩
    have ea : a25.toInt = k.toInt + 1 := by rw [e25, t_addk (by rw [lo_1k]; omega), lo_1k]
    exact ih (by omega) (h4 c2 a25 e25)
theorem ct_switch (ht : 1 ≤ (fX8_targetCount S (qO S 44 12) (qI S 44 13)).toInt) (h : wX5_switchChoice S x y Q1) : wX5_switchChoice S x y (fun z u => Q1 z u ∧ u = S ∧ 0 ≤ z.toInt ∧ z.toInt < (fX8_targetCount S (qO S 44 12) (qI S 44 13)).toInt) := by
  have l1 := li_1k
  have rc := rgI (fX8_targetCount S (qO S 44 12) (qI S 44 13))
  unfold wX5_switchChoice at h ⊢
  obtain ⟨g0, d0, h⟩ := h
  refine ⟨g0, d0, fun a6 e6 => ?_⟩
  obtain ⟨g1, d1, h⟩ := h a6 e6
  refine ⟨g1, d1, fun a13 e13 => ?_⟩
  obtain ⟨h1, h2⟩ := h a13 e13
  have en : a13.toInt = (fX8_targetCount S (qO S 44 12) (qI S 44 13)).toInt - 1 := by rw [e13, t_subk (by rw [l1]; omega), l1]
  have J67 : w_X5_switchChoice_J67 Q1 S → w_X5_switchChoice_J67 (fun z u => Q1 z u ∧ u = S ∧ 0 ≤ z.toInt ∧ z.toInt < (fX8_targetCount S (qO S 44 12) (qI S 44 13)).toInt) S := fun hj => by
    unfold w_X5_switchChoice_J67 at hj ⊢
    intro w
    exact ⟨hj w, rfl, by rw [li_0k]; omega, by rw [li_0k]; omega⟩
  refine ⟨fun c => ?_, fun c => ?_⟩
  · obtain ⟨g2, d2, h3⟩ := h1 c
    refine ⟨g2, d2, fun a33 e33 => ?_⟩
    obtain ⟨h4, h5⟩ := h3 a33 e33
    refine ⟨fun c2 => J67 (h4 c2), fun c2 => ?_⟩
    obtain ⟨h6, h7⟩ := h5 c2
    refine ⟨fun c3 => ⟨h6 c3, rfl, ?_⟩, fun c3 => J67 (h7 c3)⟩
    have t1 := c_cmpk (x := a33) (y := 0)
    have t2 := c_cmpk (x := a33) (y := a13.toInt64)
    rw [i64_toInt] at t2
    rw [show (0 : Int64).toInt = 0 by decide] at t1
    have b : 0 ≤ a33.toInt ∧ a33.toInt < a13.toInt := ⟨by omega, by omega⟩
    have e3 : (a33.toInt32).toInt = a33.toInt := lo_32k (by omega)
    rw [t_addk (by rw [l1, e3]; omega), l1, e3]
    omega
  · obtain ⟨n, h3⟩ := h2 c
    exact ⟨n, ct_swL (by omega) (by omega) n (by rw [l1]; omega) h3⟩
theorem Y3B.rz (M : MdA A q C) (wA : wfC A) (w : wfC S) (B : Y3B A q C S) (U : MS) (k : Int32) (Qr : MS → Prop) (f : cfr [] [(45, 14)] S U) (h : wX5_raise U k Qr) : wX5_raise U k (fun u => Qr u ∧ Y3J A q C u) := ct_mraise M wA (B.pp w (f.mo rfl rfl) (f.kI w.k44 (by decide) (by decide))) h
theorem ct_muse (M : MdA A q C) (wA : wfC A) (w : wfC S) (I : Y3I A q C S) (ex : x = fX8_opAt A (rwM A q (mD S (dpM S))) (qI S 44 13)) (hx : x.toInt = 178 ∨ x.toInt = 179 ∨ x.toInt = 184 ∨ x.toInt = 188 ∨ x.toInt = 190 ∨ x.toInt = 191 ∨ x.toInt = 46 ∨ x.toInt = 79) (h : wX5_useStage S x Q) : wX5_useStage S x (fun u => Q u ∧ Y3J A q C u) := by
  have I0 := I
  obtain ⟨B, hh, h24⟩ := I
  obtain ⟨⟨hg1, _, _, _⟩, rt, po⟩ := B.hg M
  have mx := B.1.2.2.2.1
  have ar := B.1.2.2.2.2
  obtain ⟨o12, q0, ⟨rc, kr, R⟩, ⟨uc, ku, uk⟩, hx0⟩ := B.at wA M
  have w24 := ((M.2 _ B.2.2.2.1.1).2.2).1
  obtain ⟨k1, k2, k3, k4, k5, k6, k7, k8, k9, k10, k11⟩ := tb_k8
  have tS : ∀ n : Nat, x.toInt = (n : Int) → fX6_takes A (fX8_opAt A (rwM A q (mD S (dpM S))) (qI S 44 13)) = fX6_takes S00k (Int32.ofNat n) ∧ fX6_gives A (fX8_opAt A (rwM A q (mD S (dpM S))) (qI S 44 13)) = fX6_gives S00k (Int32.ofNat n) := fun n e => by
    rw [← ex, o_eq e]; exact ⟨rfl, rfl⟩
  have go : x.toInt = 178 ∨ x.toInt = 179 ∨ x.toInt = 188 ∨ x.toInt = 190 ∨ x.toInt = 46 ∨ x.toInt = 79 → ¬ (fX6_goesOn A (fX8_opAt A (rwM A q (mD S (dpM S))) (qI S 44 13))).toInt = 0 := fun e => by
    rw [← ex]
    unfold fX6_goesOn
    rw [if_neg (by omega), if_neg (by omega)]
    by_cases c : x.toInt < 170
    · rw [if_pos c]; exact show ¬ (1 : Int32).toInt = 0 by decide
    · rw [if_neg c, if_neg (by omega)]; exact show ¬ (1 : Int32).toInt = 0 by decide
  have nx : ∀ u : MS, cfr KW FW S u → ArIk u → ¬ (fX6_goesOn A (fX8_opAt A (rwM A q (mD S (dpM S))) (qI S 44 13))).toInt = 0 → tpM u = lfV A q (rwM A q (mD S (dpM S))) (qI S 44 13) (tpM S) → qI u 44 13 = qI S 44 13 + 1 → Y3J A q C u := fun u f a g t p => Y3I.j (Y3I.gx w M B f a g (by rw [t, hh]) p)
  rw [← hh] at hg1
  unfold lfV at hg1 nx
  have od : x.toInt = 188 ∨ x.toInt = 190 ∨ x.toInt = 191 ∨ x.toInt = 46 ∨ x.toInt = 79 → ndW A q (rwM A q (mD S (dpM S))) (qI S 44 13) = plK (fX6_takes A (fX8_opAt A (rwM A q (mD S (dpM S))) (qI S 44 13))) ∧ pgV A q (rwM A q (mD S (dpM S))) (qI S 44 13) = plK (fX6_gives A (fX8_opAt A (rwM A q (mD S (dpM S))) (qI S 44 13))) := fun e => nd_pl (q := q) (by rw [← ex]; unfold odO; omega)
  have J190 : x.toInt = 46 ∨ x.toInt = 79 → w_X5_useStage_J190 Q S x → w_X5_useStage_J190 (fun u => Q u ∧ Y3J A q C u) S x := fun e hj => by
    have o := od (by omega)
    have nv : ndW A q (rwM A q (mD S (dpM S))) (qI S 44 13) = (if x.toInt = 46 then 2 else 3) ∧ pgV A q (rwM A q (mD S (dpM S))) (qI S 44 13) = (if x.toInt = 46 then 1 else 0) := by
      rcases e with e | e
      · rw [o.1, o.2, (tS 46 e).1, (tS 46 e).2, if_pos e, if_pos e]; exact ⟨k6, k7⟩
      · rw [o.1, o.2, (tS 79 e).1, (tS 79 e).2, if_neg (by omega), if_neg (by omega)]; exact ⟨k8, k9⟩
    rw [nv.1, nv.2] at nx hg1
    unfold w_X5_useStage_J190 at hj ⊢
    intro w'
    obtain ⟨Q8, p8, h8⟩ := hj w'
    refine ⟨_, ct_muel w mx ar e ⟨hg1.2.1, h24⟩ (fun u f t p => nx u (f.mo rfl rfl) (ar.mv w f rfl rfl rfl rfl) (go (by omega)) t p) (fun U k Qr wU f hU => B.rz M wA w U k Qr f hU) p8, fun S9 g9 w9 s9 => ⟨h8 S9 g9.1 w9 s9, g9.2⟩⟩
  unfold wX5_useStage at h ⊢
  obtain ⟨g0, d0, h⟩ := h
  refine ⟨g0, d0, fun a6 e6 a7 e7 => ?_⟩
  have ea : a7 = (fX8_argAt A (rwM A q (mD S (dpM S))) (qI S 44 13)).toInt32 := by rw [e7, e6, o12, rc.ar]
  obtain ⟨h1, h2⟩ := h a6 e6 a7 e7
  refine ⟨fun c => J190 (Or.inl c) (h1 c), fun c46 => ?_⟩
  obtain ⟨h1, h2⟩ := h2 c46
  refine ⟨fun c => J190 (Or.inr c) (h1 c), fun c79 => ?_⟩
  obtain ⟨h1, h2⟩ := h2 c79
  refine ⟨fun c => ?_, fun c178 => ?_⟩
  · obtain ⟨g1, d1, h3⟩ := h1 c
    refine ⟨g1, d1, fun a16 e16 => ?_⟩
    obtain ⟨d2, h4⟩ := h3 a16 e16
    refine ⟨d2, fun a20 e20 => ?_⟩
    obtain ⟨Q21, p21, h21⟩ := h4 a20 e20
    have e16' : a16 = fX10_kindOfField A q a7 := by rw [e16, q0, uc.fk.1]
    have pk := kd_pl (M.1.2.2 a7)
    rw [← e16'] at pk
    have nv : ndW A q (rwM A q (mD S (dpM S))) (qI S 44 13) = 0 ∧ pgV A q (rwM A q (mD S (dpM S))) (qI S 44 13) = plO a16 := by
      unfold ndW pgV fX10_takes fX10_gives
      rw [← ex, if_neg (by omega), if_neg (by omega), if_neg (by omega), if_neg (by omega), if_neg (by omega), if_pos c, ← ea, ← e16', pk]
      rw [ex, (tS 178 c).1]
      exact ⟨k10, rfl⟩
    rw [nv.1, nv.2] at nx hg1
    refine ⟨_, ct_mpush2 w mx (by omega) p21, ?_⟩
    rintro S22 ⟨⟨g22, t22⟩, f22⟩ w22 s22 S25 e25 k25 w25
    have f25 : cfr [] [(45, 13)] S22 S25 := by rw [e25]; exact cfr.oI k25 rfl
    have F25 : cfr [405] [(45, 13), (45, 14)] S S25 := (f22.mo rfl rfl).tr (f25.mo rfl rfl)
    refine ⟨h21 S22 g22 w22 s22 S25 e25 k25 w25, nx S25 (F25.mo rfl rfl) (ar.mv w F25 rfl rfl rfl rfl) (go (by omega)) ?_ ?_⟩
    · rw [tp_fr w22 f25 rfl rfl, t22]; omega
    · rw [e25, qI_wI, if_pos ⟨rfl, rfl⟩, f22.kI w.k44 (by decide) (by decide)]
  obtain ⟨h1, h2⟩ := h2 c178
  refine ⟨fun c => ?_, fun c179 => ?_⟩
  · obtain ⟨g1, d1, h3⟩ := h1 c
    refine ⟨g1, d1, fun a31 e31 => ?_⟩
    obtain ⟨Q32, p32, h32⟩ := h3 a31 e31
    have e31' : a31 = fX10_kindOfField A q a7 := by rw [e31, q0, uc.fk.1]
    have pk := kd_pl (M.1.2.2 a7)
    rw [← e31'] at pk
    have nv : ndW A q (rwM A q (mD S (dpM S))) (qI S 44 13) = plO a31 ∧ pgV A q (rwM A q (mD S (dpM S))) (qI S 44 13) = 0 := by
      unfold ndW pgV fX10_takes fX10_gives
      rw [← ex, if_pos c, if_neg (by omega), if_neg (by omega), if_neg (by omega), if_neg (by omega), if_neg (by omega), ← ea, ← e31', pk]
      rw [ex, (tS 179 c).2]
      exact ⟨rfl, k11⟩
    rw [nv.1, nv.2] at nx hg1
    have fk := po.2.2.2.2.1 (by rw [← ex]; exact c)
    rw [← ea] at fk
    refine ⟨_, ct_mpop2 w mx ⟨hg1.2.1, h24⟩ p32, ?_⟩
    rintro r33 S34 ⟨⟨g34, t34⟩, f34⟩ w34 s34
    obtain ⟨Q36, p36, h36⟩ := h32 r33 S34 g34 w34 s34
    refine ⟨_, ct_msetField fk p36, ?_⟩
    rintro S37 ⟨g37, f37⟩ w37 s37 S40 e40 k40 w40
    have f40 : cfr [] [(45, 13)] S37 S40 := by rw [e40]; exact cfr.oI k40 rfl
    have F40 : cfr [402] [(45, 13), (45, 14)] S S40 := ((f34.mo rfl rfl).tr (f37.mo rfl rfl)).tr (f40.mo rfl rfl)
    refine ⟨h36 S37 g37 w37 s37 S40 e40 k40 w40, nx S40 (F40.mo rfl rfl) (ar.mv w F40 rfl rfl rfl rfl) (go (by omega)) ?_ ?_⟩
    · rw [tp_fr w37 f40 rfl rfl, tp_fr w34 f37 rfl rfl, t34]; omega
    · rw [e40, qI_wI, if_pos ⟨rfl, rfl⟩, f37.kI w34.k44 (by decide) (by decide), f34.kI w.k44 (by decide) (by decide)]
  obtain ⟨h1, h2⟩ := h2 c179
  refine ⟨fun c => ?_, fun c184 => ?_⟩
  · obtain ⟨Q41, p41, h41⟩ := h1 c
    exact ⟨_, ct_menter M wA w I0 (by rw [← ex]; exact c) ea p41, fun S42 g42 w42 s42 => ⟨h41 S42 g42.1 w42 s42, g42.2⟩⟩
  obtain ⟨h1, h2⟩ := h2 c184
  refine ⟨fun c => ?_, fun c188 => ?_⟩
  · have o := od (by omega)
    rw [o.1, o.2, (tS 188 c).1, (tS 188 c).2, show plK (fX6_takes S00k (Int32.ofNat 188)) = 1 from k1, show plK (fX6_gives S00k (Int32.ofNat 188)) = 1 from k2] at nx hg1
    obtain ⟨Q44, p44, h44⟩ := h1 c
    refine ⟨_, ct_mpop mx ⟨by omega, h24⟩ p44, ?_⟩
    rintro r45 S46 ⟨⟨g46, t46⟩, f46⟩ w46 s46
    obtain ⟨Q48, p48, h48⟩ := h44 r45 S46 g46 w46 s46
    have m46 := mx.fr w f46 (by decide) (by decide) (by decide) (by decide)
    have B46 : Y3B A q C S46 := B.pp w (f46.mo rfl rfl) (f46.kI w.k44 (by decide) (by decide))
    refine ⟨_, ct_mmake w46 m46 (ar.mv w f46 rfl rfl rfl rfl) (by omega) (fun u f a t p => nx u ((f46.mo rfl rfl).tr f) a (go (by omega)) (by rw [t, t46]) (by rw [p, f46.kI w.k44 (by decide) (by decide)])) (fun i Qr hU => ct_mraise M wA B46 hU) (fun u f z => (B46.1.mv w46 (f.mo rfl rfl)).j z) p48, fun S49 g49 w49 s49 => ⟨h48 S49 g49.1 w49 s49, g49.2⟩⟩
  obtain ⟨h1, h2⟩ := h2 c188
  refine ⟨fun c => ?_, fun c190 => ?_⟩
  · have o := od (by omega)
    rw [o.1, o.2, (tS 190 c).1, (tS 190 c).2, show plK (fX6_takes S00k (Int32.ofNat 190)) = 1 from k3, show plK (fX6_gives S00k (Int32.ofNat 190)) = 1 from k4] at nx hg1
    obtain ⟨Q52, p52, h52⟩ := h1 c
    refine ⟨_, ct_mpop mx ⟨by omega, h24⟩ p52, ?_⟩
    rintro r53 S54 ⟨⟨g54, t54⟩, f54⟩ w54 s54
    obtain ⟨Q56, p56, h56⟩ := h52 r53 S54 g54 w54 s54
    have m54 := mx.fr w f54 (by decide) (by decide) (by decide) (by decide)
    have B54 : Y3B A q C S54 := B.pp w (f54.mo rfl rfl) (f54.kI w.k44 (by decide) (by decide))
    refine ⟨_, ct_mtell w54 m54 (by omega) (fun u f t p => nx u ((f54.mo rfl rfl).tr (f.mo rfl rfl)) (ar.mv w ((f54.mo rfl rfl : cfr [405] [(45, 13), (45, 14)] S S54).tr f) rfl rfl rfl rfl) (go (by omega)) (by rw [t, t54]) (by rw [p, f54.kI w.k44 (by decide) (by decide)])) (fun i Qr hU => ct_mraise M wA B54 hU) p56, fun S57 g57 w57 s57 => ⟨h56 S57 g57.1 w57 s57, g57.2⟩⟩
  obtain ⟨h1, h2⟩ := h2 c190
  refine ⟨fun c => ?_, fun c191 => ?_⟩
  · have o := od (by omega)
    rw [o.1, (tS 191 c).1, show plK (fX6_takes S00k (Int32.ofNat 191)) = 1 from k5] at hg1
    obtain ⟨Q59, p59, h59⟩ := h1 c
    refine ⟨_, ct_mpop mx ⟨by omega, h24⟩ p59, ?_⟩
    rintro r60 S61 ⟨⟨g61, t61⟩, f61⟩ w61 s61
    obtain ⟨Q63, p63, h63⟩ := h59 r60 S61 g61 w61 s61
    have B61 : Y3B A q C S61 := B.pp w (f61.mo rfl rfl) (f61.kI w.k44 (by decide) (by decide))
    exact ⟨_, ct_mthrow (fun i Qr hU => ct_mraise M wA B61 hU) p63, fun S64 g64 w64 s64 => ⟨h63 S64 g64.1 w64 s64, g64.2⟩⟩
  · exfalso
    rcases hx with e | e | e | e | e | e | e | e
    · exact c178 e
    · exact c179 e
    · exact c184 e
    · exact c188 e
    · exact c190 e
    · exact c191 e
    · exact c46 e
    · exact c79 e
end MUS
/-! Machine: one step -/
section MST
variable {A S u v U V : MS} {q r m d : Nat} {C : Nat → Nat → Prop} {x y k : Int32} {Q : MS → Prop} {Q1 : Int32 → MS → Prop}
theorem and255 {x : Int32} : 0 ≤ (x &&& (255 : Int32)).toInt := by
  have h : (x &&& (255 : Int32)).toBitVec.msb = false := by
    rw [Int32.toBitVec_and, BitVec.msb_and]
    rw [show ((255 : Int32).toBitVec).msb = false by decide]
    simp
  show 0 ≤ (x &&& (255 : Int32)).toBitVec.toInt
  rw [BitVec.toInt_eq_toNat_of_msb h]
  exact Int.natCast_nonneg _
theorem ct_step (M : MdA A q C) (wA : wfC A) (w : wfC S) (I : Y3I A q C S) (h : wX5_step S Q) : wX5_step S (fun u => Q u ∧ Y3J A q C u) := by
  have I0 := I
  obtain ⟨B, hh, h24⟩ := I
  obtain ⟨⟨hg1, _, hg3, _⟩, rt, po⟩ := B.hg M
  have mx := B.1.2.2.2.1
  have ar := B.1.2.2.2.2
  obtain ⟨o12, q0, ⟨rc, kr, R⟩, ⟨uc, ku, uk⟩, hx0⟩ := B.at wA M
  have w24 := ((M.2 _ B.2.2.2.1.1).2.2).1
  have nx : ∀ u : MS, cfr KW FW S u → ArIk u → ¬ (fX6_goesOn A (fX8_opAt A (rwM A q (mD S (dpM S))) (qI S 44 13))).toInt = 0 → tpM u = lfV A q (rwM A q (mD S (dpM S))) (qI S 44 13) (tpM S) → qI u 44 13 = qI S 44 13 + 1 → Y3J A q C u := fun u f a g t p => Y3I.j (Y3I.gx w M B f a g (by rw [t, hh]) p)
  have hgh := hg1
  rw [← hh] at hg1
  unfold lfV at hg1
  have ok := po.1
  have orr : 0 ≤ (fX8_opAt A (rwM A q (mD S (dpM S))) (qI S 44 13)).toInt ∧ (fX8_opAt A (rwM A q (mD S (dpM S))) (qI S 44 13)).toInt < 202 := ⟨ok.1, ok.2.1⟩
  have plain : ¬ odO (fX8_opAt A (rwM A q (mD S (dpM S))) (qI S 44 13)).toInt → ndW A q (rwM A q (mD S (dpM S))) (qI S 44 13) = plK (fX6_takes S (fX8_opAt A (rwM A q (mD S (dpM S))) (qI S 44 13))) ∧ pgV A q (rwM A q (mD S (dpM S))) (qI S 44 13) = plK (fX6_gives S (fX8_opAt A (rwM A q (mD S (dpM S))) (qI S 44 13))) := fun e => nd_pl (q := q) e
  unfold wX5_step at h ⊢
  obtain ⟨g0, d0, h⟩ := h
  refine ⟨g0, d0, fun a6 e6 => ?_⟩
  have ea6 : a6 = fX8_opAt A (rwM A q (mD S (dpM S))) (qI S 44 13) := by rw [e6, o12, rc.op]
  obtain ⟨g1, d1, h⟩ := h a6 e6
  refine ⟨g1, d1, fun a12 e12 => ?_⟩
  have ea12 : a12.toInt = tpM S := by rw [e12, o12, hx0, hh]
  obtain ⟨h1, h2⟩ := h a12 e12
  refine ⟨fun c => ?_, fun c => absurd ea12 c⟩
  have h := h1 c
  clear h1 h2
  unfold PtO at po
  rw [← ea6] at nx ok orr plain po
  have ht1 : ndW A q (rwM A q (mD S (dpM S))) (qI S 44 13) ≤ tpM S ∧ tpM S ≤ 24 := ⟨hg1.2.1, h24⟩
  have ht2 : tpM S - ndW A q (rwM A q (mD S (dpM S))) (qI S 44 13) + pgV A q (rwM A q (mD S (dpM S))) (qI S 44 13) ≤ 24 := by omega
  have ht0 := hg1.1
  unfold w_X5_step_J40 at h ⊢
  intro w'
  obtain ⟨d2, h⟩ := h w'
  refine ⟨d2, fun a16 e16 => ?_⟩
  obtain ⟨hN, hB⟩ := h a16 e16
  refine ⟨fun c1 => ?_, fun c1 => ?_⟩
  rotate_left
  · rw [e16] at c1
    obtain ⟨kg, ko⟩ := k_bu (S := S) orr (Or.inl c1)
    obtain ⟨n1, n2⟩ := plain ko
    unfold lfV at nx
    rw [n1, n2] at nx ht2
    rw [n1] at ht1
    obtain ⟨Q106, p106, h106⟩ := hB (by rw [e16]; exact c1)
    refine ⟨_, ct_mcalc w mx c1 ⟨ht1.1, h24, ht2⟩ (fun u f t p => nx u (f.mo rfl rfl) (ar.mv w f rfl rfl rfl rfl) kg t p) (fun U Qr wU f _ hU => B.rz M wA w U 0 Qr f hU) p106, fun S107 g w7 s7 => ⟨h106 S107 g.1 w7 s7, g.2⟩⟩
  obtain ⟨d3, h⟩ := hN c1
  refine ⟨d3, fun a21 e21 => ?_⟩
  obtain ⟨hN, hB⟩ := h a21 e21
  refine ⟨fun c2 => ?_, fun c2 => ?_⟩
  rotate_left
  · rw [e21] at c2
    obtain ⟨kg, ko⟩ := k_bu (S := S) orr (Or.inr c2)
    obtain ⟨n1, n2⟩ := plain ko
    unfold lfV at nx
    obtain ⟨t1, t2⟩ := op_una (S := S) c2
    rw [n1, n2, t1, t2] at nx ht2
    rw [n1, t1] at ht1
    obtain ⟨d4, h⟩ := hB (by rw [e21]; exact c2)
    refine ⟨d4, fun a88 e88 => ?_⟩
    obtain ⟨d5, h⟩ := h a88 e88
    refine ⟨d5, fun a92 e92 => ?_⟩
    obtain ⟨Q93, p93, h93⟩ := h a92 e92
    subst e88
    subst e92
    refine ⟨_, ct_mpop2 w mx ht1 p93, ?_⟩
    rintro r94 S95 ⟨⟨g95, t95⟩, f95⟩ w95 s95
    obtain ⟨d6, h⟩ := h93 r94 S95 g95 w95 s95
    refine ⟨d6, fun a100 e100 => ?_⟩
    obtain ⟨Q101, p101, h101⟩ := h a100 e100
    have b2 := plO_b (fX6_takes S a6)
    refine ⟨_, ct_mpush2 w95 (mx.fr w f95 (by decide) (by decide) (by decide) (by decide)) ⟨by omega, by omega⟩ p101, ?_⟩
    rintro S102 ⟨⟨g102, t102⟩, f102⟩ w102 s102 S105 e105 k105 w105
    have f105 : cfr [] [(45, 13)] S102 S105 := by rw [e105]; exact cfr.oI k105 rfl
    have F : cfr [405] [(45, 13), (45, 14)] S S105 := ((f95.mo rfl rfl).tr (f102.mo rfl rfl)).tr (f105.mo rfl rfl)
    refine ⟨h101 S102 g102 w102 s102 S105 e105 k105 w105, nx S105 (F.mo rfl rfl) (ar.mv w F rfl rfl rfl rfl) kg ?_ ?_⟩
    · rw [tp_fr w102 f105 rfl rfl, t102, t95]
    · rw [e105, qI_wI, if_pos ⟨rfl, rfl⟩, f102.kI w95.k44 (by decide) (by decide), f95.kI w.k44 (by decide) (by decide)]
  obtain ⟨d4, h⟩ := hN c2
  refine ⟨d4, fun a26 e26 => ?_⟩
  obtain ⟨hN, hB⟩ := h a26 e26
  refine ⟨fun c3 => ?_, fun c3 => ?_⟩
  rotate_left
  · rw [e26] at c3
    obtain ⟨ko, kg⟩ := k_jm (S := S) orr c3
    obtain ⟨n1, n2⟩ := plain ko
    obtain ⟨t1, t2⟩ := op_jmp (S := S) c3
    obtain ⟨Q72, p72, h72⟩ := hB (by rw [e26]; exact c3)
    have lv : lfV A q (rwM A q (mD S (dpM S))) (qI S 44 13) (tpM S) = tpM S - jnV a6.toInt := by unfold lfV; rw [n1, n2, t1, t2]; omega
    have p72' : wX5_isJumpTaken S a6 (fun z u => (Q72 z u ∧ tpM u = tpM S - jnV a6.toInt) ∧ cfr [] [(45, 14)] S u ∧ (a6.toInt = 167 → ¬ z.toInt = 0)) := by
      by_cases c7 : a6.toInt = 167
      · unfold wX5_isJumpTaken at p72 ⊢
        exact ⟨fun c8 => ⟨⟨p72.1 c8, by unfold jnV; rw [if_pos c7]; omega⟩, cfr.rf, fun _ => by decide⟩, fun c8 => absurd c7 c8⟩
      · have z := ct_mjump w mx ⟨by rw [← t1, ← n1]; exact ht1.1, h24⟩ p72
        have e : (fun (z : Int32) (u : MS) => (Q72 z u ∧ tpM u = tpM S - jnV a6.toInt) ∧ cfr [] [(45, 14)] S u) = (fun (z : Int32) (u : MS) => (Q72 z u ∧ tpM u = tpM S - jnV a6.toInt) ∧ cfr [] [(45, 14)] S u ∧ (a6.toInt = 167 → ¬ z.toInt = 0)) := by
          funext z u
          refine propext ⟨fun h => ⟨h.1, h.2, fun c => absurd c c7⟩, fun h => ⟨h.1, h.2.1⟩⟩
        rw [e] at z
        exact z
    refine ⟨_, p72', ?_⟩
    rintro r73 S74 ⟨⟨g74, t74⟩, f74, z74⟩ w74 s74
    obtain ⟨h5, h6⟩ := h72 r73 S74 g74 w74 s74
    have P74 : qI S74 44 13 = qI S 44 13 := f74.kI w.k44 (by decide) (by decide)
    refine ⟨fun c4 => ?_, fun c4 => ?_⟩
    · have h5 := h5 c4
      unfold w_X5_step_J132 at h5 ⊢
      intro w' S76 e76 k76 w76
      have f76 : cfr [] [(45, 13)] S74 S76 := by rw [e76]; exact cfr.oI k76 rfl
      have F : cfr [] [(45, 13), (45, 14)] S S76 := (f74.mo rfl rfl).tr (f76.mo rfl rfl)
      refine ⟨h5 w' S76 e76 k76 w76, nx S76 (F.mo rfl rfl) (ar.mv w F rfl rfl rfl rfl) (kg (fun c7 => z74 c7 c4)) ?_ ?_⟩
      · rw [tp_fr w74 f76 rfl rfl, t74, lv]
      · rw [e76, qI_wI, if_pos ⟨rfl, rfl⟩, P74]
    · obtain ⟨g2, d5, h7⟩ := h6 c4
      refine ⟨g2, d5, fun a84 e84 => ?_⟩
      have h8 := h7 a84 e84
      unfold w_X5_step_J132 at h8 ⊢
      intro w' S76 e76 k76 w76
      have f76 : cfr [] [(45, 13)] S74 S76 := by rw [e76]; exact cfr.oI k76 rfl
      have F : cfr [] [(45, 13), (45, 14)] S S76 := (f74.mo rfl rfl).tr (f76.mo rfl rfl)
      have B74 := B.pp w (f74.mo rfl rfl) P74
      obtain ⟨p12, _, ⟨rc74, _, _⟩, _, _⟩ := B74.at wA M
      have em : mD S74 (dpM S74) = mD S (dpM S) := md_fx w (f74.mo rfl rfl)
      have jS : ¬ (fX6_isJump A (fX8_opAt A (rwM A q (mD S (dpM S))) (qI S 44 13))).toInt = 0 := by rw [← ea6]; exact c3
      have tc : fX8_targetCount A (rwM A q (mD S (dpM S))) (qI S 44 13) = 1 := by unfold fX8_targetCount; rw [if_neg jS]
      have ta : fX8_targetAt A (rwM A q (mD S (dpM S))) (qI S 44 13) 0 = (fX8_argAt A (rwM A q (mD S (dpM S))) (qI S 44 13)).toInt32 := by unfold fX8_targetAt; rw [if_neg jS]
      refine ⟨h8 w' S76 e76 k76 w76, Y3I.j (Y3I.to w M B hh (F.mo rfl rfl) (j := 0) (by decide) (by rw [tc]; decide) (by rw [tp_fr w74 f76 rfl rfl, t74, lv]) ?_)⟩
      rw [e76, qI_wI, if_pos ⟨rfl, rfl⟩, ta, e84, p12, rc74.ar, em, P74]
  obtain ⟨d5, h⟩ := hN c3
  refine ⟨d5, fun a31 e31 => ?_⟩
  obtain ⟨hN, hB⟩ := h a31 e31
  rw [e16] at c1
  rw [e21] at c2
  rw [e26] at c3
  refine ⟨fun c4 => ?_, fun c4 => ?_⟩
  rotate_left
  · rw [e31] at c4
    have c4A : ¬ (fX6_isSwitch A a6).toInt = 0 := c4
    have so : a6.toInt = 170 ∨ a6.toInt = 171 := by
      by_cases z : a6.toInt = 170 ∨ a6.toInt = 171
      · exact z
      · exfalso
        apply c4
        unfold fX6_isSwitch
        rw [if_neg (by omega), if_neg (by omega)]
        rfl
    obtain ⟨n1, n2⟩ := plain (by unfold odO; omega)
    obtain ⟨t1, t2⟩ := k_sw (S := S) orr so
    obtain ⟨g2, Q59, p59, h59⟩ := hB (by rw [e31]; exact c4)
    have lv : lfV A q (rwM A q (mD S (dpM S))) (qI S 44 13) (tpM S) = tpM S - 1 := by unfold lfV; rw [n1, n2, t1, t2]; omega
    refine ⟨g2, _, ct_mpop mx ⟨by omega, h24⟩ p59, ?_⟩
    rintro r60 S61 ⟨⟨g61, t61⟩, f61⟩ w61 s61
    obtain ⟨Q63, p63, h63⟩ := h59 r60 S61 g61 w61 s61
    have P61 : qI S61 44 13 = qI S 44 13 := f61.kI w.k44 (by decide) (by decide)
    have B61 := B.pp w (f61.mo rfl rfl) P61
    obtain ⟨p12, _, ⟨rc61, _, _⟩, _, _⟩ := B61.at wA M
    have em : mD S61 (dpM S61) = mD S (dpM S) := md_fx w (f61.mo rfl rfl)
    rw [em] at p12 rc61
    have tcE : fX8_targetCount S61 (qO S61 44 12) (qI S61 44 13) = fX8_targetCount A (rwM A q (mD S (dpM S))) (qI S 44 13) := by rw [p12, rc61.tc, P61]
    have tc1 := po.2.2.1 c4A
    refine ⟨_, ct_switch (by rw [tcE]; exact tc1) p63, ?_⟩
    rintro r64 S65 ⟨g65, e65, z0, z1⟩ w65 s65
    obtain ⟨d6, h6⟩ := h63 r64 S65 g65 w65 s65
    rw [e65] at h6 d6 ⊢
    refine ⟨d6, fun a70 e70 S71 e71 k71 w71 => ?_⟩
    have f71 : cfr [] [(45, 13)] S61 S71 := by rw [e71]; exact cfr.oI k71 rfl
    have F : cfr [] [(45, 13), (45, 14)] S S71 := (f61.mo rfl rfl).tr (f71.mo rfl rfl)
    rw [tcE] at z1
    refine ⟨h6 a70 e70 S71 e71 k71 w71, Y3I.j (Y3I.to w M B hh (F.mo rfl rfl) (j := r64) z0 z1 (by rw [tp_fr w61 f71 rfl rfl, t61, lv]) ?_)⟩
    rw [e71, qI_wI, if_pos ⟨rfl, rfl⟩, e70, o12, rc61.ta]
  rw [e31] at c4
  have h := hN (by rw [e31]; exact c4)
  have usS : a6.toInt = 178 ∨ a6.toInt = 179 ∨ a6.toInt = 184 ∨ a6.toInt = 188 ∨ a6.toInt = 190 ∨ a6.toInt = 191 ∨ a6.toInt = 46 ∨ a6.toInt = 79 → w_X5_step_J244 Q S a6 → w_X5_step_J244 (fun u => Q u ∧ Y3J A q C u) S a6 := fun e hj => by
    unfold w_X5_step_J244 at hj ⊢
    intro w'
    obtain ⟨Q33, p33, h33⟩ := hj w'
    exact ⟨_, ct_muse M wA w I0 ea6 e p33, fun S34 g w4 s4 => ⟨h33 S34 g.1 w4 s4, g.2⟩⟩
  have J225 : (a6.toInt < 87 ∨ 95 < a6.toInt) → (a6.toInt < 172 ∨ 177 < a6.toInt) → w_X5_step_J225 Q S a6 → w_X5_step_J225 (fun u => Q u ∧ Y3J A q C u) S a6 := fun x1 x2 hj => by
    unfold w_X5_step_J225 at hj ⊢
    intro w'
    obtain ⟨h1, h2⟩ := hj w'
    refine ⟨fun c5 => usS (by have := k_us (S := S) ok c3 c5; omega) (h1 c5), fun c5 => ?_⟩
    obtain ⟨h1, h2⟩ := h2 c5
    refine ⟨fun c6 => usS (by omega) (h1 c6), fun c6 => ?_⟩
    obtain ⟨h1, h2⟩ := h2 c6
    refine ⟨fun c7 => usS (by omega) (h1 c7), fun c7 => ?_⟩
    obtain ⟨Q40, p40, h40⟩ := h2 c7
    have mv := k_mv (S := S) ok c1 c2 c3 c4 x1 x2 (by omega) c6 c7
    obtain ⟨ko, kg, kl⟩ := k_ml (S := S) mv
    obtain ⟨n1, n2⟩ := plain ko
    have lk : MvL S a6 := fun l1 l2 l3 l4 => by
      have lo : fX8_localOf S (qO S 44 12) (qI S 44 13) = fX8_localOf A (rwM A q (mD S (dpM S))) (qI S 44 13) := by unfold fX8_localOf; rw [o12, rc.ar]
      rw [lo]
      exact ⟨and255, po.2.2.2.1 (kl l1 l2 l3 l4)⟩
    unfold lfV at nx
    rw [n1, n2] at nx ht2
    rw [n1] at ht1
    refine ⟨_, ct_mmove w mx mv lk ⟨ht1.1, h24, ht2⟩ p40, ?_⟩
    rintro S41 ⟨⟨g41, t41⟩, f41⟩ w41 s41 S44 e44 k44 w44
    have f44 : cfr [] [(45, 13)] S41 S44 := by rw [e44]; exact cfr.oI k44 rfl
    have F : cfr [404, 405] [(45, 13), (45, 14)] S S44 := (f41.mo rfl rfl).tr (f44.mo rfl rfl)
    refine ⟨h40 S41 g41 w41 s41 S44 e44 k44 w44, nx S44 (F.mo rfl rfl) (ar.mv w F rfl rfl rfl rfl) kg ?_ ?_⟩
    · rw [tp_fr w41 f44 rfl rfl, t41]
    · rw [e44, qI_wI, if_pos ⟨rfl, rfl⟩, f41.kI w.k44 (by decide) (by decide)]
  have J203 : (a6.toInt < 87 ∨ 95 < a6.toInt) → w_X5_step_J203 Q S a6 → w_X5_step_J203 (fun u => Q u ∧ Y3J A q C u) S a6 := fun x1 hj => by
    unfold w_X5_step_J203 at hj ⊢
    intro w'
    obtain ⟨h1, h2⟩ := hj w'
    refine ⟨fun c5 => J225 x1 (Or.inl c5) (h1 c5), fun c5 => ?_⟩
    obtain ⟨h1, h2⟩ := h2 c5
    refine ⟨fun c6 => J225 x1 (Or.inr c6) (h1 c6), fun c6 => ?_⟩
    obtain ⟨Q47, p47, h47⟩ := h2 c6
    exact ⟨_, ct_mleave M wA w I0 ea6 (by omega) p47, fun S48 g w8 s8 => ⟨h47 S48 g.1 w8 s8, g.2⟩⟩
  obtain ⟨h1, h2⟩ := h
  refine ⟨fun c5 => J203 (Or.inl c5) (h1 c5), fun c5 => ?_⟩
  obtain ⟨h1, h2⟩ := h2 c5
  refine ⟨fun c6 => J203 (Or.inr c6) (h1 c6), fun c6 => ?_⟩
  obtain ⟨Q52, p52, h52⟩ := h2 c6
  have sh := nd_sh (A := A) (q := q) (r := rwM A q (mD S (dpM S))) (x := qI S 44 13) (by rw [← ea6]; omega) (by rw [← ea6]; omega) (by rw [← ea6]; exact ok)
  have kg := (k_sh (S := S) ok (by omega) (by omega)).2.2
  rw [← ea6] at sh
  unfold lfV at nx
  rw [sh.1, sh.2] at nx ht2
  rw [sh.1] at ht1
  refine ⟨_, ct_mshuffle w mx ⟨ht1.1, h24, ht2⟩ p52, ?_⟩
  rintro S53 ⟨⟨g53, t53⟩, f53⟩ w53 s53 S56 e56 k56 w56
  have f56 : cfr [] [(45, 13)] S53 S56 := by rw [e56]; exact cfr.oI k56 rfl
  have F : cfr [405] [(45, 13), (45, 14)] S S56 := (f53.mo rfl rfl).tr (f56.mo rfl rfl)
  refine ⟨h52 S53 g53 w53 s53 S56 e56 k56 w56, nx S56 (F.mo rfl rfl) (ar.mv w F rfl rfl rfl rfl) kg ?_ ?_⟩
  · rw [tp_fr w53 f56 rfl rfl, t53]
  · rw [e56, qI_wI, if_pos ⟨rfl, rfl⟩, f53.kI w.k44 (by decide) (by decide)]
end MST
/-! Machine: a run -/
section MPY
variable {A S u v U V : MS} {q r m d : Nat} {C : Nat → Nat → Prop} {x y k x1 x2 : Int32} {Q : MS → Prop} {Q1 : Int32 → MS → Prop}
theorem ct_paL : ∀ (n : Nat) {U : MS} {v1 v2 v3 : Int32}, Mx U → 0 ≤ v2.toInt → v2.toInt ≤ 2 * v3.toInt → 0 ≤ v3.toInt → w_X5_passArguments_L4 Q n U v1 v2 v3 → w_X5_passArguments_L4 (fun u => Q u ∧ cfr [404] [] U u) n U v1 v2 v3 := by
  intro n
  induction n with
  | zero => intro U v1 v2 v3 _ _ _ _ h; exact h
  | succ n ih =>
    intro U v1 v2 v3 mU k0 k1 j0 h
    unfold w_X5_passArguments_L4 at h ⊢
    intro w
    obtain ⟨h1, h2⟩ := h w
    refine ⟨fun c => ⟨h1 c, cfr.rf⟩, fun c => ?_⟩
    obtain ⟨Q2, p2, h3⟩ := h2 c
    refine ⟨_, frX6_kindAt w p2, ?_⟩
    rintro r3 S4 ⟨g4, f4⟩ w4 s4
    obtain ⟨h4, h5⟩ := h3 r3 S4 g4 w4 s4
    have m4 := mU.fr w f4 (by decide) (by decide) (by decide) (by decide)
    have J59 : ∀ (V : MS) (t : Int32), wfC V → Mx V → cfr [404] [] U V → 0 ≤ t.toInt → t.toInt ≤ 2 → v3.toInt < 8 → w_X5_passArguments_J59 Q (w_X5_passArguments_L4 Q n) V t v2 v1 v3 → w_X5_passArguments_J59 (fun u => Q u ∧ cfr [404] [] U u) (w_X5_passArguments_L4 (fun u => Q u ∧ cfr [404] [] U u) n) V t v2 v1 v3 := fun V t wV mV fV t0 t2 b hj => by
      unfold w_X5_passArguments_J59 at hj ⊢
      intro w' a10 e10 a11 e11
      have ea : a10.toInt = v2.toInt + t.toInt := by rw [e10, t_addk (by omega)]
      have eb : a11.toInt = v3.toInt + 1 := by rw [e11, t_addk (by rw [lo_1k]; omega), lo_1k]
      have z := ih (v1 := v1) (v2 := a10) (v3 := a11) mV (by omega) (by omega) (by omega) (hj w' a10 e10 a11 e11)
      have mono : ∀ (n : Nat) {W : MS} {a b c : Int32}, w_X5_passArguments_L4 (fun u => Q u ∧ cfr [404] [] V u) n W a b c → w_X5_passArguments_L4 (fun u => Q u ∧ cfr [404] [] U u) n W a b c := by
        intro n
        induction n with
        | zero => intro W a b c h; exact h
        | succ n ih2 =>
          intro W a b c h
          unfold w_X5_passArguments_L4 at h ⊢
          intro ww
          obtain ⟨g1, g2⟩ := h ww
          have K59 : ∀ (X : MS) (t : Int32) (v : Int32) (s i : Int32), w_X5_passArguments_J59 (fun u => Q u ∧ cfr [404] [] V u) (w_X5_passArguments_L4 (fun u => Q u ∧ cfr [404] [] V u) n) X t v s i → w_X5_passArguments_J59 (fun u => Q u ∧ cfr [404] [] U u) (w_X5_passArguments_L4 (fun u => Q u ∧ cfr [404] [] U u) n) X t v s i := fun X t v s i hk => by
            unfold w_X5_passArguments_J59 at hk ⊢
            intro w9 a e a' e'
            exact ih2 (hk w9 a e a' e')
          have K44 : ∀ (X : MS) (z : Int64) (i1 i2 i3 i4 i5 : Int32), w_X5_passArguments_J44 (fun u => Q u ∧ cfr [404] [] V u) (w_X5_passArguments_L4 (fun u => Q u ∧ cfr [404] [] V u) n) X z i1 i2 i3 i4 i5 → w_X5_passArguments_J44 (fun u => Q u ∧ cfr [404] [] U u) (w_X5_passArguments_L4 (fun u => Q u ∧ cfr [404] [] U u) n) X z i1 i2 i3 i4 i5 := fun X z i1 i2 i3 i4 i5 hk => by
            unfold w_X5_passArguments_J44 at hk ⊢
            intro w9
            obtain ⟨Q6, p6, h6⟩ := hk w9
            refine ⟨Q6, p6, fun S7 g7 w7 s7 => ?_⟩
            obtain ⟨h7, h8⟩ := h6 S7 g7 w7 s7
            exact ⟨fun c => K59 _ _ _ _ _ (h7 c), fun c => K59 _ _ _ _ _ (h8 c)⟩
          refine ⟨fun c => ⟨(g1 c).1, fV.tr (g1 c).2⟩, fun c => ?_⟩
          obtain ⟨Q2, p2, h3⟩ := g2 c
          refine ⟨Q2, p2, fun r3 S4 g4 w4 s4 => ?_⟩
          obtain ⟨h4, h5⟩ := h3 r3 S4 g4 w4 s4
          exact ⟨fun c => ⟨(h4 c).1, K44 _ _ _ _ _ _ _ (h4 c).2⟩, fun c => ⟨(h5 c).1, K44 _ _ _ _ _ _ _ (h5 c).2⟩⟩
      exact mono n z
    have J44 : ∀ z : Int64, v3.toInt < 8 → w_X5_passArguments_J44 Q (w_X5_passArguments_L4 Q n) S4 z v2 v1 v2 v3 r3 → w_X5_passArguments_J44 (fun u => Q u ∧ cfr [404] [] U u) (w_X5_passArguments_L4 (fun u => Q u ∧ cfr [404] [] U u) n) S4 z v2 v1 v2 v3 r3 := fun z b hj => by
      unfold w_X5_passArguments_J44 at hj ⊢
      intro w'
      obtain ⟨Q6, p6, h6⟩ := hj w'
      refine ⟨_, ct_msetLocal m4 ⟨k0, by omega⟩ p6, ?_⟩
      rintro S7 ⟨g7, f7⟩ w7 s7
      obtain ⟨h7, h8⟩ := h6 S7 g7 w7 s7
      have m7 := m4.fr w4 f7 (by decide) (by decide) (by decide) (by decide)
      have F7 : cfr [404] [] U S7 := (f4.mo rfl rfl).tr f7
      exact ⟨fun c => J59 S7 2 w7 m7 F7 (by decide) (by decide) b (h7 c), fun c => J59 S7 1 w7 m7 F7 (by decide) (by decide) b (h8 c)⟩
    exact ⟨fun c => ⟨(h4 c).1, J44 _ (h4 c).1.2 (h4 c).2⟩, fun c => ⟨(h5 c).1, J44 _ (h5 c).1.2 (h5 c).2⟩⟩
theorem ct_pass (m : Mx S) (h : wX5_passArguments S x Q) : wX5_passArguments S x (fun u => Q u ∧ cfr [404] [] S u) := by
  unfold wX5_passArguments at h ⊢
  obtain ⟨n, h⟩ := h
  exact ⟨n, ct_paL n m (by rw [li_0k]; omega) (by rw [li_0k]; omega) (by rw [li_0k]; omega) h⟩
theorem Y3I.sm (w : wfC S) (h : Y3I A q C S) (f : cfr KV FV S v) (e13 : qI v 44 13 = qI S 44 13) (e14 : tpM v = tpM S) : Y3I A q C v := by
  have em : mD v (dpM v) = mD S (dpM S) := md_fx w (f.mo rfl rfl)
  refine ⟨h.1.pp w f e13, ?_, by rw [e14]; exact h.2.2⟩
  rw [em, e13, e14]
  exact h.2.1
theorem ct_plJ100 (E : Y3E A q U) (h : w_X5_play_J100 Q1 U) : w_X5_play_J100 (fun z u => Q1 z u ∧ Y3E A q u) U := by
  unfold w_X5_play_J100 at h ⊢
  intro w
  obtain ⟨h1, h2⟩ := h w
  exact ⟨fun c => ⟨h1 c, E⟩, fun c => ⟨h2 c, E⟩⟩
theorem ct_playL (M : MdA A q C) (wA : wfC A) : ∀ (n : Nat) {U : MS} {v2 : Int32}, Y3J A q C U → w_X5_play_L68 Q1 n U v2 → w_X5_play_L68 (fun z u => Q1 z u ∧ Y3E A q u) n U v2 := by
  intro n
  induction n with
  | zero => intro U v2 _ h; exact h
  | succ n ih =>
    intro U v2 J h
    unfold w_X5_play_L68 at h ⊢
    intro w
    obtain ⟨h1, h2⟩ := h w
    refine ⟨fun c => ct_plJ100 J.1 (h1 c), fun c => ?_⟩
    obtain ⟨h3, h4⟩ := h2 c
    refine ⟨fun c2 => ct_plJ100 J.1 (h3 c2), fun c2 S24 e24 k24 w24 => ?_⟩
    obtain ⟨Q25, p25, h25⟩ := h4 c2 S24 e24 k24 w24
    have f24 : cfr [] [(45, 18)] U S24 := by rw [e24]; exact cfr.oI k24 rfl
    have I := (J.2 (by omega)).sm w (f24.mo rfl rfl) (f24.kI w.k44 (by decide) (by decide)) (tp_fr w f24 rfl rfl)
    refine ⟨_, ct_step M wA w24 I p25, ?_⟩
    rintro S26 ⟨g26, J26⟩ w26 s26
    exact ih J26 (h25 S26 g26 w26 s26)
theorem ct_plJ26 (M : MdA S q C) (w : wfC S) (e0 : qR S 44 0 = some q) (ar : ArIk S) (hx : 0 ≤ x1.toInt ∧ x1.toInt < (qI S q 8).toInt) (f : cfr [] [(45, 8), (45, 9)] S U) (wU : wfC U) (l8 : (qN U (qO U 44 8) : Int) = 1440) (l9 : (qN U (qO U 44 9) : Int) = 1440) (h : w_X5_play_J26 Q1 U x1 x2) : w_X5_play_J26 (fun z u => Q1 z u ∧ Y3E S q u) U x1 x2 := by
  unfold w_X5_play_J26 at h ⊢
  intro w' S3 e3 k3 w3 S4 e4 k4 w4 S5 e5 k5 w5 S6 e6 k6 w6 S7 e7 k7 w7
  obtain ⟨Q8, p8, h8⟩ := h w' S3 e3 k3 w3 S4 e4 k4 w4 S5 e5 k5 w5 S6 e6 k6 w6 S7 e7 k7 w7
  have f3 : cfr [] [(45, 16)] U S3 := by rw [e3]; exact cfr.oJ k3 rfl
  have f4 : cfr [] [(45, 17)] S3 S4 := by rw [e4]; exact cfr.oI k4 rfl
  have f5 : cfr [] [(45, 18)] S4 S5 := by rw [e5]; exact cfr.oI k5 rfl
  have f6 : cfr [] [(45, 15)] S5 S6 := by rw [e6]; exact cfr.oI k6 rfl
  have f7 : cfr [] [(45, 11)] S6 S7 := by rw [e7]; exact cfr.oI k7 rfl
  have F : cfr [] [(45, 11), (45, 15), (45, 16), (45, 17), (45, 18)] U S7 := ((((f3.mo rfl rfl).tr (f4.mo rfl rfl)).tr (f5.mo rfl rfl)).tr (f6.mo rfl rfl)).tr (f7.mo rfl rfl)
  have G : cfr [] [(45, 8), (45, 9), (45, 11), (45, 15), (45, 16), (45, 17), (45, 18)] S S7 := (f.mo rfl rfl).tr (F.mo rfl rfl)
  have d7 : (qI S7 44 11).toInt = 0 := by rw [e7, qI_wI, if_pos ⟨rfl, rfl⟩]; rfl
  have D7 : dpM S7 = 0 := by unfold dpM; rw [d7]; rfl
  have E7 : Y3E S q S7 := ⟨G.mo rfl rfl, by rw [G.kO w.k44 (by decide) (by decide)]; exact e0, G.kI w.k44 (by decide) (by decide), ⟨by omega, by rw [F.kL wU wU.k44 (wU.ptr (by decide)) (by decide) (by decide)]; exact l8, by rw [F.kL wU wU.k44 (wU.ptr (by decide)) (by decide) (by decide)]; exact l9⟩, ar.mv w G rfl rfl rfl rfl⟩
  refine ⟨_, ct_mopen M w w7 E7 hx.1 hx.2 (fun d hd => by omega) (fun d hd => by omega) p8, ?_⟩
  rintro S9 ⟨g9, I9, _, _⟩ w9 s9
  obtain ⟨r9, d9, h9⟩ := h8 S9 g9 w9 s9
  refine ⟨r9, d9, fun a16 e16 => ?_⟩
  obtain ⟨Q17, p17, h17⟩ := h9 a16 e16
  refine ⟨_, ct_pass I9.1.1.2.2.2.1 p17, ?_⟩
  rintro S18 ⟨g18, f18⟩ w18 s18
  obtain ⟨n, h18⟩ := h17 S18 g18 w18 s18
  have I18 := I9.sm w9 (f18.mo rfl rfl) (f18.kI w9.k44 (by decide) (by decide)) (tp_fr w9 f18 rfl rfl)
  exact ⟨n, ct_playL M w n I18.j h18⟩
theorem ct_play (M : MdA S q C) (w : wfC S) (e0 : qR S 44 0 = some q) (ar : ArIk S) (hx : 0 ≤ x1.toInt ∧ x1.toInt < (qI S q 8).toInt) (ms : (qN S (qO S 44 8) = 0 ∧ qN S (qO S 44 9) = 0) ∨ (qN S (qO S 44 8) = 1440 ∧ qN S (qO S 44 9) = 1440)) (h : wX5_play S x1 x2 Q1) : wX5_play S x1 x2 (fun z u => Q1 z u ∧ Y3E S q u) := by
  unfold wX5_play at h ⊢
  refine ⟨fun c => ?_, fun c => ?_⟩
  · obtain ⟨b1, h1⟩ := h.1 c
    refine ⟨b1, fun S33 e33 w33 S35 e35 k35 w35 => ?_⟩
    obtain ⟨b2, h2⟩ := h1 S33 e33 w33 S35 e35 k35 w35
    refine ⟨b2, fun S39 e39 w39 S41 e41 k41 w41 => ?_⟩
    have f33 : cfr [] [(45, 8), (45, 9)] S S33 := by rw [e33]; exact cfr.new w (e33 ▸ w33)
    have f35 : cfr [] [(45, 8), (45, 9)] S33 S35 := by rw [e35]; exact cfr.oR k35 rfl
    have f39 : cfr [] [(45, 8), (45, 9)] S35 S39 := by rw [e39]; exact cfr.new w35 (e39 ▸ w39)
    have f41 : cfr [] [(45, 8), (45, 9)] S39 S41 := by rw [e41]; exact cfr.oR k41 rfl
    have q35 : qn S35 = qn S + 1 := by rw [e35, e33]; rfl
    have n9 : qN S35 (qn S) = 1440 := by rw [e35, e33]; exact if_pos rfl
    have m9 : qN S41 (qn S) = 1440 := by
      have : qN S41 (qn S) = qN S35 (qn S) := by rw [e41, e39]; exact if_neg (by rw [q35]; omega)
      rw [this, n9]
    have m8 : qN S41 (qn S35) = 1440 := by rw [e41, e39]; exact if_pos rfl
    have o8 : qO S41 44 8 = qn S35 := qO_of (by rw [e41, qR_wR, if_pos ⟨rfl, rfl⟩])
    have o9 : qO S41 44 9 = qn S := by
      refine qO_of ?_
      have a : qR S41 44 9 = qR S39 44 9 := by rw [e41, qR_wR, if_neg (fun z => by cases z.2)]
      have b : qR S39 44 9 = qR S35 44 9 := (show cfr [] [] S35 S39 by rw [e39]; exact cfr.new w35 (e39 ▸ w39)).kO w35.k44 (by decide) (by decide)
      rw [a, b, e35, qR_wR, if_pos ⟨rfl, rfl⟩]
    exact ct_plJ26 M w e0 ar hx (((f33.tr f35).tr f39).tr f41) w41 (by rw [o8, m8]; rfl) (by rw [o9, m9]; rfl) (h2 S39 e39 w39 S41 e41 k41 w41)
  · rcases ms with t | t
    · exact absurd (by rw [t.2]; rfl) c
    · exact ct_plJ26 M w e0 ar hx cfr.rf w (by rw [t.1]; rfl) (by rw [t.2]; rfl) (h.2 c)
end MPY
/-! what points well by the numbers points well by the questions -/
section GPT
variable {A S u : MS} {B : Nat × Nat} {q r i m : Nat} {x y : Int32} {M : Int}
theorem oa_op (h : 0 ≤ x.toInt ∧ x.toInt < nR S r) : fX8_opAt S r x = rOp S r x.toInt.toNat ∧ fX8_argAt S r x = rAr S r x.toInt.toNat := by
  unfold nR at h
  unfold fX8_opAt fX8_argAt rOp rAr
  rw [if_neg (by omega), if_pos h.2, if_neg (by omega), if_pos h.2]
  exact ⟨rfl, rfl⟩
theorem sw_yes (h : ¬ (fX6_isSwitch S y).toInt = 0) : swO y := by
  by_cases z : y.toInt = 170 ∨ y.toInt = 171
  · exact z
  · exfalso
    apply h
    unfold fX6_isSwitch
    rw [if_neg (by omega), if_neg (by omega)]
    rfl
/-- the numbers of a switch -/
theorem sw_tab (R : RwK S r) (rv : RvK S r) (h : 0 ≤ x.toInt ∧ x.toInt < nR S r) (sw : swO (rOp S r x.toInt.toNat)) : (fX8_tableAt S r ((fX8_argAt S r x).toInt32)).toInt = mT S r x.toInt.toNat ∧ (1 ≤ mT S r x.toInt.toNat ∧ mT S r x.toInt.toNat ≤ 300) ∧ ∀ j : Int32, 0 ≤ j.toInt → j.toInt < mT S r x.toInt.toNat → fX8_tableAt S r ((((fX8_argAt S r x).toInt32) + (2 : Int32)) + j) = qI S (qO S r 3) (aTk S r x.toInt.toNat + 2 + j.toInt.toNat).toNat := by
  have o := oa_op h
  unfold nR at h
  obtain ⟨v1, v2, v3, v4⟩ := rv.1 x.toInt.toNat (by omega) sw
  have R2 := R.2
  have ea : ((fX8_argAt S r x).toInt32).toInt = aTk S r x.toInt.toNat := by rw [o.2]; rfl
  have sz : mT S r x.toInt.toNat + 2 ≤ szT (rOp S r x.toInt.toNat) (mT S r x.toInt.toNat) := by
    unfold szT
    split <;> omega
  unfold eT at v4
  have l2 := li_2k
  refine ⟨?_, ⟨v2, v3⟩, fun j j0 j1 => ?_⟩
  · unfold fX8_tableAt mT
    rw [if_neg (by omega), if_pos (by omega), ea]
  · have e2 : (((fX8_argAt S r x).toInt32) + (2 : Int32)).toInt = aTk S r x.toInt.toNat + 2 := by rw [t_addk (by rw [l2]; omega), l2, ea]
    have e3 : ((((fX8_argAt S r x).toInt32) + (2 : Int32)) + j).toInt = aTk S r x.toInt.toNat + 2 + j.toInt := by rw [t_addk (by rw [e2]; omega), e2]
    unfold fX8_tableAt
    rw [if_neg (by omega), if_pos (by omega), e3]
    congr 1
    omega
theorem GdR.pt (R : RwK S r) (rv : RvK S r) (g : GdR M S r) (hM : M = (qI S q 8).toInt) : PtR S q r := by
  obtain ⟨g1, g2, g3, g4⟩ := g
  refine ⟨g2, fun x x0 x1 => ?_, g4⟩
  have o := oa_op ⟨x0, x1⟩
  have x1' := x1
  unfold nR at x1'
  obtain ⟨k1, k2, k3, k4, k5, k6⟩ := g3 x.toInt.toNat (by omega)
  unfold PtO
  refine ⟨by rw [o.1]; exact k1, fun j j0 j1 => ?_, fun sw => ?_, fun ul => ?_, fun c => ?_, fun c => ?_⟩
  · unfold fX8_targetCount at j1
    unfold fX8_targetAt
    by_cases jm : (fX6_isJump S (fX8_opAt S r x)).toInt = 0
    · rw [if_pos jm] at j1 ⊢
      by_cases sw : (fX6_isSwitch S (fX8_opAt S r x)).toInt = 0
      · rw [if_pos sw, li_0k] at j1; omega
      rw [if_neg sw] at j1
      have so := sw_yes sw
      rw [o.1] at so
      obtain ⟨t1, t2, t3⟩ := sw_tab R rv ⟨x0, x1⟩ so
      rw [t1] at j1
      rw [t3 j j0 j1]
      exact k3 so j.toInt.toNat (by omega)
    · rw [if_neg jm, o.2]
      rw [o.1] at jm
      exact k2 jm
  · unfold fX8_targetCount
    by_cases jm : (fX6_isJump S (fX8_opAt S r x)).toInt = 0
    · rw [if_pos jm, if_neg sw]
      have so := sw_yes sw
      rw [o.1] at so
      obtain ⟨t1, t2, t3⟩ := sw_tab R rv ⟨x0, x1⟩ so
      rw [t1]
      exact t2.1
    · rw [if_neg jm]; decide
  · unfold fX8_localOf
    rw [o.2]
    rw [o.1] at ul
    exact k4 ul
  · rw [o.1] at c
    rw [o.2]
    exact k5 c
  · rw [o.1] at c
    rw [o.2, ← hM]
    exact k6 c
/-- few targets -/
theorem tc_few (R : RwK S r) (rv : RvK S r) : (fX8_targetCount S r x).toInt ≤ 100000 := by
  unfold fX8_targetCount
  by_cases jm : (fX6_isJump S (fX8_opAt S r x)).toInt = 0
  · rw [if_pos jm]
    by_cases sw : (fX6_isSwitch S (fX8_opAt S r x)).toInt = 0
    · rw [if_pos sw]; decide
    · rw [if_neg sw]
      by_cases h : 0 ≤ x.toInt ∧ x.toInt < nR S r
      · have so := sw_yes sw
        rw [(oa_op h).1] at so
        obtain ⟨t1, t2, t3⟩ := sw_tab R rv h so
        rw [t1]; omega
      · exfalso
        apply sw
        have e : fX8_opAt S r x = -1 := by
          unfold nR at h
          unfold fX8_opAt
          by_cases c : x.toInt < 0
          · rw [if_pos c]; rfl
          · rw [if_neg c, if_neg (by omega)]; rfl
        rw [e]
        rfl
  · rw [if_neg jm]; decide
/-- a Unit's Row, that is kept -/
theorem UN.mdr (w : wfC S) (g : ShC B S) (k : qT S q = 49) (h : UN A S q) (hm : (m : Int) < (qI S q 8).toInt) : MdR S q m ∧ PtR S q (rwM S q m) ∧ RvK S (rwM S q m) ∧ qR S (qO S q 13) m = some (rwM S q m) := by
  obtain ⟨r, e, rr⟩ := h.1.2 m hm
  have o : rwM S q m = r := by unfold rwM; exact qO_of e
  have k13 : qT S (qO S q 13) = 6 := w.ref (g.unit k).1.2.2.2.2.2.2.2.2 k
  have kr : qT S r = 47 := w.ref e k13
  obtain ⟨gd, nm⟩ := h.2.2.1.2 m r hm e
  rw [o]
  refine ⟨⟨by rw [o]; exact e, by rw [o]; exact kr, by rw [o]; exact g.row kr, by rw [o]; unfold nR; have := gd.1; omega, by rw [o]; exact nm⟩, gd.pt (g.row kr) rr.1.1 rfl, rr.1.1, e⟩
end GPT
/-! a new Unit has not been checked -/
section N5A
variable {S S0 u v U V : MS} {p q r : Nat} {o : Option Nat} {x : Int32} {Q : MS → Prop} {Q1 : Int32 → MS → Prop} {Qn : Nat → MS → Prop} {Qo : Option Nat → MS → Prop}
/-- what checking found of old Units stays -/
def X16 (S u : MS) : Prop := ∀ a, qT S a = 49 → qT u a = 49 ∧ qI u a 16 = qI S a 16
theorem X16.rf : X16 S S := fun a k => ⟨k, rfl⟩
theorem X16.fr {K : List Nat} {F : List (Nat × Nat)} (h : X16 S U) (f : cfr K F U V) (h1 : K.contains 49 = false) (h2 : F.contains (49, 16) = false) : X16 S V := fun a k => ⟨f.1.T (h a k).1 (by decide), (f.kI (h a k).1 h1 h2).trans (h a k).2⟩
theorem X16.tr (h : X16 S U) (k : X16 U V) : X16 S V := fun a e => ⟨(k a (h a e).1).1, (k a (h a e).1).2.trans (h a e).2⟩
theorem bm_L200 {Qm : Nat → MS → Prop} {v1 : Nat} (hQ : ∀ u, X16 S0 u → Qn v1 u → Qm v1 u) : ∀ (n : Nat) {U : MS} {v2 : Int32}, X16 S0 U → w_X2_build_L200 Qn n U v1 v2 → w_X2_build_L200 Qm n U v1 v2 := by
  intro n
  induction n with
  | zero => intro U v2 _ h; exact h
  | succ n ih =>
    intro U v2 i h
    unfold w_X2_build_L200 at h ⊢
    intro w k
    obtain ⟨r, h1, h2⟩ := h w k
    refine ⟨r, fun c => hQ U i (h1 c), fun c a55 e55 => ?_⟩
    obtain ⟨r9, d1, h3⟩ := h2 c a55 e55
    refine ⟨r9, d1, fun a61 e61 => ?_⟩
    obtain ⟨d2, h4⟩ := h3 a61 e61
    refine ⟨d2, fun a65 e65 => ?_⟩
    obtain ⟨b1, h5⟩ := h4 a65 e65
    refine ⟨b1, fun S67 e67 k67 w67 => ?_⟩
    obtain ⟨r10, d3, h6⟩ := h5 S67 e67 k67 w67
    refine ⟨r10, d3, fun a73 e73 => ?_⟩
    obtain ⟨d4, h7⟩ := h6 a73 e73
    refine ⟨d4, fun a77 e77 => ?_⟩
    obtain ⟨b2, h8⟩ := h7 a77 e77
    refine ⟨b2, fun S79 e79 k79 w79 => ?_⟩
    obtain ⟨d5, h9⟩ := h8 S79 e79 k79 w79
    refine ⟨d5, fun a83 e83 => ?_⟩
    obtain ⟨Q84, p84, h84⟩ := h9 a83 e83
    have i67 := i.fr (show cfr [234] [] U S67 by rw [e67]; exact cfr.aI k67 rfl) rfl rfl
    have i79 := i67.fr (show cfr [235] [] S67 S79 by rw [e79]; exact cfr.aI k79 rfl) rfl rfl
    refine ⟨_, frX7_isMethodType w79 p84, ?_⟩
    rintro r85 S86 ⟨g86, f86⟩ w86 s86
    have i86 := i79.fr f86 rfl rfl
    obtain ⟨r11, b3, h10⟩ := h84 r85 S86 g86 w86 s86
    refine ⟨r11, b3, fun S91 e91 k91 w91 => ?_⟩
    obtain ⟨r12, b4, h11⟩ := h10 S91 e91 k91 w91
    exact ⟨r12, b4, fun S95 e95 k95 w95 a96 e96 => ih ((i86.fr (show cfr [236] [] S86 S91 by rw [e91]; exact cfr.aI k91 rfl) rfl rfl).fr (show cfr [237] [] S91 S95 by rw [e95]; exact cfr.aI k95 rfl) rfl rfl) (h11 S95 e95 k95 w95 a96 e96)⟩
theorem bm_L120 {Qm : Nat → MS → Prop} {v1 : Nat} (hQ : ∀ u, X16 S0 u → Qn v1 u → Qm v1 u) : ∀ (n : Nat) {U : MS} {v2 : Int32}, X16 S0 U → w_X2_build_L120 Qn n U v1 v2 → w_X2_build_L120 Qm n U v1 v2 := by
  intro n
  induction n with
  | zero => intro U v2 _ h; exact h
  | succ n ih =>
    intro U v2 i h
    unfold w_X2_build_L120 at h ⊢
    intro w k
    obtain ⟨r, h1, h2⟩ := h w k
    refine ⟨r, fun c => ?_, fun c => ?_⟩
    · obtain ⟨m, hm⟩ := h1 c
      exact ⟨m, bm_L200 hQ m i hm⟩
    obtain ⟨r5, d1, h3⟩ := h2 c
    refine ⟨r5, d1, fun a102 e102 => ?_⟩
    obtain ⟨d2, h4⟩ := h3 a102 e102
    refine ⟨d2, fun a106 e106 => ?_⟩
    obtain ⟨b1, h5⟩ := h4 a106 e106
    refine ⟨b1, fun S108 e108 k108 w108 => ?_⟩
    obtain ⟨r6, d3, h6⟩ := h5 S108 e108 k108 w108
    refine ⟨r6, d3, fun a114 e114 => ?_⟩
    obtain ⟨d4, h7⟩ := h6 a114 e114
    refine ⟨d4, fun a118 e118 => ?_⟩
    obtain ⟨b2, h8⟩ := h7 a118 e118
    refine ⟨b2, fun S120 e120 k120 w120 => ?_⟩
    obtain ⟨r7, d5, h9⟩ := h8 S120 e120 k120 w120
    refine ⟨r7, d5, fun a126 e126 => ?_⟩
    obtain ⟨d6, h10⟩ := h9 a126 e126
    refine ⟨d6, fun a130 e130 => ?_⟩
    obtain ⟨b3, h11⟩ := h10 a130 e130
    exact ⟨b3, fun S132 e132 k132 w132 a133 e133 => ih (((i.fr (show cfr [231] [] U S108 by rw [e108]; exact cfr.aI k108 rfl) rfl rfl).fr (show cfr [232] [] S108 S120 by rw [e120]; exact cfr.aI k120 rfl) rfl rfl).fr (show cfr [233] [] S120 S132 by rw [e132]; exact cfr.aI k132 rfl) rfl rfl) (h11 S132 e132 k132 w132 a133 e133)⟩
theorem x16_init {y1 y2 : Int32} {p0 p1 : Nat} (w : wfC S) (h : wX10_init S p0 p1 y1 y2 Q) : wX10_init S p0 p1 y1 y2 (fun u => Q u ∧ ∀ a, a ≠ p0 → qT S a = 49 → qT u a = 49 ∧ qI u a 16 = qI S a 16) := by
  unfold wX10_init at h ⊢
  intro S1 e1 k1 w1 S2 e2 k2 w2
  obtain ⟨c3, h⟩ := h S1 e1 k1 w1 S2 e2 k2 w2
  refine ⟨c3, fun S4 e4 k4 w4 S5 e5 k5 w5 => ?_⟩
  replace h := h S4 e4 k4 w4 S5 e5 k5 w5
  have f : cfr [] [(49, 0), (49, 4), (49, 5), (49, 6), (49, 7), (49, 8), (49, 9), (49, 10), (49, 11), (49, 12), (49, 13)] S2 S5 := (show cfr [] [(49, 0), (49, 4), (49, 5), (49, 6), (49, 7), (49, 8), (49, 9), (49, 10), (49, 11), (49, 12), (49, 13)] S2 S4 by rw [e4]; exact cfr.oR k4 rfl).tr (by rw [e5]; exact cfr.oI k5 rfl)
  obtain ⟨b9, h⟩ := h
  refine ⟨b9, fun S9 e9 w9 => ?_⟩
  obtain ⟨c9, h⟩ := h S9 e9 w9
  refine ⟨c9, ?_⟩
  intro S12 e12 k12 w12
  replace h := h S12 e12 k12 w12
  replace f := (f.tr (show cfr [] [(49, 0), (49, 4), (49, 5), (49, 6), (49, 7), (49, 8), (49, 9), (49, 10), (49, 11), (49, 12), (49, 13)] S5 S9 by rw [e9]; exact cfr.new w5 (e9 ▸ w9))).tr (show cfr [] [(49, 0), (49, 4), (49, 5), (49, 6), (49, 7), (49, 8), (49, 9), (49, 10), (49, 11), (49, 12), (49, 13)] S9 S12 by rw [e12]; exact cfr.oR k12 rfl)
  obtain ⟨b16, h⟩ := h
  refine ⟨b16, fun S16 e16 w16 => ?_⟩
  obtain ⟨c16, h⟩ := h S16 e16 w16
  refine ⟨c16, ?_⟩
  intro S19 e19 k19 w19
  replace h := h S19 e19 k19 w19
  replace f := (f.tr (show cfr [] [(49, 0), (49, 4), (49, 5), (49, 6), (49, 7), (49, 8), (49, 9), (49, 10), (49, 11), (49, 12), (49, 13)] S12 S16 by rw [e16]; exact cfr.new w12 (e16 ▸ w16))).tr (show cfr [] [(49, 0), (49, 4), (49, 5), (49, 6), (49, 7), (49, 8), (49, 9), (49, 10), (49, 11), (49, 12), (49, 13)] S16 S19 by rw [e19]; exact cfr.oR k19 rfl)
  obtain ⟨b23, h⟩ := h
  refine ⟨b23, fun S23 e23 w23 => ?_⟩
  obtain ⟨c23, h⟩ := h S23 e23 w23
  refine ⟨c23, ?_⟩
  intro S26 e26 k26 w26
  replace h := h S26 e26 k26 w26
  replace f := (f.tr (show cfr [] [(49, 0), (49, 4), (49, 5), (49, 6), (49, 7), (49, 8), (49, 9), (49, 10), (49, 11), (49, 12), (49, 13)] S19 S23 by rw [e23]; exact cfr.new w19 (e23 ▸ w23))).tr (show cfr [] [(49, 0), (49, 4), (49, 5), (49, 6), (49, 7), (49, 8), (49, 9), (49, 10), (49, 11), (49, 12), (49, 13)] S23 S26 by rw [e26]; exact cfr.oR k26 rfl)
  intro S27 e27 k27 w27
  replace h := h S27 e27 k27 w27
  replace f := f.tr (show cfr [] [(49, 0), (49, 4), (49, 5), (49, 6), (49, 7), (49, 8), (49, 9), (49, 10), (49, 11), (49, 12), (49, 13)] S26 S27 by rw [e27]; exact cfr.oI k27 rfl)
  obtain ⟨b31, h⟩ := h
  refine ⟨b31, fun S31 e31 w31 => ?_⟩
  obtain ⟨c31, h⟩ := h S31 e31 w31
  refine ⟨c31, ?_⟩
  intro S34 e34 k34 w34
  replace h := h S34 e34 k34 w34
  replace f := (f.tr (show cfr [] [(49, 0), (49, 4), (49, 5), (49, 6), (49, 7), (49, 8), (49, 9), (49, 10), (49, 11), (49, 12), (49, 13)] S27 S31 by rw [e31]; exact cfr.new w27 (e31 ▸ w31))).tr (show cfr [] [(49, 0), (49, 4), (49, 5), (49, 6), (49, 7), (49, 8), (49, 9), (49, 10), (49, 11), (49, 12), (49, 13)] S31 S34 by rw [e34]; exact cfr.oR k34 rfl)
  obtain ⟨b38, h⟩ := h
  refine ⟨b38, fun S38 e38 w38 => ?_⟩
  obtain ⟨c38, h⟩ := h S38 e38 w38
  refine ⟨c38, ?_⟩
  intro S41 e41 k41 w41
  replace h := h S41 e41 k41 w41
  replace f := (f.tr (show cfr [] [(49, 0), (49, 4), (49, 5), (49, 6), (49, 7), (49, 8), (49, 9), (49, 10), (49, 11), (49, 12), (49, 13)] S34 S38 by rw [e38]; exact cfr.new w34 (e38 ▸ w38))).tr (show cfr [] [(49, 0), (49, 4), (49, 5), (49, 6), (49, 7), (49, 8), (49, 9), (49, 10), (49, 11), (49, 12), (49, 13)] S38 S41 by rw [e41]; exact cfr.oR k41 rfl)
  obtain ⟨b45, h⟩ := h
  refine ⟨b45, fun S45 e45 w45 => ?_⟩
  obtain ⟨c45, h⟩ := h S45 e45 w45
  refine ⟨c45, ?_⟩
  intro S48 e48 k48 w48
  replace h := h S48 e48 k48 w48
  replace f := (f.tr (show cfr [] [(49, 0), (49, 4), (49, 5), (49, 6), (49, 7), (49, 8), (49, 9), (49, 10), (49, 11), (49, 12), (49, 13)] S41 S45 by rw [e45]; exact cfr.new w41 (e45 ▸ w45))).tr (show cfr [] [(49, 0), (49, 4), (49, 5), (49, 6), (49, 7), (49, 8), (49, 9), (49, 10), (49, 11), (49, 12), (49, 13)] S45 S48 by rw [e48]; exact cfr.oR k48 rfl)
  obtain ⟨b52, h⟩ := h
  refine ⟨b52, fun S52 e52 w52 => ?_⟩
  obtain ⟨c52, h⟩ := h S52 e52 w52
  refine ⟨c52, ?_⟩
  intro S55 e55 k55 w55
  replace h := h S55 e55 k55 w55
  replace f := (f.tr (show cfr [] [(49, 0), (49, 4), (49, 5), (49, 6), (49, 7), (49, 8), (49, 9), (49, 10), (49, 11), (49, 12), (49, 13)] S48 S52 by rw [e52]; exact cfr.new w48 (e52 ▸ w52))).tr (show cfr [] [(49, 0), (49, 4), (49, 5), (49, 6), (49, 7), (49, 8), (49, 9), (49, 10), (49, 11), (49, 12), (49, 13)] S52 S55 by rw [e55]; exact cfr.oR k55 rfl)
  obtain ⟨b59, h⟩ := h
  refine ⟨b59, fun S59 e59 w59 => ?_⟩
  obtain ⟨c59, h⟩ := h S59 e59 w59
  refine ⟨c59, ?_⟩
  intro S62 e62 k62 w62
  replace h := h S62 e62 k62 w62
  replace f := (f.tr (show cfr [] [(49, 0), (49, 4), (49, 5), (49, 6), (49, 7), (49, 8), (49, 9), (49, 10), (49, 11), (49, 12), (49, 13)] S55 S59 by rw [e59]; exact cfr.new w55 (e59 ▸ w59))).tr (show cfr [] [(49, 0), (49, 4), (49, 5), (49, 6), (49, 7), (49, 8), (49, 9), (49, 10), (49, 11), (49, 12), (49, 13)] S59 S62 by rw [e62]; exact cfr.oR k62 rfl)
  refine ⟨h, fun a ne ka => ?_⟩
  have k2' : qT S2 a = 49 := by rw [e2, e1]; exact ka
  refine ⟨f.1.T k2' (by decide), (f.kI k2' rfl rfl).trans ?_⟩
  rw [e2, qI_wI, if_neg (fun z => ne z.1), e1, qI_wI, if_neg (fun z => ne z.1)]
theorem bv_build (w : wfC S) (h : wX2_build S Qn) : wX2_build S (fun r u => (Qn r u ∧ X16 S u) ∧ qI u r 15 = 0 ∧ qT u r = 49 ∧ qT S r = 0) := by
  unfold wX2_build at h ⊢
  obtain ⟨rm, h⟩ := h
  refine ⟨rm, fun S4 e4 w4 => ?_⟩
  obtain h1 := h S4 e4 w4
  have hT : qn S < TXB := KC_TX (n := qn S) (by have : KCC = 300000 := rfl; omega)
  have k4 : qT S4 (qn S) = 49 := by rw [e4]; exact if_pos rfl
  have z4 : qI S4 (qn S) 15 = 0 := by
    rw [e4]
    show (if qn S = qn S then fun _ => (0 : Int32) else qI S (qn S)) 15 = 0
    rw [if_pos rfl]
  refine fun k101 => ?_
  obtain ⟨Q7, p7, h7⟩ := h1 k101
  refine ⟨_, frJ7_copyOf_9075b w4 p7, ?_⟩
  rintro b12 S9 ⟨g9, f9⟩ w9 s9 kb k49 kb'
  obtain ⟨Q13, p13, h13⟩ := h7 b12 S9 g9 w9 s9 kb k49 kb'
  refine ⟨_, frX10_init w9 (x16_init w9 p13), ?_⟩
  rintro S14 ⟨⟨g14, x14⟩, f14⟩ w14 s14 S17 e17 k17 w17
  obtain ⟨d17, h17⟩ := h13 S14 g14 w14 s14 S17 e17 k17 w17
  refine ⟨d17, fun a22 e22 => ?_⟩
  obtain ⟨d22, h22⟩ := h17 a22 e22
  refine ⟨d22, fun a26 e26 => ?_⟩
  obtain ⟨d26, h26⟩ := h22 a26 e26
  refine ⟨d26, fun a30 e30 S31 e31 k31 w31 => ?_⟩
  obtain ⟨d31, h31⟩ := h26 a30 e30 S31 e31 k31 w31
  refine ⟨d31, fun a36 e36 => ?_⟩
  obtain ⟨d36, h36⟩ := h31 a36 e36
  refine ⟨d36, fun a40 e40 => ?_⟩
  obtain ⟨d40, h40⟩ := h36 a40 e40
  refine ⟨d40, fun a44 e44 S45 e45 k45 w45 => ?_⟩
  obtain ⟨n, h45⟩ := h40 a44 e44 S45 e45 k45 w45
  have f17 : cfr [] [(49, 1)] S14 S17 := by rw [e17]; exact cfr.oI k17 rfl
  have f31 : cfr [] [(49, 2)] S17 S31 := by rw [e31]; exact cfr.oI k31 rfl
  have f45 : cfr [] [(49, 3)] S31 S45 := by rw [e45]; exact cfr.oI k45 rfl
  have g : cfr [] [(49, 0), (49, 1), (49, 2), (49, 3), (49, 4), (49, 5), (49, 6), (49, 7), (49, 8), (49, 9), (49, 10), (49, 11), (49, 12), (49, 13), (49, 16), (49, 17)] S4 S45 := ((((f9.mo rfl rfl).tr (f14.mo rfl rfl)).tr (f17.mo rfl rfl)).tr (f31.mo rfl rfl)).tr (f45.mo rfl rfl)
  have z45 : qI S45 (qn S) 15 = 0 := (g.kI k4 rfl rfl).trans z4
  have k45' : qT S45 (qn S) = 49 := g.1.T k4 (by decide)
  have i4 : X16 S S4 := (X16.rf (S := S)).fr (show cfr [] [] S S4 by rw [e4]; exact cfr.new w (e4 ▸ w4)) rfl rfl
  have i9 : X16 S S9 := i4.fr f9 rfl rfl
  have i14 : X16 S S14 := fun a ka => by
    have ne : a ≠ qn S := fun z => by rw [z, w.nx hT] at ka; cases ka
    have z := x14 a ne (i9 a ka).1
    exact ⟨z.1, z.2.trans (i9 a ka).2⟩
  have i45 : X16 S S45 := ((i14.fr f17 rfl rfl).fr f31 rfl rfl).fr f45 rfl rfl
  refine ⟨n, bm_L120 (S0 := S) (fun u x t => ⟨⟨t.1, x⟩, (t.2.kI k45' rfl rfl).trans z45, t.2.1.T k45' (by decide), w.nx hT⟩) n i45 (fr_X2_build_L120 (S0 := S45) n cfr.rf h45)⟩
theorem um_L41 {Qm : Option Nat → MS → Prop} {v2 : Nat} (hQ : ∀ u, X16 S0 u → Qo (some v2) u → Qm (some v2) u) : ∀ (n : Nat) {U : MS} {v3 : Int32}, X16 S0 U → w_X2_unitOf_L41 Qo n U v2 v3 → w_X2_unitOf_L41 Qm n U v2 v3 := by
  intro n
  induction n with
  | zero => intro U v3 _ h; exact h
  | succ n ih =>
    intro U v3 i h
    unfold w_X2_unitOf_L41 at h ⊢
    intro w k
    obtain ⟨r, h1, h2⟩ := h w k
    refine ⟨r, fun c => hQ U i (h1 c), fun c => ?_⟩
    obtain ⟨r2, Q33, p33, h33⟩ := h2 c
    refine ⟨r2, _, frX2_rowOf w p33, ?_⟩
    rintro b38 S35 ⟨g35, f35⟩ w35 s35 k35
    obtain ⟨b1, h3⟩ := h33 b38 S35 g35 w35 s35 k35
    refine ⟨b1, fun S40 e40 k40 w40 => ?_⟩
    obtain ⟨r3, b2, r4, h4⟩ := h3 S40 e40 k40 w40
    exact ⟨r3, b2, r4, fun S47 e47 k47 w47 a48 e48 => ih (((i.fr f35 rfl rfl).fr (show cfr [6] [] S35 S40 by rw [e40]; exact cfr.aR k40 rfl) rfl rfl).fr (show cfr [] [(49, 14)] S40 S47 by rw [e47]; exact cfr.oI k47 rfl) rfl rfl) (h4 S47 e47 k47 w47 a48 e48)⟩
theorem bv_unitOf (w : wfC S) (h : wX2_unitOf S p Qo) : wX2_unitOf S p (fun b u => (Qo b u ∧ X16 S u) ∧ ∀ q, b = some q → qI u q 15 = 0 ∧ qT u q = 49 ∧ qT S q = 0) := by
  have no : ∀ {u : MS}, ∀ q : Nat, (none : Option Nat) = some q → qI u q 15 = 0 ∧ qT u q = 49 ∧ qT S q = 0 := fun q e => by cases e
  unfold wX2_unitOf at h ⊢
  intro kp
  obtain ⟨Q1, p1, h1⟩ := h kp
  refine ⟨_, frX7_isSound w p1, ?_⟩
  rintro r2 S3 ⟨g3, f3⟩ w3 s3
  have i3 : X16 S S3 := X16.rf.fr f3 rfl rfl
  obtain ⟨h2, h3⟩ := h1 r2 S3 g3 w3 s3
  refine ⟨fun c => ⟨⟨h2 c, i3⟩, no⟩, fun c => ?_⟩
  obtain ⟨Q6, p6, h6⟩ := h3 c
  refine ⟨_, frX2_limitsHold w3 p6, ?_⟩
  rintro r7 S8 ⟨g8, f8⟩ w8 s8
  have i8 := i3.fr f8 rfl rfl
  obtain ⟨h7, h8⟩ := h6 r7 S8 g8 w8 s8
  refine ⟨fun c => ⟨⟨h7 c, i8⟩, no⟩, fun c => ?_⟩
  obtain ⟨Q11, p11, h11⟩ := h8 c
  refine ⟨_, frX2_instructionsHold w8 p11, ?_⟩
  rintro r12 S13 ⟨g13, f13⟩ w13 s13
  have i13 := i8.fr f13 rfl rfl
  obtain ⟨h12, h13⟩ := h11 r12 S13 g13 w13 s13
  refine ⟨fun c => ⟨⟨h12 c, i13⟩, no⟩, fun c => ?_⟩
  obtain ⟨Q16, p16, h16⟩ := h13 c
  refine ⟨_, frX2_pointersHold w13 p16, ?_⟩
  rintro r17 S18 ⟨g18, f18⟩ w18 s18
  have i18 := i13.fr f18 rfl rfl
  obtain ⟨h17, h18⟩ := h16 r17 S18 g18 w18 s18
  refine ⟨fun c => ⟨⟨h17 c, i18⟩, no⟩, fun c => ?_⟩
  obtain ⟨Q21, p21, h21⟩ := h18 c
  refine ⟨_, bv_build w18 p21, ?_⟩
  rintro b26 S23 ⟨⟨g23, x23⟩, z23, k23, n23⟩ w23 s23 _
  have sx18 : shx S S18 := ((s3.1.tr s8.1).tr s13.1).tr s18.1
  obtain ⟨n, h22⟩ := h21 b26 S23 g23 w23 s23 k23
  refine ⟨n, um_L41 (S0 := S) (fun u x t => ⟨⟨t.1, x⟩, fun q e => ?_⟩) n (i18.tr x23) (fr_X2_unitOf_L41 (S0 := S23) n cfr.rf h22)⟩
  have eq : b26 = q := Option.some.inj e
  subst eq
  exact ⟨(t.2.kI k23 rfl rfl).trans z23, t.2.1.T k23 (by decide), Classical.byContradiction fun ne => ne ((sx18.1 _ ne).1.symm.trans n23)⟩
/-- the Units of before, and others that have not been checked -/
def N5 (S u : MS) : Prop := (qI S 0 11).toInt ≤ (qI u 0 11).toInt ∧ ∀ k : Nat, (k : Int) < (qI u 0 11).toInt → ((k : Int) < (qI S 0 11).toInt ∧ qR u 7 k = qR S 7 k) ∨ ((k : Int) = (qI S 0 11).toInt ∧ ∃ p, qR u 7 k = some p ∧ qI u p 15 = 0 ∧ qT S p = 0)
theorem N5.same (e11 : qI u 0 11 = qI S 0 11) (e7 : ∀ j, qR u 7 j = qR S 7 j) : N5 S u := ⟨by rw [e11]; omega, fun k hk => Or.inl ⟨by rw [← e11]; exact hk, e7 k⟩⟩
theorem n5_keep (wU : wfC U) (n0 : 0 ≤ (qI S0 0 11).toInt) (e11 : qI U 0 11 = qI S0 0 11) (e7 : ∀ j, qR U 7 j = qR S0 7 j) (hb : ∀ q, o = some q → qI U q 15 = 0 ∧ qT U q = 49 ∧ qT S0 q = 0) (x16 : X16 S0 U) (h : wX12_keep U o x Q1) : wX12_keep U o x (fun r u => Q1 r u ∧ N5 S0 u ∧ X16 S0 u) := by
  have nu := N5.same e11 e7
  unfold wX12_keep at h ⊢
  refine ⟨fun c => ⟨h.1 c, nu, x16⟩, fun c => ?_⟩
  obtain ⟨h1, h2⟩ := h.2 c
  refine ⟨fun c2 => ?_, fun c2 => ⟨h2 c2, nu, x16⟩⟩
  obtain ⟨b, h3⟩ := h1 c2
  refine ⟨b, fun S4 e4 k4 w4 S6 e6 k6 w6 => ⟨h3 S4 e4 k4 w4 S6 e6 k6 w6, ?_, (x16.fr (show cfr [5] [] U S4 by rw [e4]; exact cfr.aR k4 rfl) rfl rfl).fr (show cfr [] [(51, 11)] S4 S6 by rw [e6]; exact cfr.oI k6 rfl) rfl rfl⟩⟩
  obtain ⟨p, hp⟩ := Option.ne_none_iff_exists'.mp c
  have z := (hb p hp).1
  have kp := (hb p hp).2.1
  have np := (hb p hp).2.2
  have i11 : (qI S6 0 11).toInt = (qI S0 0 11).toInt + 1 := by
    rw [e6, qI_wI, if_pos ⟨rfl, rfl⟩, e4]
    show (qI U 0 11 + 1).toInt = _
    rw [t_addk (by rw [li_1k]; omega), li_1k, e11]
  have r7 : ∀ k, qR S6 7 k = if k = (qI S0 0 11).toInt.toNat then some p else qR S0 7 k := fun k => by
    have a : qR S6 7 k = qR S4 7 k := by rw [e6]; rfl
    rw [a, e4, qR_wR, e11]
    by_cases y : k = (qI S0 0 11).toInt.toNat
    · rw [if_pos ⟨rfl, y⟩, if_pos y, hp]; rfl
    · rw [if_neg (fun z => y z.2), if_neg y, e7]
  have f : cfr [5] [(51, 11)] U S6 := (show cfr [5] [(51, 11)] U S4 by rw [e4]; exact cfr.aR k4 rfl).tr (by rw [e6]; exact cfr.oI k6 rfl)
  refine ⟨by omega, fun k hk => ?_⟩
  by_cases y : k = (qI S0 0 11).toInt.toNat
  · exact Or.inr ⟨by omega, p, by rw [r7, if_pos y], (f.kI kp rfl rfl).trans z, np⟩
  · exact Or.inl ⟨by omega, by rw [r7, if_neg y]⟩
theorem n5_file (w : wfC S) (n0 : 0 ≤ (qI S 0 11).toInt) (h : wX12_file S Q1) : wX12_file S (fun r u => Q1 r u ∧ N5 S u ∧ X16 S u) := by
  unfold wX12_file at h ⊢
  refine ⟨fun c k1 => ?_, fun c => ⟨h.2 c, N5.same rfl (fun _ => rfl), X16.rf⟩⟩
  obtain ⟨Q2, p2, h2⟩ := h.1 c k1
  refine ⟨_, frX2_unitOf w (bv_unitOf w p2), ?_⟩
  rintro b7 S4 ⟨⟨⟨g4, x4⟩, z4⟩, f4⟩ w4 s4 k4
  obtain ⟨h3, h4⟩ := h2 b7 S4 g4 w4 s4 k4
  have fin : ∀ (W1 W2 W3 : MS), W1 = wI S4 1 1 (0 : Int32) → qT S4 1 = 40 → wfC W1 → W2 = wI W1 0 13 (qI W1 9 2) → qT W1 0 = 51 → wfC W2 → W3 = wI W2 0 14 (qI W2 9 3) → qT W2 0 = 51 → wfC W3 → ((qI W3 0 11 = qI S 0 11 ∧ ∀ j, qR W3 7 j = qR S 7 j) ∧ X16 S W3) ∧ ∀ q, b7 = some q → qI W3 q 15 = 0 ∧ qT W3 q = 49 ∧ qT S q = 0 := fun W1 W2 W3 e1 k1 w1 e2 k2 w2 e3 k3 w3 => by
    have g1 : cfr [] [(40, 1)] S4 W1 := by rw [e1]; exact cfr.oI k1 rfl
    have g2 : cfr [] [(51, 13)] W1 W2 := by rw [e2]; exact cfr.oI k2 rfl
    have g3 : cfr [] [(51, 14)] W2 W3 := by rw [e3]; exact cfr.oI k3 rfl
    have G : cfr [] [(40, 1), (51, 13), (51, 14)] S4 W3 := ((g1.mo rfl rfl).tr (g2.mo rfl rfl)).tr (g3.mo rfl rfl)
    refine ⟨⟨⟨(G.kI w4.k0 rfl rfl).trans (f4.kI w.k0 rfl rfl), fun j => (G.kO w4.k7 rfl rfl).trans (f4.kO w.k7 rfl rfl)⟩, x4.fr G rfl rfl⟩, fun q e => ?_⟩
    obtain ⟨a, b, c⟩ := z4 q e
    exact ⟨(G.kI b rfl rfl).trans a, G.1.T b (by decide), c⟩
  refine ⟨fun c2 S9 e9 k9 w9 S10 e10 k10 w10 S11 e11 k11 w11 => ?_, fun c2 S16 e16 k16 w16 S17 e17 k17 w17 S18 e18 k18 w18 => ?_⟩
  · obtain ⟨Q12, p12, h12⟩ := h3 c2 S9 e9 k9 w9 S10 e10 k10 w10 S11 e11 k11 w11
    obtain ⟨⟨⟨i11, i7⟩, xx⟩, zz⟩ := fin S9 S10 S11 e9 k9 w9 e10 k10 w10 e11 k11 w11
    exact ⟨_, n5_keep w11 n0 i11 i7 (fun q e => by cases e) xx p12, fun r13 S14 g14 w14 s14 => ⟨h12 r13 S14 g14.1 w14 s14, g14.2⟩⟩
  · obtain ⟨Q19, p19, h19⟩ := h4 c2 S16 e16 k16 w16 S17 e17 k17 w17 S18 e18 k18 w18
    obtain ⟨⟨⟨i11, i7⟩, xx⟩, zz⟩ := fin S16 S17 S18 e16 k16 w16 e17 k17 w17 e18 k18 w18
    refine ⟨_, n5_keep w18 n0 i11 i7 (fun q e => zz q ?_) xx p19, fun r20 S21 g21 w21 s21 => ⟨h19 r20 S21 g21.1 w21 s21, g21.2⟩⟩
    obtain ⟨p', hp'⟩ := Option.ne_none_iff_exists'.mp c2
    rw [hp'] at e ⊢
    exact e
end N5A
