/-! rule 15, put together -/
/-- the reference's part behind rule 15: a fresh File, then what instructions point to -/
def RfV (oo : (Nat × MS) ⊕ MS) (U102 : MS) (v102_3 : Int32) : Prop := ∃ S34 : MS, S34 = wI U102 0 41 0 ∧ (∃ S35 : MS, S35 = wI S34 0 43 0 ∧ (∃ S36 : MS, S36 = wI S35 0 45 0 ∧ ((qn S36 + 1 ≤ KC ∧ qu S36 + 23 ≤ KS) ∧ (∃ S40 : MS, S40 = wN S36 11 0 23 ∧ (∃ (S43 : MS), v_init S40 (qn S36) S43 ∧ (∃ n, v_readFile_L147 oo n S43 v102_3 (qn S36) 0))))))
section IH
variable {S S' R R' T U V u w : MS} {x y z r c v e len o N i x1 x2 k t a b f q m pl st : Int32} {p lo kk : Nat}
theorem VmS.lo2 (wS : wfC S) (s : smX S U) (h : LoR U c u) : smY (VmS S c) u := by
  obtain ⟨⟨l1, l2, l3, -⟩, -⟩ := h
  have ez : szV U c = szV S c := by unfold szV; rw [s.s4]
  exact ⟨(VmS.sx wS).sy.tr (s.tr l1), by rw [l2, VmS.i1], by rw [l3, VmS.i2, ez]⟩
theorem s_ihL {oo : (Nat × MS) ⊕ MS} {S0 R0 : MS} (hE : LyE S0 R0) (w0 : wfC S0) (hI : ∀ j : Nat, (j : Int) < (qI S0 9 8).toInt → CiR S0 R0 j (qI S0 13 j)) (ea : a.toInt = (qI S0 9 8).toInt) : ∀ (n n2 : Nat) {U R : MS} {m : Int32}, smF S0 U → WhF R0 R → 0 ≤ m.toInt → m.toInt ≤ 24 → (∀ j : Nat, (j : Int) < m.toInt → fbO (VmS S0 (qI S0 13 j)) 1300 0 = none) → v_X2_instructionsHold_L2 r u n U m → v_readFile_L102 oo n2 R a m → (r = 1 ∧ smF S0 u ∧ wfC u ∧ (∀ j : Nat, (j : Int) < (qI S0 9 8).toInt → fbO (VmS S0 (qI S0 13 j)) 1300 0 = none) ∧ ∃ R' : MS, WhF R0 R' ∧ RfV oo R' a) ∨ (r = 0 ∧ ∃ w, oo = .inr w ∧ BadP u w) := by
  intro n
  induction n with
  | zero => intro n2 U R m _ _ _ _ _ h; unfold v_X2_instructionsHold_L2 at h; exact h.elim
  | succ n ih =>
    intro n2 U R m hU hR m0 m24 hF h g
    cases n2 with
    | zero => unfold v_readFile_L102 at g; exact g.elim
    | succ n2 =>
      obtain ⟨-, cn, -⟩ := hE.cnt
      unfold v_X2_instructionsHold_L2 at h
      unfold v_readFile_L102 at g
      obtain ⟨wU, h⟩ := h
      rw [hU.1.2.2.2.2.2.2] at h
      rw [ea] at g
      rcases h with ⟨c, er, eu⟩ | ⟨c, S3, h3, w3, -, n3, h⟩
      · rcases g with ⟨-, g⟩ | ⟨z, -⟩
        swap
        · exact absurd c z
        exact Or.inl ⟨er, by rw [eu]; exact hU, by rw [eu]; exact wU, fun j hj => hF j (by omega), R, hR, g⟩
      rcases g with ⟨z, -⟩ | ⟨-, g⟩
      · exact absurd z c
      have L := (vpX2_lookAt h3 (cu_lookAt (vwX2_lookAt h3))).2
      have F := (vpX2_lookAt h3 (frX2_lookAt wU (vwX2_lookAt h3))).2
      have s3 : smF S0 S3 := hU.tr (smF.fr wU F rfl rfl rfl rfl rfl rfl rfl)
      have ec : stV U m = qI S0 13 m.toInt.toNat := by
        rw [hU.st]
        exact if_pos ⟨m0, by omega⟩
      rw [ec] at L
      have y := VmS.lo2 w0 hU.1.1 L
      have h9 : 0 ≤ (qI (VmS S0 (qI S0 13 m.toInt.toNat)) 9 1).toInt := by rw [(VmS.sx w0).1]; exact hE.1.2.1.1
      have CI := hI m.toInt.toNat (by omega)
      have C6 := CI.2.2.2.1.2.2
      have h2 : (qI (VmS S0 (qI S0 13 m.toInt.toNat)) 8 2).toInt ≤ 1200 := by rw [VmS.i2, szV_of C6]; exact C6
      have KC := cv_L20 h9 h2 n3 1300 y (by decide) (by rw [show (0 : Int32).toInt = 0 from rfl]; omega) h
      have CI2 : CiR S0 R m.toInt.toNat (qI S0 13 m.toInt.toNat) := CI.mv (fun b l1 l2 => by rw [hR.2.2.1 b (by omega) (by omega)])
      rw [VmS.i1] at KC
      rcases g with ⟨S226, g, a228, e228, g2⟩ | ⟨u9, g, g2⟩
      · rcases rv_wholes (hR.bt hE.1) (hR.sr hE.2.1) w0 CI2 g with ⟨f0, w, z, W1, -, -⟩ | ⟨x, W, -, z⟩
        swap
        · exact nomatch z
        injection z with z
        rcases KC with ⟨-, a6, e6, -, h⟩ | ⟨x, f1, -⟩
        swap
        · rw [f0] at f1
          exact nomatch f1
        have ek : a6.toInt = m.toInt + 1 := by rw [e6, t_add (by rw [show (Int32.ofInt 1).toInt = 1 from rfl]; omega)]; rfl
        rw [z, e228, ← e6] at g2
        refine ih n2 s3 (hR.tr W1) (by omega) (by omega) (fun j hj => ?_) h g2
        by_cases c9 : j = m.toInt.toNat
        · rw [c9]
          exact f0
        · exact hF j (by omega)
      · rcases rv_wholes (hR.bt hE.1) (hR.sr hE.2.1) w0 CI2 g with ⟨-, w, z, -⟩ | ⟨x, W, f1, z⟩
        · exact nomatch z
        injection z with z
        rcases KC with ⟨f0, -⟩ | ⟨x2, f2, er, eu⟩
        · rw [f0] at f1
          exact nomatch f1
        · rw [f1] at f2
          injection f2 with f2
          refine Or.inr ⟨er, u9, g2, ?_⟩
          rw [eu, z, f2]
          exact badP
end IH
