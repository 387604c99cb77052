/-! the pool -/
section PO
variable {S S' R R' T u w : MS} {x y z r c v e len x1 x2 : Int32} {k : Nat} {oo : MS ⊕ MS}
theorem smX.wk {t b i : Nat} (w : wfC S) (k : qT S b = t) (ht : t ≠ 101) (h9 : b = 9 → i ≠ 1) : smX S (wI S b i v) := by
  have kd : qT S (qO S 9 0) = 101 := by
    have k9 : qT S 9 = 46 := (w.2.1 _ finC_2).2.1
    exact w.ref (w.ptr ptrC_3) k9
  have hne : qO S 9 0 ≠ b := fun q => by rw [q, k] at kd; exact ht kd
  exact ⟨by rw [qI_wI, if_neg (fun q => h9 q.1.symm q.2.symm)], rfl, rfl, if_neg hne⟩
theorem EnR.mv (h : EnR S R k e) (s : smX S S') (f : ∀ a, 4 ≤ a → a ≤ 7 → qI R' a k = qI R a k) (g : qJ R' 8 k = qJ R 8 k) : EnR S' R' k e := by
  unfold EnR at h ⊢
  rw [s.1, f 4 (by decide) (by decide), f 5 (by decide) (by decide), f 6 (by decide) (by decide), f 7 (by decide) (by decide), g, s.u1, s.u2, s.u2, s.s4, s.s4]
  exact h
def PoI (S R : MS) (k : Int) : Prop := BtE S R ∧ SrN R ∧ PsI S ∧ (0 < (qI S 9 15).toInt ∧ qI R 0 13 = qI S 9 15) ∧ (qI R 0 14 = qI S 9 5 ∧ 1 ≤ (qI S 9 5).toInt ∧ (qI S 9 5).toInt ≤ 500) ∧ (∀ j : Nat, (j : Int) < k → j < 500 → (qI S 11 j = 0 ∧ qI R 4 j = 0) ∨ EnR S R j (qI S 11 j)) ∧ ∀ j : Nat, k ≤ j → (j < 500 → qI S 11 j = 0) ∧ (j < 502 → qI R 4 j = 0)
theorem s_poStep {S2 S3 : MS} {p2 : Int32} {k2 : Int} (h : PoI S R v.toInt) (w : wfC S) (h0 : 0 ≤ v.toInt) (h5 : v.toInt < (qI S 9 5).toInt) (k11 : qT S 11 = 218) (f : EnF R R' v.toInt.toNat) (g : EnR S R' v.toInt.toNat (qI S 9 15)) (e2 : S2 = wI S 11 v.toInt.toNat (qI S 9 15)) (w2 : wfC S2) (e3 : S3 = wI S2 9 15 p2) (ep : p2.toInt = (qI R' 0 13).toInt) (hp2 : (qI S 9 15).toInt ≤ p2.toInt ∧ p2.toInt ≤ (qI S 9 1).toInt) (hk : k2 = v.toInt + 1 ∨ k2 = v.toInt + 2) : PoI S3 R' k2 := by
  obtain ⟨h1, h2, h3, h4, h6, h7, h8⟩ := h
  have s2 : smX S S2 := by rw [e2]; exact smX.wk w k11 (by decide) (fun q => absurd q (by decide))
  have k9 : qT S2 9 = 46 := (w2.2.1 _ finC_2).2.1
  have s3 : smX S S3 := s2.tr (by rw [e3]; exact smX.wk w2 k9 (by decide) (fun _ => by decide))
  have x15 : qI S3 9 15 = p2 := by rw [e3, g_eq]
  have x5 : qI S3 9 5 = qI S 9 5 := by rw [e3, g_nf (by decide), e2, g_ne (by decide)]
  have x11 : ∀ j : Nat, j ≠ v.toInt.toNat → qI S3 11 j = qI S 11 j := fun j hj => by rw [e3, g_ne (by decide), e2, g_nf hj]
  have y11 : qI S3 11 v.toInt.toNat = qI S 9 15 := by rw [e3, g_ne (by decide), e2, g_eq]
  have z4 : ∀ j : Nat, j ≠ v.toInt.toNat → qI R' 4 j = qI R 4 j := fun j hj => f.2.2.1 4 j (by decide) (Or.inr (Or.inr hj))
  refine ⟨h1.mv s3 f.1 f.k12, f.s h2, ⟨by rw [x15]; have := h3.1; omega, by rw [x15, s3.1]; omega, by rw [s3.1]; exact h3.2.2⟩, ⟨by rw [x15]; have := h4.1; omega, Int32.toInt_inj.mp (by rw [x15, ep])⟩, ⟨by rw [f.2.1 14 (by decide), h6.1, x5], by rw [x5]; exact h6.2.1, by rw [x5]; exact h6.2.2⟩, fun j hj hj5 => ?_, fun j hj => ?_⟩
  · by_cases c : j = v.toInt.toNat
    · rw [c, y11]
      exact Or.inr (g.mv s3 (fun _ _ _ => rfl) rfl)
    · by_cases c2 : (j : Int) < v.toInt
      · rcases h7 j c2 hj5 with ⟨a, b⟩ | a
        · exact Or.inl ⟨by rw [x11 j c, a], by rw [z4 j c, b]⟩
        · rw [x11 j c]
          exact Or.inr (a.mv s3 (fun a ha hb => f.2.2.1 a j (by omega) (Or.inr (Or.inr c))) (f.2.2.2.1 8 j (Or.inr c)))
      · have q := h8 j (by omega)
        exact Or.inl ⟨by rw [x11 j c]; exact q.1 hj5, by rw [z4 j c]; exact q.2 (by omega)⟩
  · have c : j ≠ v.toInt.toNat := by omega
    have q := h8 j (by omega)
    exact ⟨fun a => by rw [x11 j c]; exact q.1 a, fun a => by rw [z4 j c]; exact q.2 a⟩
theorem el_sm {t : Int32} (s : smX S S') (e : qI S' 9 15 = qI S 9 15) : fX7_entryLength S' t = fX7_entryLength S t := by
  unfold fX7_entryLength
  rw [s.u2, e]
theorem s_poolL : ∀ (n m : Nat) {S R : MS} {v : Int32}, PoI S R v.toInt → 1 ≤ v.toInt → v.toInt ≤ 600 → v_X7_poolFits_L70 r u n S v → v_layout_L136 oo m R v → (r = 1 ∧ ∃ (R' : MS) (m' : Nat) (v' : Int32), PoI u R' v'.toInt ∧ (qI u 9 5).toInt ≤ v'.toInt ∧ v_layout_L136 oo (m' + 1) R' v') ∨ (r = 0 ∧ ∃ w, oo = .inr w ∧ BadP u w) := by
  intro n
  induction n with
  | zero => intro m S R v _ _ _ h _; unfold v_X7_poolFits_L70 at h; exact h.elim
  | succ n ih =>
    intro m S R v hI v1 v6 h g
    cases m with
    | zero => unfold v_layout_L136 at g; exact g.elim
    | succ m =>
      unfold v_X7_poolFits_L70 at h
      obtain ⟨wS, h⟩ := h
      have hI' := hI
      obtain ⟨hb, hs, hp, ⟨p0, e13⟩, ⟨e14, pc1, pc5⟩, -, -⟩ := hI'
      rcases h with ⟨c, er, eu⟩ | ⟨c, h⟩
      · exact Or.inl ⟨er, R, m, v, by rw [eu]; exact hI, by rw [eu]; exact c, g⟩
      rcases h with ⟨c2, er, eu⟩ | ⟨c2, h⟩
      · omega
      unfold v_layout_L136 at g
      rw [e14] at g
      rcases g with ⟨c3, -⟩ | ⟨-, g⟩
      · omega
      obtain ⟨r25, S26, h25, -, -, h⟩ := h
      rcases g with ⟨S39, g39, -, g⟩ | ⟨u9, g39, g⟩
      · rcases s_entry (k := v.toInt.toNat) hb hs hp p0 e13 rfl h25 g39 with ⟨er, eS, w, e, f, en, e13', hfit, el3⟩ | ⟨-, w, e, -⟩
        · injection e with e
          rcases h with ⟨z, -⟩ | ⟨-, -, S30, e30, k11, w30, -, a34, e34, h⟩
          · exact absurd z (by rw [er]; decide)
          rw [eS] at e30 k11
          have s30 : smX S S30 := by rw [e30]; exact smX.wk wS k11 (by decide) (fun q => absurd q (by decide))
          have x15 : qI S30 9 15 = qI S 9 15 := by rw [e30, g_ne (by decide)]
          have ea : a34 = fX7_u1 S (qI S 9 15) := by rw [e34, x15, s30.u1]
          have e4 : qI S39 4 v.toInt.toNat = fX7_u1 S (qI S 9 15) := by rw [e]; exact en.2.2.1
          have GO : ∀ (t t2 : Int32) (hh : t2.toInt = t.toInt + 1) (h01 : t.toInt = 0 ∨ t.toInt = 1), v_X7_poolFits_J124 r u (v_X7_poolFits_L70 r u n) S30 t v → v_layout_J165 oo (v_layout_L136 oo m) S39 t2 v → (r = 1 ∧ ∃ (R' : MS) (m' : Nat) (v' : Int32), PoI u R' v'.toInt ∧ (qI u 9 5).toInt ≤ v'.toInt ∧ v_layout_L136 oo (m' + 1) R' v') ∨ (r = 0 ∧ ∃ w, oo = .inr w ∧ BadP u w) := fun t t2 hh h01 h g => by
            obtain ⟨-, -, a36, e36, -, a40, e40, -, a44, e44, S46, e46, -, -, a47, e47, h⟩ := h
            obtain ⟨b44, f44, g⟩ := g
            have x40 : a40 = fX7_u1 S (qI S 9 15) := by rw [e40, x15, s30.u1]
            have x44 : a44 = fX7_entryLength S (fX7_u1 S (qI S 9 15)) := by rw [e44, x40, el_sm s30 x15]
            have y36 : a36.toInt = v.toInt + t.toInt := by rw [e36, t_add (by omega)]
            have y47 : a47.toInt = v.toInt + t.toInt + 1 := by rw [e47, t_add (by rw [show (Int32.ofInt 1).toInt = 1 from rfl]; omega), y36]; rfl
            have y44 : b44.toInt = v.toInt + t2.toInt := by rw [f44, t_add (by omega)]
            have hv : b44 = a47 := Int32.toInt_inj.mp (by omega)
            have pp : ((qI S30 9 15) + a44).toInt = (qI S 9 15).toInt + (fX7_entryLength S (fX7_u1 S (qI S 9 15))).toInt := by
              obtain ⟨a, b, c⟩ := hp
              rw [x15, x44, t_add (by omega)]
            rw [e, hv] at g
            refine ih m (s_poStep (k2 := a47.toInt) hI wS (by omega) (by omega) k11 f en e30 w30 e46 (by rw [pp, e13']) ⟨by rw [pp]; omega, by rw [pp]; exact hfit⟩ (by omega)) (by omega) (by omega) h g
          have g' := g
          rw [e4, ← ea] at g'
          rcases h with ⟨c4, h⟩ | ⟨c4, h⟩
          · rcases g' with ⟨-, g'⟩ | ⟨c5, -⟩
            · exact GO 1 2 (by decide) (by decide) h g'
            · exact absurd c4 c5
          · rcases g' with ⟨c5, -⟩ | ⟨-, g'⟩
            · exact absurd c5 c4
            · exact GO 0 1 (by decide) (by decide) h g'
        · exact nomatch e
      · rcases s_entry (k := v.toInt.toNat) hb hs hp p0 e13 rfl h25 g39 with ⟨-, -, w, e, -⟩ | ⟨er, w, e, hbad⟩
        · exact nomatch e
        · injection e with e
          rcases h with ⟨-, er2, eu⟩ | ⟨z, -⟩
          · exact Or.inr ⟨er2, u9, g, by rw [eu, e]; exact hbad⟩
          · exact absurd (by rw [er]; decide) z
end PO
