/-! a pool entry in both readers -/
section EN
variable {S R T u w : MS} {x y z r c v len x1 x2 : Int32} {n : Nat} {oo : MS ⊕ MS}
theorem s_name (hb : BtE S R) (hs : SrN R) (hp : PsI S) (e13 : (qI R 0 13).toInt = (qI S 9 15).toInt + 1) (h1 : (qI S 9 15).toInt + 1 ≤ (qI S 9 1).toInt) (ex : x2 = qI S 9 15) (h : vX7_nameFits S r u) (k : v_nameEntry R x1 x2 oo) :
    (r = 1 ∧ u = S ∧ (1 ≤ (fX7_u2 S ((qI S 9 15) + (1 : Int32))).toInt ∧ (fX7_u2 S ((qI S 9 15) + (1 : Int32))).toInt ≤ 100) ∧ (qI S 9 15).toInt + 3 + (fX7_u2 S ((qI S 9 15) + (1 : Int32))).toInt ≤ (qI S 9 1).toInt ∧ ∃ a d : Int32, a.toInt = (qI S 9 15).toInt + 3 ∧ d.toInt = (qI S 9 15).toInt + 3 + (fX7_u2 S ((qI S 9 15) + (1 : Int32))).toInt ∧ oo = .inl (wI (wI (wI (wI R 0 13 a) 6 x1.toInt.toNat a) 7 x1.toInt.toNat (fX7_u2 S ((qI S 9 15) + (1 : Int32)))) 0 13 d)) ∨ (r = 0 ∧ ∃ w, oo = .inr w ∧ BadP u w) := by
  have hp' := hp
  obtain ⟨p0, p1, p2⟩ := hp'
  have b12 := hb.1
  have l2 : (2 : Int64).toInt = 2 := by decide
  have q1 : ((qI S 9 15) + (1 : Int32)).toInt = (qI S 9 15).toInt + 1 := by rw [t_add (by rw [li_1]; omega), li_1]
  have en : qI R 0 13 = (qI S 9 15) + (1 : Int32) := Int32.toInt_inj.mp (by rw [e13, q1])
  have hn : 0 ≤ (qI R 0 13).toInt ∧ (qI R 0 13).toInt ≤ (qI R 0 12).toInt ∧ (qI R 0 12).toInt ≤ 131072 := by rw [b12]; omega
  obtain ⟨r2, S2, h2, -, -, h⟩ := h
  rcases cv_there hp (by decide) h2 with ⟨c1, er, eS⟩ | ⟨c1, er, eS⟩
  · rw [li_3] at c1
    rcases h with ⟨z, -⟩ | ⟨-, -, a10, e10, h⟩
    · exact absurd z (by rw [er]; decide)
    rw [eS] at h e10
    rcases k with ⟨r4, S4, k2, k⟩ | ⟨u9, k2, k⟩
    · rcases rv_over hn (by rw [l2]; omega) k2 with ⟨c2, v3, ev, e⟩ | ⟨c2, e⟩
      · injection e with e
        injection e with er4 eS4
        rw [l2] at ev
        obtain ⟨-, a8, e8, k⟩ := k
        have hv3 : v3.toInt = (qI S 9 15).toInt + 3 := by omega
        have e80 : a8 = fX7_u2 S ((qI S 9 15) + (1 : Int32)) := by
          rw [e8, eS4, er4, ← en, hb.u2 (by omega) (by omega)]
          unfold f_two f_octet
          rw [(sm13 (T := R) (c := v3) hs).bt]
        have ea : a10 = a8 := by rw [e10, e80]
        rw [ea] at h
        rw [← e80]
        have BB : v_X7_nameFits_J32 r u S → v_nameEntry_J28 oo S4 x1 x2 a8 → (r = 0 ∧ ∃ w, oo = .inr w ∧ BadP u w) := fun h k => by
          obtain ⟨-, r5, S5, h, -, -, er, eu⟩ := h
          obtain ⟨a, b⟩ := cv_breaks h
          rcases k with ⟨w, hm, -⟩ | ⟨w, hm, k⟩
          · rcases rv_must hm with ⟨z, -⟩ | ⟨-, z⟩
            · exact absurd (by decide) z
            · exact nomatch z
          · rcases rv_must hm with ⟨-, z⟩ | ⟨-, z⟩
            · exact nomatch z
            · injection z with z
              exact ⟨by rw [er, a], w, k, by rw [eu, b, z, ex]; exact badP⟩
        rcases k with ⟨c3, k⟩ | ⟨c3, k⟩
        · rcases h with ⟨-, h⟩ | ⟨c4, -⟩
          · exact Or.inr (BB h k)
          · exact absurd c3 c4
        · rcases h with ⟨c4, -⟩ | ⟨-, h⟩
          · exact absurd c4 c3
          rcases k with ⟨c5, k⟩ | ⟨c5, k⟩
          · rcases h with ⟨c6, -⟩ | ⟨-, h⟩
            · exact absurd c6 (by omega)
            · exact Or.inr (BB h k)
          rcases h with ⟨c6, a18, e18, n1, h⟩ | ⟨c6, -⟩
          · have e18' : a18.toInt = (qI S 9 15).toInt + 3 := by rw [e18, t_add (by rw [li_3]; omega), li_3]
            rcases k with ⟨S10, hm, k⟩ | ⟨w, hm, k⟩
            · rcases rv_must hm with ⟨-, z⟩ | ⟨-, z⟩
              · injection z with z
                obtain ⟨-, S13, eS13, -, S15, eS15, n2, k⟩ := k
                have x13 : qI S10 0 13 = v3 := by rw [z, eS4, n_13]
                have eT : S15 = wI (wI (wI R 0 13 v3) 6 x1.toInt.toNat v3) 7 x1.toInt.toNat a8 := by rw [eS15, eS13, x13, z, eS4]
                have sm : smB R S15 := by
                  rw [eT]
                  have a1 := sm13 (c := v3) hs
                  have a2 := a1.tr (sm_wr (bb := 6) (ii := x1.toInt.toNat) (v := v3) (hs.sm a1) (by decide) (by decide))
                  exact a2.tr (sm_wr (hs.sm a2) (by decide) (by decide))
                have hsT : SrN S15 := fun a ha h2 => by
                  have e : qO S15 0 11 = qO R 0 11 := by unfold qO; rw [sm.1]
                  rw [e]
                  exact hs a ha h2
                have t13 : qI S15 0 13 = v3 := by rw [eT, qI_wI, if_neg (fun q => absurd q.1 (by decide)), qI_wI, if_neg (fun q => absurd q.1 (by decide)), n_13]
                have t12 : qI S15 0 12 = qI S 9 1 := by rw [eT, qI_wI, if_neg (fun q => absurd q.1 (by decide)), qI_wI, if_neg (fun q => absurd q.1 (by decide)), n_12, b12]
                have k' : v_nameEntry_L54 oo n2 (wI S15 0 13 v3) x2 a8 0 := by
                  rw [← t13, wI_id]
                  exact k
                have z0 : (0 : Int32).toInt = 0 := by decide
                have K := rv_nmL (base := (qI S 9 15).toInt + 3) hsT (by rw [t12]; omega) ⟨by omega, by omega⟩ (by omega) n2 (by rw [z0]; omega) (by rw [t12]; omega) (by decide) (by rw [z0]; omega) (fun q a b => absurd b (by omega)) k'
                have H := cv_nmL hb hp ⟨by omega, by omega⟩ c1 n1 (by omega) (by omega) (fun q a b _ => absurd b (by omega)) h
                rw [t12] at K
                rcases H with ⟨⟨q, q1, q2, q3, q4⟩, er, eu⟩ | ⟨g, ⟨f, er, eu⟩ | ⟨f, er, eu⟩⟩
                · rcases K with ⟨g, -⟩ | ⟨-, W, e⟩ | ⟨g, -⟩
                  · exact absurd ((gdN.mv sm).mp (g q q1 q2)) q4
                  · exact Or.inr ⟨er, _, e, by rw [eu, ex]; exact badP⟩
                  · exact absurd ((gdN.mv sm).mp (g q q1 q2 q3)) q4
                · rcases K with ⟨-, -, d, ed, e⟩ | ⟨⟨q, q1, q2, q3, q4⟩, -⟩ | ⟨-, f2, -⟩
                  · exact Or.inl ⟨er, eu, ⟨by omega, by omega⟩, by omega, v3, d, hv3, ed, by rw [e, eT]⟩
                  · exact absurd ((gdN.mv sm).mpr (g q q1 q2 q3)) q4
                  · omega
                · rcases K with ⟨-, f2, -⟩ | ⟨⟨q, q1, q2, q3, q4⟩, -⟩ | ⟨-, -, W, e⟩
                  · omega
                  · exact absurd ((gdN.mv sm).mpr (g q q1 q2 q3)) q4
                  · exact Or.inr ⟨er, _, e, by rw [eu]; exact badP⟩
              · exact nomatch z
            · rcases rv_must hm with ⟨-, z⟩ | ⟨z, -⟩
              · exact nomatch z
              · exact absurd z (by decide)
          · omega
      · exact nomatch e
    · rcases rv_over hn (by rw [l2]; omega) k2 with ⟨c2, v3, ev, e⟩ | ⟨c2, e⟩
      · exact nomatch e
      · rw [l2, b12] at c2
        omega
  · rw [li_3] at c1
    rcases h with ⟨-, er2, eu⟩ | ⟨z, -⟩
    · rcases k with ⟨r4, S4, k2, k⟩ | ⟨u9, k2, k⟩
      · rcases rv_over hn (by rw [l2]; omega) k2 with ⟨c2, v3, ev, e⟩ | ⟨c2, e⟩
        · rw [l2, b12] at c2
          omega
        · exact nomatch e
      · rcases rv_over hn (by rw [l2]; omega) k2 with ⟨c2, v3, ev, e⟩ | ⟨c2, e⟩
        · exact nomatch e
        · injection e with e
          exact Or.inr ⟨er2, u9, k, by rw [eu, eS, e, b12]; exact badP⟩
    · exact absurd (by rw [er]; decide) z
end EN
/-- what the reference has noted of entry k, which begins at e in the class -/
def EnR (S R : MS) (k : Nat) (e : Int32) : Prop :=
  (0 < e.toInt ∧ e.toInt + 3 ≤ (qI S 9 1).toInt) ∧ qI R 5 k = e ∧ qI R 4 k = fX7_u1 S e ∧
  (((qI R 4 k).toInt = 1 ∧ (1 ≤ (fX7_u2 S (e + (1 : Int32))).toInt ∧ (fX7_u2 S (e + (1 : Int32))).toInt ≤ 100) ∧ e.toInt + 3 + (fX7_u2 S (e + (1 : Int32))).toInt ≤ (qI S 9 1).toInt ∧ qI R 6 k = e + (3 : Int32) ∧ qI R 7 k = fX7_u2 S (e + (1 : Int32))) ∨
   ((qI R 4 k).toInt = 3 ∧ e.toInt + 5 ≤ (qI S 9 1).toInt ∧ qJ R 8 k = (fX7_s4 S (e + (1 : Int32))).toInt64) ∨
   ((qI R 4 k).toInt = 5 ∧ e.toInt + 9 ≤ (qI S 9 1).toInt ∧ qJ R 8 k = (((fX7_s4 S (e + (1 : Int32))).toInt64 <<< ((32 : Int32).toInt64 &&& 63)) ||| ((fX7_s4 S (e + (5 : Int32))).toInt64 &&& (4294967295 : Int64)))) ∨
   ((qI R 4 k).toInt = 7 ∧ qI R 6 k = fX7_u2 S (e + (1 : Int32))) ∨
   (((qI R 4 k).toInt = 9 ∨ (qI R 4 k).toInt = 10 ∨ (qI R 4 k).toInt = 12) ∧ e.toInt + 5 ≤ (qI S 9 1).toInt ∧ qI R 6 k = fX7_u2 S (e + (1 : Int32)) ∧ qI R 7 k = fX7_u2 S (e + (3 : Int32))))
/-- what an entry leaves: source, fields but 13, rows but 4 .. 8 at k -/
def EnF (R w : MS) (k : Nat) : Prop := smB R w ∧ (∀ j, j ≠ 13 → qI w 0 j = qI R 0 j) ∧ (∀ a j, a ≠ 0 → (a < 4 ∨ 7 < a ∨ j ≠ k) → qI w a j = qI R a j) ∧ (∀ a j, a ≠ 8 ∨ j ≠ k → qJ w a j = qJ R a j) ∧ qR w = qR R ∧ qN w = qN R
section EF
variable {S R T u w : MS} {x y z r c v len x1 x2 : Int32} {k : Nat}
theorem EnF.rf : EnF R R k := ⟨smB.rf, fun _ _ => rfl, fun _ _ _ _ => rfl, fun _ _ _ => rfl, rfl, rfl⟩
theorem EnF.s (h : EnF R w k) (hs : SrN R) : SrN w := fun a ha h2 => by
  have e : qO w 0 11 = qO R 0 11 := by unfold qO; rw [h.1.1]
  rw [e]
  exact hs a ha h2
theorem EnF.w13 (hs : SrN R) (h : EnF R w k) : EnF R (wI w 0 13 v) k := ⟨h.1.tr (sm13 (h.s hs)), fun j hj => by rw [qI_wI, if_neg (fun q => hj q.2)]; exact h.2.1 j hj, fun a j ha hk => by rw [qI_wI, if_neg (fun q => ha q.1)]; exact h.2.2.1 a j ha hk, h.2.2.2.1, h.2.2.2.2.1, h.2.2.2.2.2⟩
theorem EnF.wr {b : Nat} (hs : SrN R) (hb : 4 ≤ b ∧ b ≤ 7) (h : EnF R w k) : EnF R (wI w b k v) k := ⟨h.1.tr ⟨rfl, rdH (fun e => (h.s hs) b (by omega) (by omega) e.symm)⟩, fun j hj => by rw [qI_wI, if_neg (fun q => absurd q.1 (by omega))]; exact h.2.1 j hj, fun a j ha hk => by rw [qI_wI, if_neg (fun q => by omega)]; exact h.2.2.1 a j ha hk, h.2.2.2.1, h.2.2.2.2.1, h.2.2.2.2.2⟩
theorem EnF.wj {b : Int64} (h : EnF R w k) : EnF R (wJ w 8 k b) k := ⟨h.1, h.2.1, h.2.2.1, fun a j hk => by rw [qJ_wJ, if_neg (fun q => by omega)]; exact h.2.2.2.1 a j hk, h.2.2.2.2.1, h.2.2.2.2.2⟩
theorem EnF.two (h : EnF R w k) : f_two w x = f_two R x := by
  unfold f_two f_octet
  rw [h.1.bt]
theorem EnF.four (h : EnF R w k) : f_four w x = f_four R x := by
  unfold f_four
  rw [h.two, h.two]
end EF
