/-! rule 11 -/
/-- two NAMEs are the same -/
def SmN (S : MS) (a b : Int32) : Prop := fX7_nameLength S a = fX7_nameLength S b ∧ ∀ i : Int32, 0 ≤ i.toInt → i.toInt < (fX7_nameLength S a).toInt → fX7_nameSign S a i = fX7_nameSign S b i
section TW
variable {S S' R R' T u w : MS} {x y z r c v e len o N i x1 k t a b : Int32} {oo : MS ⊕ MS}
theorem rv_isSame (hE : LyE S R) (ha : (fX7_tagOf S a).toInt = 1) (hb : (fX7_tagOf S b).toInt = 1) (h : v_isSame R a b r T) : T = R ∧ ((r = 1 ∧ SmN S a b) ∨ (r = 0 ∧ ¬ SmN S a b)) := by
  obtain ⟨f7, hl, hN⟩ := nm_at hE ha
  obtain ⟨g7, gl, gN⟩ := nm_at hE hb
  obtain ⟨-, -, h⟩ := h
  rw [f7, g7] at h
  have L : (fX7_nameLength S a).toInt = (fX7_nameLength S b).toInt → ∀ (n : Nat) {i : Int32}, 0 ≤ i.toInt → i.toInt ≤ 100 → (∀ j : Int32, 0 ≤ j.toInt → j.toInt < i.toInt → j.toInt < (fX7_nameLength S a).toInt → fX7_nameSign S a j = fX7_nameSign S b j) → v_isSame_L19 r T n R a b i → T = R ∧ ((r = 1 ∧ SmN S a b) ∨ (r = 0 ∧ ¬ SmN S a b)) := fun el n => by
    induction n with
    | zero => intro i _ _ _ h; unfold v_isSame_L19 at h; exact h.elim
    | succ n ih =>
      intro i i0 i1 g h
      unfold v_isSame_L19 at h
      rw [f7] at h
      obtain ⟨-, h⟩ := h
      rcases h with ⟨c, er, eT⟩ | ⟨c, -, -, h⟩
      · exact ⟨eT, Or.inl ⟨er, Int32.toInt_inj.mp el, fun j h0 h1 => g j h0 (by omega) h1⟩⟩
      · have A := (hN i).1 i0 (by omega)
        have B := (gN i).1 i0 (by omega)
        have Q : (f_letter R a i).toInt = (f_letter R b i).toInt ↔ fX7_nameSign S a i = fX7_nameSign S b i := by
          rw [← Int32.toInt_inj]
          obtain ⟨A1, A2, A3⟩ := A
          obtain ⟨B1, B2, B3⟩ := B
          rw [A3, B3]
          constructor
          · intro e
            rw [e]
          · intro e
            split at e <;> split at e <;> omega
        rcases h with ⟨c2, a16, e16, h⟩ | ⟨c2, er, eT⟩
        · have ek : a16.toInt = i.toInt + 1 := by rw [e16, t_add (by rw [show (Int32.ofInt 1).toInt = 1 from rfl]; omega)]; rfl
          refine ih (by omega) (by omega) (fun j h0 h1 h2 => ?_) h
          by_cases z : j.toInt < i.toInt
          · exact g j h0 z h2
          · have ej : j = i := Int32.toInt_inj.mp (by omega)
            rw [ej]
            exact Q.mp c2
        · exact ⟨eT, Or.inr ⟨er, fun q => c2 (Q.mpr (q.2 i i0 (by omega)))⟩⟩
  rcases h with ⟨c, n, h⟩ | ⟨c, er, eT⟩
  · exact L c n (by decide) (by decide) (fun j h0 h1 => absurd h1 (by rw [show (0 : Int32).toInt = 0 from rfl]; omega)) h
  · exact ⟨eT, Or.inr ⟨er, fun q => c (by rw [q.1])⟩⟩
theorem nn_of {p : Int32} (h : 0 ≤ p.toInt) : p.toBitVec.toNat = p.toInt.toNat := by
  have a : p.toBitVec.toInt = p.toInt := rfl
  have b := BitVec.toInt_eq_toNat_cond p.toBitVec
  rw [a] at b
  split at b <;> omega
theorem sh_or {p q : Int32} (hp : 0 ≤ p.toInt ∧ p.toInt < 256) (hq : 0 ≤ q.toInt ∧ q.toInt < 256) : ((p <<< ((8 : Int32) &&& 31)) ||| q).toInt = 256 * p.toInt + q.toInt := by
  have e8 : (((8 : Int32) &&& 31).toBitVec.smod 32) = 8#32 := by decide
  have n8 : (8#32).toNat = 8 := by decide
  have key : ((p <<< ((8 : Int32) &&& 31)) ||| q).toBitVec.toNat = 256 * p.toInt.toNat + q.toInt.toNat := by
    rw [Int32.toBitVec_or, BitVec.toNat_or, Int32.toBitVec_shiftLeft, e8, BitVec.shiftLeft_eq', n8, BitVec.toNat_shiftLeft, nn_of hp.1, nn_of hq.1, Nat.mod_eq_of_lt (by rw [Nat.shiftLeft_eq]; omega), ← Nat.shiftLeft_add_eq_or_of_lt (by omega), Nat.shiftLeft_eq]
    omega
  have a : ((p <<< ((8 : Int32) &&& 31)) ||| q).toBitVec.toInt = ((p <<< ((8 : Int32) &&& 31)) ||| q).toInt := rfl
  have b := BitVec.toInt_eq_toNat_cond ((p <<< ((8 : Int32) &&& 31)) ||| q).toBitVec
  rw [a, key] at b
  split at b <;> omega
/-- a number of two is its bytes -/
theorem u2_by (hb : BtE S R) (h0 : 0 ≤ x.toInt) (h1 : x.toInt + 2 ≤ (qI S 9 1).toInt) : (fX7_u2 S x).toInt = 256 * (fX7_u1 S x).toInt + (fX7_u1 S (x + (1 : Int32))).toInt := by
  have b2 := hb.2.1
  have a1 : (x + (1 : Int32)).toInt = x.toInt + 1 := by rw [t_add (by rw [li_1]; omega), li_1]
  have r1 := rg_u1 (S := S) (x := x)
  have r2 := rg_u1 (S := S) (x := x + (1 : Int32))
  rw [hb.u2 h0 h1, hb.u1 h0 (by omega), hb.u1 (by omega) (by omega)]
  rw [hb.u1 h0 (by omega)] at r1
  rw [hb.u1 (by omega) (by omega)] at r2
  exact sh_or r1 r2
theorem sm_F (hE : LyE S R) (hk : (fX7_tagOf S k).toInt = 1) : 0 < (fX7_entryAt S k).toInt ∧ (1 ≤ (fX7_nameLength S k).toInt ∧ (fX7_nameLength S k).toInt ≤ 100) ∧ (fX7_entryAt S k).toInt + 3 + (fX7_nameLength S k).toInt ≤ (qI S 9 1).toInt := by
  obtain ⟨⟨⟨e0, -⟩, -, -, en⟩, -, e4⟩ := tg_en hE (k := k) (by omega)
  rw [e4] at en
  rcases en with ⟨-, hl, hf, -⟩ | ⟨z, -⟩ | ⟨z, -⟩ | ⟨z, -⟩ | ⟨z, -⟩
  · exact ⟨e0, hl, hf⟩
  all_goals omega
theorem sm_D (hE : LyE S R) (ha : (fX7_tagOf S a).toInt = 1) (hb : (fX7_tagOf S b).toInt = 1) : SmN S a b ↔ ∀ j : Int32, 1 ≤ j.toInt → j.toInt < 3 + (fX7_nameLength S a).toInt → fX7_u1 S ((fX7_entryAt S a) + j) = fX7_u1 S ((fX7_entryAt S b) + j) := by
  have b2 := hE.1.2.1
  obtain ⟨a0, al, af⟩ := sm_F hE ha
  obtain ⟨b0, bl, bf⟩ := sm_F hE hb
  have P : ∀ {e j : Int32}, 0 < e.toInt → 0 ≤ j.toInt → j.toInt ≤ 200 → e.toInt ≤ 131072 → (e + j).toInt = e.toInt + j.toInt := fun h1 h2 h3 h4 => t_add (by omega)
  have o1 : (1 : Int32).toInt = 1 := li_1
  have o2 : (2 : Int32).toInt = 2 := li_2
  have o3 : (3 : Int32).toInt = 3 := li_3
  have ua := u2_by hE.1 (x := (fX7_entryAt S a) + (1 : Int32)) (by rw [P a0 (by decide) (by decide) (by omega), o1]; omega) (by rw [P a0 (by decide) (by decide) (by omega), o1]; omega)
  have ub := u2_by hE.1 (x := (fX7_entryAt S b) + (1 : Int32)) (by rw [P b0 (by decide) (by decide) (by omega), o1]; omega) (by rw [P b0 (by decide) (by decide) (by omega), o1]; omega)
  have A2 : ∀ {e : Int32}, 0 < e.toInt → e.toInt ≤ 131072 → (e + (1 : Int32)) + (1 : Int32) = e + (2 : Int32) := fun h1 h2 => Int32.toInt_inj.mp (by rw [t_add (by rw [t_add (by rw [o1]; omega), o1]; omega), t_add (by rw [o1]; omega), o1, t_add (by rw [o2]; omega), o2]; omega)
  rw [A2 a0 (by omega)] at ua
  rw [A2 b0 (by omega)] at ub
  have NS : ∀ {e i : Int32}, 0 < e.toInt → e.toInt ≤ 131072 → 0 ≤ i.toInt → i.toInt ≤ 100 → (e + (3 : Int32)) + i = e + ((3 : Int32) + i) := fun h1 h2 h3 h4 => Int32.toInt_inj.mp (by rw [t_add (by rw [t_add (by rw [o3]; omega), o3]; omega), t_add (by rw [o3]; omega), o3, t_add (by rw [t_add (by rw [o3]; omega), o3]; omega), t_add (by rw [o3]; omega), o3]; omega)
  have r1 := rg_u1 (S := S) (x := (fX7_entryAt S a) + (1 : Int32))
  have r2 := rg_u1 (S := S) (x := (fX7_entryAt S a) + (2 : Int32))
  have r3 := rg_u1 (S := S) (x := (fX7_entryAt S b) + (1 : Int32))
  have r4 := rg_u1 (S := S) (x := (fX7_entryAt S b) + (2 : Int32))
  constructor
  · rintro ⟨q1, q2⟩ j h1 h2
    have e : (fX7_u2 S ((fX7_entryAt S a) + (1 : Int32))).toInt = (fX7_u2 S ((fX7_entryAt S b) + (1 : Int32))).toInt := by
      show (fX7_nameLength S a).toInt = (fX7_nameLength S b).toInt
      rw [q1]
    by_cases c1 : j.toInt = 1
    · have ej : j = 1 := Int32.toInt_inj.mp (by rw [o1]; exact c1)
      rw [ej]
      exact Int32.toInt_inj.mp (by omega)
    · by_cases c2 : j.toInt = 2
      · have ej : j = 2 := Int32.toInt_inj.mp (by rw [o2]; exact c2)
        rw [ej]
        exact Int32.toInt_inj.mp (by omega)
      · have ei : (j - (3 : Int32)).toInt = j.toInt - 3 := by rw [t_sub (by rw [o3]; omega), o3]
        have ej : j = (3 : Int32) + (j - (3 : Int32)) := Int32.toInt_inj.mp (by rw [t_add (by rw [o3, ei]; omega), o3, ei]; omega)
        have q := q2 (j - (3 : Int32)) (by rw [ei]; omega) (by rw [ei]; omega)
        unfold fX7_nameSign at q
        rw [NS a0 (by omega) (by rw [ei]; omega) (by rw [ei]; omega), NS b0 (by omega) (by rw [ei]; omega) (by rw [ei]; omega), ← ej] at q
        exact q
  · intro g
    have g1 := g 1 (by decide) (by rw [o1]; omega)
    have g2 := g 2 (by decide) (by rw [o2]; omega)
    rw [← g1, ← g2, ← ua] at ub
    refine ⟨Int32.toInt_inj.mp ub.symm, fun i h0 h1 => ?_⟩
    have ei : ((3 : Int32) + i).toInt = 3 + i.toInt := by rw [t_add (by rw [o3]; omega), o3]
    have q := g ((3 : Int32) + i) (by rw [ei]; omega) (by rw [ei]; omega)
    unfold fX7_nameSign
    rw [NS a0 (by omega) h0 (by omega), NS b0 (by omega) h0 (by omega)]
    exact q
theorem cv_same (hE : LyE S R) (ha : (fX7_tagOf S a).toInt = 1) (hb : (fX7_tagOf S b).toInt = 1) (h : vX7_isSameName S a b r u) : u = S ∧ ((r = 1 ∧ SmN S a b) ∨ (r = 0 ∧ ¬ SmN S a b)) := by
  have b2 := hE.1.2.1
  obtain ⟨a0, al, af⟩ := sm_F hE ha
  obtain ⟨b0, bl, bf⟩ := sm_F hE hb
  obtain ⟨-, a4, e4, -, a8, e8, -, a13, e13, n, h⟩ := h
  have el : a13 = fX7_nameLength S a := by rw [e13, e4]; rfl
  rw [e4, e8, el] at h
  have L : ∀ (n : Nat) {i : Int32}, 1 ≤ i.toInt → i.toInt ≤ 3 + (fX7_nameLength S a).toInt → (∀ j : Int32, 1 ≤ j.toInt → j.toInt < i.toInt → fX7_u1 S ((fX7_entryAt S a) + j) = fX7_u1 S ((fX7_entryAt S b) + j)) → v_X7_isSameName_L25 r u n S (fX7_entryAt S a) (fX7_entryAt S b) (fX7_nameLength S a) i → u = S ∧ ((r = 1 ∧ ∀ j : Int32, 1 ≤ j.toInt → j.toInt < 3 + (fX7_nameLength S a).toInt → fX7_u1 S ((fX7_entryAt S a) + j) = fX7_u1 S ((fX7_entryAt S b) + j)) ∨ (r = 0 ∧ ∃ j : Int32, 1 ≤ j.toInt ∧ j.toInt < 3 + (fX7_nameLength S a).toInt ∧ fX7_u1 S ((fX7_entryAt S a) + j) ≠ fX7_u1 S ((fX7_entryAt S b) + j))) := fun n => by
    induction n with
    | zero => intro i _ _ _ h; unfold v_X7_isSameName_L25 at h; exact h.elim
    | succ n ih =>
      intro i i1 i3 g h
      unfold v_X7_isSameName_L25 at h
      obtain ⟨-, h⟩ := h
      rw [show ((3 : Int32) + (fX7_nameLength S a)).toInt = 3 + (fX7_nameLength S a).toInt by rw [t_add (by rw [li_3]; omega), li_3]] at h
      rcases h with ⟨c, er, eu⟩ | ⟨c, -, -, h⟩
      · exact ⟨eu, Or.inl ⟨er, fun j h1 h2 => g j h1 (by omega)⟩⟩
      · rcases h with ⟨c2, a25, e25, h⟩ | ⟨c2, er, eu⟩
        · have ek : a25.toInt = i.toInt + 1 := by rw [e25, t_add (by rw [show (Int32.ofInt 1).toInt = 1 from rfl]; omega)]; rfl
          refine ih (by omega) (by omega) (fun j h1 h2 => ?_) h
          by_cases z : j.toInt < i.toInt
          · exact g j h1 z
          · have ej : j = i := Int32.toInt_inj.mp (by omega)
            rw [ej]
            exact Int32.toInt_inj.mp c2
        · exact ⟨eu, Or.inr ⟨er, i, i1, by omega, fun q => c2 (by rw [q])⟩⟩
  obtain ⟨eu, q⟩ := L n (by decide) (by rw [li_1]; omega) (fun j h1 h2 => absurd h2 (by rw [li_1]; omega)) h
  refine ⟨eu, ?_⟩
  have D := sm_D hE ha hb
  rcases q with ⟨er, q⟩ | ⟨er, j, h1, h2, q⟩
  · exact Or.inl ⟨er, D.mpr q⟩
  · exact Or.inr ⟨er, fun p => q (D.mp p j h1 h2)⟩
end TW
