/-! a NAME and a text -/
def TxH (S : MS) (p : Nat) (L : List Int32) : Prop := qN S (p + 1) = L.length ∧ L.length ≤ 100 ∧ (∀ k : Nat, qI S (p + 1) k = L.getD k 0) ∧ ∀ k : Nat, k < L.length → 0 ≤ (L.getD k 0).toInt ∧ (L.getD k 0).toInt < 128
/-- NAME k is this text -/
def isTx (S : MS) (k : Int32) (L : List Int32) : Prop := (fX7_nameLength S k).toInt = L.length ∧ ∀ i : Int32, 0 ≤ i.toInt → i.toInt < L.length → (fX7_nameSign S k i).toInt = (L.getD i.toInt.toNat 0).toInt
section XT
variable {S S' R R' T u w : MS} {x y z r c v e len o N i x1 k t a b : Int32} {oo : MS ⊕ MS} {p : Nat} {L : List Int32}
theorem c128 {a : Int32} (h : 0 ≤ a.toInt ∧ a.toInt < 128) : ((a &&& 255).toUInt32 % 65536).toInt32 = a := by
  have z : ∀ n : Fin 128, (((Int32.ofInt (n.val : Int)) &&& 255).toUInt32 % 65536).toInt32 = Int32.ofInt (n.val : Int) := by decide +kernel
  have q := z ⟨a.toInt.toNat, by omega⟩
  have e : (((⟨a.toInt.toNat, by omega⟩ : Fin 128).val : Nat) : Int) = a.toInt := by
    show ((a.toInt.toNat : Nat) : Int) = a.toInt
    omega
  rw [e, Int32.ofInt_toInt] at q
  exact q
theorem cAt_of (h : TxH S p L) (h0 : 0 ≤ i.toInt) (h1 : i.toInt < L.length) : cAt S p i = L.getD i.toInt.toNat 0 := by
  obtain ⟨-, -, h2, h3⟩ := h
  unfold cAt
  rw [h2]
  exact c128 (h3 _ (by omega))
theorem tx_len (h : TxH S p L) : (Int32.ofNat (qN S (p + 1))).toInt = L.length := by
  rw [h.1]
  exact toI_len (by have := h.2.1; omega)
theorem cv_isText (hT : TxH S p L) (h : vX7_isText S k p r u) : u = S ∧ ((r = 1 ∧ isTx S k L) ∨ (r = 0 ∧ ¬ isTx S k L)) := by
  have tl := tx_len hT
  have t100 := hT.2.1
  have LL : ∀ (n : Nat) {i : Int32}, 0 ≤ i.toInt → i.toInt ≤ L.length → (∀ j : Int32, 0 ≤ j.toInt → j.toInt < i.toInt → (fX7_nameSign S k j).toInt = (L.getD j.toInt.toNat 0).toInt) → v_X7_isText_L16 r u n S k p i → u = S ∧ ((r = 1 ∧ ∀ j : Int32, 0 ≤ j.toInt → j.toInt < L.length → (fX7_nameSign S k j).toInt = (L.getD j.toInt.toNat 0).toInt) ∨ (r = 0 ∧ ∃ j : Int32, 0 ≤ j.toInt ∧ j.toInt < L.length ∧ (fX7_nameSign S k j).toInt ≠ (L.getD j.toInt.toNat 0).toInt)) := fun n => by
    induction n with
    | zero => intro i _ _ _ h; unfold v_X7_isText_L16 at h; exact h.elim
    | succ n ih =>
      intro i i0 i1 g h
      unfold v_X7_isText_L16 at h
      obtain ⟨-, -, h⟩ := h
      rw [tl] at h
      rcases h with ⟨c, er, eu⟩ | ⟨c, -, -, h⟩
      · exact ⟨eu, Or.inl ⟨er, fun j h0 h1 => g j h0 (by omega)⟩⟩
      · rw [cAt_of hT i0 (by omega)] at h
        rcases h with ⟨c2, a14, e14, h⟩ | ⟨c2, er, eu⟩
        · have ek : a14.toInt = i.toInt + 1 := by rw [e14, t_add (by rw [show (Int32.ofInt 1).toInt = 1 from rfl]; omega)]; rfl
          refine ih (by omega) (by omega) (fun j h0 h1 => ?_) h
          by_cases z : j.toInt < i.toInt
          · exact g j h0 z
          · have ej : j = i := Int32.toInt_inj.mp (by omega)
            rw [ej]
            exact c2
        · exact ⟨eu, Or.inr ⟨er, i, i0, by omega, c2⟩⟩
  obtain ⟨-, h⟩ := h
  rw [tl] at h
  rcases h with ⟨c, n, h⟩ | ⟨c, er, eu⟩
  · obtain ⟨eu, q⟩ := LL n (by decide) (by rw [show (0 : Int32).toInt = 0 from rfl]; omega) (fun j h0 h1 => absurd h1 (by rw [show (0 : Int32).toInt = 0 from rfl]; omega)) h
    refine ⟨eu, ?_⟩
    rcases q with ⟨er, q⟩ | ⟨er, j, h0, h1, q⟩
    · exact Or.inl ⟨er, c, q⟩
    · exact Or.inr ⟨er, fun p => q (p.2 j h0 h1)⟩
  · exact ⟨eu, Or.inr ⟨er, fun p => c p.1⟩⟩
theorem rv_isText (hE : LyE S R) (hk : (fX7_tagOf S k).toInt = 1) (hT : TxH R p L) (h : v_isText R k p r T) : T = R ∧ ((r = 1 ∧ isTx S k L) ∨ (r = 0 ∧ ¬ isTx S k L)) := by
  obtain ⟨f7, hl, hN⟩ := nm_at hE hk
  have tl := tx_len hT
  have t100 := hT.2.1
  have LL : (fX7_nameLength S k).toInt = L.length → ∀ (n : Nat) {i : Int32}, 0 ≤ i.toInt → i.toInt ≤ L.length → (∀ j : Int32, 0 ≤ j.toInt → j.toInt < i.toInt → (fX7_nameSign S k j).toInt = (L.getD j.toInt.toNat 0).toInt) → v_isText_L17 r T n R k p i → T = R ∧ ((r = 1 ∧ ∀ j : Int32, 0 ≤ j.toInt → j.toInt < L.length → (fX7_nameSign S k j).toInt = (L.getD j.toInt.toNat 0).toInt) ∨ (r = 0 ∧ ∃ j : Int32, 0 ≤ j.toInt ∧ j.toInt < L.length ∧ (fX7_nameSign S k j).toInt ≠ (L.getD j.toInt.toNat 0).toInt)) := fun hlen n => by
    induction n with
    | zero => intro i _ _ _ h; unfold v_isText_L17 at h; exact h.elim
    | succ n ih =>
      intro i i0 i1 g h
      unfold v_isText_L17 at h
      rw [tl] at h
      rcases h with ⟨c, er, eu⟩ | ⟨c, -, -, h⟩
      · exact ⟨eu, Or.inl ⟨er, fun j h0 h1 => g j h0 (by omega)⟩⟩
      · rw [cAt_of hT i0 (by omega)] at h
        have a := (hN i).1 i0 (by omega)
        have rg := hT.2.2.2 i.toInt.toNat (by omega)
        have q := sg_eq (K := (L.getD i.toInt.toNat 0).toInt) rg a
        rcases h with ⟨c2, a14, e14, h⟩ | ⟨c2, er, eu⟩
        · have ek : a14.toInt = i.toInt + 1 := by rw [e14, t_add (by rw [show (Int32.ofInt 1).toInt = 1 from rfl]; omega)]; rfl
          refine ih (by omega) (by omega) (fun j h0 h1 => ?_) h
          by_cases z : j.toInt < i.toInt
          · exact g j h0 z
          · have ej : j = i := Int32.toInt_inj.mp (by omega)
            rw [ej]
            exact q.mpr c2
        · exact ⟨eu, Or.inr ⟨er, i, i0, by omega, fun p => c2 (q.mp p)⟩⟩
  obtain ⟨-, h⟩ := h
  rw [f7, tl] at h
  rcases h with ⟨c, n, h⟩ | ⟨c, er, eu⟩
  · obtain ⟨eu, q⟩ := LL c n (by decide) (by rw [show (0 : Int32).toInt = 0 from rfl]; omega) (fun j h0 h1 => absurd h1 (by rw [show (0 : Int32).toInt = 0 from rfl]; omega)) h
    refine ⟨eu, ?_⟩
    rcases q with ⟨er, q⟩ | ⟨er, j, h0, h1, q⟩
    · exact Or.inl ⟨er, c, q⟩
    · exact Or.inr ⟨er, fun p => q (p.2 j h0 h1)⟩
  · exact ⟨eu, Or.inr ⟨er, fun p => c p.1⟩⟩
end XT
