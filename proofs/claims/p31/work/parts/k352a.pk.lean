/-! eight types in one int -/
def pkW (g : Nat → Int32) : Nat → Int32
  | 0 => 0
  | n + 1 => pkW g n ||| (g n <<< (((4 : Int32) * Int32.ofNat n) &&& 31))
theorem sh4 : ∀ n : Fin 8, (((4 : Int32) * Int32.ofNat n.val) &&& 31).toBitVec.smod 32 = BitVec.ofNat 32 (4 * n.val) := by decide +kernel
theorem bit15 {x : Int32} (h : 0 ≤ x.toInt ∧ x.toInt ≤ 15) (i : Nat) (hi : 4 ≤ i) : x.toBitVec.getLsbD i = false := by
  have e : x.toBitVec.toNat ≤ 15 := by
    have a : x.toBitVec.toInt = x.toInt := rfl
    have b := BitVec.toInt_eq_toNat_cond x.toBitVec
    rw [a] at b
    split at b <;> omega
  rw [BitVec.getLsbD, Nat.testBit_lt_two_pow]
  calc x.toBitVec.toNat < 2 ^ 4 := by omega
    _ ≤ 2 ^ i := Nat.pow_le_pow_right (by decide) hi
theorem pk_bit {g : Nat → Int32} (hg : ∀ j, j < 8 → 0 ≤ (g j).toInt ∧ (g j).toInt ≤ 15) : ∀ (n b : Nat), n ≤ 8 → b < 32 → (pkW g n).toBitVec.getLsbD b = (decide (b / 4 < n) && (g (b / 4)).toBitVec.getLsbD (b % 4)) := by
  intro n
  induction n with
  | zero =>
    intro b _ _
    unfold pkW
    rw [show decide (b / 4 < 0) = false by simp]
    simp
  | succ n ih =>
    intro b hn hb
    unfold pkW
    rw [Int32.toBitVec_or, BitVec.getLsbD_or, ih b (by omega) hb, Int32.toBitVec_shiftLeft, sh4 ⟨n, by omega⟩]
    have e : (BitVec.ofNat 32 (4 * n)).toNat = 4 * n := by
      rw [BitVec.toNat_ofNat]
      omega
    rw [BitVec.shiftLeft_eq', e, BitVec.getLsbD_shiftLeft]
    by_cases c : b / 4 < n
    · rw [show decide (b / 4 < n) = true by simp [c], show decide (b / 4 < n + 1) = true by simp; omega, show decide (b < 4 * n) = true by simp; omega]
      simp
    · by_cases d : b / 4 = n
      · rw [show decide (b / 4 < n) = false by simp [c], show decide (b / 4 < n + 1) = true by simp; omega, show decide (b < 4 * n) = false by simp; omega, show decide (b < 32) = true by simp [hb], d, show b - 4 * n = b % 4 by omega]
        simp
      · have z := bit15 (hg n (by omega)) (b - 4 * n) (by omega)
        rw [show decide (b / 4 < n) = false by simp [c], show decide (b / 4 < n + 1) = false by simp; omega, z]
        simp
theorem pk_get {g : Nat → Int32} (hg : ∀ j, j < 8 → 0 ≤ (g j).toInt ∧ (g j).toInt ≤ 15) {j : Nat} (hj : j < 8) : (pkW g 8 >>> (((4 : Int32) * Int32.ofNat j) &&& 31)) &&& 15 = g j := by
  refine Int32.toBitVec_inj.mp (BitVec.eq_of_getLsbD_eq (fun i hi => ?_))
  rw [Int32.toBitVec_and, BitVec.getLsbD_and, Int32.toBitVec_shiftRight, sh4 ⟨j, hj⟩]
  have e : (BitVec.ofNat 32 (4 * j)).toNat = 4 * j := by
    rw [BitVec.toNat_ofNat]
    omega
  rw [BitVec.sshiftRight_eq', e, BitVec.getLsbD_sshiftRight]
  have m15 : ∀ i : Fin 32, (15 : Int32).toBitVec.getLsbD i.val = decide (i.val < 4) := by decide
  have q := m15 ⟨i, hi⟩
  simp only at q
  rw [q]
  by_cases c : i < 4
  · have hb : 4 * j + i < 32 := by omega
    rw [show decide (i < 4) = true by simp [c], Bool.and_true, show decide (32 ≤ i) = false by simp; omega, if_pos hb, pk_bit hg 8 (4 * j + i) (Nat.le_refl 8) hb, show (4 * j + i) / 4 = j by omega, show (4 * j + i) % 4 = i by omega, show decide (j < 8) = true by simp [hj]]
    simp
  · rw [show decide (i < 4) = false by simp [c], Bool.and_false, bit15 (hg j hj) i (by omega)]
/-! verify's types are 0 .. 6 -/
def tyG (v : Int32) : Prop := 0 ≤ v.toInt ∧ v.toInt ≤ 6
def RgG (S : MS) : Prop := ∀ k : Nat, tyG (qI S 25 k) ∧ tyG (qI S 26 k) ∧ tyG (qI S 23 k)
section RGA
variable {S u U V : MS} {t x y z o a1 a2 a3 a4 : Int32} {s p : Nat} {Q : MS → Prop} {Q1 : Int32 → MS → Prop} {W J : List Nat}
theorem ty7 : ∀ n : Fin 7, 0 ≤ (vp_nar .byte ((Int32.ofNat n.val).toInt8.toInt32)).toInt ∧ (vp_nar .byte ((Int32.ofNat n.val).toInt8.toInt32)).toInt ≤ 6 ∧ 0 ≤ (vp_nar .byte (Int32.ofNat n.val)).toInt ∧ (vp_nar .byte (Int32.ofNat n.val)).toInt ≤ 6 := by decide +kernel
theorem ty_of (h : tyG t) : t = Int32.ofNat t.toInt.toNat := by
  refine Int32.toInt_inj.mp ?_
  have := h.1
  have := h.2
  rw [Int32.toInt_ofNat_of_lt (by omega)]
  omega
theorem nbT (h : tyG t) : tyG (vp_nar .byte (t.toInt8.toInt32)) := by
  have z := ty7 ⟨t.toInt.toNat, by have := h.1; have := h.2; omega⟩
  rw [← ty_of h] at z
  exact ⟨z.1, z.2.1⟩
theorem nbU (h : tyG t) : tyG (vp_nar .byte t) := by
  have z := ty7 ⟨t.toInt.toNat, by have := h.1; have := h.2; omega⟩
  rw [← ty_of h] at z
  exact ⟨z.2.2.1, z.2.2.2⟩
theorem RgG.wr {r i : Nat} {v : Int32} (g : RgG S) (hv : (r = 23 ∨ r = 25 ∨ r = 26) → tyG v) : RgG (wI S r i v) := fun k => by
  have one : ∀ q, (q = 23 ∨ q = 25 ∨ q = 26) → tyG (qI S q k) → tyG (qI (wI S r i v) q k) := fun q hq h => by
    rw [qI_wI]
    split
    · rename_i c
      exact hv (by rw [← c.1]; exact hq)
    · exact h
  exact ⟨one 25 (by omega) (g k).1, one 26 (by omega) (g k).2.1, one 23 (by omega) (g k).2.2⟩
theorem RgG.fm (g : RgG S) (f : frm W J S u) (h1 : 23 ∉ W) (h2 : 25 ∉ W) (h3 : 26 ∉ W) : RgG u := fun k => by
  rw [(f.2.2.2.2.1 25 (by decide) h2).1, (f.2.2.2.2.1 26 (by decide) h3).1, (f.2.2.2.2.1 23 (by decide) h1).1]
  exact g k
theorem ty_0 : tyG 0 := by unfold tyG; decide
theorem ty_1 : tyG 1 := by unfold tyG; decide
theorem ty_2 : tyG 2 := by unfold tyG; decide
theorem ty_3 : tyG 3 := by unfold tyG; decide
theorem ty_4 : tyG 4 := by unfold tyG; decide
theorem ty_5 : tyG 5 := by unfold tyG; decide
theorem ty_6 : tyG 6 := by unfold tyG; decide
theorem rg_push (g : RgG S) (ht : tyG t) (h : w_push S t Q) : w_push S t (fun u => Q u ∧ RgG u) := by
  unfold w_push at h ⊢
  exact ⟨h.1, fun S2 e2 S4 e4 => ⟨h.2 S2 e2 S4 e4, by rw [e4, e2]; exact (g.wr (fun _ => nbT ht)).wr (fun z => by omega)⟩⟩
theorem rg_pull (g : RgG S) (h : w_pull S Q1) : w_pull S (fun r u => Q1 r u ∧ RgG u ∧ tyG r) := by
  unfold w_pull at h ⊢
  intro S2 e2
  have g2 : RgG S2 := by rw [e2]; exact g.wr (fun z => by omega)
  exact ⟨(h S2 e2).1, (h S2 e2).2, g2, (g2 _).2.1⟩
theorem rg_need (g : RgG S) (h : w_need S t Q) : w_need S t (fun u => Q u ∧ RgG u) := by
  have J : w_need_J16 Q S → w_need_J16 (fun u => Q u ∧ RgG u) S := fun hj => by
    unfold w_need_J16 at hj ⊢
    exact fun S1 e1 => ⟨hj S1 e1, by rw [e1]; exact g.wr (fun z => by omega)⟩
  unfold w_need at h ⊢
  exact ⟨fun c => J (h.1 c), fun c => ⟨fun c2 => J ((h.2 c).1 c2), fun c2 S4 e4 => ⟨(h.2 c).2 c2 S4 e4, by rw [e4]; exact g.wr (fun z => by omega)⟩⟩⟩
theorem nd_blk {P R : MS → Prop} (g : RgG U) (hk : ∀ V, RgG V → P V → R V) (h : ∃ Q', w_need U t Q' ∧ ∀ V, Q' V → P V) : ∃ Q', w_need U t Q' ∧ ∀ V, Q' V → R V := by
  obtain ⟨Q', p', h'⟩ := h
  exact ⟨_, rg_need g p', fun V q => hk V q.2 (h' V q.1)⟩
theorem rg_takeLetter (g : RgG S) (h : w_takeLetter S x Q) : w_takeLetter S x (fun u => Q u ∧ RgG u) := by
  have fin : ∀ {V : MS} {t : Int32}, RgG V → (∃ Q', w_need V t Q' ∧ ∀ W, Q' W → Q W) → ∃ Q', w_need V t Q' ∧ ∀ W, Q' W → Q W ∧ RgG W := fun g' h' => nd_blk g' (fun W gw q => ⟨q, gw⟩) h'
  unfold w_takeLetter at h ⊢
  obtain ⟨Qp, p1, h1⟩ := h
  refine ⟨_, rg_pull g p1, ?_⟩
  rintro r2 S3 ⟨g3, rg3, ty3⟩
  obtain ⟨hA, hB⟩ := h1 r2 S3 g3
  refine ⟨fun c => ⟨fun c2 => ?_, fun c2 => ?_⟩, fun c => ?_⟩
  · have := (hA c).1 c2
    unfold w_takeLetter_J22 at this ⊢
    exact fin rg3 this
  · have := (hA c).2 c2
    unfold w_takeLetter_J22 at this ⊢
    exact fin rg3 this
  obtain ⟨hA, hB⟩ := hB c
  have j51 : ∀ t, w_takeLetter_J51 Q S3 t → w_takeLetter_J51 (fun u => Q u ∧ RgG u) S3 t := fun t hj => by
    unfold w_takeLetter_J51 at hj ⊢
    exact fin rg3 hj
  have j80 : ∀ t, w_takeLetter_J80 Q S3 t → w_takeLetter_J80 (fun u => Q u ∧ RgG u) S3 t := fun t hj => by
    unfold w_takeLetter_J80 at hj ⊢
    exact fin rg3 hj
  refine ⟨fun c1 => ⟨fun c2 => ?_, fun c2 => ⟨fun c3 => ?_, fun c3 => ?_⟩⟩, fun c1 => ?_⟩
  · have := (hA c1).1 c2
    unfold w_takeLetter_J46 at this ⊢
    exact j51 _ this
  · have := ((hA c1).2 c2).1 c3
    unfold w_takeLetter_J46 at this ⊢
    exact j51 _ this
  · exact j51 _ (((hA c1).2 c2).2 c3)
  obtain ⟨hA, hB⟩ := hB c1
  refine ⟨fun c1 => ⟨fun c2 => ?_, fun c2 => ⟨fun c3 => ?_, fun c3 => ?_⟩⟩, fun c1 => ?_⟩
  · have := (hA c1).1 c2
    unfold w_takeLetter_J75 at this ⊢
    exact j80 _ this
  · have := ((hA c1).2 c2).1 c3
    unfold w_takeLetter_J75 at this ⊢
    exact j80 _ this
  · exact j80 _ (((hA c1).2 c2).2 c3)
  obtain ⟨hA, hB⟩ := hB c1
  refine ⟨fun c2 => ⟨(hA c2).1, fin rg3 (hA c2).2⟩, fun c2 => ?_⟩
  obtain ⟨Q9, p9, h9⟩ := hB c2
  refine ⟨_, rg_pull rg3 p9, ?_⟩
  rintro r10 S11 ⟨g11, rg11, ty11⟩
  have j124 : ∀ t, w_takeLetter_J124 Q S11 t → w_takeLetter_J124 (fun u => Q u ∧ RgG u) S11 t := fun t hj => by
    unfold w_takeLetter_J124 at hj ⊢
    exact fin rg11 hj
  have j123 : w_takeLetter_J123 Q S11 → w_takeLetter_J123 (fun u => Q u ∧ RgG u) S11 := fun hj => by
    unfold w_takeLetter_J123 at hj ⊢
    exact j124 _ hj
  obtain ⟨hA, hB⟩ := h9 r10 S11 g11
  exact ⟨fun c3 => ⟨fun c4 => j124 _ ((hA c3).1 c4), fun c4 => j123 ((hA c3).2 c4)⟩, fun c3 => j123 (hB c3)⟩
theorem rg_giveL (hx : tyG x) : ∀ (n : Nat) {U : MS} {k : Int32}, RgG U → w_giveLetters_L2 Q n U s x k → w_giveLetters_L2 (fun u => Q u ∧ RgG u) n U s x k := by
  intro n
  induction n with
  | zero => intro U k _ h; exact h
  | succ n ih =>
    intro U k g h
    unfold w_giveLetters_L2 at h ⊢
    refine ⟨fun c => ⟨h.1 c, g⟩, fun c => ?_⟩
    obtain ⟨b, h1⟩ := h.2 c
    refine ⟨b, fun a5 e5 => ?_⟩
    obtain ⟨hA, hB⟩ := h1 a5 e5
    have J76 : ∀ V : MS, RgG V → w_giveLetters_J76 Q (w_giveLetters_L2 Q n) V s x k → w_giveLetters_J76 (fun u => Q u ∧ RgG u) (w_giveLetters_L2 (fun u => Q u ∧ RgG u) n) V s x k := fun V gV hj => by
      unfold w_giveLetters_J76 at hj ⊢
      exact fun a e => ih gV (hj a e)
    have J73 : ∀ t : Int32, tyG t → w_giveLetters_J73 Q (w_giveLetters_L2 Q n) U t s x k → w_giveLetters_J73 (fun u => Q u ∧ RgG u) (w_giveLetters_L2 (fun u => Q u ∧ RgG u) n) U t s x k := fun t ht hj => by
      unfold w_giveLetters_J73 at hj ⊢
      obtain ⟨Q8, p8, h8⟩ := hj
      exact ⟨_, rg_push g ht p8, fun V q => J76 V q.2 (h8 V q.1)⟩
    refine ⟨fun c1 => ?_, fun c1 => ⟨fun c2 => J73 1 ty_1 ((hB c1).1 c2), fun c2 => ⟨fun c3 => J73 4 ty_4 (((hB c1).2 c2).1 c3), fun c3 => ⟨fun c4 => J73 6 ty_6 ((((hB c1).2 c2).2 c3).1 c4), fun c4 => J73 x hx ((((hB c1).2 c2).2 c3).2 c4)⟩⟩⟩⟩
    obtain ⟨Q14, p14, h14⟩ := hA c1
    refine ⟨_, rg_push g ty_2 p14, ?_⟩
    rintro S15 ⟨g15, rg15⟩
    obtain ⟨Q17, p17, h17⟩ := h14 S15 g15
    exact ⟨_, rg_push rg15 ty_3 p17, fun V q => J76 V q.2 (h17 V q.1)⟩
theorem rg_give (g : RgG S) (hx : tyG x) (h : w_giveLetters S s x Q) : w_giveLetters S s x (fun u => Q u ∧ RgG u) := by
  unfold w_giveLetters at h ⊢
  obtain ⟨n, h⟩ := h
  exact ⟨n, rg_giveL hx n g h⟩
theorem rg_setLocal (g : RgG S) (ht : tyG t) (h : w_setLocal S x t Q) : w_setLocal S x t (fun u => Q u ∧ RgG u) := by
  unfold w_setLocal at h ⊢
  exact ⟨h.1, fun S2 e2 => ⟨h.2 S2 e2, by rw [e2]; exact g.wr (fun _ => nbT ht)⟩⟩
theorem rg_store (g : RgG S) (ht : tyG z) (h : w_store S x y z Q) : w_store S x y z (fun u => Q u ∧ RgG u) := by
  have J91 : ∀ (U : MS) (t b v2 v4 : Int32), RgG U → tyG t → w_store_J91 Q U t b v2 v4 → w_store_J91 (fun u => Q u ∧ RgG u) U t b v2 v4 := fun U t b v2 v4 gU tt hj => by
    unfold w_store_J91 at hj ⊢
    obtain ⟨Q2, p2, h2⟩ := hj
    refine ⟨_, rg_setLocal gU tt p2, ?_⟩
    rintro S3 ⟨g3, rg3⟩
    obtain ⟨hA, hB⟩ := h2 S3 g3
    refine ⟨fun c => ?_, fun c => ⟨hB c, rg3⟩⟩
    obtain ⟨Q7, p7, h7⟩ := hA c
    exact ⟨_, rg_setLocal rg3 ty_3 p7, fun V q => ⟨h7 V q.1, q.2⟩⟩
  have J68 : ∀ (U : MS) (v1 v2 v3 v4 : Int32), RgG U → tyG v3 → w_store_J68 Q U v1 v2 v3 v4 → w_store_J68 (fun u => Q u ∧ RgG u) U v1 v2 v3 v4 := fun U v1 v2 v3 v4 gU tt hj => by
    unfold w_store_J68 at hj ⊢
    exact ⟨fun c => J91 _ _ _ _ _ gU ty_1 (hj.1 c), fun c => ⟨fun c2 => J91 _ _ _ _ _ gU ty_2 ((hj.2 c).1 c2), fun c2 => J91 _ _ _ _ _ gU tt ((hj.2 c).2 c2)⟩⟩
  have J37 : ∀ (U : MS) (v1 v2 v3 v4 : Int32), RgG U → tyG v3 → w_store_J37 Q U v1 v2 v3 v4 → w_store_J37 (fun u => Q u ∧ RgG u) U v1 v2 v3 v4 := fun U v1 v2 v3 v4 gU tt hj => by
    unfold w_store_J37 at hj ⊢
    refine ⟨fun c => J68 _ _ _ _ _ gU tt (hj.1 c), fun c => ?_⟩
    obtain ⟨b, hA, hB⟩ := hj.2 c
    refine ⟨b, fun c2 => ?_, fun c2 => J68 _ _ _ _ _ gU tt (hB c2)⟩
    obtain ⟨Q18, p18, h18⟩ := hA c2
    exact ⟨_, rg_setLocal gU ty_0 p18, fun V q => J68 _ _ _ _ _ q.2 tt (h18 V q.1)⟩
  have J11 : ∀ (t v1 v2 v3 : Int32), tyG v3 → w_store_J11 Q S t v1 v2 v3 → w_store_J11 (fun u => Q u ∧ RgG u) S t v1 v2 v3 := fun t v1 v2 v3 tt hj => by
    unfold w_store_J11 at hj ⊢
    refine ⟨fun c => J37 _ _ _ _ _ g tt (hj.1 c), fun c => ?_⟩
    obtain ⟨b, hA, hB⟩ := hj.2 c
    refine ⟨b, fun c2 => ?_, fun c2 => J37 _ _ _ _ _ g tt (hB c2)⟩
    obtain ⟨Q18, p18, h18⟩ := hA c2
    exact ⟨_, rg_setLocal g ty_0 p18, fun V q => J37 _ _ _ _ _ q.2 tt (h18 V q.1)⟩
  unfold w_store at h ⊢
  exact ⟨fun c => J11 _ _ _ _ ht (h.1 c), fun c => J11 _ _ _ _ ht (h.2 c)⟩
end RGA
/-! verify's types are 0 .. 6: move, work, join, all -/
section RHA
variable {S u U V : MS} {t x y z o : Int32} {s p f : Nat} {Q : MS → Prop} {Q1 : Int32 → MS → Prop} {W J : List Nat}
theorem rg_move (g : RgG S) (h : w_move S x Q) : w_move S x (fun u => Q u ∧ RgG u) := by
  have J194 : ∀ (U : MS) (a : Int32), RgG U → tyG a → w_move_J194 Q U a → w_move_J194 (fun u => Q u ∧ RgG u) U a := fun U a gU ta hj => by
    unfold w_move_J194 at hj ⊢
    obtain ⟨Q', p', h'⟩ := hj
    exact ⟨_, rg_push gU ta p', fun V q => ⟨h' V q.1, q.2⟩⟩
  have J182 : ∀ (U : MS) (o a : Int32), RgG U → tyG a → w_move_J182 Q U o a → w_move_J182 (fun u => Q u ∧ RgG u) U o a := fun U o a gU ta hj => by
    unfold w_move_J182 at hj ⊢
    exact ⟨fun c => J194 _ _ gU ta (hj.1 c), fun c => ⟨fun c2 => J194 _ _ gU ta ((hj.2 c).1 c2), fun c2 => ⟨(hj.2 c).2 c2, gU⟩⟩⟩
  have J171 : ∀ (U : MS) (o a b : Int32), RgG U → tyG a → tyG b → w_move_J171 Q U o a b → w_move_J171 (fun u => Q u ∧ RgG u) U o a b := fun U o a b gU ta tb hj => by
    unfold w_move_J171 at hj ⊢
    refine ⟨fun c => ?_, fun c => J182 _ _ _ gU ta (hj.2 c)⟩
    obtain ⟨Q', p', h'⟩ := hj.1 c
    exact ⟨_, rg_push gU tb p', fun V q => J182 _ _ _ q.2 ta (h' V q.1)⟩
  have J160 : ∀ (U : MS) (o a b : Int32), RgG U → tyG a → tyG b → w_move_J160 Q U o a b → w_move_J160 (fun u => Q u ∧ RgG u) U o a b := fun U o a b gU ta tb hj => by
    unfold w_move_J160 at hj ⊢
    refine ⟨fun c => J171 _ _ _ _ gU ta tb (hj.1 c), fun c => ?_⟩
    obtain ⟨Q', p', h'⟩ := hj.2 c
    exact ⟨_, rg_push gU ta p', fun V q => J171 _ _ _ _ q.2 ta tb (h' V q.1)⟩
  have J155 : ∀ (U : MS) (o a b : Int32), RgG U → tyG a → tyG b → w_move_J155 Q U o a b → w_move_J155 (fun u => Q u ∧ RgG u) U o a b := fun U o a b gU ta tb hj => by
    unfold w_move_J155 at hj ⊢
    obtain ⟨Q', p', h'⟩ := hj
    exact ⟨_, rg_push gU tb p', fun V q => J160 _ _ _ _ q.2 ta tb (h' V q.1)⟩
  have J137 : ∀ (U : MS) (o a b : Int32), RgG U → tyG a → tyG b → w_move_J137 Q U o a b → w_move_J137 (fun u => Q u ∧ RgG u) U o a b := fun U o a b gU ta tb hj => by
    unfold w_move_J137 at hj ⊢
    exact ⟨fun c => J155 _ _ _ _ gU ta tb (hj.1 c), fun c => ⟨fun c2 => J155 _ _ _ _ gU ta tb ((hj.2 c).1 c2), fun c2 => ⟨fun c3 => J155 _ _ _ _ gU ta tb (((hj.2 c).2 c2).1 c3), fun c3 => J160 _ _ _ _ gU ta tb (((hj.2 c).2 c2).2 c3)⟩⟩⟩
  have J132 : ∀ (U : MS) (o a b : Int32), RgG U → tyG a → tyG b → w_move_J132 Q U o a b → w_move_J132 (fun u => Q u ∧ RgG u) U o a b := fun U o a b gU ta tb hj => by
    unfold w_move_J132 at hj ⊢
    obtain ⟨Q', p', h'⟩ := hj
    exact ⟨_, rg_push gU ta p', fun V q => J137 _ _ _ _ q.2 ta tb (h' V q.1)⟩
  have J107 : ∀ (U : MS) (o a b : Int32), RgG U → tyG a → tyG b → w_move_J107 Q U o a b → w_move_J107 (fun u => Q u ∧ RgG u) U o a b := fun U o a b gU ta tb hj => by
    unfold w_move_J107 at hj ⊢
    exact ⟨fun c => ⟨hj.1 c, gU⟩, fun c => ⟨fun c2 => ⟨(hj.2 c).1 c2, gU⟩, fun c2 => ⟨fun c3 => J132 _ _ _ _ gU ta tb (((hj.2 c).2 c2).1 c3), fun c3 => ⟨fun c4 => J132 _ _ _ _ gU ta tb ((((hj.2 c).2 c2).2 c3).1 c4), fun c4 => J137 _ _ _ _ gU ta tb ((((hj.2 c).2 c2).2 c3).2 c4)⟩⟩⟩⟩
  have J93 : ∀ (U : MS) (o a b l : Int32), RgG U → tyG a → tyG b → w_move_J93 Q U o a b l → w_move_J93 (fun u => Q u ∧ RgG u) U o a b l := fun U o a b l gU ta tb hj => by
    unfold w_move_J93 at hj ⊢
    exact ⟨fun c => ⟨(hj.1 c).1, fun c2 => J107 _ _ _ _ gU ty_0 tb ((hj.1 c).2.1 c2), fun c2 => J107 _ _ _ _ gU ta tb ((hj.1 c).2.2 c2)⟩, fun c => J107 _ _ _ _ gU ta tb (hj.2 c)⟩
  have J76 : ∀ (U : MS) (t o a b l : Int32), RgG U → tyG a → tyG b → w_move_J76 Q U t o a b l → w_move_J76 (fun u => Q u ∧ RgG u) U t o a b l := fun U t o a b l gU ta tb hj => by
    unfold w_move_J76 at hj ⊢
    obtain ⟨Q', p', h'⟩ := hj
    refine ⟨_, rg_need gU p', ?_⟩
    rintro V ⟨q, gV⟩
    obtain ⟨hA, hB⟩ := h' V q
    exact ⟨fun c => ⟨(hA c).1, fun c2 => J93 _ _ _ _ _ gV ta ty_0 ((hA c).2.1 c2), fun c2 => J93 _ _ _ _ _ gV ta tb ((hA c).2.2 c2)⟩, fun c => J93 _ _ _ _ _ gV ta tb (hB c)⟩
  have J71 : ∀ (U : MS) (o a b l : Int32), RgG U → tyG a → tyG b → w_move_J71 Q U o a b l → w_move_J71 (fun u => Q u ∧ RgG u) U o a b l := fun U o a b l gU ta tb hj => by
    unfold w_move_J71 at hj ⊢
    exact J76 _ _ _ _ _ _ gU ta tb hj
  have J75 : ∀ (U : MS) (o a b l : Int32), RgG U → tyG a → tyG b → w_move_J75 Q U o a b l → w_move_J75 (fun u => Q u ∧ RgG u) U o a b l := fun U o a b l gU ta tb hj => by
    unfold w_move_J75 at hj ⊢
    exact J76 _ _ _ _ _ _ gU ta tb hj
  have J49 : ∀ (U : MS) (l o a b : Int32), RgG U → tyG a → tyG b → w_move_J49 Q U l o a b → w_move_J49 (fun u => Q u ∧ RgG u) U l o a b := fun U l o a b gU ta tb hj => by
    unfold w_move_J49 at hj ⊢
    refine ⟨fun c => ⟨(hj.1 c).1, fun c2 => J75 _ _ _ _ _ gU ta tb ((hj.1 c).2.1 c2), fun c2 => ?_⟩, fun c => J71 _ _ _ _ _ gU ta tb (hj.2 c)⟩
    obtain ⟨d, hA, hB⟩ := (hj.1 c).2.2 c2
    exact ⟨d, fun c3 => J75 _ _ _ _ _ gU ta tb (hA c3), fun c3 => J71 _ _ _ _ _ gU ta tb (hB c3)⟩
  have J48 : ∀ (U : MS) (o a b : Int32), RgG U → tyG a → tyG b → w_move_J48 Q U o a b → w_move_J48 (fun u => Q u ∧ RgG u) U o a b := fun U o a b gU ta tb hj => by
    unfold w_move_J48 at hj ⊢
    exact J49 _ _ _ _ _ gU ta tb hj
  have J34 : ∀ (U : MS) (o a b : Int32), RgG U → tyG a → tyG b → w_move_J34 Q U o a b → w_move_J34 (fun u => Q u ∧ RgG u) U o a b := fun U o a b gU ta tb hj => by
    unfold w_move_J34 at hj ⊢
    exact ⟨fun c => ⟨fun c2 => J49 _ _ _ _ _ gU ta tb ((hj.1 c).1 c2), fun c2 => J48 _ _ _ _ gU ta tb ((hj.1 c).2 c2)⟩, fun c => J48 _ _ _ _ gU ta tb (hj.2 c)⟩
  have J21 : ∀ (U : MS) (b o a : Int32), RgG U → tyG a → tyG b → w_move_J21 Q U b o a → w_move_J21 (fun u => Q u ∧ RgG u) U b o a := fun U b o a gU ta tb hj => by
    unfold w_move_J21 at hj ⊢
    exact ⟨fun c => J34 _ _ _ _ gU ta tb (hj.1 c), fun c => ⟨fun c2 => J34 _ _ _ _ gU ta tb ((hj.2 c).1 c2), fun c2 => J48 _ _ _ _ gU ta tb ((hj.2 c).2 c2)⟩⟩
  unfold w_move at h ⊢
  obtain ⟨Qp, p1, h1⟩ := h
  refine ⟨_, rg_pull g p1, ?_⟩
  rintro r2 S3 ⟨g3, rg3, ty3⟩
  obtain ⟨d, hA, hB⟩ := h1 r2 S3 g3
  refine ⟨d, fun c => ?_, fun c => J21 _ _ _ _ rg3 ty3 ty_1 (hB c)⟩
  obtain ⟨Qr, p2, h2⟩ := hA c
  refine ⟨_, rg_pull rg3 p2, ?_⟩
  rintro r62 S63 ⟨g63, rg63, ty63⟩
  exact J21 _ _ _ _ rg63 ty3 ty63 (h2 r62 S63 g63)
theorem rg_work (g : RgG S) (h : w_work S x p Q) : w_work S x p (fun u => Q u ∧ RgG u) := by
  have J312 : ∀ (U : MS) (i th : Int32), RgG U → tyG th → w_work_J312 Q U i th → w_work_J312 (fun u => Q u ∧ RgG u) U i th := fun U i th gU tt hj => by
    unfold w_work_J312 at hj ⊢
    obtain ⟨d, Q', p', h'⟩ := hj
    exact ⟨d, _, rg_give gU tt p', fun V q => ⟨h' V q.1, q.2⟩⟩
  have J300 : ∀ (U : MS) (i o th : Int32), RgG U → tyG th → w_work_J300 Q U i o th → w_work_J300 (fun u => Q u ∧ RgG u) U i o th := fun U i o th gU tt hj => by
    unfold w_work_J300 at hj ⊢
    obtain ⟨d, Q', p', h'⟩ := hj
    exact ⟨d, _, rg_store gU tt p', fun V q => J312 _ _ _ q.2 tt (h' V q.1)⟩
  have L260 : ∀ (n : Nat) {U : MS} {i o th : Int32} {q : Nat} {k : Int32}, RgG U → tyG th → w_work_L260 Q n U i o th q k → w_work_L260 (fun u => Q u ∧ RgG u) n U i o th q k := by
    intro n
    induction n with
    | zero => intro U i o th q k _ _ h; exact h
    | succ n ih =>
      intro U i o th q k gU tt h
      unfold w_work_L260 at h ⊢
      refine ⟨fun c => ⟨fun c1 => J300 _ _ _ _ gU tt ((h.1 c).1 c1), fun c1 => ⟨fun c2 => J300 _ _ _ _ gU tt (((h.1 c).2 c1).1 c2), fun c2 => ⟨fun c3 => J300 _ _ _ _ gU tt ((((h.1 c).2 c1).2 c2).1 c3), fun c3 => J312 _ _ _ gU tt ((((h.1 c).2 c1).2 c2).2 c3)⟩⟩⟩, fun c => ?_⟩
      obtain ⟨b, Q', p', h'⟩ := h.2 c
      exact ⟨b, _, rg_takeLetter gU p', fun V q a e => ih q.2 tt (h' V q.1 a e)⟩
  have J244 : ∀ (U : MS) (i o th : Int32), RgG U → tyG th → w_work_J244 Q U i o th → w_work_J244 (fun u => Q u ∧ RgG u) U i o th := fun U i o th gU tt hj => by
    unfold w_work_J244 at hj ⊢
    refine ⟨hj.1, fun a e => ?_⟩
    obtain ⟨n, hn⟩ := hj.2 a e
    exact ⟨n, L260 n gU tt hn⟩
  have J238 : ∀ (U : MS) (a b : Nat) (i o th : Int32), RgG U → tyG th → w_work_J238 Q U a b i o th → w_work_J238 (fun u => Q u ∧ RgG u) U a b i o th := fun U a b i o th gU tt hj => by
    unfold w_work_J238 at hj ⊢
    exact nd_blk gU (fun V gV hV => J244 _ _ _ _ gV tt hV) hj
  have J194 : ∀ (U : MS) (i : Int32) (b : Nat) (o th : Int32), RgG U → tyG th → w_work_J194 Q U i b o th → w_work_J194 (fun u => Q u ∧ RgG u) U i b o th := fun U i b o th gU tt hj => by
    unfold w_work_J194 at hj ⊢
    exact ⟨fun c => J238 _ _ _ _ _ _ gU tt (hj.1 c), fun c => ⟨fun c2 => J238 _ _ _ _ _ _ gU tt ((hj.2 c).1 c2), fun c2 => ⟨fun c3 => J238 _ _ _ _ _ _ gU tt (((hj.2 c).2 c2).1 c3), fun c3 => J238 _ _ _ _ _ _ gU tt (((hj.2 c).2 c2).2 c3)⟩⟩⟩
  have J166 : ∀ (U : MS) (i : Int32) (b : Nat) (o th : Int32), RgG U → tyG th → w_work_J166 Q U i b o th → w_work_J166 (fun u => Q u ∧ RgG u) U i b o th := fun U i b o th gU tt hj => by
    unfold w_work_J166 at hj ⊢
    exact ⟨fun c => J194 _ _ _ _ _ gU tt (hj.1 c), fun c => ⟨fun c2 => J194 _ _ _ _ _ gU tt ((hj.2 c).1 c2), fun c2 => ⟨fun c3 => J194 _ _ _ _ _ gU tt (((hj.2 c).2 c2).1 c3), fun c3 => ⟨fun c4 => J194 _ _ _ _ _ gU tt ((((hj.2 c).2 c2).2 c3).1 c4), fun c4 => J244 _ _ _ _ gU tt ((((hj.2 c).2 c2).2 c3).2 c4)⟩⟩⟩⟩
  have J163 : ∀ (U : MS) (t i : Int32) (b : Nat) (o th : Int32), RgG U → tyG th → w_work_J163 Q U t i b o th → w_work_J163 (fun u => Q u ∧ RgG u) U t i b o th := fun U t i b o th gU tt hj => by
    unfold w_work_J163 at hj ⊢
    exact nd_blk gU (fun V gV hV => J166 _ _ _ _ _ gV tt hV) hj
  have J162 : ∀ (U : MS) (i : Int32) (b : Nat) (o th : Int32), RgG U → tyG th → w_work_J162 Q U i b o th → w_work_J162 (fun u => Q u ∧ RgG u) U i b o th := fun U i b o th gU tt hj => by
    unfold w_work_J162 at hj ⊢
    exact J163 _ _ _ _ _ _ gU tt hj
  have J121 : ∀ (U : MS) (i : Int32) (b : Nat) (o th : Int32), RgG U → tyG th → w_work_J121 Q U i b o th → w_work_J121 (fun u => Q u ∧ RgG u) U i b o th := fun U i b o th gU tt hj => by
    unfold w_work_J121 at hj ⊢
    refine ⟨fun c => ?_, fun c => J166 _ _ _ _ _ gU tt (hj.2 c)⟩
    obtain ⟨d, b1, hA, hB⟩ := hj.1 c
    refine ⟨d, b1, fun c2 => ?_, fun c2 => J162 _ _ _ _ _ gU tt (hB c2)⟩
    obtain ⟨d2, b2, hC, hD⟩ := hA c2
    exact ⟨d2, b2, fun c3 => J163 _ _ _ _ _ _ gU tt (hC c3), fun c3 => J162 _ _ _ _ _ gU tt (hD c3)⟩
  have J118 : ∀ (U : MS) (t i : Int32) (b : Nat) (o th : Int32), RgG U → tyG th → w_work_J118 Q U t i b o th → w_work_J118 (fun u => Q u ∧ RgG u) U t i b o th := fun U t i b o th gU tt hj => by
    unfold w_work_J118 at hj ⊢
    exact nd_blk gU (fun V gV hV => J121 _ _ _ _ _ gV tt hV) hj
  have J98 : ∀ (U : MS) (i : Int32) (b : Nat) (o th : Int32), RgG U → tyG th → w_work_J98 Q U i b o th → w_work_J98 (fun u => Q u ∧ RgG u) U i b o th := fun U i b o th gU tt hj => by
    unfold w_work_J98 at hj ⊢
    exact ⟨hj.1, hj.2.1, fun c => J118 _ _ _ _ _ _ gU tt (hj.2.2.1 c), fun c => J118 _ _ _ _ _ _ gU tt (hj.2.2.2 c)⟩
  have J85 : ∀ (U : MS) (i : Int32) (b : Nat) (o th : Int32), RgG U → tyG th → w_work_J85 Q U i b o th → w_work_J85 (fun u => Q u ∧ RgG u) U i b o th := fun U i b o th gU tt hj => by
    unfold w_work_J85 at hj ⊢
    exact ⟨fun c => J98 _ _ _ _ _ gU tt (hj.1 c), fun c => ⟨fun c2 => J98 _ _ _ _ _ gU tt ((hj.2 c).1 c2), fun c2 => J121 _ _ _ _ _ gU tt ((hj.2 c).2 c2)⟩⟩
  have J74 : ∀ (U : MS) (i : Int32) (b : Nat) (o th : Int32), RgG U → tyG th → w_work_J74 Q U i b o th → w_work_J74 (fun u => Q u ∧ RgG u) U i b o th := fun U i b o th gU tt hj => by
    unfold w_work_J74 at hj ⊢
    exact ⟨hj.1, fun c => J85 _ _ _ _ _ gU ty_0 (hj.2.1 c), fun c => J85 _ _ _ _ _ gU tt (hj.2.2 c)⟩
  have J45 : ∀ (U : MS) (t i : Int32) (b : Nat) (o : Int32), RgG U → tyG t → w_work_J45 Q U t i b o → w_work_J45 (fun u => Q u ∧ RgG u) U t i b o := fun U t i b o gU tt hj => by
    unfold w_work_J45 at hj ⊢
    refine ⟨fun c => ⟨(hj.1 c).1, (hj.1 c).2.1, fun a e => ?_⟩, fun c => J74 _ _ _ _ _ gU tt (hj.2 c)⟩
    obtain ⟨d, h'⟩ := (hj.1 c).2.2 a e
    exact ⟨d, nd_blk gU (fun V gV hV => J74 _ _ _ _ _ gV (by rw [e]; exact (gU _).1) hV) h'⟩
  unfold w_work at h ⊢
  intro S1 e1
  have g1 : RgG S1 := by rw [e1]; exact g.wr (fun z => by omega)
  obtain ⟨d, h⟩ := h S1 e1
  refine ⟨d, fun a e => ?_⟩
  obtain ⟨d2, hA, hB⟩ := h a e
  refine ⟨d2, fun c => ⟨fun c2 => ⟨((hA c).1 c2).1, J45 _ _ _ _ _ g1 (g1 _).2.1 ((hA c).1 c2).2⟩, fun c2 => J45 _ _ _ _ _ g1 ty_0 ((hA c).2 c2)⟩, fun c => ?_⟩
  obtain ⟨Q', p', h'⟩ := hB c
  exact ⟨_, rg_move g1 p', fun V q => ⟨h' V q.1, q.2⟩⟩
theorem ty_jo (hx : tyG x) (hy : tyG y) : tyG (f_joined S x y) := by
  have h25 : tyG (f_joined_J25 S x y) := by
    unfold f_joined_J25 f_joined_J41 f_joined_J45
    split
    · split
      · exact hx
      · split
        · exact hx
        · exact ty_0
    · exact ty_0
  unfold f_joined
  split
  · exact hx
  · split
    · split
      · exact hy
      · split
        · exact hy
        · exact h25
    · exact h25
end RHA
/-! verify's types are 0 .. 6: takeOf, join, flow, firstFault -/
section RIA
variable {S u U V : MS} {t x y z o : Int32} {s p f : Nat} {Q : MS → Prop} {Q1 : Int32 → MS → Prop} {W J : List Nat}
theorem rg_tk33 : ∀ (n : Nat) {U : MS} {k : Int32}, RgG U → w_takeOf_L33 Q n U x y k → w_takeOf_L33 (fun u => Q u ∧ RgG u) n U x y k := by
  intro n
  induction n with
  | zero => intro U k _ h; exact h
  | succ n ih =>
    intro U k g h
    unfold w_takeOf_L33 at h ⊢
    refine ⟨fun c S3 e3 => ⟨h.1 c S3 e3, by rw [e3]; exact g.wr (fun z => by omega)⟩, fun c => ?_⟩
    obtain ⟨b1, b2, h'⟩ := h.2 c
    exact ⟨b1, b2, fun S10 e10 a e => ih (by rw [e10]; exact g.wr (fun _ => nbU (g _).2.2)) (h' S10 e10 a e)⟩
theorem rg_tk2 : ∀ (n : Nat) {U : MS} {k : Int32}, RgG U → w_takeOf_L2 Q n U x y k → w_takeOf_L2 (fun u => Q u ∧ RgG u) n U x y k := by
  intro n
  induction n with
  | zero => intro U k _ h; exact h
  | succ n ih =>
    intro U k g h
    unfold w_takeOf_L2 at h ⊢
    refine ⟨fun c => ?_, fun c => ?_⟩
    · obtain ⟨m, hm⟩ := h.1 c
      exact ⟨m, rg_tk33 m g hm⟩
    · obtain ⟨b1, b2, h'⟩ := h.2 c
      exact ⟨b1, b2, fun S10 e10 a e => ih (by rw [e10]; exact g.wr (fun _ => nbU (g _).2.2)) (h' S10 e10 a e)⟩
theorem rg_takeOf (g : RgG S) (h : w_takeOf S x y Q) : w_takeOf S x y (fun u => Q u ∧ RgG u) := by
  unfold w_takeOf at h ⊢
  obtain ⟨n, h⟩ := h
  exact ⟨n, rg_tk2 n g h⟩
theorem rg_jn50 : ∀ (n : Nat) {U : MS} {hd ht k : Int32}, RgG U → w_join_L50 Q n U x hd ht k → w_join_L50 (fun u => Q u ∧ RgG u) n U x hd ht k := by
  intro n
  induction n with
  | zero => intro U hd ht k _ h; exact h
  | succ n ih =>
    intro U hd ht k g h
    have J200 : ∀ t : Int32, w_join_J200 Q U t x → w_join_J200 (fun u => Q u ∧ RgG u) U t x := fun t hj => by
      unfold w_join_J200 at hj ⊢
      exact fun S12 e12 => ⟨(hj S12 e12).1, fun S14 e14 => ⟨(hj S12 e12).2 S14 e14, by rw [e14, e12]; exact (g.wr (fun z => by omega)).wr (fun z => by omega)⟩⟩
    have J195 : w_join_J195 Q U x → w_join_J195 (fun u => Q u ∧ RgG u) U x := fun hj => by
      unfold w_join_J195 at hj ⊢
      exact J200 _ hj
    have J172 : ∀ V : MS, RgG V → w_join_J172 Q (w_join_L50 Q n) V x hd ht k → w_join_J172 (fun u => Q u ∧ RgG u) (w_join_L50 (fun u => Q u ∧ RgG u) n) V x hd ht k := fun V gV hj => by
      unfold w_join_J172 at hj ⊢
      exact fun a e => ih gV (hj a e)
    have J152 : ∀ t : Int32, tyG t → w_join_J152 Q (w_join_L50 Q n) U x hd ht k t → w_join_J152 (fun u => Q u ∧ RgG u) (w_join_L50 (fun u => Q u ∧ RgG u) n) U x hd ht k t := fun t tt hj => by
      unfold w_join_J152 at hj ⊢
      exact ⟨hj.1, fun S32 e32 S33 e33 => J172 S33 (by rw [e33, e32]; exact (g.wr (fun _ => nbT tt)).wr (fun z => by omega)) (hj.2 S32 e32 S33 e33)⟩
    have J131 : ∀ t v : Int32, tyG t → w_join_J131 Q (w_join_L50 Q n) U t x hd ht k v → w_join_J131 (fun u => Q u ∧ RgG u) (w_join_L50 (fun u => Q u ∧ RgG u) n) U t x hd ht k v := fun t v tt hj => by
      unfold w_join_J131 at hj ⊢
      exact ⟨hj.1, fun c => J152 t tt (hj.2.1 c), fun c => ⟨fun c2 => J172 U g ((hj.2.2 c).1 c2), fun c2 => J152 t tt ((hj.2.2 c).2 c2)⟩⟩
    have J94 : ∀ t : Int32, tyG t → w_join_J94 Q (w_join_L50 Q n) U t x hd ht k → w_join_J94 (fun u => Q u ∧ RgG u) (w_join_L50 (fun u => Q u ∧ RgG u) n) U t x hd ht k := fun t tt hj => by
      unfold w_join_J94 at hj ⊢
      refine ⟨hj.1, fun a e => ?_⟩
      obtain ⟨b, hA, hB⟩ := hj.2 a e
      exact ⟨b, fun c => J131 _ _ tt (hA c), fun c => ⟨(hB c).1, J131 _ _ (ty_jo (by rw [e]; exact (g _).2.2) tt) (hB c).2⟩⟩
    unfold w_join_L50 at h ⊢
    refine ⟨fun c => ⟨fun c1 => ⟨((h.1 c).1 c1).1, fun c2 => J195 (((h.1 c).1 c1).2.1 c2), fun c2 => J200 _ (((h.1 c).1 c1).2.2 c2)⟩, fun c1 => J195 ((h.1 c).2 c1)⟩, fun c => ⟨fun c1 => ⟨fun c2 => ⟨(((h.2 c).1 c1).1 c2).1, J94 _ (g _).2.1 (((h.2 c).1 c1).1 c2).2⟩, fun c2 => J94 5 ty_5 (((h.2 c).1 c1).2 c2)⟩, fun c1 => ⟨((h.2 c).2 c1).1, J94 _ (g _).1 ((h.2 c).2 c1).2⟩⟩⟩
theorem rg_join (g : RgG S) (h : w_join S x y Q) : w_join S x y (fun u => Q u ∧ RgG u) := by
  unfold w_join at h ⊢
  obtain ⟨Qh, p1, h1⟩ := h
  refine ⟨_, fr_heightAt p1, ?_⟩
  rintro r2 S3 ⟨g3, f3⟩
  have rg3 := g.fm f3 (by decide) (by decide) (by decide)
  obtain ⟨hA, hB⟩ := h1 r2 S3 g3
  have J30 : ∀ t : Int32, w_join_J30 Q S3 t x → w_join_J30 (fun u => Q u ∧ RgG u) S3 t x := fun t hj => by
    unfold w_join_J30 at hj ⊢
    exact fun S12 e12 => ⟨(hj S12 e12).1, fun S14 e14 => ⟨(hj S12 e12).2 S14 e14, by rw [e14, e12]; exact (rg3.wr (fun z => by omega)).wr (fun z => by omega)⟩⟩
  have J25 : w_join_J25 Q S3 x → w_join_J25 (fun u => Q u ∧ RgG u) S3 x := fun hj => by
    unfold w_join_J25 at hj ⊢
    exact J30 _ hj
  refine ⟨fun c => ?_, fun c => ⟨fun c1 => ⟨((hB c).1 c1).1, fun c2 => J25 (((hB c).1 c1).2.1 c2), fun c2 => J30 _ (((hB c).1 c1).2.2 c2)⟩, fun c1 => J25 ((hB c).2 c1)⟩⟩
  obtain ⟨Q6, p6, h6⟩ := hA c
  refine ⟨_, fr_heightAt p6, ?_⟩
  rintro r7 S8 ⟨g8, f8⟩
  obtain ⟨n, h8⟩ := h6 r7 S8 g8
  exact ⟨n, rg_jn50 n (rg3.fm f8 (by decide) (by decide) (by decide)) h8⟩
theorem rg_fl73 : ∀ (n : Nat) {U : MS} {k : Int32}, RgG U → w_flow_L73 Q n U x k → w_flow_L73 (fun u => Q u ∧ RgG u) n U x k := by
  intro n
  induction n with
  | zero => intro U k _ h; exact h
  | succ n ih =>
    intro U k g h
    unfold w_flow_L73 at h ⊢
    refine ⟨h.1, fun c => ⟨h.2.1 c, g⟩, fun c => ?_⟩
    obtain ⟨d, Q', p', h'⟩ := h.2.2 c
    exact ⟨d, _, rg_join g p', fun V q a e => ih q.2 (h' V q.1 a e)⟩
theorem rg_fl12 : ∀ (n : Nat) {U : MS} {k : Int32}, RgG U → w_flow_L12 Q n U x p k → w_flow_L12 (fun u => Q u ∧ RgG u) n U x p k := by
  intro n
  induction n with
  | zero => intro U k _ h; exact h
  | succ n ih =>
    intro U k g h
    unfold w_flow_L12 at h ⊢
    have J71 : ∀ V : MS, RgG V → w_flow_J71 Q V x → w_flow_J71 (fun u => Q u ∧ RgG u) V x := fun V gV hj => by
      unfold w_flow_J71 at hj ⊢
      obtain ⟨m, hm⟩ := hj
      exact ⟨m, rg_fl73 m gV hm⟩
    have J40 : ∀ V : MS, RgG V → w_flow_J40 Q (w_flow_L12 Q n) V x p k → w_flow_J40 (fun u => Q u ∧ RgG u) (w_flow_L12 (fun u => Q u ∧ RgG u) n) V x p k := fun V gV hj => by
      unfold w_flow_J40 at hj ⊢
      exact fun a e => ih gV (hj a e)
    refine ⟨fun c => ?_, fun c => ?_⟩
    · obtain ⟨Q9, p9, h9⟩ := h.1 c
      refine ⟨_, rg_work g p9, ?_⟩
      rintro S10 ⟨g10, rg10⟩
      obtain ⟨d1, d2, hA, hB⟩ := h9 S10 g10
      refine ⟨d1, d2, fun c1 => J71 _ rg10 (hA c1), fun c1 => ?_⟩
      obtain ⟨Q31, p31, h31⟩ := hB c1
      exact ⟨_, rg_join rg10 p31, fun V q => J71 V q.2 (h31 V q.1)⟩
    · obtain ⟨d1, hA, hB⟩ := h.2 c
      refine ⟨d1, fun c1 => J40 U g (hA c1), fun c1 => ?_⟩
      obtain ⟨d2, Q42, p42, h42⟩ := hB c1
      exact ⟨d2, _, rg_join g p42, fun V q => J40 V q.2 (h42 V q.1)⟩
theorem rg_flow (g : RgG S) (h : w_flow S x p Q) : w_flow S x p (fun u => Q u ∧ RgG u) := by
  unfold w_flow at h ⊢
  obtain ⟨Q', p1, h1⟩ := h
  refine ⟨_, fr_heightAt p1, ?_⟩
  rintro r2 S3 ⟨g3, f3⟩
  have rg3 := g.fm f3 (by decide) (by decide) (by decide)
  obtain ⟨Q5, p5, h5⟩ := h1 r2 S3 g3
  refine ⟨_, rg_takeOf rg3 p5, ?_⟩
  rintro S6 ⟨g6, rg6⟩
  obtain ⟨n, h6⟩ := h5 S6 g6
  exact ⟨n, rg_fl12 n rg6 h6⟩
theorem rg_ff239 : ∀ (n : Nat) {U : MS} {k : Int32}, RgG U → w_firstFault_L239 Q1 n U f x k → w_firstFault_L239 (fun r u => Q1 r u ∧ RgG u) n U f x k := by
  intro n
  induction n with
  | zero => intro U k _ h; exact h
  | succ n ih =>
    intro U k g h
    unfold w_firstFault_L239 at h ⊢
    have J307 : ∀ V : MS, RgG V → w_firstFault_J307 Q1 (w_firstFault_L239 Q1 n) V f x k → w_firstFault_J307 (fun r u => Q1 r u ∧ RgG u) (w_firstFault_L239 (fun r u => Q1 r u ∧ RgG u) n) V f x k := fun V gV hj => by
      unfold w_firstFault_J307 at hj ⊢
      exact fun a e => ih gV (hj a e)
    refine ⟨fun c => ⟨h.1 c, g⟩, fun c => ?_⟩
    obtain ⟨Q26, p26, h26⟩ := h.2 c
    refine ⟨_, fr_isHeightFault p26, ?_⟩
    rintro r27 S28 ⟨g28, f28⟩
    have rg28 := g.fm f28 (by decide) (by decide) (by decide)
    obtain ⟨hA, hB⟩ := h26 r27 S28 g28
    refine ⟨fun c1 => ?_, fun c1 => ⟨hB c1, rg28⟩⟩
    obtain ⟨b, hC, hD⟩ := hA c1
    refine ⟨b, fun c2 => J307 S28 rg28 (hC c2), fun c2 => ?_⟩
    obtain ⟨Q35, p35, h35⟩ := hD c2
    refine ⟨_, fr_heightAt p35, ?_⟩
    rintro r36 S37 ⟨g37, f37⟩
    have rg37 := rg28.fm f37 (by decide) (by decide) (by decide)
    obtain ⟨Q39, p39, h39⟩ := h35 r36 S37 g37
    refine ⟨_, rg_takeOf rg37 p39, ?_⟩
    rintro S40 ⟨g40, rg40⟩
    obtain ⟨e1, b2, e3, Q47, p47, h47⟩ := h39 S40 g40
    refine ⟨e1, b2, e3, _, rg_work rg40 p47, ?_⟩
    rintro S48 ⟨g48, rg48⟩
    obtain ⟨hE, hF⟩ := h47 S48 g48
    exact ⟨fun c3 => ⟨hE c3, rg48⟩, fun c3 => J307 S48 rg48 (hF c3)⟩
theorem rg_ff187 {k172 k172' : MS → Nat → Int32 → Prop} {Q2 : Int32 → MS → Prop} (hk : ∀ V : MS, RgG V → k172 V f x → k172' V f x) : ∀ (n : Nat) {U : MS} {k : Int32}, RgG U → w_firstFault_L187 Q1 k172 n U f x k → w_firstFault_L187 Q2 k172' n U f x k := by
  intro n
  induction n with
  | zero => intro U k _ h; exact h
  | succ n ih =>
    intro U k g h
    unfold w_firstFault_L187 at h ⊢
    have J227 : ∀ V : MS, RgG V → w_firstFault_J227 Q1 (w_firstFault_L187 Q1 k172 n) V f x k → w_firstFault_J227 Q2 (w_firstFault_L187 Q2 k172' n) V f x k := fun V gV hj => by
      unfold w_firstFault_J227 at hj ⊢
      exact fun a e => ih gV (hj a e)
    refine ⟨fun c => hk U g (h.1 c), fun c => ?_⟩
    obtain ⟨b, hA, hB⟩ := h.2 c
    refine ⟨b, fun c1 => J227 U g (hA c1), fun c1 => ?_⟩
    obtain ⟨Q57, p57, h57⟩ := hB c1
    refine ⟨_, fr_isHeightFault p57, ?_⟩
    rintro r58 S59 ⟨g59, f59⟩
    have rg59 := g.fm f59 (by decide) (by decide) (by decide)
    obtain ⟨hC, hD⟩ := h57 r58 S59 g59
    refine ⟨fun c2 => ?_, fun c2 => J227 S59 rg59 (hD c2)⟩
    obtain ⟨e1, b2, e3, Q67, p67, h67⟩ := hC c2
    exact ⟨e1, b2, e3, _, rg_flow rg59 p67, fun V q => J227 V q.2 (h67 V q.1)⟩
theorem rg_ff172 : ∀ (n : Nat) {U : MS}, RgG U → w_firstFault_L172 Q1 n U f x → w_firstFault_L172 (fun r u => Q1 r u ∧ RgG u) n U f x := by
  intro n
  induction n with
  | zero => intro U _ h; exact h
  | succ n ih =>
    intro U g h
    unfold w_firstFault_L172 at h ⊢
    refine ⟨fun c => ?_, fun c S51 e51 => ?_⟩
    · obtain ⟨m, hm⟩ := h.1 c
      exact ⟨m, rg_ff239 m g hm⟩
    · obtain ⟨m, hm⟩ := h.2 c S51 e51
      exact ⟨m, rg_ff187 (fun V gV hV => ih gV hV) m (by rw [e51]; exact g.wr (fun z => by omega)) hm⟩
theorem rg_ff73 : ∀ (n : Nat) {U : MS} {k j : Int32}, RgG U → w_firstFault_L73 Q1 n U f x s k j → w_firstFault_L73 (fun r u => Q1 r u ∧ RgG u) n U f x s k j := by
  intro n
  induction n with
  | zero => intro U k j _ h; exact h
  | succ n ih =>
    intro U k j g h
    unfold w_firstFault_L73 at h ⊢
    refine ⟨fun c => ?_, fun c => ?_⟩
    · obtain ⟨Q20, p20, h20⟩ := h.1 c
      refine ⟨_, rg_join g p20, ?_⟩
      rintro S21 ⟨g21, rg21⟩ S23 e23
      obtain ⟨m, hm⟩ := h20 S21 g21 S23 e23
      exact ⟨m, rg_ff172 m (by rw [e23]; exact rg21.wr (fun z => by omega)) hm⟩
    obtain ⟨b, h'⟩ := h.2 c
    refine ⟨b, fun a e => ?_⟩
    obtain ⟨hA, hB⟩ := h' a e
    have J152 : ∀ (V : MS) (t b' : Int32), RgG V → w_firstFault_J152 Q1 (w_firstFault_L73 Q1 n) V t b' f x s j → w_firstFault_J152 (fun r u => Q1 r u ∧ RgG u) (w_firstFault_L73 (fun r u => Q1 r u ∧ RgG u) n) V t b' f x s j := fun V t b' gV hj => by
      unfold w_firstFault_J152 at hj ⊢
      exact fun a1 e1 a2 e2 => ih gV (hj a1 e1 a2 e2)
    have J138 : ∀ V : MS, RgG V → w_firstFault_J138 Q1 (w_firstFault_L73 Q1 n) V f x s k j a → w_firstFault_J138 (fun r u => Q1 r u ∧ RgG u) (w_firstFault_L73 (fun r u => Q1 r u ∧ RgG u) n) V f x s k j a := fun V gV hj => by
      unfold w_firstFault_J138 at hj ⊢
      exact ⟨fun c => J152 V _ _ gV (hj.1 c), fun c => J152 V _ _ gV (hj.2 c)⟩
    have J119 : ∀ t : Int32, tyG t → w_firstFault_J119 Q1 (w_firstFault_L73 Q1 n) U t k f x s k j a → w_firstFault_J119 (fun r u => Q1 r u ∧ RgG u) (w_firstFault_L73 (fun r u => Q1 r u ∧ RgG u) n) U t k f x s k j a := fun t tt hj => by
      unfold w_firstFault_J119 at hj ⊢
      refine ⟨hj.1, fun S74 e74 => ?_⟩
      have rg74 : RgG S74 := by rw [e74]; exact g.wr (fun _ => nbT tt)
      obtain ⟨hC, hD⟩ := hj.2 S74 e74
      refine ⟨fun c => ⟨(hC c).1, fun S82 e82 => J138 S82 (by rw [e82]; exact rg74.wr (fun _ => nbU ty_3)) ((hC c).2 S82 e82)⟩, fun c => J138 S74 rg74 (hD c)⟩
    exact ⟨fun c1 => J119 1 ty_1 (hA c1), fun c1 => ⟨fun c2 => J119 2 ty_2 ((hB c1).1 c2), fun c2 => J119 4 ty_4 ((hB c1).2 c2)⟩⟩
theorem rg_ff41 : ∀ (n : Nat) {U : MS} {k : Int32}, RgG U → w_firstFault_L41 Q1 n U f x k → w_firstFault_L41 (fun r u => Q1 r u ∧ RgG u) n U f x k := by
  intro n
  induction n with
  | zero => intro U k _ h; exact h
  | succ n ih =>
    intro U k g h
    unfold w_firstFault_L41 at h ⊢
    refine ⟨fun c => ?_, fun c => ?_⟩
    · obtain ⟨e1, b1, e2, m, hm⟩ := h.1 c
      exact ⟨e1, b1, e2, m, rg_ff73 m g hm⟩
    · obtain ⟨b, h'⟩ := h.2 c
      exact ⟨b, fun S86 e86 a e => ih (by rw [e86]; exact g.wr (fun _ => nbU ty_0)) (h' S86 e86 a e)⟩
theorem rg_ff18 : ∀ (n : Nat) {U : MS} {k : Int32}, RgG U → w_firstFault_L18 Q1 n U f x k → w_firstFault_L18 (fun r u => Q1 r u ∧ RgG u) n U f x k := by
  intro n
  induction n with
  | zero => intro U k _ h; exact h
  | succ n ih =>
    intro U k g h
    unfold w_firstFault_L18 at h ⊢
    refine ⟨fun c => ?_, fun c => ?_⟩
    · obtain ⟨m, hm⟩ := h.1 c
      exact ⟨m, rg_ff41 m g hm⟩
    · obtain ⟨b, h'⟩ := h.2 c
      exact ⟨b, fun S89 e89 a e => ih (by rw [e89]; exact g.wr (fun z => by omega)) (h' S89 e89 a e)⟩
theorem rg_firstFault (g : RgG S) (h : w_firstFault S f x Q1) : w_firstFault S f x (fun r u => Q1 r u ∧ RgG u) := by
  unfold w_firstFault at h ⊢
  obtain ⟨Q', p1, h1⟩ := h
  refine ⟨_, fr_look p1, ?_⟩
  rintro S2 ⟨g2, f2⟩
  have rg2 := g.fm f2 (by decide) (by decide) (by decide)
  obtain ⟨e1, b1, Q8, p8, h8⟩ := h1 S2 g2
  refine ⟨e1, b1, _, fr_findHeights p8, ?_⟩
  rintro S9 ⟨g9, f9⟩
  obtain ⟨n, h9⟩ := h8 S9 g9
  exact ⟨n, rg_ff18 n (rg2.fm f9 (by decide) (by decide) (by decide)) h9⟩
end RIA
/-! what is kept of a method's check: heights, and the locals' types, four bits each -/
section KPA
variable {S u U V : MS} {x y z x1 x2 : Int32} {s p f : Nat} {Q : MS → Prop} {Q1 : Int32 → MS → Prop}
theorem i32_nat {v : Int32} {k : Nat} (h : v.toInt = (k : Int)) (hk : k < 2147483648) : v = Int32.ofNat k := by
  refine Int32.toInt_inj.mp ?_
  rw [h, Int32.toInt_ofNat_of_lt (by omega)]
theorem sp_kp37 {k26 : MS → Int32 → Int32 → Int32 → Prop} {v3 : Int32} {k : Nat} (h1 : 0 ≤ x1.toInt ∧ x1.toInt + 3 < 115200) (h2 : 0 ≤ x2.toInt ∧ x2.toInt < 1200) (e3 : v3.toInt = (k : Int)) (k3 : k < 3) (hk : ∀ (V : MS) (a : Int32), V = wI U 27 (x1.toInt.toNat + 1 + k) (pkW (fun j => qI U 23 (48 * x2.toInt.toNat + 8 * k + j)) 8) → a.toInt = (k : Int) + 1 → k26 V x1 x2 a) : ∀ (n : Nat) {v4 v5 : Int32} (j : Nat), v5.toInt = (j : Int) → j ≤ 8 → v4 = pkW (fun j => qI U 23 (48 * x2.toInt.toNat + 8 * k + j)) j → 8 - j < n → w_keep_L37 Q k26 n U x1 x2 v3 v4 v5 := by
  intro n
  induction n with
  | zero => intro v4 v5 j _ _ _ h9; exact absurd h9 (Nat.not_lt_zero _)
  | succ n ih =>
    intro v4 v5 j e5 j8 e4 hn
    have l1 := li_1
    have l48 : (48 : Int32).toInt = 48 := by decide
    have e48 : ((48 : Int32) * x2).toInt = 48 * x2.toInt := by rw [t_mul (by rw [l48]; omega), l48]
    have e1 : (x1 + (1 : Int32)).toInt = x1.toInt + 1 := by rw [t_add (by rw [l1]; omega), l1]
    have e8 : ((8 : Int32) * v3).toInt = 8 * v3.toInt := by rw [t_mul (by rw [li_8]; omega), li_8]
    have e9 : ((48 : Int32) * x2 + (8 : Int32) * v3).toInt = 48 * x2.toInt + 8 * v3.toInt := by rw [t_add (by omega), e48, e8]
    have e10 : ((48 : Int32) * x2 + (8 : Int32) * v3 + v5).toInt = 48 * x2.toInt + 8 * v3.toInt + v5.toInt := by rw [t_add (by omega), e9]
    have e11 : (x1 + (1 : Int32) + v3).toInt = x1.toInt + 1 + v3.toInt := by rw [t_add (by omega), e1]
    unfold w_keep_L37
    refine ⟨fun c => ⟨⟨by omega, by omega⟩, fun S10 e a ea => ?_⟩, fun c => ⟨⟨by omega, by omega⟩, fun a21 e21 a22 e22 => ?_⟩⟩
    · have e8j : j = 8 := by omega
      have ek : a.toInt = (k : Int) + 1 := by rw [ea, t_add (by rw [lo_1]; omega), lo_1]; omega
      refine hk S10 a ?_ ek
      rw [e, e4, e8j, e11]
      congr 1
      omega
    · have ej : a22.toInt = ((j + 1 : Nat) : Int) := by rw [e22, t_add (by rw [lo_1]; omega), lo_1]; omega
      refine ih (j + 1) ej (by omega) ?_ (by omega)
      rw [e21, e4, e10, i32_nat e5 (by omega)]
      show _ = pkW _ j ||| (qI U 23 (48 * x2.toInt.toNat + 8 * k + j) <<< (((4 : Int32) * Int32.ofNat j) &&& 31))
      congr 3
      rw [Int32.toInt_ofNat_of_lt (by omega)]
      omega
/-- the first k of the three ints of types stand -/
def KpI (S : MS) (x1 x2 : Int32) (t : Int32) (k : Nat) (U : MS) : Prop := frm [27] [] S U ∧ (∀ j : Nat, ¬ (x1.toInt.toNat ≤ j ∧ j < x1.toInt.toNat + 4) → qI U 27 j = qI S 27 j) ∧ qI U 27 x1.toInt.toNat = t ∧ ∀ i : Nat, i < k → qI U 27 (x1.toInt.toNat + 1 + i) = pkW (fun j => qI S 23 (48 * x2.toInt.toNat + 8 * i + j)) 8
theorem sp_kp26 {t : Int32} (h1 : 0 ≤ x1.toInt ∧ x1.toInt + 3 < 115200) (h2 : 0 ≤ x2.toInt ∧ x2.toInt < 1200) (hQ : ∀ u, KpI S x1 x2 t 3 u → Q u) : ∀ (n : Nat) {U : MS} {v3 : Int32} (k : Nat), KpI S x1 x2 t k U → v3.toInt = (k : Int) → k ≤ 3 → 3 - k < n → w_keep_L26 Q n U x1 x2 v3 := by
  intro n
  induction n with
  | zero => intro U v3 k _ _ _ h9; exact absurd h9 (Nat.not_lt_zero _)
  | succ n ih =>
    intro U v3 k i e3 k3 hn
    unfold w_keep_L26
    refine ⟨fun c => hQ U (by rw [show (3 : Nat) = k by omega]; exact i), fun c => ⟨10, ?_⟩⟩
    refine sp_kp37 h1 h2 e3 (by omega) (fun V a eV ea => ?_) 10 0 (by decide) (by decide) rfl (by decide)
    obtain ⟨f, o, w0, wk⟩ := i
    have e23 : qI U 23 = qI S 23 := (f.2.2.2.2.1 23 (by decide) (by decide)).1
    have fV : frm [27] [] U V := by rw [eV]; exact frm.pI ⟨by decide, by decide⟩
    have r : ∀ j, qI V 27 j = if j = x1.toInt.toNat + 1 + k then pkW (fun j => qI S 23 (48 * x2.toInt.toNat + 8 * k + j)) 8 else qI U 27 j := fun j => by
      rw [eV, qI_wI, e23]
      by_cases c : j = x1.toInt.toNat + 1 + k
      · rw [if_pos ⟨rfl, c⟩, if_pos c]
      · rw [if_neg (fun z => c z.2), if_neg c]
    refine ih (k + 1) ⟨f.tr fV, fun j hj => ?_, ?_, fun i hi => ?_⟩ (by omega) (by omega) (by omega)
    · rw [r, if_neg (by omega)]; exact o j hj
    · rw [r, if_neg (by omega)]; exact w0
    · rw [r]
      by_cases c : i = k
      · rw [if_pos (by omega), c]
      · rw [if_neg (by omega)]; exact wk i (by omega)
/-- what is kept of instruction x2 -/
def KpP (S : MS) (x1 x2 : Int32) (u : MS) : Prop := ∃ t : Int32, KpI S x1 x2 t 3 u ∧ ((qI S 24 x2.toInt.toNat).toInt = 0 → t = -1) ∧ (¬ (qI S 24 x2.toInt.toNat).toInt = 0 → t.toInt = htV (qI S 22 x2.toInt.toNat))
theorem sp_keepC (h1 : 0 ≤ x1.toInt ∧ x1.toInt + 3 < 115200) (h2 : 0 ≤ x2.toInt ∧ x2.toInt < 1200) : w_keep S x1 x2 (KpP S x1 x2) := by
  have J : ∀ t : Int32, ((qI S 24 x2.toInt.toNat).toInt = 0 → t = -1) → (¬ (qI S 24 x2.toInt.toNat).toInt = 0 → t.toInt = htV (qI S 22 x2.toInt.toNat)) → w_keep_J23 (KpP S x1 x2) S t x1 x1 x2 := fun t t1 t2 => by
    unfold w_keep_J23
    refine ⟨⟨h1.1, by omega⟩, fun S4 e4 => ⟨4, sp_kp26 (S := S) (t := t) h1 h2 (fun u hu => ⟨t, hu, t1, t2⟩) 4 0 ⟨by rw [e4]; exact frm.pI ⟨by decide, by decide⟩, fun j hj => ?_, ?_, fun i hi => absurd hi (Nat.not_lt_zero _)⟩ (by decide) (by decide) (by decide)⟩⟩
    · rw [e4, qI_wI, if_neg (fun z => hj ⟨by omega, by omega⟩)]
    · rw [e4, qI_wI, if_pos ⟨rfl, rfl⟩]
  unfold w_keep
  refine ⟨h2, fun c => J _ (fun _ => rfl) (fun z => absurd c z), fun c => ⟨_, fn_ht ⟨h2.1, by omega⟩, ?_⟩⟩
  rintro r u ⟨rfl, er⟩
  exact J r (fun z => absurd z c) (fun _ => er)
end KPA
/-! what is kept of a whole method -/
/-- of instruction i of S the row g has, from place a on, what is to be kept -/
def KpS (g : Nat → Int32) (a : Nat) (S : MS) (i : Nat) : Prop := ((qI S 24 i).toInt = 0 → g a = -1) ∧ (¬ (qI S 24 i).toInt = 0 → (g a).toInt = htV (qI S 22 i)) ∧ ∀ k : Nat, k < 3 → g (a + 1 + k) = pkW (fun j => qI S 23 (48 * i + 8 * k + j)) 8
/-- j instructions of S0 are kept, from place c on -/
def KmI (S0 : MS) (c j : Nat) (U : MS) : Prop := frm [27] [] S0 U ∧ (∀ x : Nat, ¬ (4 * c ≤ x ∧ x < 4 * (c + j)) → qI U 27 x = qI S0 27 x) ∧ ∀ i : Nat, i < j → KpS (qI U 27) (4 * (c + i)) S0 i
section KMA
variable {S S0 u U V : MS} {x y z x1 x2 m : Int32} {s p f r c : Nat} {Q : MS → Prop} {Q1 : Int32 → MS → Prop} {g h : Nat → Int32}
theorem KpS.eq {a i : Nat} (k : KpS g a S i) (e : ∀ j : Nat, a ≤ j → j < a + 4 → h j = g j) (e2 : qI S 24 i = qI U 24 i ∧ qI S 22 i = qI U 22 i ∧ qI S 23 = qI U 23) : KpS h a U i := by
  obtain ⟨k1, k2, k3⟩ := k
  obtain ⟨a1, a2, a3⟩ := e2
  refine ⟨fun z => ?_, fun z => ?_, fun j hj => ?_⟩
  · rw [e a (by omega) (by omega)]; exact k1 (by rw [a1]; exact z)
  · rw [e a (by omega) (by omega), ← a2]; exact k2 (by rw [a1]; exact z)
  · rw [e _ (by omega) (by omega), ← a3]; exact k3 j hj
theorem sp_kp71 {k34 : MS → Nat → Int32 → Prop} (f92 : 92 < f) (q14 : qR S0 f 14 = some r) (r92 : 92 < r) (hm : 0 ≤ m.toInt ∧ m.toInt < (qN S0 r : Int)) (hc : (qI S0 r m.toInt.toNat).toInt = (c : Int)) (hn : 0 ≤ (qI S0 0 52).toInt ∧ (qI S0 0 52).toInt ≤ 1200) (hb : 4 * ((c : Int) + (qI S0 0 52).toInt) ≤ 115200) (hk : ∀ (V : MS) (a : Int32), KmI S0 c (qI S0 0 52).toInt.toNat V → a = m + Int32.ofInt 1 → k34 V f a) : ∀ (n : Nat) {U : MS} {v5 : Int32} (j : Nat), KmI S0 c j U → v5.toInt = (j : Int) → (j : Int) ≤ (qI S0 0 52).toInt → 1200 - j < n → w_verify_L71 Q1 k34 n U f m v5 := by
  intro n
  induction n with
  | zero => intro U v5 j _ _ _ h9; exact absurd h9 (Nat.not_lt_zero _)
  | succ n ih =>
    intro U v5 j i e5 jn hn2
    have i' := i
    obtain ⟨fr, o, kk⟩ := i
    have u52 : qI U 0 52 = qI S0 0 52 := (fr.2.2.2.2.2 52 (by decide)).1
    have uf := fr.2.2.2.2.1 f (by omega) (by simp; omega)
    have ur := fr.2.2.2.2.1 r (by omega) (by simp; omega)
    have o14 : qO U f 14 = r := by show (qR U f 14).getD 0 = r; rw [uf.2.2, q14]; rfl
    have nr : qN U r = qN S0 r := by rw [fr.2.1]
    have ec : (qI U r m.toInt.toNat).toInt = (c : Int) := by rw [ur.1]; exact hc
    have e1 : ((qI U r m.toInt.toNat) + v5).toInt = (c : Int) + j := by rw [t_add (by omega), ec, e5]
    have e4 : ((4 : Int32) * ((qI U r m.toInt.toNat) + v5)).toInt = 4 * ((c : Int) + j) := by rw [t_mul (by rw [li_4, e1]; omega), li_4, e1]
    unfold w_verify_L71
    rw [u52, o14]
    refine ⟨fun q a ea => hk U a (by rw [show (qI S0 0 52).toInt.toNat = j by omega]; exact i') ea, fun q => ⟨by rw [uf.2.2]; exact q14, ⟨hm.1, by rw [nr]; exact hm.2⟩, _, sp_keepC (by rw [e4]; omega) (by omega), ?_⟩⟩
    rintro V ⟨t, ⟨fV, oV, w0, wk⟩, t1, t2⟩ a ea
    rw [e4] at oV w0 wk
    rw [show v5.toInt.toNat = j by omega] at t1 t2 wk
    have b4 : (4 * ((c : Int) + (j : Int))).toNat = 4 * (c + j) := by omega
    rw [b4] at oV w0 wk
    have s := fr.2.2.2.2.1
    have s22 := (s 22 (by decide) (by decide)).1
    have s23 := (s 23 (by decide) (by decide)).1
    have s24 := (s 24 (by decide) (by decide)).1
    refine ih (j + 1) ⟨fr.tr fV, fun y hy => ?_, fun i hi => ?_⟩ (by rw [ea, t_add (by rw [lo_1]; omega), lo_1]; omega) (by omega) (by omega)
    · rw [oV y (by omega)]; exact o y (by omega)
    · by_cases c2 : i = j
      · rw [c2]
        refine ⟨fun z => ?_, fun z => ?_, fun k hk3 => ?_⟩
        · rw [w0]; exact t1 (by rw [s24]; exact z)
        · rw [w0, ← s22]; exact t2 (by rw [s24]; exact z)
        · rw [wk k hk3, s23]
      · exact (kk i (by omega)).eq (fun y y1 y2 => oV y (by omega)) ⟨rfl, rfl, rfl⟩
end KMA
/-! keep, verify (behind sp_firstFault) -/
/-- what a method's check found, for good -/
def VmP (P : MS → Prop) (S : MS) (f m : Nat) : Prop := ∃ (U : MS) (s p : Nat), qR S (f + 6) m = some s ∧ qR S (f + 7) m = some p ∧ LoP S f m U ∧ LkI U ∧ VmI U s p ∧ TxI U ∧ (0 ≤ (qI U 0 56).toInt ∧ (qI U 0 56).toInt ≤ 24) ∧ (∀ a : Nat, okH U a → sm5 U S a) ∧ (∀ a : Nat, 92 < a → qT U a = 11 → sm7 U S a) ∧ P U
/-- from the row g on it is kept, in g -/
def KeG (g : Nat → Int32) (U : MS) : Prop := (∀ k : Nat, tyG (qI U 23 k)) ∧ ∀ i : Nat, (i : Int) < (qI U 0 52).toInt → KpS g (4 * ((qI U 0 51).toInt.toNat + i)) U i
def KeS (S : MS) (f : Nat) (U : MS) : Prop := (∀ k : Nat, tyG (qI U 23 k)) ∧ 92 < qO S f 22 ∧ ∀ i : Nat, (i : Int) < (qI U 0 52).toInt → KpS (qI S (qO S f 22)) (4 * ((qI U 0 51).toInt.toNat + i)) U i
def VmA (S : MS) (f m : Nat) : Prop := VmP (KeS S f) S f m
/-- a File that was checked -/
def VfI (S : MS) (f : Nat) : Prop := (FlR S f ∧ f + 14 ≤ qn S) ∧ (∃ St R nc : Nat, (f + 14 ≤ St ∧ St < qn S) ∧ qR S f 22 = some St ∧ qT S St = 2 ∧ qN S St = 4 * nc ∧ (qR S f 18 = some R ∧ (f + 14 ≤ R ∧ R < qn S) ∧ qT S R = 2 ∧ qN S R = 3 * nc)) ∧ ∀ m : Nat, (m : Int) < (qI S f 4).toInt → VmA S f m
theorem VmP.mv {P P' : MS → Prop} {S u : MS} {f m : Nat} (h : VmP P S f m) (hP : ∀ U, LoP S f m U → P U → P' U) (h1 : FlR S f) (h2 : f + 14 ≤ qn S) (hk : knI S) (k : ∀ a : Nat, 92 < a → a < qn S → sm6 S u a) (kx : ∀ a : Nat, TXB ≤ a → sm5 S u a) : VmP P' u f m := by
  have f92 := h1.1.1
  have kf := (k f f92 (by omega)).2 h1.2.1.1
  have kg : ∀ i : Nat, 1 ≤ i → i ≤ 13 → sm5 S u (f + i) := fun i h0 hi => by
    have := (k (f + 1 + (i - 1)) (by omega) (by omega)).1 (by rw [(h1.2.2 (i - 1) (by omega)).2.2]; split <;> decide)
    rw [show f + 1 + (i - 1) = f + i by omega] at this
    exact this
  obtain ⟨U, s, p, b1, b2, b3, b4, b5, b5', b5'', b6, b7, b8⟩ := h
  refine ⟨U, s, p, by rw [(kg 6 (by decide) (by decide)).2.2.1]; exact b1, by rw [(kg 7 (by decide) (by decide)).2.2.1]; exact b2, ?_, b4, b5, b5', b5'', fun a ha => ?_, fun a ha hb => ?_, hP U b3 b8⟩
  · unfold LoP
    rw [kf.2.1 18 (by decide), kf.2.1 19 (by decide), kf.2.1 20 (by decide), (kg 10 (by decide) (by decide)).1, (kg 11 (by decide) (by decide)).1, (kg 12 (by decide) (by decide)).1, (kg 13 (by decide) (by decide)).1]
    exact b3
  · have z := b6 a ha
    have t : qT S a ≠ 0 ∧ qT S a ≠ 11 := by rw [z.2.2.2.1]; exact ha.2
    rcases hk.2.2 a t.1 with q | q
    · exact z.tr ((k a ha.1 q).1 t.2)
    · exact z.tr (kx a q)
  · have z := b7 a ha hb
    have t : qT S a = 11 := by rw [z.2.2.1]; exact hb
    rcases hk.2.2 a (by omega) with q | q
    · exact z.tr ((k a ha q).2 t)
    · exact z.tr (kx a q).s7
theorem FlR.mv {S u : MS} {f : Nat} (h1 : FlR S f) (h2 : f + 14 ≤ qn S) (k : ∀ a : Nat, 92 < a → a < qn S → sm6 S u a) : FlR u f := by
  have f92 := h1.1.1
  have kf := (k f f92 (by omega)).2 h1.2.1.1
  refine ⟨h1.1, by rw [kf.2.2.1, kf.2.2.2]; exact h1.2.1, fun i hi => ?_⟩
  have z := (k (f + 1 + i) (by omega) (by omega)).1 (by rw [(h1.2.2 i hi).2.2]; split <;> decide)
  rw [kf.2.1 (5 + i) (by omega), z.2.2.2.1, z.2.2.2.2]
  exact h1.2.2 i hi
theorem VfI.st : stab VfI := by
  intro S u f h hk k kx e21 e22 hq
  obtain ⟨⟨h1, h2⟩, ⟨St, R, nc, a1, a2, a3, a4, a5, a6, a7, a8⟩, hv⟩ := h
  have f92 := h1.1.1
  have kf := (k f f92 (by omega)).2 h1.2.1.1
  have kS := (k St (by omega) a1.2).1 (by rw [a3]; decide)
  have kR := (k R (by omega) a6.2).1 (by rw [a7]; decide)
  refine ⟨⟨h1.mv h2 k, by omega⟩, ⟨St, R, nc, by omega, by rw [e22]; exact a2, by rw [kS.2.2.2.1]; exact a3, by rw [kS.2.2.2.2]; exact a4, by rw [kf.2.1 18 (by decide)]; exact a5, by omega, by rw [kR.2.2.2.1]; exact a7, by rw [kR.2.2.2.2]; exact a8⟩, fun m hm => ?_⟩
  rw [kf.1 4 (by decide)] at hm
  refine (hv m hm).mv (fun U _ b => ?_) h1 h2 hk k kx
  have o1 : qO S f 22 = St := by unfold qO; rw [a2]; rfl
  have o2 : qO u f 22 = St := by unfold qO; rw [e22, a2]; rfl
  unfold KeS at b ⊢
  rw [o1] at b
  rw [o2, kS.1]
  exact b
/-- all that verify may change, a File's check beside -/
def vfF (S u : MS) : Prop := frm [22, 23, 24, 25, 26, 27] [47, 48, 49, 50, 51, 52, 53, 54, 56, 57, 62, 63, 64, 65] S u
def JV : List Nat := [47, 48, 49, 50, 51, 52, 53, 54, 56, 57, 62, 63, 64, 65]
/-- what verify leaves -/
def VeP (S : MS) (u : MS) : Prop := RgG u ∧ FsI VfI u ∧ knI u ∧ (∀ a : Nat, a ≤ 27 → qT u a = qT S a ∧ qN u a = qN S a) ∧ (∀ j : Nat, j ∉ JV → qI u 0 j = qI S 0 j ∧ qJ u 0 j = qJ S 0 j ∧ qR u 0 j = qR S 0 j) ∧ (((∀ a : Nat, a ≠ 0 → (a < 22 ∨ 27 < a) → sm5 S u a) ∧ qn u = qn S ∧ qu u = qu S) ∨ ∃ i f : Nat, (i : Int) < (qI S 0 1).toInt ∧ qR S 1 i = some f ∧ ¬ (qI S f 21).toInt = 1 ∧ (qI u f 21).toInt = 1 ∧ sm7 S u f ∧ (∀ a : Nat, a ≠ 0 → (a < 22 ∨ 27 < a) → (a < qn S ∨ qn u ≤ a) → a ≠ f → sm5 S u a) ∧ qn u = qn S + 1 ∧ qu u ≤ qu S + 115200)
theorem vf_cell {S u : MS} (f : vfF S u) {a : Nat} (h0 : a ≠ 0) (h : a < 22 ∨ 27 < a) : sm5 S u a := by
  have z := f.2.2.2.2.1 a h0 (by simp; omega)
  exact ⟨z.1, z.2.1, z.2.2, by rw [f.1], by rw [f.2.1]⟩
theorem sp_vf_L34 {S : MS} {f : Nat} {Q : Int32 → MS → Prop} (h : FlI S f) (ht : TxI S) (hk : knI S) (ho : ∀ m1 m2 : Nat, m1 < m2 → (m2 : Int) < (qI S f 4).toInt → (qI S (f + 10) m1).toInt + (qI S (f + 11) m1).toInt ≤ (qI S (f + 10) m2).toInt) (h27 : qN S 27 = 115200) (hr : qn S + 1 ≤ KC ∧ qu S + 115200 ≤ KS) (hQ1 : ∀ (r : Int32) (u : MS), vfF S u → RgG u → Q r u) (hQ0 : ∀ T W : MS, ∀ b : Nat, vfF S T → RgG T → exS T W 1 115200 → b = qn T → qn W = qn T + 1 → qT W b = 2 → (∃ R nc : Nat, qR S f 18 = some R ∧ qN S R = 3 * nc ∧ qN W b = 4 * nc ∧ ∀ i : Nat, i < 4 * nc → qI W b i = qI T 27 i) → (∀ m : Nat, (m : Int) < (qI S f 4).toInt → VmP (KeG (qI T 27)) S f m) → Q 0 (wI (wR W f 22 (some b)) f 21 1)) :
    ∀ (k : Nat) (T : MS) (i : Int32), vfF S T → RgG T → (0 ≤ i.toInt ∧ i.toInt ≤ (qI S f 4).toInt) → (∀ m : Nat, (m : Int) < i.toInt → VmP (KeG (qI T 27)) S f m) → (24 - i.toInt).toNat < k → w_verify_L34 Q k T f i := by
  have h4 := h.2.2.2.1
  have f92 := h.1.1.1
  have hfq := h.2.1
  intro k
  induction k with
  | zero => intro T i _ _ _ _ h9; exact absurd h9 (Nat.not_lt_zero _)
  | succ k ih =>
    intro T i fT gT hi hall hm
    have cT : ∀ a : Nat, 27 < a → sm5 S T a := fun a ha => vf_cell fT (by omega) (Or.inr ha)
    have tn := fT.2.2.1
    have tu := fT.2.2.2.1
    have FT : FlI T f := h.mv (fun a a0 _ => (cT a (by omega)).s6) (by omega)
    have TT : TxI T := fun j hj => by
      obtain ⟨a, b, c⟩ := ht j hj
      have z := cT (TXB + 2 * j + 1) (by rw [show TXB = 10000000 from rfl]; omega)
      exact ⟨z.2.2.2.1.trans a, z.2.2.2.2.trans b, fun l => by rw [z.1]; exact c l⟩
    have tf := cT f (by omega)
    have t4 : qI T f 4 = qI S f 4 := by rw [tf.1]
    obtain ⟨R, T', C, nc, ts, cn, r1, r2, r3, r4, r5, r6⟩ := h.2.2.2.2.2
    unfold w_verify_L34
    rw [t4]
    refine ⟨fun c => ?_, fun c => ?_⟩
    · have oR : qO T f 18 = R := by show (qR T f 18).getD 0 = _; rw [tf.2.2.1, r2.1]; rfl
      have nR : qN T R = 3 * nc := by rw [(cT R (by omega)).2.2.2.2]; exact r4.1
      rw [oR, nR]
      have e3 : (Int32.ofNat (3 * nc) / (3 : Int32)).toInt = nc := by
        rw [Int32.toInt_div, oN (by omega), li_3, Int.tdiv_eq_ediv_of_nonneg (by omega), show ((3 * nc : Nat) : Int) / 3 = nc by omega]
        apply Int.bmod_eq_of_le <;> omega
      have e4 : ((4 : Int32) * (Int32.ofNat (3 * nc) / (3 : Int32))).toInt = 4 * nc := by rw [t_mul (by rw [li_4, e3]; omega), li_4, e3]
      refine ⟨by rw [tf.2.2.1]; exact r2.1, _, sp_firstInts (by rw [e4, fT.2.1, h27]; omega) (by have := hk.1; omega) (by rw [fT.2.1, h27]; decide) (by rw [e4]; omega), ?_⟩
      rintro b W ⟨eb, x1, x2, x3, x4, x5⟩ A eA B eB
      rw [e4] at x5
      have := hQ0 T W b fT gT ⟨x1.1, x1.2.1, by have := x1.2.2; rw [e4] at this; omega⟩ eb x2 x3 ⟨R, nc, r2.1, r4.1, by rw [x4, e4]; omega, fun j hj => x5 j (by omega)⟩ (fun m hm => hall m (by omega))
      rw [eB, eA]
      exact this
    · refine ⟨_, rg_firstFault gT (sp_firstFault FT TT ⟨hi.1, by rw [t4]; omega⟩), ?_⟩
      rintro r u ⟨⟨fu, u52, Lu, Hu, u56, hneg⟩, gu⟩
      have fSu : vfF S u := fT.tr (fu.mo (by decide) (by decide))
      have cu : ∀ a : Nat, 27 < a → sm5 S u a := fun a ha => vf_cell fSu (by omega) (Or.inr ha)
      have kc := Lu.cnt
      refine ⟨fun q => ?_, fun q A eA B eB => hQ1 1 B (fSu.tr ((show vfF u A by rw [eA]; exact frm.pI0 (by decide)).tr (by rw [eB]; exact frm.pI0 (by decide)))) (by rw [eB, eA]; exact (gu.wr (fun z => by omega)).wr (fun z => by omega))⟩
      obtain ⟨U, s, p, g1, g2, g3, g4, g5, g6, g7⟩ := hneg q
      have ei : (i + Int32.ofInt 1).toInt = i.toInt + 1 := by rw [t_add (by rw [lo_1]; omega), lo_1]
      have cTU : ∀ a : Nat, 26 < a → sm5 T U a := fun a ha => by
        have z := g5.2.2.2.2.1 a (by omega) (by simp; omega)
        exact ⟨z.1, z.2.1, z.2.2, by rw [g5.1], by rw [g5.2.1]⟩
      have cUS : ∀ a : Nat, 27 < a → sm5 U S a := fun a ha => by
        have z := (cT a ha).tr (cTU a (by omega))
        exact ⟨z.1.symm, z.2.1.symm, z.2.2.1.symm, z.2.2.2.1.symm, z.2.2.2.2.symm⟩
      have lo : LoP S f i.toInt.toNat U := by
        unfold LoP at g4 ⊢
        rw [tf.2.2.1, (cT (f + 10) (by omega)).1, (cT (f + 11) (by omega)).1, (cT (f + 12) (by omega)).1, (cT (f + 13) (by omega)).1] at g4
        exact g4
      have mt := (r6 i.toInt.toNat (by omega)).2.2.2
      have q14 := h.row (i := 9) (by decide)
      simp only [Nat.reduceAdd, Nat.add_assoc] at q14
      have e52 : qI u 0 52 = qI S (f + 11) i.toInt.toNat := by rw [u52, (cT (f + 11) (by omega)).1]
      have uU23 : qI u 23 = qI U 23 := (g1.2.2.2.2.1 23 (by decide) (by decide)).1
      have uU22 : qI u 22 = qI U 22 := (g1.2.2.2.2.1 22 (by decide) (by decide)).1
      have uU24 : qI u 24 = qI U 24 := (g1.2.2.2.2.1 24 (by decide) (by decide)).1
      have b0 := mt.1
      have b1 := mt.2.1
      have b2 := mt.2.2.1
      have U51 : (qI U 0 51).toInt.toNat = (qI S (f + 10) i.toInt.toNat).toInt.toNat := by rw [lo.2.1]
      have u10 : qI u (f + 10) i.toInt.toNat = qI S (f + 10) i.toInt.toNat := by rw [(cu (f + 10) (by omega)).1]
      refine ⟨_, sp_kp71 (S0 := u) (r := f + 10) (c := (qI S (f + 10) i.toInt.toNat).toInt.toNat) f92 (by rw [(cu f (by omega)).2.2.1]; exact q14.1) (by omega) ⟨hi.1, by rw [(cu (f + 10) (by omega)).2.2.2.2, q14.2.2]; omega⟩ (by rw [u10]; omega) (by rw [e52]; omega) (by rw [e52]; omega) (fun V a km ea => ?_) 1201 0 ⟨frm.rf, fun _ _ => rfl, fun j hj => absurd hj (Nat.not_lt_zero _)⟩ rfl (by rw [e52]; omega) (by decide)⟩
      subst ea
      obtain ⟨fV, oV, kV⟩ := km
      rw [e52] at oV kV
      have fSV : vfF S V := fSu.tr (fV.mo (by decide) (by decide))
      refine ih V _ fSV (gu.fm fV (by decide) (by decide) (by decide)) ⟨by omega, by omega⟩ (fun m' hm' => ?_) (by omega)
      by_cases w : (m' : Int) < i.toInt
      · obtain ⟨U2, s2, p2, v1, v2, v3, v4, v5, v6, v7, v8, v9, v10, v11⟩ := hall m' w
        refine ⟨U2, s2, p2, v1, v2, v3, v4, v5, v6, v7, v8, v9, v10, fun j hj => (v11 j hj).eq (fun y y1 y2 => ?_) ⟨rfl, rfl, rfl⟩⟩
        have od := ho m' i.toInt.toNat (by omega) (by omega)
        have mt2 := (r6 m' (by omega)).2.2.2
        have z0 := mt2.1
        have z1 := v3.2.1
        have z2 := v3.2.2.1
        rw [z1] at y1 y2
        rw [z2] at hj
        rw [oV y (by omega), (fu.2.2.2.2.1 27 (by decide) (by decide)).1]
      · have em : m' = i.toInt.toNat := by omega
        subst em
        refine ⟨U, s, p, by rw [(cT (f + 6) (by omega)).2.2.1] at g2; exact g2, by rw [(cT (f + 7) (by omega)).2.2.1] at g3; exact g3, lo, g6, g7, ?_, ?_, fun a ha => cUS a (by have := ha.1; omega), fun a ha _ => (cUS a (by omega)).s7, fun j => by rw [← uU23]; exact (gu j).2.2, fun j hj => ?_⟩
        · exact fun j hj => by
            obtain ⟨a, b, c⟩ := ht j hj
            have z := cUS (TXB + 2 * j + 1) (by rw [show TXB = 10000000 from rfl]; omega)
            exact ⟨z.2.2.2.1.symm.trans a, z.2.2.2.2.symm.trans b, fun l => by rw [← z.1]; exact c l⟩
        · have e56 : qI u 0 56 = qI U 0 56 := (g1.2.2.2.2.2 56 (by decide)).1
          rw [← e56]; exact u56
        · rw [lo.2.2.1] at hj
          rw [U51]
          exact (kV j (by omega)).eq (fun y y1 y2 => rfl) ⟨by rw [uU24], by rw [uU22], uU23⟩
theorem FsI.vf {S u : MS} (h : FsI VfI S) (hk : knI S) (f : vfF S u) : FsI VfI u ∧ knI u := by
  have c : ∀ a : Nat, 27 < a → sm5 S u a := fun a ha => vf_cell f (by omega) (Or.inr ha)
  have hq := f.2.2.1
  refine ⟨h.mv VfI.st hk (fun a a0 _ => c a (by omega)) (fun a a0 => c a (by rw [show TXB = 10000000 from rfl] at a0; omega)) (by omega) (f.2.2.2.2.2 1 (by decide)).1 (vf_cell f (by decide) (by decide)).2.2.1, ⟨by rw [hq]; exact hk.1, by rw [hq]; exact hk.2.1, fun a ha => by rw [f.1] at ha; rw [hq]; exact hk.2.2 a ha⟩⟩
theorem sp_verify {S : MS} {x : Int32} (h : FsI VfI S) (ht : TxI S) (hx : FxI S) (hk : knI S) (hxs : XsI S) (rg : RgG S) (hr : qn S + 1 ≤ KC ∧ qu S + 115200 ≤ KS) : w_verify S x (fun _ u => VeP S u) := by
  have h27 : qN S 27 = 115200 := (hx.2 (66, 27, 2, 115200) (by decide)).2
  -- the simple ends
  have simple : ∀ u : MS, vfF S u → RgG u → VeP S u := fun u f g => by
    obtain ⟨a, b⟩ := h.vf hk f
    exact ⟨g, a, b, fun c _ => ⟨by rw [f.1], by rw [f.2.1]⟩, fun j hj => f.2.2.2.2.2 j hj, Or.inl ⟨fun c c0 c1 => vf_cell f c0 c1, f.2.2.1, f.2.2.2.1⟩⟩
  unfold w_verify
  intro A eA B eB
  have fB : vfF S B := (show vfF S A by rw [eA]; exact frm.pI0 (by decide)).tr (by rw [eB]; exact frm.pI0 (by decide))
  obtain ⟨FB, KB⟩ := h.vf hk fB
  have gB : RgG B := by rw [eB, eA]; exact (rg.wr (fun z => by omega)).wr (fun z => by omega)
  have b1 : qI B 0 1 = qI S 0 1 := (fB.2.2.2.2.2 1 (by decide)).1
  have TB : TxI B := fun j hj => by
    obtain ⟨a, b, c⟩ := ht j hj
    have z := vf_cell fB (a := TXB + 2 * j + 1) (by omega) (Or.inr (by rw [show TXB = 10000000 from rfl]; omega))
    exact ⟨z.2.2.2.1.trans a, z.2.2.2.2.trans b, fun l => by rw [z.1]; exact c l⟩
  refine ⟨_, sp_fileAt FB, ?_⟩
  rintro r u ⟨rfl, hr2⟩
  refine ⟨fun _ => simple u fB gB, fun c => ⟨fun _ => simple u fB gB, fun c2 => ?_⟩⟩
  rcases hr2 with q | ⟨f, q1, q2, q3, q4, q5⟩
  · exact absurd q c
  subst q1
  have c2' : ¬ (qI u f 21).toInt = 1 := c2
  have bn := fB.2.2.1
  have bu := fB.2.2.2.1
  have ho : ∀ m1 m2 : Nat, m1 < m2 → (m2 : Int) < (qI u f 4).toInt → (qI u (f + 10) m1).toInt + (qI u (f + 11) m1).toInt ≤ (qI u (f + 10) m2).toInt := by
    have f92' := q4.1.1.1
    have c1 : qR S 1 x.toInt.toNat = some f := by rw [← (vf_cell fB (a := 1) (by decide) (by decide)).2.2.1]; exact q3
    obtain ⟨R, nc, y1, y2, tg, wv, pc, y3, y4, y5, y6⟩ := hxs x.toInt.toNat f (by rw [← b1]; omega) c1
    intro m1 m2 hm1 hm2
    rw [(vf_cell fB (a := f) (by omega) (by omega)).1] at hm2
    rw [(vf_cell fB (a := f + 10) (by omega) (by omega)).1, (vf_cell fB (a := f + 11) (by omega) (by omega)).1]
    exact y5 m1 m2 hm1 hm2
  refine ⟨_, sp_vf_L34 (f := f) q4 TB KB ho (by rw [fB.2.1]; exact h27) (by rw [bn, bu]; exact hr) (fun r v fv gv => simple v (fB.tr fv) gv) (fun T W b fT gT xW eb wn wt hnc hall => ?_) _ u 0 frm.rf gB ⟨by decide, by rw [li_0]; exact q4.2.2.2.1.2.1⟩ (fun m hm => by rw [li_0] at hm; omega) (Nat.lt_succ_self _)⟩
  -- the end: it is checked
  have f92 := q4.1.1.1
  have hfq := q4.2.1
  have tn := fT.2.2.1
  have tu := fT.2.2.2.1
  have cT : ∀ a : Nat, a ≠ 0 → (a < 22 ∨ 27 < a) → sm5 u T a := fun a a0 a1 => vf_cell fT a0 a1
  have cW : ∀ a : Nat, a ≠ 0 → (a < 22 ∨ 27 < a) → (a < qn u ∨ qn u + 1 ≤ a) → sm5 u W a := fun a a0 a1 a2 => (cT a a0 a1).tr (xW.1 a (by omega))
  generalize hZ : wI (wR W f 22 (some b)) f 21 1 = Z
  have zc : ∀ a : Nat, a ≠ f → sm5 W Z a := fun a ha => by rw [← hZ]; exact (sm5.wR ha).tr (sm5.wI ha)
  have zf7 : sm7 W Z f := by
    rw [← hZ]
    refine ⟨fun j hj => by rw [qI_wI, if_neg (fun q => hj q.2)]; rfl, fun j hj => ?_, rfl, rfl⟩
    show qR (wR W f 22 (some b)) f j = _
    rw [qR_wR, if_neg (fun q => hj q.2)]
  have z21 : (qI Z f 21).toInt = 1 := by rw [← hZ, qI_wI, if_pos ⟨rfl, rfl⟩]; rfl
  have z22 : qR Z f 22 = some b := by
    rw [← hZ]
    show qR (wR W f 22 (some b)) f 22 = _
    rw [qR_wR, if_pos ⟨rfl, rfl⟩]
  have zn : qn Z = qn u + 1 := by rw [← hZ]; show qn W = _; omega
  have zu : qu Z ≤ qu u + 115200 := by rw [← hZ]; show qu W ≤ _; have := xW.2.2; omega
  have c5 : ∀ a : Nat, a ≠ 0 → (a < 22 ∨ 27 < a) → (a < qn u ∨ qn u + 1 ≤ a) → a ≠ f → sm5 u Z a := fun a a0 a1 a2 a3 => (cW a a0 a1 a2).tr (zc a a3)
  have c7 : sm7 u Z f := (cW f (by omega) (by omega) (Or.inl (by omega))).s7.tr zf7
  have c6 : ∀ a : Nat, 92 < a → a < qn u → sm6 u Z a := fun a a0 a1 => by
    by_cases z : a = f
    · subst z
      exact ⟨fun w => absurd q4.1.2.1.1 w, fun _ => c7⟩
    · exact (c5 a (by omega) (by omega) (Or.inl a1) z).s6
  have hKC : KC = 300000 := rfl
  have cx : ∀ a : Nat, TXB ≤ a → sm5 u Z a := fun a a0 => by
    rw [show TXB = 10000000 from rfl] at a0
    exact c5 a (by omega) (by omega) (Or.inr (by omega)) (by omega)
  have KZ : knI Z := ⟨by have := KB.1; omega, by omega, fun a ha => by
    by_cases q : a < qn Z
    · exact Or.inl q
    · have h93 := KB.1
      rw [(c5 a (by omega) (by omega) (Or.inr (by omega)) (by omega)).2.2.2.1] at ha
      have := KB.2.2 a ha
      omega⟩
  have FZ : FlI Z f := q4.mv (fun a a0 a1 => c6 a (by omega) a1) (by omega)
  have VZ : VfI Z f := by
    obtain ⟨R, nc, n1, n2, n3, n4⟩ := hnc
    obtain ⟨R', T', C, nc', ts, cn, r1, r2, r3, r4, r5, r6⟩ := q4.2.2.2.2.2
    have eR : R = R' := by rw [r2.1] at n1; exact (Option.some.inj n1).symm
    subst eR
    have sR := c5 R (by omega) (by omega) (Or.inl (by omega)) (by omega)
    have sb := zc b (by omega)
    refine ⟨⟨FZ.1, FZ.2.1⟩, ⟨b, R, nc, by omega, z22, by rw [sb.2.2.2.1]; exact wt, by rw [sb.2.2.2.2]; exact n3, by rw [c7.2.1 18 (by decide)]; exact n1, by omega, by rw [sR.2.2.2.1]; exact r3.1, by rw [sR.2.2.2.2]; exact n2⟩, fun m hm => ?_⟩
    rw [c7.1 4 (by decide)] at hm
    refine (hall m hm).mv (fun U lo b' => ?_) q4.1 hfq KB c6 cx
    obtain ⟨d1, d2⟩ := b'
    have ob : qO Z f 22 = b := by unfold qO; rw [z22]; rfl
    have mt := (r6 m hm).2.2.2
    have m0 := mt.1
    have m1 := mt.2.1
    have m2 := mt.2.2.1
    have rr := r4.1
    refine ⟨d1, by rw [ob]; have := KB.1; omega, fun j hj => (d2 j hj).eq (fun y y1 y2 => ?_) ⟨rfl, rfl, rfl⟩⟩
    rw [lo.2.2.1] at hj
    rw [lo.2.1] at y1 y2
    rw [ob, sb.1]
    exact n4 y (by omega)
  have e1 : qI Z 0 1 = qI u 0 1 := by rw [← hZ, rdH (by omega)]; show qI W 0 1 = _; rw [(xW.1 0 (Or.inl (by have := KB.1; omega))).1]; exact (fT.2.2.2.2.2 1 (by decide)).1
  have gZ : RgG Z := fun k => by
    have one : ∀ a : Nat, a = 23 ∨ a = 25 ∨ a = 26 → qI Z a = qI T a := fun a ha => by
      rw [(zc a (by omega)).1, (xW.1 a (Or.inl (by have := KB.1; omega))).1]
    rw [one 25 (by omega), one 26 (by omega), one 23 (by omega)]
    exact gT k
  refine ⟨gZ, ⟨by rw [e1]; exact FB.1, fun i hi => ?_⟩, KZ, fun a ha => ?_, fun j hj => ?_, Or.inr ⟨x.toInt.toNat, f, ?_, ?_, ?_, z21, ?_, fun a a0 a1 a2 a3 => ?_, by omega, by omega⟩⟩
  · rw [e1] at hi
    obtain ⟨f', g1, g2, g3⟩ := FB.2 i hi
    have rz : qR Z 1 i = some f' := by rw [(c5 1 (by decide) (by decide) (Or.inl (by have := KB.1; omega)) (by omega)).2.2.1]; exact g1
    by_cases z : f' = f
    · subst z
      exact ⟨f', rz, FZ, fun _ => VZ⟩
    · have hf' := g2.1.1.1
      have s5 := c5 f' (by omega) (by omega) (Or.inl (by have := g2.2.1; omega)) z
      exact ⟨f', rz, g2.mv (fun a a0 a1 => c6 a (by omega) a1) (by omega), fun w => VfI.st u Z f' (g3 (by rw [s5.1] at w; exact w)) KB c6 cx (by rw [s5.1]) (by rw [s5.2.2.1]) (by omega)⟩
  · have z1 : qT Z a = qT W a ∧ qN Z a = qN W a := by rw [← hZ]; exact ⟨rfl, rfl⟩
    have z2 := xW.1 a (Or.inl (by have := KB.1; omega))
    rw [z1.1, z1.2, z2.2.2.2.1, z2.2.2.2.2, fT.1, fT.2.1, fB.1, fB.2.1]
    exact ⟨rfl, rfl⟩
  · have z2 := xW.1 0 (Or.inl (by have := KB.1; omega))
    have w1 := fT.2.2.2.2.2 j hj
    have w2 := fB.2.2.2.2.2 j hj
    have z0 := zc 0 (by omega)
    exact ⟨by rw [z0.1, z2.1, w1.1, w2.1], by rw [z0.2.1, z2.2.1, w1.2.1, w2.2.1], by rw [z0.2.2.1, z2.2.2.1, w1.2.2, w2.2.2]⟩
  · rw [← b1]; omega
  · rw [← (vf_cell fB (a := 1) (by decide) (by decide)).2.2.1]; exact q3
  · rw [← (vf_cell fB (a := f) (by omega) (by omega)).1]; exact c2'
  · exact (vf_cell fB (a := f) (by omega) (by omega)).s7.tr c7
  · exact (vf_cell fB a0 a1).tr (c5 a a0 a1 (by omega) a3)
/-! the small methods (behind sp_verify) -/
theorem sp_isRight {S : MS} {x : Int32} (h : FsI VfI S) : w_isRight S x (fun r u => u = S ∧ (r.toInt ≠ 0 → ∃ f : Nat, (0 ≤ x.toInt ∧ x.toInt < (qI S 0 1).toInt) ∧ qR S 1 x.toInt.toNat = some f ∧ FlI S f ∧ VfI S f)) := by
  have h1 := h.1
  unfold w_isRight w_isRight_J25
  refine ⟨_, sp_fileAt h, ?_⟩
  rintro r u ⟨rfl, hr⟩
  refine ⟨fun _ => ⟨rfl, fun q => absurd rfl q⟩, fun c => ?_⟩
  rcases hr with q | ⟨f, a, b, d, e, g⟩
  · exact absurd q c
  · have qo : qO u 1 x.toInt.toNat = f := by unfold qO; rw [d]; rfl
    rw [qo]
    exact ⟨⟨by omega, by omega⟩, d, fun z => ⟨rfl, fun _ => ⟨f, b, d, e, g z⟩⟩, fun _ => ⟨rfl, fun q => absurd rfl q⟩⟩
theorem sp_stateAt {S : MS} {x y z : Int32} (h : FsI VfI S) : w_stateAt S x y z (fun r u => u = S ∧ (r.toInt = -1 ∨ ∃ f St : Nat, (0 ≤ x.toInt ∧ x.toInt < 12) ∧ qR S 1 x.toInt.toNat = some f ∧ qR S f 22 = some St ∧ 0 ≤ r.toInt ∧ r.toInt + 3 < (qN S St : Int) ∧ r.toInt ≤ 115200)) := by
  have h1 := h.1
  have l1 : (-1 : Int32).toInt = -1 := by decide
  unfold w_stateAt w_stateAt_J54
  refine ⟨_, sp_isRight h, ?_⟩
  rintro r u ⟨rfl, hr⟩
  refine ⟨fun _ => ⟨rfl, Or.inl l1⟩, fun c => ⟨_, sp_isMethod h, ?_⟩⟩
  rintro r2 u2 ⟨rfl, hr2⟩
  refine ⟨fun _ => ⟨rfl, Or.inl l1⟩, fun c2 => ⟨fun _ => ⟨rfl, Or.inl l1⟩, fun c3 => ?_⟩⟩
  obtain ⟨f, a1, a2, a3, a4⟩ := hr c
  obtain ⟨f', b1, b2, b3, b4, b5⟩ := hr2 c2
  have ef : f' = f := by rw [a2] at b2; exact (Option.some.inj b2).symm
  subst ef
  have qo : qO u2 1 x.toInt.toNat = f' := by unfold qO; rw [a2]; rfl
  have q15 := a3.row (i := 10) (by decide)
  have q14 := a3.row (i := 9) (by decide)
  simp only [Nat.reduceAdd, Nat.add_assoc] at q15 q14
  have hm := a3.2.2.2.1
  obtain ⟨St, R, nc, s1, s2, s3, s4, s5, s6, s7, s8⟩ := a4.2.1
  obtain ⟨R', T', C, nc', ts, cn, r1, r2', r3, r4, r5, r6⟩ := a3.2.2.2.2.2
  have eR : R = R' := by rw [r2'.1] at s5; exact (Option.some.inj s5).symm
  have en : nc = nc' := by rw [eR, r4.1] at s8; omega
  have mt := (r6 y.toInt.toNat (by omega)).2.2.2
  have m1 := mt.1
  have m2 := mt.2.1
  have m3 := mt.2.2.1
  rw [qo, q15.2.1, q14.2.1]
  refine ⟨⟨by omega, by omega⟩, a2, q15.1, ⟨by omega, by rw [q15.2.2]; omega⟩, fun _ => ⟨rfl, Or.inl l1⟩, fun c4 => ⟨⟨by omega, by omega⟩, a2, q14.1, ⟨by omega, by rw [q14.2.2]; omega⟩, rfl, Or.inr ⟨f', St, ⟨by omega, by omega⟩, a2, s2, ?_⟩⟩⟩
  have e1 : (qI u2 (f' + 10) y.toInt.toNat + z).toInt = (qI u2 (f' + 10) y.toInt.toNat).toInt + z.toInt := t_add (by omega)
  have e4 : ((4 : Int32) * (qI u2 (f' + 10) y.toInt.toNat + z)).toInt = 4 * ((qI u2 (f' + 10) y.toInt.toNat).toInt + z.toInt) := by rw [t_mul (by rw [li_4, e1]; omega), li_4, e1]
  rw [e4, s4]
  omega
theorem sp_height {S : MS} {x y z : Int32} (h : FsI VfI S) : w_height S x y z (fun _ u => u = S) := by
  unfold w_height
  refine ⟨_, sp_stateAt h, ?_⟩
  rintro r u ⟨rfl, hr⟩
  refine ⟨fun c => ?_, fun _ => rfl⟩
  rcases hr with q | ⟨f, St, a, b, d, e, g, -⟩
  · omega
  · have qo : qO u 1 x.toInt.toNat = f := by unfold qO; rw [b]; rfl
    have qs : qO u f 22 = St := by unfold qO; rw [d]; rfl
    rw [qo, qs]
    exact ⟨a, b, d, ⟨by omega, by omega⟩, rfl⟩
theorem sp_local {S : MS} {x y z w : Int32} (h : FsI VfI S) : w_local S x y z w (fun _ u => u = S) := by
  unfold w_local
  refine ⟨_, sp_stateAt h, ?_⟩
  rintro r u ⟨rfl, hr⟩
  refine ⟨fun _ => rfl, fun c => ?_⟩
  rcases hr with q | ⟨f, St, a, b, d, e, g, gg⟩
  · omega
  · have qo : qO u 1 x.toInt.toNat = f := by unfold qO; rw [b]; rfl
    have qs : qO u f 22 = St := by unfold qO; rw [d]; rfl
    rw [qo, qs]
    refine ⟨a, b, d, ⟨by omega, by omega⟩, fun _ => rfl, fun _ => ⟨fun _ => rfl, fun c2 => ⟨fun c3 => ⟨a, b, d, ?_, rfl⟩, fun _ => rfl⟩⟩⟩
    have e8 : (w / (8 : Int32)).toInt = w.toInt / 8 := by
      rw [Int32.toInt_div, li_8, Int.tdiv_eq_ediv_of_nonneg (by omega)]
      apply Int.bmod_eq_of_le <;> omega
    have e1 : (r + (1 : Int32)).toInt = r.toInt + 1 := by rw [t_add (by rw [li_1]; omega), li_1]
    have e2 : (r + (1 : Int32) + w / (8 : Int32)).toInt = r.toInt + 1 + w.toInt / 8 := by rw [t_add (by rw [e1, e8]; omega), e1, e8]
    rw [e2]
    omega
theorem sp_end {S : MS} {x : Int32} : w_end S x (fun _ u => u = S ∨ (u = wI S 0 4 x ∧ 0 ≤ x.toInt ∧ x.toInt ≤ (qI S 0 4).toInt)) := by
  unfold w_end
  exact ⟨fun _ => Or.inl rfl, fun c => ⟨fun c2 A eA => Or.inr ⟨eA, by omega, c2⟩, fun _ => Or.inl rfl⟩⟩
/-- the machine's arrays -/
def ArI (S : MS) : Prop := (0 ≤ (qI S 0 85).toInt ∧ (qI S 0 85).toInt ≤ 400) ∧ (0 ≤ (qI S 0 86).toInt ∧ (qI S 0 86).toInt ≤ 20000) ∧ ∀ a : Nat, 1 ≤ a → (a : Int) ≤ (qI S 0 85).toInt → 0 ≤ (qI S 39 a).toInt ∧ 0 ≤ (qI S 40 a).toInt ∧ (qI S 39 a).toInt + (qI S 40 a).toInt ≤ (qI S 0 86).toInt
/-- the File on the stage -/
def SgI (S : MS) : Prop := qR S 0 80 = none ∨ ∃ f : Nat, qR S 0 80 = some f ∧ FlI S f ∧ VfI S f
theorem LdF {S : MS} {x : Int32} (h : SgI S) : d_field S x := by
  unfold d_field d_field_J31
  by_cases c1 : (qR S 0 80) = none
  · rw [if_pos c1]; trivial
  · rw [if_neg c1]
    by_cases c2 : x.toInt < 0
    · rw [if_pos c2]; trivial
    · rw [if_neg c2]
      rcases h with q | ⟨f, a, b, -⟩
      · exact absurd q c1
      · have qo : qO S 0 80 = f := by unfold qO; rw [a]; rfl
        have hm := b.2.2.2.1
        rw [qo]
        refine ⟨a, ?_⟩
        by_cases c3 : (qI S f 3).toInt ≤ x.toInt
        · rw [if_pos c3]; trivial
        · rw [if_neg c3]; exact ⟨⟨by omega, by omega⟩, trivial⟩
theorem ArI.el {S : MS} {x y : Int32} (h : ArI S) : d_element S x y ∧ d_arrayLength S x := by
  obtain ⟨h1, h2, h3⟩ := h
  unfold d_element d_element_J43 d_arrayLength d_arrayLength_J22
  by_cases c1 : x.toInt < 1
  · rw [if_pos c1, if_pos c1]; exact ⟨trivial, trivial⟩
  · rw [if_neg c1, if_neg c1]
    by_cases c2 : (qI S 0 85).toInt < x.toInt
    · rw [if_pos c2, if_pos c2]; exact ⟨trivial, trivial⟩
    · rw [if_neg c2, if_neg c2]
      refine ⟨?_, ⟨by omega, by omega⟩, trivial⟩
      by_cases c3 : y.toInt < 0
      · rw [if_pos c3]; trivial
      · rw [if_neg c3]
        refine ⟨⟨by omega, by omega⟩, ?_⟩
        by_cases c4 : (qI S 40 x.toInt.toNat).toInt ≤ y.toInt
        · rw [if_pos c4]; trivial
        · rw [if_neg c4]
          obtain ⟨a, b, d⟩ := h3 x.toInt.toNat (by omega) (by omega)
          have e : (qI S 39 x.toInt.toNat + y).toInt = (qI S 39 x.toInt.toNat).toInt + y.toInt := t_add (by omega)
          exact ⟨⟨by omega, by omega⟩, ⟨by omega, by omega⟩, trivial⟩
/-- what was told -/
def ToI (S : MS) : Prop := ∃ b : Nat, qR S 0 76 = some b ∧ qT S b = 1 ∧ qN S b = 131072 ∧ 0 ≤ (qI S 0 78).toInt ∧ (qI S 0 78).toInt ≤ 131072
theorem ToI.by {S : MS} {x : Int32} (h : ToI S) : d_byteAt S x := by
  obtain ⟨b, h1, h2, h3, h4, h5⟩ := h
  have qo : qO S 0 76 = b := by unfold qO; rw [h1]; rfl
  unfold d_byteAt d_byteAt_J25
  by_cases c1 : x.toInt < 0
  · rw [if_pos c1]; trivial
  · rw [if_neg c1]
    by_cases c2 : (qI S 0 78).toInt ≤ x.toInt
    · rw [if_pos c2]; trivial
    · rw [if_neg c2, qo]
      exact ⟨h1, ⟨by omega, by rw [h3]; omega⟩, trivial⟩
theorem d_ap {S : MS} {x : Int32} : d_applied S x := by
  unfold d_applied d_applied_J20
  by_cases c1 : x.toInt < 1
  · rw [if_pos c1]; trivial
  · rw [if_neg c1]
    by_cases c2 : 11 < x.toInt
    · rw [if_pos c2]; trivial
    · rw [if_neg c2]; exact ⟨⟨by omega, by omega⟩, trivial⟩
/-! the same types, the same work (behind fn_work, MtA) -/
def aE (a b : AS) : Prop := (∀ k : Nat, k < 24 → aL a k = aL b k) ∧ aT a = aT b ∧ aF a = aF b ∧ ∀ k : Nat, (k : Int) < (aT a).toInt → aP a k = aP b k
theorem aE.push {a b : AS} {t : Int32} (h : aE a b) (ht : 0 ≤ (aT a).toInt ∧ (aT a).toInt < 28) : aE (aPush t a) (aPush t b) := by
  obtain ⟨h1, h2, h3, h4⟩ := h
  refine ⟨h1, ?_, h3, ?_⟩
  · show aT a + 1 = aT b + 1
    rw [h2]
  · intro k hk
    rw [t_push ht] at hk
    show upd (aP a) (aT a).toInt.toNat _ k = upd (aP b) (aT b).toInt.toNat _ k
    rw [← h2]
    unfold upd
    by_cases c : k = (aT a).toInt.toNat
    · rw [if_pos c, if_pos c]
    · rw [if_neg c, if_neg c]
      exact h4 k (by omega)
theorem t_pull {a : AS} (ht : 1 ≤ (aT a).toInt ∧ (aT a).toInt ≤ 28) : (aT (aPull a)).toInt = (aT a).toInt - 1 := by
  show (aT a - (1 : Int32)).toInt = _
  rw [t_sub (by rw [li_1]; omega), li_1]
theorem aE.pull {a b : AS} (h : aE a b) (ht : 1 ≤ (aT a).toInt ∧ (aT a).toInt ≤ 28) : aTop a = aTop b ∧ aE (aPull a) (aPull b) := by
  have e := t_pull ht
  obtain ⟨h1, h2, h3, h4⟩ := h
  refine ⟨?_, h1, ?_, h3, ?_⟩
  · unfold aTop
    rw [← h2]
    have e' : (aT a - (1 : Int32)).toInt = (aT a).toInt - 1 := e
    exact h4 _ (by omega)
  · show aT a - 1 = aT b - 1
    rw [h2]
  · intro k hk
    rw [e] at hk
    exact h4 k (by omega)
theorem aE.need {a b : AS} {g : Int32} (h : aE a b) : aE (aNeed g a) (aNeed g b) := by
  obtain ⟨h1, h2, h3, h4⟩ := h
  refine ⟨h1, h2, ?_, h4⟩
  show (if (aF a).toInt = 0 then (0 : Int32) else _) = if (aF b).toInt = 0 then 0 else _
  rw [h3]
theorem aE.set {a b : AS} {k : Nat} {t : Int32} (h : aE a b) : aE (aSet k t a) (aSet k t b) := by
  obtain ⟨h1, h2, h3, h4⟩ := h
  refine ⟨?_, h2, h3, h4⟩
  intro i hi
  show upd (aL a) k _ i = upd (aL b) k _ i
  unfold upd
  by_cases c : i = k
  · rw [if_pos c, if_pos c]
  · rw [if_neg c, if_neg c]
    exact h1 i hi
theorem aE.ite {a b a' b' : AS} {c : Prop} [Decidable c] (h : c → aE a b) (h' : ¬ c → aE a' b') : aE (if c then a else a') (if c then b else b') := by
  by_cases z : c
  · rw [if_pos z, if_pos z]; exact h z
  · rw [if_neg z, if_neg z]; exact h' z
theorem aE.take {a b : AS} {c : Int32} (h : aE a b) (ht : 1 ≤ (aT a).toInt ∧ (aT a).toInt ≤ 28) (h2 : c.toInt = 73 ∨ c.toInt = 65 ∨ c.toInt = 69 ∨ c.toInt = 82 ∨ 2 ≤ (aT a).toInt) : aE (aTake c a) (aTake c b) := by
  obtain ⟨e, hp⟩ := h.pull ht
  have tp := t_pull ht
  unfold aTake
  rw [← e]
  refine aE.ite (fun _ => hp.need) (fun c1 => aE.ite (fun _ => hp.need) (fun c2 => aE.ite (fun _ => hp.need) (fun c3 => aE.ite (fun _ => hp.need) (fun c4 => ?_))))
  obtain ⟨e2, hp2⟩ := hp.pull ⟨by omega, by omega⟩
  rw [← e2]
  exact hp2.need
theorem aE.takes {g : Nat → Int32} : ∀ (n : Nat) (a b : AS), aE a b → (∀ i : Nat, i < n → (g i).toInt = 73 ∨ (g i).toInt = 74 ∨ (g i).toInt = 65 ∨ (g i).toInt = 69 ∨ (g i).toInt = 82) → plc g n ≤ (aT a).toInt → (aT a).toInt ≤ 28 → aE (aTakes g n a) (aTakes g n b) := by
  intro n
  induction n with
  | zero => intro a b h _ _ _; exact h
  | succ n ih =>
    intro a b h hl hp ht
    have p0 := plc_ge (g := g) n
    have pk : plc g (n + 1) = plc g n + if (g n).toInt = 74 then 2 else 1 := rfl
    rw [pk] at hp
    have z01 : 1 ≤ (if (g n).toInt = 74 then (2 : Int) else 1) := by split <;> omega
    have h1 : 1 ≤ (aT a).toInt := by omega
    have e := t_take (c := g n) ⟨h1, ht⟩ (hl n (by omega))
    unfold aTakes
    refine ih _ _ (h.take ⟨h1, ht⟩ ?_) (fun i hi => hl i (by omega)) (by omega) (by omega)
    by_cases w : (g n).toInt = 74
    · rw [if_pos w] at hp; omega
    · have := hl n (by omega); omega
theorem aE.gives {g : Nat → Int32} {th : Int32} : ∀ (n k : Nat) (a b : AS), aE a b → 0 ≤ (aT a).toInt → (aT a).toInt + (plc g (k + n) - plc g k) ≤ 28 → aE (aGives g th k n a) (aGives g th k n b) := by
  intro n
  induction n with
  | zero => intro k a b h _ _; exact h
  | succ n ih =>
    intro k a b h h0 hp
    have up : ∀ (d m : Nat), plc g m ≤ plc g (m + d) := by
      intro d
      induction d with
      | zero => intro m; exact Int.le_refl _
      | succ d ih2 =>
        intro m
        have := ih2 m
        have e9 : plc g (m + (d + 1)) = plc g (m + d) + if (g (m + d)).toInt = 74 then 2 else 1 := rfl
        rw [e9]
        split <;> omega
    have u1 := up n (k + 1)
    have pk : plc g (k + 1) = plc g k + if (g k).toInt = 74 then 2 else 1 := rfl
    rw [show k + (n + 1) = k + 1 + n by omega] at hp
    unfold aGives
    by_cases w : (g k).toInt = 74
    · rw [if_pos w] at pk
      have t1 := t_push (t := 2) (a := a) ⟨by omega, by omega⟩
      have t2 := t_push (t := 3) (a := aPush 2 a) ⟨by omega, by omega⟩
      unfold aGive
      rw [if_pos w, if_pos w]
      exact ih (k + 1) _ _ ((h.push ⟨by omega, by omega⟩).push ⟨by omega, by omega⟩) (by omega) (by omega)
    · rw [if_neg w] at pk
      unfold aGive
      rw [if_neg w, if_neg w]
      generalize (if (g k).toInt = 73 then (1 : Int32) else if (g k).toInt = 65 then 4 else if (g k).toInt = 78 then 6 else th) = t
      have t1 := t_push (t := t) (a := a) ⟨by omega, by omega⟩
      exact ih (k + 1) _ _ (h.push ⟨by omega, by omega⟩) (by omega) (by omega)
theorem aE.store {a b : AS} {op k th : Int32} (h : aE a b) (hk : 0 ≤ k.toInt ∧ k.toInt < 24) : aE (aStore op k th a) (aStore op k th b) := by
  have e1 : (k - (1 : Int32)).toInt = k.toInt - 1 := by rw [t_sub (by rw [li_1]; omega), li_1]
  unfold aStore
  simp only
  generalize (if op.toInt = 55 then (2 : Int32) else 1) = n
  have s1 : aE (if k.toInt ≤ 0 then a else if (aL a (k - 1).toInt.toNat).toInt = 2 then aSet (k - 1).toInt.toNat 0 a else a) (if k.toInt ≤ 0 then b else if (aL b (k - 1).toInt.toNat).toInt = 2 then aSet (k - 1).toInt.toNat 0 b else b) := by
    refine aE.ite (fun _ => h) (fun c => ?_)
    rw [h.1 _ (by omega)]
    exact aE.ite (fun _ => h.set) (fun _ => h)
  revert s1
  generalize (if k.toInt ≤ 0 then a else if (aL a (k - 1).toInt.toNat).toInt = 2 then aSet (k - 1).toInt.toNat 0 a else a) = a1
  generalize (if k.toInt ≤ 0 then b else if (aL b (k - 1).toInt.toNat).toInt = 2 then aSet (k - 1).toInt.toNat 0 b else b) = b1
  intro s1
  have s2 : aE (if 24 ≤ (k + n).toInt then a1 else if (aL a1 (k + n).toInt.toNat).toInt = 3 then aSet (k + n).toInt.toNat 0 a1 else a1) (if 24 ≤ (k + n).toInt then b1 else if (aL b1 (k + n).toInt.toNat).toInt = 3 then aSet (k + n).toInt.toNat 0 b1 else b1) := by
    refine aE.ite (fun _ => s1) (fun c => ?_)
    rw [s1.1 _ (by omega)]
    exact aE.ite (fun _ => s1.set) (fun _ => s1)
  exact aE.ite (fun _ => s2.set.set) (fun _ => s2.set)
theorem aE.mv1 {a b : AS} {op y x : Int32} (h : aE a b) (ho : op.toInt = 89 ∨ op.toInt = 90 ∨ op.toInt = 92 ∨ op.toInt = 95) (ht : 0 ≤ (aT a).toInt ∧ (aT a).toInt ≤ 24) : aE (aMv1 op y x a) (aMv1 op y x b) := by
  have p1 := fun (t : Int32) (b : AS) (hb : 0 ≤ (aT b).toInt ∧ (aT b).toInt < 28) => t_push (t := t) (a := b) hb
  have P : ∀ (c : Prop) [Decidable c] (t : Int32) (d : Int) (u v : AS), (aE u v ∧ 0 ≤ (aT u).toInt ∧ (aT u).toInt ≤ d) → d < 28 → (aE (if c then aPush t u else u) (if c then aPush t v else v) ∧ 0 ≤ (aT (if c then aPush t u else u)).toInt ∧ (aT (if c then aPush t u else u)).toInt ≤ d + 1) := fun c _ t d u v hu hd => by
    have q := p1 t u ⟨hu.2.1, by omega⟩
    by_cases z : c
    · simp only [if_pos z]
      exact ⟨hu.1.push ⟨hu.2.1, by omega⟩, by omega, by omega⟩
    · simp only [if_neg z]
      exact ⟨hu.1, by omega, by omega⟩
  rcases ho with o | o | o | o
  · have n1 : ¬ op.toInt = 90 := by omega
    have n2 : ¬ op.toInt = 92 := by omega
    have n3 : ¬ op.toInt = 95 := by omega
    have q1 := p1 y a ⟨ht.1, by omega⟩
    unfold aMv1
    simp only [if_pos o, if_neg n1, if_neg n2, if_neg n3]
    exact (h.push ⟨by omega, by omega⟩).push ⟨by omega, by omega⟩
  · have n1 : ¬ op.toInt = 89 := by omega
    have n2 : ¬ op.toInt = 92 := by omega
    have n3 : ¬ op.toInt = 95 := by omega
    have q1 := p1 y a ⟨ht.1, by omega⟩
    have q2 := p1 x (aPush y a) ⟨by omega, by omega⟩
    unfold aMv1
    simp only [if_pos o, if_neg n1, if_neg n2, if_neg n3]
    exact ((h.push ⟨by omega, by omega⟩).push ⟨by omega, by omega⟩).push ⟨by omega, by omega⟩
  · have n1 : ¬ op.toInt = 89 := by omega
    have n2 : ¬ op.toInt = 90 := by omega
    have n3 : ¬ op.toInt = 95 := by omega
    have q1 := p1 x a ⟨ht.1, by omega⟩
    have q2 := p1 y (aPush x a) ⟨by omega, by omega⟩
    have q3 := p1 x (aPush y (aPush x a)) ⟨by omega, by omega⟩
    unfold aMv1
    simp only [if_pos o, if_neg n2, if_neg n3]
    exact (((h.push ⟨by omega, by omega⟩).push ⟨by omega, by omega⟩).push ⟨by omega, by omega⟩).push ⟨by omega, by omega⟩
  · have n1 : ¬ op.toInt = 89 := by omega
    have n2 : ¬ op.toInt = 90 := by omega
    have n3 : ¬ op.toInt = 92 := by omega
    have q1 := p1 y a ⟨ht.1, by omega⟩
    unfold aMv1
    simp only [if_pos o, if_neg n1, if_neg n2, if_neg n3]
    exact (h.push ⟨by omega, by omega⟩).push ⟨by omega, by omega⟩
theorem aE.move {a b : AS} {op : Int32} (h : aE a b) (ho : op.toInt = 87 ∨ op.toInt = 88 ∨ op.toInt = 89 ∨ op.toInt = 90 ∨ op.toInt = 92 ∨ op.toInt = 95) (ht : 1 ≤ (aT a).toInt ∧ (aT a).toInt ≤ 24) (h2 : op.toInt = 87 ∨ op.toInt = 89 ∨ 2 ≤ (aT a).toInt) : aE (aMove op a) (aMove op b) := by
  obtain ⟨e, hp⟩ := h.pull ⟨ht.1, by omega⟩
  have tp := t_pull (a := a) ⟨ht.1, by omega⟩
  unfold aMove
  simp only
  rw [← e]
  by_cases o : op.toInt = 87 ∨ op.toInt = 89
  · have ea : ∀ u : AS, (if op.toInt = 87 then aPull u else if op.toInt = 89 then aPull u else aPull (aPull u)) = aPull u := fun u => by
      rcases o with o | o
      · rw [if_pos o]
      · rw [if_neg (by omega), if_pos o]
    have ex : ∀ u : AS, (if op.toInt = 87 then (1 : Int32) else if op.toInt = 89 then 1 else aTop (aPull u)) = 1 := fun u => by
      rcases o with o | o
      · rw [if_pos o]
      · rw [if_neg (by omega), if_pos o]
    simp only [ea, ex]
    exact aE.ite (fun _ => hp.need) (fun c => aE.ite (fun _ => hp.need) (fun c2 => hp.need.mv1 (by omega) ⟨by show 0 ≤ (aT (aPull a)).toInt; omega, by show (aT (aPull a)).toInt ≤ 24; omega⟩))
  · have o1 : ¬ op.toInt = 87 := fun q => o (Or.inl q)
    have o2 : ¬ op.toInt = 89 := fun q => o (Or.inr q)
    obtain ⟨e2, hp2⟩ := hp.pull ⟨by omega, by omega⟩
    have tp2 := t_pull (a := aPull a) ⟨by omega, by omega⟩
    simp only [if_neg o1, if_neg o2, ← e2]
    exact aE.ite (fun _ => hp2.need) (fun c2 => hp2.need.mv1 (by omega) ⟨by show 0 ≤ (aT (aPull (aPull a))).toInt; omega, by show (aT (aPull (aPull a))).toInt ≤ 24; omega⟩)
theorem aE.w2 {a b : AS} {op fst rm : Int32} (h : aE a b) (h1 : op.toInt = 21 ∨ op.toInt = 132 → 0 ≤ fst.toInt ∧ fst.toInt < 24) (h2 : op.toInt = 22 → 0 ≤ fst.toInt ∧ fst.toInt + 1 < 24) : aE (aW2 op fst rm a) (aW2 op fst rm b) := by
  unfold aW2
  simp only
  have s3 : aE (if op.toInt = 21 ∨ op.toInt = 132 then aNeed (if (aL a fst.toInt.toNat).toInt = 1 then 1 else 0) a else a) (if op.toInt = 21 ∨ op.toInt = 132 then aNeed (if (aL b fst.toInt.toNat).toInt = 1 then 1 else 0) b else b) := by
    refine aE.ite (fun c => ?_) (fun _ => h)
    have := h1 c
    rw [h.1 fst.toInt.toNat (by omega)]
    exact h.need
  revert s3
  generalize (if op.toInt = 21 ∨ op.toInt = 132 then aNeed (if (aL a fst.toInt.toNat).toInt = 1 then 1 else 0) a else a) = a3
  generalize (if op.toInt = 21 ∨ op.toInt = 132 then aNeed (if (aL b fst.toInt.toNat).toInt = 1 then 1 else 0) b else b) = b3
  intro s3
  have s4 : aE (if op.toInt = 22 then aNeed (if (aL a3 fst.toInt.toNat).toInt = 2 then (if (aL a3 (fst + 1).toInt.toNat).toInt = 3 then 1 else 0) else 0) a3 else a3) (if op.toInt = 22 then aNeed (if (aL b3 fst.toInt.toNat).toInt = 2 then (if (aL b3 (fst + 1).toInt.toNat).toInt = 3 then 1 else 0) else 0) b3 else b3) := by
    refine aE.ite (fun c => ?_) (fun _ => s3)
    have q := h2 c
    have ef : (fst + (1 : Int32)).toInt = fst.toInt + 1 := by rw [t_add (by rw [li_1]; omega), li_1]
    rw [s3.1 fst.toInt.toNat (by omega), s3.1 (fst + 1).toInt.toNat (by omega)]
    exact s3.need
  exact aE.ite (fun _ => s4.need) (fun _ => s4)
/-- the same but for fits -/
def aQ (a b : AS) : Prop := (∀ k : Nat, k < 24 → aL a k = aL b k) ∧ aT a = aT b ∧ ∀ k : Nat, (k : Int) < (aT a).toInt → aP a k = aP b k
theorem MtA.q {S : MS} {x : Nat} {a b : AS} (ha : MtA S x a) (hb : MtA S x b) : aQ a b := by
  obtain ⟨a1, a2, a3⟩ := ha
  obtain ⟨b1, b2, b3⟩ := hb
  refine ⟨fun k hk => by rw [a1 k hk, b1 k hk], Int32.toInt_inj.mp (by rw [a3, b3]), fun k hk => ?_⟩
  rw [a3] at hk
  rw [a2 k hk, b2 k hk]
theorem aT_ite {c : Prop} [Decidable c] {u v : AS} {t : Int32} (h1 : aT u = t) (h2 : aT v = t) : aT (if c then u else v) = t := by
  by_cases z : c
  · rw [if_pos z]; exact h1
  · rw [if_neg z]; exact h2
theorem cg_wk {S : MS} {a b : AS} {x : Int32} {p : Nat} (h : LkI S) (ht : TxI S) (hx : 0 ≤ x.toInt ∧ x.toInt < (qI S 0 52).toInt) (hT : tkV S x ≤ (aT a).toInt ∧ (aT a).toInt ≤ 24 ∧ (aT a).toInt - tkV S x + gvV S x ≤ 28) (e : aQ a b) : aE (wkV S x p a) (wkV S x p b) := by
  have tk := h.tk hx ht
  have gv := h.gv hx ht
  obtain ⟨L, F, M, ts, la, lb, rv, -, -⟩ := h.rv hx
  obtain ⟨v1, v2, v3, v4, v5, v6, v7⟩ := rv
  obtain ⟨q1, q2, q3⟩ := e
  have E : aE (aL a, aP a, aT a, 1) (aL b, aP b, aT b, 1) := ⟨q1, q2, rfl, q3⟩
  have mvI : 0 < (f_moved S (f_op S x)).toInt ↔ ((f_op S x).toInt = 87 ∨ (f_op S x).toInt = 88 ∨ (f_op S x).toInt = 89 ∨ (f_op S x).toInt = 90 ∨ (f_op S x).toInt = 92 ∨ (f_op S x).toInt = 95) := by
    unfold f_moved f_moved_J12 f_moved_J40
    by_cases z1 : (f_op S x).toInt = 87
    · rw [if_pos z1]; simp [z1]
    · rw [if_neg z1]
      by_cases z2 : (f_op S x).toInt = 89
      · rw [if_pos z2]; simp [z2]
      · rw [if_neg z2]
        by_cases z3 : (f_op S x).toInt = 88
        · rw [if_pos z3]; simp [z3]
        · rw [if_neg z3]
          by_cases z4 : (f_op S x).toInt = 90
          · rw [if_pos z4]; simp [z4]
          · rw [if_neg z4]
            by_cases z5 : (f_op S x).toInt = 92
            · rw [if_pos z5]; simp [z5]
            · rw [if_neg z5]
              by_cases z6 : (f_op S x).toInt = 95
              · rw [if_pos z6]; simp [z6]
              · rw [if_neg z6]; simp [z1, z2, z3, z4, z5, z6]
  unfold wkV aWork
  simp only
  by_cases mv : 0 < (f_moved S (f_op S x)).toInt
  · have o := mvI.mp mv
    rw [if_pos o, if_pos o]
    have eT : tkV S x = (f_moved S (f_op S x)).toInt := by unfold tkV; rw [if_pos mv]
    refine E.move o ⟨by show 1 ≤ (aT a).toInt; omega, hT.2.1⟩ ?_
    show _ ∨ _ ∨ 2 ≤ (aT a).toInt
    by_cases z1 : (f_op S x).toInt = 87
    · exact Or.inl z1
    · by_cases z2 : (f_op S x).toInt = 89
      · exact Or.inr (Or.inl z2)
      · refine Or.inr (Or.inr ?_)
        have m2 : (f_moved S (f_op S x)).toInt = 2 := by
          unfold f_moved f_moved_J12 f_moved_J40
          rw [if_neg z1, if_neg z2]
          by_cases z3 : (f_op S x).toInt = 88
          · rw [if_pos z3]; rfl
          · rw [if_neg z3]
            by_cases z4 : (f_op S x).toInt = 90
            · rw [if_pos z4]; rfl
            · rw [if_neg z4]
              by_cases z5 : (f_op S x).toInt = 92
              · rw [if_pos z5]; rfl
              · rw [if_neg z5, if_pos (by omega)]; rfl
        omega
  · have o : ¬ ((f_op S x).toInt = 87 ∨ (f_op S x).toInt = 88 ∨ (f_op S x).toInt = 89 ∨ (f_op S x).toInt = 90 ∨ (f_op S x).toInt = 92 ∨ (f_op S x).toInt = 95) := fun q => mv (mvI.mpr q)
    rw [if_neg o, if_neg o]
    have eT : tkV S x = plS S (f_takesOf S x) := by unfold tkV; rw [if_neg mv]
    have eG : gvV S x = plS S (f_givesOf S x) := by unfold gvV; rw [if_neg mv]
    obtain ⟨k1, k2, k3, k4, k5⟩ := tk
    have e25 : (f_op S x).toInt = 25 → aL (aL a, aP a, aT a, 1) (f_first S x).toInt.toNat = aL (aL b, aP b, aT b, 1) (f_first S x).toInt.toNat := fun q => E.1 _ (by have := v4 (by omega); omega)
    have e58 : (f_op S x).toInt = 58 → aTop (aL a, aP a, aT a, 1) = aTop (aL b, aP b, aT b, 1) := fun q => by
      have ft : f_takesOf S x = 10000024 := by
        unfold f_takesOf f_takesOf_J18 f_takesOf_J47 f_takesOf_J75 f_takesOf_J93 f_takesOf_J111
        rw [if_pos (by omega), if_pos (by omega), if_pos (by omega), if_pos (by omega), if_pos (by omega), if_neg (by omega), if_neg (by omega), if_neg (by omega), if_pos q]
      have n1 : qN S (10000024 + 1) = 1 := (ht 12 (by decide)).2.1
      have g1 := plc_ge (g := qI S (10000024 + 1)) 1
      have e5 := eT
      rw [ft] at e5
      unfold plS at e5
      rw [n1] at e5
      exact (E.pull ⟨by show 1 ≤ (aT a).toInt; omega, by show (aT a).toInt ≤ 28; omega⟩).1
    have eth : (if (f_op S x).toInt = 25 then aL (aL a, aP a, aT a, 1) (f_first S x).toInt.toNat else if (f_op S x).toInt = 58 then aTop (aL a, aP a, aT a, 1) else 0) = (if (f_op S x).toInt = 25 then aL (aL b, aP b, aT b, 1) (f_first S x).toInt.toNat else if (f_op S x).toInt = 58 then aTop (aL b, aP b, aT b, 1) else 0) := by
      by_cases z : (f_op S x).toInt = 25
      · rw [if_pos z, if_pos z, e25 z]
      · rw [if_neg z, if_neg z]
        by_cases z2 : (f_op S x).toInt = 58
        · rw [if_pos z2, if_pos z2, e58 z2]
        · rw [if_neg z2, if_neg z2]
    rw [← eth]
    generalize (if (f_op S x).toInt = 25 then aL (aL a, aP a, aT a, 1) (f_first S x).toInt.toNat else if (f_op S x).toInt = 58 then aTop (aL a, aP a, aT a, 1) else 0) = th1
    have s2 : aE (if (f_op S x).toInt = 25 then aNeed (isTh th1) (aL a, aP a, aT a, 1) else (aL a, aP a, aT a, 1)) (if (f_op S x).toInt = 25 then aNeed (isTh th1) (aL b, aP b, aT b, 1) else (aL b, aP b, aT b, 1)) := aE.ite (fun _ => E.need) (fun _ => E)
    have t2 : aT (if (f_op S x).toInt = 25 then aNeed (isTh th1) (aL a, aP a, aT a, 1) else (aL a, aP a, aT a, 1)) = aT a := aT_ite rfl rfl
    revert s2 t2
    generalize (if (f_op S x).toInt = 25 then aNeed (isTh th1) (aL a, aP a, aT a, 1) else (aL a, aP a, aT a, 1)) = a2
    generalize (if (f_op S x).toInt = 25 then aNeed (isTh th1) (aL b, aP b, aT b, 1) else (aL b, aP b, aT b, 1)) = b2
    intro s2 t2
    generalize (if (isTh th1).toInt = 0 then (0 : Int32) else th1) = th
    have s3 := s2.w2 (op := f_op S x) (fst := f_first S x) (rm := rmV S (f_op S x) p) (fun q => by have := v4 (by omega); omega) (fun q => by have := v5 (Or.inl q); omega)
    have t3 : aT (aW2 (f_op S x) (f_first S x) (rmV S (f_op S x) p) a2) = aT a := by rw [aT_W2.1, t2]
    revert s3 t3
    generalize aW2 (f_op S x) (f_first S x) (rmV S (f_op S x) p) a2 = a3
    generalize aW2 (f_op S x) (f_first S x) (rmV S (f_op S x) p) b2 = b3
    intro s3 t3
    have pT : plc (qI S (f_takesOf S x + 1)) (qN S (f_takesOf S x + 1)) ≤ (aT a3).toInt := by unfold plS at eT; rw [t3, ← eT]; exact hT.1
    have s4 := aE.takes (g := qI S (f_takesOf S x + 1)) (qN S (f_takesOf S x + 1)) a3 b3 s3 k3 pT (by rw [t3]; omega)
    have t4 := t_takes (g := qI S (f_takesOf S x + 1)) (qN S (f_takesOf S x + 1)) a3 k3 pT (by rw [t3]; omega)
    rw [t3] at t4
    revert s4 t4
    unfold aW1
    generalize aTakes (qI S (f_takesOf S x + 1)) (qN S (f_takesOf S x + 1)) a3 = a4
    generalize aTakes (qI S (f_takesOf S x + 1)) (qN S (f_takesOf S x + 1)) b3 = b4
    intro s4 t4
    have tst : aT (if (f_op S x).toInt = 54 ∨ (f_op S x).toInt = 55 ∨ (f_op S x).toInt = 58 then aStore (f_op S x) (f_first S x) th a4 else a4) = aT a4 := by
      unfold aStore
      simp only
      repeat' split
      all_goals rfl
    have s5 : aE (if (f_op S x).toInt = 54 ∨ (f_op S x).toInt = 55 ∨ (f_op S x).toInt = 58 then aStore (f_op S x) (f_first S x) th a4 else a4) (if (f_op S x).toInt = 54 ∨ (f_op S x).toInt = 55 ∨ (f_op S x).toInt = 58 then aStore (f_op S x) (f_first S x) th b4 else b4) := by
      refine aE.ite (fun q => s4.store ?_) (fun _ => s4)
      by_cases z : (f_op S x).toInt = 55
      · have := v5 (Or.inr z); omega
      · have := v4 (by omega); omega
    have eT' : plc (qI S (f_takesOf S x + 1)) (qN S (f_takesOf S x + 1)) = tkV S x := eT.symm
    have eG' : plc (qI S (f_givesOf S x + 1)) (qN S (f_givesOf S x + 1)) = gvV S x := eG.symm
    have z0 : plc (qI S (f_givesOf S x + 1)) 0 = 0 := rfl
    refine aE.gives _ 0 _ _ s5 (by rw [tst]; omega) ?_
    rw [tst, Nat.zero_add, eG', z0]
    omega
/-! one bit only (behind htV_ok, cg_wk) -/
theorem n_low {n j k : Nat} (hj : n.testBit j = true) (h : j < k) : (n - 1).testBit k = n.testBit k ∧ 1 ≤ n := by
  have r0 : n % 2 ^ k ≠ 0 := fun q => by
    have e := Nat.testBit_mod_two_pow n k j
    rw [q, hj, Nat.zero_testBit, decide_eq_true h] at e
    exact absurd e (by decide)
  have p : 0 < 2 ^ k := Nat.two_pow_pos k
  have d := Nat.div_add_mod n (2 ^ k)
  have l := Nat.mod_lt n p
  have e1 : n - 1 = 2 ^ k * (n / 2 ^ k) + (n % 2 ^ k - 1) := by omega
  have e2 : (n - 1) / 2 ^ k = n / 2 ^ k := by
    have lt : n % 2 ^ k - 1 < 2 ^ k := by omega
    rw [e1, Nat.mul_add_div p, Nat.div_eq_of_lt lt, Nat.add_zero]
  refine ⟨?_, by omega⟩
  rw [Nat.testBit_eq_decide_div_mod_eq, Nat.testBit_eq_decide_div_mod_eq, e2]
theorem bt_one {v : Int32} (h : (v &&& (v - 1)).toInt = 0) {j k : Nat} (hj : bt v j = true) (hk : bt v k = true) : j = k := by
  have z : v &&& (v - 1) = 0 := Int32.toInt_inj.mp (by rw [h]; rfl)
  have key : ∀ j k : Nat, j < k → bt v j = true → bt v k = true → False := fun j k hl hj hk => by
    unfold bt at hj hk
    have b : (v &&& (v - 1)).toBitVec.getLsbD k = false := by
      rw [z]
      show (0 : Int32).toBitVec.getLsbD k = false
      have e0 : (0 : Int32).toBitVec = 0#32 := rfl
      rw [e0, BitVec.getLsbD_zero]
    rw [Int32.toBitVec_and, BitVec.getLsbD_and, hk, Bool.true_and, Int32.toBitVec_sub] at b
    rw [← BitVec.testBit_toNat] at hj hk b
    obtain ⟨q1, q2⟩ := n_low hj hl
    have e1 : (1 : Int32).toBitVec = 1#32 := rfl
    rw [e1, BitVec.toNat_sub_of_le (by rw [BitVec.le_def]; exact q2)] at b
    have e3 : v.toBitVec.toNat - (1#32).toNat = v.toBitVec.toNat - 1 := rfl
    rw [e3, q1, hk] at b
    exact absurd b (by decide)
  rcases Nat.lt_trichotomy j k with q | q | q
  · exact (key j k q hj hk).elim
  · exact q
  · exact (key k j q hk hj).elim
theorem htV_one {v : Int32} (h : 0 ≤ htV v) {k : Nat} (hk : bt v k = true) : htV v = k := by
  have o := htV_ok h
  have z : (v &&& (v - 1)).toInt = 0 := by
    unfold htV at h
    by_cases c1 : v.toInt = 0
    · rw [if_pos c1] at h; omega
    · rw [if_neg c1] at h
      by_cases c2 : (v &&& (v - 1)).toInt = 0
      · exact c2
      · rw [if_neg c2] at h; omega
  have := bt_one z o.1 hk
  omega
/-- a come row without fault has one height, in range -/
theorem FtI.ht {S : MS} {p : Nat} (h : FtI S p) {x : Int32} (hx : 0 ≤ x.toInt ∧ x.toInt < (qI S 0 52).toInt) (hc : CmI S) (hj : cmJ S x.toInt.toNat) : 0 ≤ htV (qI S 22 x.toInt.toNat) ∧ rgV S x (htV (qI S 22 x.toInt.toNat)) ∧ bt (qI S 22 x.toInt.toNat) (htV (qI S 22 x.toInt.toNat)).toNat = true := by
  have n := (h x hx.1 hx.2).1
  have nz := hc x.toInt.toNat (by omega) hj
  unfold hfV at n
  have h0 : 0 ≤ htV (qI S 22 x.toInt.toNat) := Decidable.byContradiction fun q => n ⟨nz, Or.inl (by omega)⟩
  exact ⟨h0, Classical.byContradiction fun q => n ⟨nz, Or.inr q⟩, (htV_ok h0).1⟩
/-! what a checked method promises at every place that is reached (behind cg_wk, FtI.ht, LkI.ways) -/
def nxT (S : MS) (j : Nat) (y : Int) (t : Nat → Int32) : Prop := cmJ S j ∧ htV (qI S 22 j) = y ∧ ∀ k : Nat, (k : Int) < 24 + y → sbT (t k) (qI S 23 (48 * j + k))
noncomputable def wkT (S : MS) (x : Int32) (p : Nat) (a : AS) : Nat → Int32 := fun k => if k < 24 then aL (wkV S x p a) k else aP (wkV S x p a) (k - 24)
/-- the types at x are a, the work fits, and what it gives fits all that follow -/
def StT (S : MS) (x : Int32) (p : Nat) (a : AS) : Prop := MtA S x.toInt.toNat a ∧ ¬ (aF (wkV S x p a)).toInt = 0 ∧ (tkV S x ≤ (aT a).toInt ∧ (aT a).toInt ≤ (qI S 0 56).toInt ∧ (aT a).toInt - tkV S x + gvV S x ≤ (qI S 0 56).toInt) ∧ ((f_goesOn S (f_op S x)).toInt ≠ 0 → x.toInt + 1 < (qI S 0 52).toInt ∧ nxT S (x.toInt.toNat + 1) ((aT a).toInt - tkV S x + gvV S x) (wkT S x p a)) ∧ (∀ k : Int32, 0 ≤ k.toInt → k.toInt < (f_ways S x).toInt → nxT S (f_way S x k).toInt.toNat ((aT a).toInt - tkV S x + gvV S x) (wkT S x p a)) ∧ (∀ c : Int32, 0 ≤ c.toInt → c.toInt < (qI S 0 54).toInt → ((f_isCaught S x c).toInt ≠ 0 → nxT S (f_catchWord S c 2).toInt.toNat 1 (fun k => if k < 24 then aL a k else 5))) ∧ cmJ S x.toInt.toNat
theorem VmI.st {S : MS} {s p : Nat} (h : VmI S s p) (K : LkI S) (T : TxI S) (h56 : 0 ≤ (qI S 0 56).toInt ∧ (qI S 0 56).toInt ≤ 24) {x : Int32} (hx : 0 ≤ x.toInt ∧ x.toInt < (qI S 0 52).toInt) (hc : cmJ S x.toInt.toNat) : ∃ a : AS, StT S x p a := by
  obtain ⟨hH, hT, hF, -⟩ := h
  obtain ⟨a, ma, c1, c2, c3⟩ := hT.2.2 x hx.1 hx.2 hc (hF x hx.1 hx.2).1
  obtain ⟨b, mb, fb⟩ := (hF x hx.1 hx.2).2 hc
  obtain ⟨y0, yr, yb⟩ := hF.ht hx hT.1 hc
  have y56 := hH.1 x.toInt.toNat (htV (qI S 22 x.toInt.toNat)).toNat (by omega) yb
  have cl := hH.2.2 x (htV (qI S 22 x.toInt.toNat)).toNat hx.1 hx.2 yb (by rw [Int.toNat_of_nonneg y0]; exact yr)
  rw [Int.toNat_of_nonneg y0] at y56
  obtain ⟨l1, l2, l3⟩ := cl
  rw [Int.toNat_of_nonneg y0] at l1 l2
  obtain ⟨r1, r2, r3, r4⟩ := yr
  have tl : tkV S x ≤ htV (qI S 22 x.toInt.toNat) := by
    unfold hbV at r1
    by_cases q : tkV S x ≤ htV (qI S 22 x.toInt.toNat)
    · exact q
    · rw [if_neg q] at r1; omega
  have hb : hbV S x (htV (qI S 22 x.toInt.toNat)) = htV (qI S 22 x.toInt.toNat) - tkV S x + gvV S x := by unfold hbV; rw [if_pos tl]
  rw [hb] at r1 r2 l1 l2
  have ta := ma.2.2
  have cg := cg_wk (p := p) K T hx ⟨by omega, by omega, by omega⟩ (ma.q mb)
  have nx : ∀ (j : Int32) (y : Int) (t : Nat → Int32), (0 ≤ j.toInt ∧ j.toInt < (qI S 0 52).toInt) → 0 ≤ y → bt (qI S 22 j.toInt.toNat) y.toNat = true → cmJ S j.toInt.toNat ∧ sbR S j.toInt.toNat t → nxT S j.toInt.toNat y t := fun j y t hj hy hb2 hs => by
    obtain ⟨z0, zr, zb⟩ := hF.ht hj hT.1 hs.1
    have e := htV_one z0 hb2
    rw [Int.toNat_of_nonneg hy] at e
    refine ⟨hs.1, e, fun k hk => hs.2 z0 k (by omega)⟩
  refine ⟨a, ma, by rw [cg.2.2.1]; exact fb, ⟨by omega, by omega, by omega⟩, fun g => ?_, fun k k0 k1 => ?_, fun c k0 k1 g => ?_, hc⟩
  · have xl : x.toInt + 1 < (qI S 0 52).toInt := by
      rcases r4 with q | q
      · exact absurd q g
      · omega
    have cn := K.cnt
    have ex : (x + (1 : Int32)).toInt = x.toInt + 1 := by rw [t_add (by rw [li_1]; omega), li_1]
    have en : x.toInt.toNat + 1 = (x + (1 : Int32)).toInt.toNat := by omega
    rw [ta]
    have b1 := l1 g
    have s1 := c1 g
    rw [en] at b1 s1 ⊢
    exact ⟨xl, nx _ _ _ ⟨by omega, by omega⟩ (by omega) b1 s1⟩
  · rw [ta]
    exact nx _ _ _ ((K.ways hx).2.2 k k0 k1).2 (by omega) (l2 k k0 k1) (c2 k k0 k1)
  · exact nx _ _ _ (K.cw ⟨k0, k1⟩).2.2.1 (by omega) (l3 c k0 k1 g) (c3 c k0 k1 g)
