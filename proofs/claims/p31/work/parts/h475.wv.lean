/-! Writer: what the pool holds, in slots -/
noncomputable def cIn (P : Nat → Prop) : Nat → Nat
  | 0 => 0
  | n + 1 => cIn P n + @ite Nat (P n) (Classical.propDecidable _) 1 0
theorem cIn_s {P : Nat → Prop} {n : Nat} : cIn P (n + 1) = cIn P n + @ite Nat (P n) (Classical.propDecidable _) 1 0 := rfl
theorem cIn_le {P : Nat → Prop} : ∀ n : Nat, cIn P n ≤ n := by
  intro n
  induction n with
  | zero => exact Nat.le_refl _
  | succ n ih => rw [cIn_s]; split <;> omega
theorem cIn_mo {P R : Nat → Prop} (h : ∀ s, P s → R s) : ∀ n : Nat, cIn P n ≤ cIn R n := by
  intro n
  induction n with
  | zero => exact Nat.le_refl _
  | succ n ih =>
    rw [cIn_s, cIn_s]
    by_cases z : P n
    · rw [if_pos z, if_pos (h n z)]; omega
    · rw [if_neg z]; omega
theorem cIn_up {P R : Nat → Prop} {s : Nat} (h : ∀ s, P s → R s) (h0 : ¬ P s) (h1 : R s) : ∀ n : Nat, s < n → cIn P n + 1 ≤ cIn R n := by
  intro n
  induction n with
  | zero => intro hn; omega
  | succ n ih =>
    intro hn
    rw [cIn_s, cIn_s]
    by_cases y : s = n
    · subst y
      have := cIn_mo h s
      rw [if_neg h0, if_pos h1]; omega
    · have := ih (by omega)
      by_cases z : P n
      · rw [if_pos z, if_pos (h n z)]; omega
      · rw [if_neg z]; omega
/-- where the names of the Unit that is written stand -/
def offS (S : MS) (s : Nat) : Int32 := if s = 0 then qI S (qO S 25 7) 2 else if s = 1 then qI S (qO S 25 7) 3 else if s < 26 then qI S (qO S (qO S 25 7) 5) (s - 2) else if s < 50 then qI S (qO S (qO S 25 7) 6) (s - 26) else if s < 74 then qI S (qO S (qO S 25 7) 9) (s - 50) else qI S (qO S (qO S 25 7) 10) (s - 74)
def PtI (S U : MS) : Prop := (qI U 26 1).toInt ≤ 9 * (qI U 25 5).toInt + 103 * (cIn (fun s => InP (nmW S (offS S s)) (3 + (nmNk S (offS S s)).toInt.toNat) U) 98 : Int) + 43 * (cIn (fun t => InP (txWk (t + 1)) (3 + sLc.getD (t + 1) 0) U) 4 : Int)
/-- the Unit that is written is as it was -/
def uS (S U : MS) : Prop := qR U 25 7 = qR S 25 7 ∧ (∀ j, qI U (qO S 25 7) j = qI S (qO S 25 7) j ∧ qR U (qO S 25 7) j = qR S (qO S 25 7) j) ∧ ∀ j, (j = 0 ∨ (5 ≤ j ∧ j ≤ 7) ∨ (9 ≤ j ∧ j ≤ 12)) → qI U (qO S (qO S 25 7) j) = qI S (qO S (qO S 25 7) j) ∧ qN U (qO S (qO S 25 7) j) = qN S (qO S (qO S 25 7) j)
def okU (K : List Nat) : Bool := K.all (fun x => !(([49, 50, 105, 231, 232, 233, 234, 235, 236, 237] : List Nat).contains x))
def okUF (F : List (Nat × Nat)) : Bool := F.all (fun x => !(x.1 == 49) && !(x == (50, 7)) && Nat.blt x.1 100)
section WV
variable {B : Nat × Nat} {K : List Nat} {F : List (Nat × Nat)} {S u v U : MS} {i j s L p : Nat} {x y a r : Int32} {n k : Int}
theorem okU_n {t : Nat} (h : okU K = true) (m : ([49, 50, 105, 231, 232, 233, 234, 235, 236, 237] : List Nat).contains t = true) : K.contains t = false := by
  cases e : K.contains t with
  | false => rfl
  | true =>
    have := List.all_eq_true.mp h _ (List.contains_iff_mem.mp e)
    rw [m] at this
    cases this
theorem okUF_n {t : Nat} (h : okUF F = true) (m : t = 49 ∨ (t = 50 ∧ j = 7) ∨ 100 ≤ t) : F.contains (t, j) = false := by
  cases e : F.contains (t, j) with
  | false => rfl
  | true =>
    have := List.all_eq_true.mp h _ (List.contains_iff_mem.mp e)
    simp [Nat.blt, Nat.ble_eq] at this
    rcases m with m | ⟨m1, m2⟩ | m
    · exact absurd m this.1.1
    · exact absurd m2 (this.1.2 m1)
    · omega
theorem uS.rf : uS S S := ⟨rfl, fun _ => ⟨rfl, rfl⟩, fun _ _ => ⟨rfl, rfl⟩⟩
theorem uS.O (h : uS S U) : qO U 25 7 = qO S 25 7 := qO_eq h.1
theorem uS.fr (h : uS S U) (hu : qR S 25 7 = some (qO S 25 7)) (w : wfC U) (g : ShC B U) (f : cfr K F U u) (hK : okU K = true) (hF : okUF F = true) : uS S u := by
  obtain ⟨h1, h2, h3⟩ := h
  have o7 : qO U 25 7 = qO S 25 7 := qO_eq h1
  have k7 : qT U (qO S 25 7) = 49 := w.ref (h1.trans hu) w.k25
  have un := (g.2.1 _ k7).1
  have e7 : ∀ j, qI u (qO S 25 7) j = qI U (qO S 25 7) j ∧ qR u (qO S 25 7) j = qR U (qO S 25 7) j := fun j => by
    have := f.2.2 (qO S 25 7) j (by rw [k7]; decide) (by rw [k7]; exact okU_n hK (by decide)) (by rw [k7]; exact okUF_n hF (Or.inl rfl))
    exact ⟨this.1, this.2.2⟩
  have row : ∀ j t : Nat, qR U (qO S 25 7) j = some (qO U (qO S 25 7) j) → qT U (qO U (qO S 25 7) j) = t → 100 ≤ t → ([49, 50, 105, 231, 232, 233, 234, 235, 236, 237] : List Nat).contains t = true → qI u (qO S (qO S 25 7) j) = qI U (qO S (qO S 25 7) j) ∧ qN u (qO S (qO S 25 7) j) = qN U (qO S (qO S 25 7) j) := fun j t _ kt ht m => by
    rw [qO_eq (h2 j).2] at kt
    exact ⟨funext fun i => (f.2.2 _ i (by omega) (by rw [kt]; exact okU_n hK m) (by rw [kt]; exact okUF_n hF (Or.inr (Or.inr ht)))).1, (f.1.1 _ (by omega)).2⟩
  have all : ∀ j, (j = 0 ∨ (5 ≤ j ∧ j ≤ 7) ∨ (9 ≤ j ∧ j ≤ 12)) → qI u (qO S (qO S 25 7) j) = qI U (qO S (qO S 25 7) j) ∧ qN u (qO S (qO S 25 7) j) = qN U (qO S (qO S 25 7) j) := fun j hj => by
    have : j = 0 ∨ j = 5 ∨ j = 6 ∨ j = 7 ∨ j = 9 ∨ j = 10 ∨ j = 11 ∨ j = 12 := by omega
    obtain ⟨r0, r5, r6, r7, r9, r10, r11, r12, r13⟩ := un
    rcases this with rfl | rfl | rfl | rfl | rfl | rfl | rfl | rfl
    · exact row 0 105 r0 (w.ref r0 k7) (by decide) (by decide)
    · exact row 5 231 r5 (w.ref r5 k7) (by decide) (by decide)
    · exact row 6 232 r6 (w.ref r6 k7) (by decide) (by decide)
    · exact row 7 233 r7 (w.ref r7 k7) (by decide) (by decide)
    · exact row 9 234 r9 (w.ref r9 k7) (by decide) (by decide)
    · exact row 10 235 r10 (w.ref r10 k7) (by decide) (by decide)
    · exact row 11 236 r11 (w.ref r11 k7) (by decide) (by decide)
    · exact row 12 237 r12 (w.ref r12 k7) (by decide) (by decide)
  refine ⟨?_, fun j => ⟨(e7 j).1.trans (h2 j).1, (e7 j).2.trans (h2 j).2⟩, fun j hj => ⟨(all j hj).1.trans (h3 j hj).1, (all j hj).2.trans (h3 j hj).2⟩⟩
  have := f.2.2 25 7 (by rw [w.k25]; decide) (by rw [w.k25]; exact okU_n hK (by decide)) (by rw [w.k25]; exact okUF_n hF (Or.inr (Or.inl ⟨rfl, rfl⟩)))
  exact this.2.2.trans h1
theorem uS.ub (h : uS S U) (y : Int32) : fX11_unitByte U y = fX11_unitByte S y := by
  unfold fX11_unitByte
  rw [h.O, qO_eq (h.2.1 0).2, (h.2.2 0 (Or.inl rfl)).1, (h.2.2 0 (Or.inl rfl)).2]
  rfl
theorem uS.nw (h : uS S U) : nmW U a = nmW S a := by funext i; unfold nmW; rw [h.ub]
theorem uS.nn (h : uS S U) : nmNk U a = nmNk S a := by unfold nmNk; rw [h.ub, h.ub]
theorem nmN_of (w : wfC S) (h : uNm S (qO S 25 7) a) (k : qT S (qO S (qO S 25 7) 0) = 105) : (nmNk S a).toInt ≤ 100 := by
  obtain ⟨h1, h2, h3⟩ := h
  have l := w.len9 k (by decide)
  have e1 : (a + (1 : Int32)).toInt = a.toInt + 1 := by rw [t_addk (by rw [li_1k]; omega), li_1k]
  have e2 : (a + (2 : Int32)).toInt = a.toInt + 2 := by rw [t_addk (by rw [li_2k]; omega), li_2k]
  have : nmNk S a = nl2 (qI S (qO S (qO S 25 7) 0)) a := by
    unfold nmNk nl2 fX11_unitByte
    rw [e1, e2, if_neg (by omega), if_pos (by omega), if_neg (by omega), if_pos (by omega)]
  rw [this]; exact h3
/-- Writer at work on the Unit of S -/
def WvI (B : Nat × Nat) (S U : MS) : Prop := (WpI B U ∧ PtI S U) ∧ uS S U ∧ (qR S 25 7 = some (qO S 25 7) ∧ NmU S (qO S 25 7)) ∧ (wfC S ∧ qT S (qO S (qO S 25 7) 0) = 105)
theorem PtI.le (h : PtI S U) (hp : PoI U) : (qI U 26 1).toInt ≤ 14800 := by
  have h1 := cIn_le (P := fun s => InP (nmW S (offS S s)) (3 + (nmNk S (offS S s)).toInt.toNat) U) 98
  have h2 := cIn_le (P := fun t => InP (txWk (t + 1)) (3 + sLc.getD (t + 1) 0) U) 4
  have h3 := hp.1
  unfold PtI at h
  omega
def WvQ (B : Nat × Nat) (S U u : MS) (r : Int32) : Prop := WvI B S u ∧ (0 ≤ r.toInt ∧ r.toInt < 500) ∧ qI u 28 1 = qI U 28 1 ∧ cfr [101, 238, 239] [(40, 0), (40, 1), (50, 5), (50, 6)] U u
theorem PtI.mo (h : PtI S U) (m : ∀ W L, InP W L U → InP W L u) (c : (qI u 26 1).toInt + 9 * (qI U 25 5).toInt ≤ (qI U 26 1).toInt + 9 * (qI u 25 5).toInt) : PtI S u := by
  have h1 := cIn_mo (P := fun s => InP (nmW S (offS S s)) (3 + (nmNk S (offS S s)).toInt.toNat) U) (R := fun s => InP (nmW S (offS S s)) (3 + (nmNk S (offS S s)).toInt.toNat) u) (fun s q => m _ _ q) 98
  have h2 := cIn_mo (P := fun t => InP (txWk (t + 1)) (3 + sLc.getD (t + 1) 0) U) (R := fun t => InP (txWk (t + 1)) (3 + sLc.getD (t + 1) 0) u) (fun s q => m _ _ q) 4
  unfold PtI at h ⊢
  omega
theorem WvI.sm (h : WvI B S U) (w : wfC U) (q : SmQ B U u r ∧ cfr [101, 238, 239] [(40, 0), (40, 1), (50, 5), (50, 6)] U u) : WvQ B S U u r := by
  obtain ⟨⟨h1, h2⟩, h3, h4, h5⟩ := h
  obtain ⟨⟨⟨q1, q2, q3, q4⟩, q5, q6⟩, f⟩ := q
  exact ⟨⟨⟨q1, h2.mo q2 q6⟩, h3.fr h4.1 w h1.1 f rfl rfl, h4, h5⟩, q3, q4, f⟩
theorem WvI.nm (h : WvI B S U) (w : wfC U) (hs : s < 98) (hv : uNm S (qO S 25 7) (offS S s)) (ea : a = offS S s) (q : NeQ B U u r (nmW U a) (3 + (nmNk U a).toInt.toNat) ∧ cfr [101, 238, 239] [(40, 0), (40, 1), (50, 5), (50, 6)] U u) : WvQ B S U u r := by
  subst ea
  obtain ⟨⟨h1, h2⟩, h3, h4, h5⟩ := h
  obtain ⟨⟨⟨q1, q2, q3, q4⟩, q5⟩, f⟩ := q
  rw [h3.nw, h3.nn] at q5
  refine ⟨⟨⟨q1, ?_⟩, h3.fr h4.1 w h1.1 f rfl rfl, h4, h5⟩, q3, q4, f⟩
  rcases q5 with ⟨a1, a2⟩ | ⟨a1, a2, a3, a4⟩
  · exact h2.mo q2 (by rw [a1, a2]; omega)
  · have n1 := nmN_of h5.1 hv h5.2
    have e1 := cIn_up (P := fun s => InP (nmW S (offS S s)) (3 + (nmNk S (offS S s)).toInt.toNat) U) (R := fun s => InP (nmW S (offS S s)) (3 + (nmNk S (offS S s)).toInt.toNat) u) (s := s) (fun s q => q2 _ _ q) a1 a2 98 hs
    have e2 := cIn_mo (P := fun t => InP (txWk (t + 1)) (3 + sLc.getD (t + 1) 0) U) (R := fun t => InP (txWk (t + 1)) (3 + sLc.getD (t + 1) 0) u) (fun s q => q2 _ _ q) 4
    unfold PtI at h2 ⊢
    omega
theorem WvI.tx (h : WvI B S U) (w : wfC U) {t : Nat} (ht : t < 4) (q : NeQ B U u r (txWk (t + 1)) (3 + sLc.getD (t + 1) 0) ∧ cfr [101, 238, 239] [(40, 0), (40, 1), (50, 5), (50, 6)] U u) : WvQ B S U u r := by
  obtain ⟨⟨h1, h2⟩, h3, h4, h5⟩ := h
  obtain ⟨⟨⟨q1, q2, q3, q4⟩, q5⟩, f⟩ := q
  refine ⟨⟨⟨q1, ?_⟩, h3.fr h4.1 w h1.1 f rfl rfl, h4, h5⟩, q3, q4, f⟩
  rcases q5 with ⟨a1, a2⟩ | ⟨a1, a2, a3, a4⟩
  · exact h2.mo q2 (by rw [a1, a2]; omega)
  · have n1 := tx_le (t + 1) (by omega)
    have e1 := cIn_mo (P := fun s => InP (nmW S (offS S s)) (3 + (nmNk S (offS S s)).toInt.toNat) U) (R := fun s => InP (nmW S (offS S s)) (3 + (nmNk S (offS S s)).toInt.toNat) u) (fun s q => q2 _ _ q) 98
    have e2 := cIn_up (P := fun t => InP (txWk (t + 1)) (3 + sLc.getD (t + 1) 0) U) (R := fun t => InP (txWk (t + 1)) (3 + sLc.getD (t + 1) 0) u) (s := t) (fun s q => q2 _ _ q) a1 a2 4 ht
    unfold PtI at h2 ⊢
    omega
theorem NeQ.sm {W : Nat → Int32} (q : NeQ B U u r W L) (hL : L ≤ 9) : SmQ B U u r := by
  obtain ⟨q1, q5⟩ := q
  refine ⟨q1, ?_⟩
  rcases q5 with ⟨a1, a2⟩ | ⟨a1, a2, a3, a4⟩
  · rw [a1, a2]; omega
  · omega
theorem WvI.pl (h : WvI B S U) : (qI U 26 1).toInt ≤ 16000 := by
  have := h.1.2.le h.1.1.2.1
  omega
theorem wv_name (h : WvI B S U) (w : wfC U) (hv : uNm S (qO S 25 7) (offS S s)) (ea : a = offS S s) : wX11_nameEntry U a (fun r u => NeQ B U u r (nmW U a) (3 + (nmNk U a).toInt.toNat) ∧ cfr [101, 238, 239] [(40, 0), (40, 1), (50, 5), (50, 6)] U u) := by
  have hu : qR U 25 7 = some (qO U 25 7) := by rw [h.2.1.1, h.2.1.O]; exact h.2.2.1.1
  exact frX11_nameEntry w (sp_nameEntryk (a := a) w h.1.1 hu h.pl (by rw [h.2.1.nn, ea]; exact nmN_of h.2.2.2.1 hv h.2.2.2.2))
theorem WvQ.tr {V : MS} (a : WvQ B S U u r) {r' : Int32} (b : WvQ B S u V r') : WvQ B S U V r' := ⟨b.1, b.2.1, b.2.2.1.trans a.2.2.1, a.2.2.2.tr b.2.2.2⟩
theorem wv_classOf (h : WvI B S U) (w : wfC U) : wX11_classOf U x (fun r u => WvQ B S U u r) := by
  unfold wX11_classOf
  refine ⟨fun _ => ⟨h, by decide, rfl, cfr.rf⟩, fun c => ⟨trivial, fun k12 => ?_⟩⟩
  obtain ⟨t, ht, e⟩ : ∃ t : Nat, t < 4 ∧ fX6_errorName U x = TXB + 2 * (t + 1) := by
    unfold fX6_errorName
    split
    · exact ⟨0, by decide, rfl⟩
    · split
      · exact ⟨1, by decide, rfl⟩
      · split
        · exact ⟨2, by decide, rfl⟩
        · exact ⟨3, by decide, rfl⟩
  rw [e]
  refine ⟨_, frX11_textEntry w (sp_textEntry (t := t + 1) (by omega) w h.1.1 h.pl), fun r6 S7 q7 w7 s7 => ?_⟩
  have h7 := h.tx w ht q7
  exact ⟨_, frX11_pointerEntry w7 (sp_pointerEntry w7 h7.1.1.1 h7.1.pl), fun r11 S12 q12 w12 s12 => h7.tr (h7.1.sm w7 q12)⟩
end WV
/-! Writer: entries of fields and methods, what an instruction needs -/
def okW (K : List Nat) : Bool := K.all (fun x => !(([40, 50, 101, 238, 239] : List Nat).contains x))
def okWF (F : List (Nat × Nat)) : Bool := F.all (fun x => !(x.1 == 40) && !(x == (50, 5)) && Nat.blt x.1 100)
section WF
variable {B : Nat × Nat} {K : List Nat} {F : List (Nat × Nat)} {S u v U V : MS} {i j s L p : Nat} {x y a r : Int32} {n k : Int}
theorem okW_n {t : Nat} (h : okW K = true) (m : ([40, 50, 101, 238, 239] : List Nat).contains t = true) : K.contains t = false := by
  cases e : K.contains t with
  | false => rfl
  | true =>
    have := List.all_eq_true.mp h _ (List.contains_iff_mem.mp e)
    rw [m] at this
    cases this
theorem okWF_n {t : Nat} (h : okWF F = true) (m : t = 40 ∨ (t = 50 ∧ j = 5) ∨ 100 ≤ t) : F.contains (t, j) = false := by
  cases e : F.contains (t, j) with
  | false => rfl
  | true =>
    have := List.all_eq_true.mp h _ (List.contains_iff_mem.mp e)
    simp [Nat.blt, Nat.ble_eq] at this
    rcases m with m | ⟨m1, m2⟩ | m
    · exact absurd m this.1.1
    · exact absurd m2 (this.1.2 m1)
    · omega
theorem WpI.fr (h : WpI B U) (w : wfC U) (f : cfr K F U u) (g : ShC B u) (hK : okW K = true) (hF : okWF F = true) : WpI B u ∧ (∀ W L, InP W L U → InP W L u) ∧ (qI u 25 5 = qI U 25 5 ∧ qI u 26 1 = qI U 26 1 ∧ qI u 28 1 = qI U 28 1) := by
  obtain ⟨-, po, ⟨b26, b28, b30⟩, n30, n28⟩ := h
  have e5 : qI u 25 5 = qI U 25 5 := f.kI w.k25 (okW_n hK (by decide)) (okWF_n hF (Or.inr (Or.inl ⟨rfl, rfl⟩)))
  have eb : ∀ b, qT U b = 40 → ∀ j, qI u b j = qI U b j ∧ qR u b j = qR U b j := fun b kb j => by
    have := f.2.2 b j (by rw [kb]; decide) (by rw [kb]; exact okW_n hK (by decide)) (by rw [kb]; exact okWF_n hF (Or.inl rfl))
    exact ⟨this.1, this.2.2⟩
  have er : ∀ b t, qT U b = t → 100 ≤ t → ([40, 50, 101, 238, 239] : List Nat).contains t = true → qI u b = qI U b ∧ qN u b = qN U b := fun b t kt ht m => ⟨funext fun i => (f.2.2 b i (by omega) (by rw [kt]; exact okW_n hK m) (by rw [kt]; exact okWF_n hF (Or.inr (Or.inr ht)))).1, (f.1.1 b (by omega)).2⟩
  have BB : ∀ b cap, qT U b = 40 → ByI U b cap → ByI u b cap := fun b cap kb q => by
    unfold ByI
    rw [qO_eq (eb b kb 0).2, (eb b kb 0).2, (eb b kb 1).1, (er _ _ (q.kr w kb) (by decide) (by decide)).2]
    exact q
  have o26 : qO u 26 0 = qO U 26 0 := qO_eq (eb 26 w.k26 0).2
  have o28 : qO u 28 0 = qO U 28 0 := qO_eq (eb 28 w.k28 0).2
  have o30 : qO u 30 0 = qO U 30 0 := qO_eq (eb 30 w.k30 0).2
  have e32 := (er 32 238 w.k32 (by decide) (by decide)).1
  have e33 := (er 33 239 w.k33 (by decide) (by decide)).1
  have c26 := (er _ 101 (b26.kr w w.k26) (by decide) (by decide)).1
  refine ⟨⟨g, ?_, ⟨BB _ _ w.k26 b26, BB _ _ w.k28 b28, BB _ _ w.k30 b30⟩, by rw [o26, o30]; exact n30, by rw [o26, o28]; exact n28⟩, fun W L q => ?_, e5, (eb 26 w.k26 1).1, (eb 28 w.k28 1).1⟩
  · unfold PoI
    rw [e5, (eb 26 w.k26 1).1, e32, e33]; exact po
  · unfold InP at q ⊢
    rw [e5, e32, e33, o26, c26]; exact q
theorem WvI.fr (h : WvI B S U) (w : wfC U) (f : cfr K F U u) (g : ShC B u) (hK : okW K = true) (hF : okWF F = true) (hU : okU K = true) (hV : okUF F = true) : WvI B S u ∧ qI u 28 1 = qI U 28 1 := by
  obtain ⟨⟨h1, h2⟩, h3, h4, h5⟩ := h
  obtain ⟨a, b, c1, c2, c3⟩ := h1.fr w f g hK hF
  exact ⟨⟨⟨a, h2.mo b (by rw [c1, c2]; omega)⟩, h3.fr h4.1 w h1.1 f hU hV, h4, h5⟩, c3⟩
/-- Writer goes on, nothing more in 'rest' -/
def WvR (B : Nat × Nat) (S U u : MS) : Prop := WvI B S u ∧ qI u 28 1 = qI U 28 1
theorem WvR.tr (a : WvR B S U u) (b : WvR B S u V) : WvR B S U V := ⟨b.1, b.2.trans a.2⟩
theorem WvQ.wr (a : WvQ B S U u r) : WvR B S U u := ⟨a.1, a.2.2.1⟩
theorem WvI.hu (h : WvI B S U) : qR U 25 7 = some (qO U 25 7) := by rw [h.2.1.1, h.2.1.O]; exact h.2.2.1.1
theorem WvI.un (h : WvI B S U) (w : wfC U) : qT U (qO U 25 7) = 49 ∧ UnK U (qO U 25 7) := by
  have k := w.ref h.hu w.k25
  exact ⟨k, h.1.1.1.2.1 _ k⟩
theorem fe_J60 {Q : Int32 → MS → Prop} (hx : 0 ≤ x.toInt ∧ x.toInt < 24) (h : WvR B S U V) (hQ : ∀ (r : Int32) (u : MS), WvR B S U u → Q r u) : w_X11_fieldEntryOf_J60 Q V x := by
  unfold w_X11_fieldEntryOf_J60
  exact fun _ => ⟨hx, hQ _ _ h⟩
theorem wv_fieldEntryOf (h : WvI B S U) (w : wfC U) : wX11_fieldEntryOf U x (fun _ u => WvR B S U u) := by
  have h0 : WvR B S U U := ⟨h, rfl⟩
  unfold wX11_fieldEntryOf
  refine ⟨fun _ => h0, fun c => ⟨fun d => ⟨by omega, fun _ => ⟨by omega, by omega, ?_⟩, fun _ => fe_J60 (by omega) h0 (fun _ _ q => q)⟩, fun _ => h0⟩⟩
  refine ⟨_, frX11_pointersEntry w (sp_pointersEntry w h.1.1 h.pl), fun r13 S14 q14 w14 s14 => ?_⟩
  have h14 := h.sm w q14
  refine ⟨_, frX11_pointersEntry w14 (sp_pointersEntry w14 h14.1.1.1 h14.1.pl), fun r18 S19 q19 w19 s19 => ⟨by omega, fun S23 e23 k23 w23 => ?_⟩⟩
  have h19 := h14.tr (h14.1.sm w14 q19)
  have f : cfr [242] [] S19 S23 := by rw [e23]; exact cfr.aI k23 rfl
  have g23 : ShC B S23 := ShC.ws w19 h19.1.1.1.1 f (by rw [e23]; rfl) (by rw [e23]; rfl) (by rw [e23]; rfl) rfl rfl
  exact fe_J60 (by omega) (h19.wr.tr (h19.1.fr w19 f g23 rfl rfl rfl rfl)) (fun _ _ q => q)
theorem me_J88 {Q : Int32 → MS → Prop} (hx : 0 ≤ x.toInt ∧ x.toInt < 24) (h : WvR B S U V) (hQ : ∀ (r : Int32) (u : MS), WvR B S U u → Q r u) : w_X11_methodEntryOf_J88 Q V x := by
  unfold w_X11_methodEntryOf_J88
  exact fun _ => ⟨hx, hQ _ _ h⟩
/-- the name and the type of method m -/
theorem WvI.mn (h : WvI B S U) (w : wfC U) {m : Nat} (hm : (m : Int) < (qN U (qO U (qO U 25 7) 9) : Int)) : m < 24 ∧ (qI U (qO U (qO U 25 7) 9) m = offS S (50 + m) ∧ uNm S (qO S 25 7) (offS S (50 + m))) ∧ (qI U (qO U (qO U 25 7) 10) m = offS S (74 + m) ∧ uNm S (qO S 25 7) (offS S (74 + m))) := by
  have un := (h.un w).2.2
  have us := h.2.1
  have e8 : qI U (qO S 25 7) 8 = qI S (qO S 25 7) 8 := (us.2.1 8).1
  rw [us.O] at hm un ⊢
  have nm := h.2.2.1.2.2.2 m (by rw [← e8]; omega)
  have m24 : m < 24 := by omega
  have o9 : offS S (50 + m) = qI S (qO S (qO S 25 7) 9) m := by
    unfold offS
    rw [if_neg (by omega), if_neg (by omega), if_neg (by omega), if_neg (by omega), if_pos (by omega), show 50 + m - 50 = m by omega]
  have o10 : offS S (74 + m) = qI S (qO S (qO S 25 7) 10) m := by
    unfold offS
    rw [if_neg (by omega), if_neg (by omega), if_neg (by omega), if_neg (by omega), if_neg (by omega), show 74 + m - 74 = m by omega]
  rw [o9, o10, qO_eq (us.2.1 9).2, qO_eq (us.2.1 10).2, (us.2.2 9 (by omega)).1, (us.2.2 10 (by omega)).1]
  exact ⟨m24, ⟨rfl, nm.1⟩, rfl, nm.2⟩
theorem wv_methodEntryOf (h : WvI B S U) (w : wfC U) : wX11_methodEntryOf U x (fun _ u => WvR B S U u) := by
  have h0 : WvR B S U U := ⟨h, rfl⟩
  have un := (h.un w).2
  unfold wX11_methodEntryOf
  refine ⟨fun _ => h0, fun c => ⟨fun _ => h0, fun d => ⟨h.hu, un.1.2.2.2.2.1, fun e => ⟨by omega, fun _ => ?_, fun _ => me_J88 (by omega) h0 (fun _ _ q => q)⟩, fun _ => h0⟩⟩⟩
  have mn := h.mn w (m := x.toInt.toNat) (by omega)
  refine ⟨h.hu, un.1.2.2.2.2.1, by omega, _, wv_name h w mn.2.1.2 mn.2.1.1, fun r21 S22 q22 w22 s22 => ?_⟩
  have h22 := h.nm w (by omega) mn.2.1.2 mn.2.1.1 q22
  have un2 := (h22.1.un w22).2
  have l2 := un2.2
  have l1 := un.2
  have us := h.2.1
  have us2 := h22.1.2.1
  have e8 : qI S22 (qO S22 25 7) 8 = qI U (qO U 25 7) 8 := by rw [us2.O, us.O, (us2.2.1 8).1, (us.2.1 8).1]
  rw [e8] at l2
  have mn2 := h22.1.mn w22 (m := x.toInt.toNat) (by omega)
  refine ⟨h22.1.hu, un2.1.2.2.2.2.2.1, by omega, _, wv_name h22.1 w22 mn2.2.2.2 mn2.2.2.1, fun r32 S33 q33 w33 s33 => ?_⟩
  have h33 := h22.tr (h22.1.nm w22 (by omega) mn2.2.2.2 mn2.2.2.1 q33)
  refine ⟨_, frX11_pointersEntry w33 (sp_pointersEntry w33 h33.1.1.1 h33.1.pl), fun r37 S38 q38 w38 s38 => ?_⟩
  have h38 := h33.tr (h33.1.sm w33 q38)
  refine ⟨_, frX11_pointersEntry w38 (sp_pointersEntry w38 h38.1.1.1 h38.1.pl), fun r42 S43 q43 w43 s43 => ⟨by omega, fun S47 e47 k47 w47 => ?_⟩⟩
  have h43 := h38.tr (h38.1.sm w38 q43)
  have f : cfr [243] [] S43 S47 := by rw [e47]; exact cfr.aI k47 rfl
  have g47 : ShC B S47 := ShC.ws w43 h43.1.1.1.1 f (by rw [e47]; rfl) (by rw [e47]; rfl) (by rw [e47]; rfl) rfl rfl
  exact me_J88 (by omega) (h43.wr.tr (h43.1.fr w43 f g47 rfl rfl rfl rfl)) (fun _ _ q => q)
theorem wv_needOf (h : WvI B S U) (w : wfC U) (hr : qR U 25 15 = some (qO U 25 15)) : wX11_needOf U x (fun _ u => WvR B S U u) := by
  have h0 : WvR B S U U := ⟨h, rfl⟩
  have k15 : qT U (qO U 25 15) = 47 := w.ref hr w.k25
  have J1 : ∀ a : Int64, w_X11_needOf_J110 (fun _ u => WvR B S U u) U a := fun a => by
    unfold w_X11_needOf_J110
    exact fun _ => ⟨_, wv_fieldEntryOf h w, fun _ _ q _ _ => q⟩
  have J2 : w_X11_needOf_J100 (fun _ u => WvR B S U u) U := by
    unfold w_X11_needOf_J100
    exact fun _ => h0
  unfold wX11_needOf
  refine ⟨hr, dd_X8_argAt w h.1.1.1 k15, fun a6 _ => ⟨hr, dd_X8_opAt w h.1.1.1 k15, fun _ => ⟨fun _ => h0, fun _ => ⟨_, frX11_intEntry w (sp_intEntry w h.1.1 h.pl), fun _ _ q _ _ => (h.sm w q).wr⟩⟩, fun _ => ⟨fun _ => ⟨fun _ => J2, fun _ => ⟨fun _ => J2, fun _ => ⟨_, frX11_longEntry w (sp_longEntry w h.1.1 h.pl), fun _ _ q _ _ => (h.sm w q).wr⟩⟩⟩, fun _ => ⟨fun _ => J1 a6, fun _ => ⟨fun _ => J1 a6, fun _ => ⟨fun _ => ⟨_, wv_methodEntryOf h w, fun _ _ q _ _ => q⟩, fun _ => h0⟩⟩⟩⟩⟩⟩
end WF
/-! Writer: layOut -/
section WL
variable {B : Nat × Nat} {K : List Nat} {F : List (Nat × Nat)} {S u v U V : MS} {i j s L p q : Nat} {x y a r : Int32} {n k : Int}
/-- Writer at work on Row q, with room for its places -/
def WlI (B : Nat × Nat) (S : MS) (q : Nat) (c : Int) (U : MS) : Prop := WvI B S U ∧ qR U 25 15 = some q ∧ (qI U q 2).toInt = c ∧ c < (qN U (qO U 25 17) : Int)
theorem WlI.O (h : WlI B S q n U) : qO U 25 15 = q := qO_of h.2.1
theorem WlI.hr (h : WlI B S q n U) : qR U 25 15 = some (qO U 25 15) := by rw [h.O]; exact h.2.1
theorem WlI.kq (h : WlI B S q n U) (w : wfC U) : qT U q = 47 := by
  have := w.ref h.hr w.k25
  rw [h.O] at this
  exact this
def okZ (K : List Nat) : Bool := K.all (fun x => !(([47, 50] : List Nat).contains x))
def okZF (F : List (Nat × Nat)) : Bool := F.all (fun x => !(x.1 == 47) && !(x == (50, 15)) && !(x == (50, 16)) && !(x == (50, 17)))
theorem okZ_n {t : Nat} (h : okZ K = true) (m : t = 47 ∨ t = 50) : K.contains t = false := by
  cases e : K.contains t with
  | false => rfl
  | true =>
    have := List.all_eq_true.mp h _ (List.contains_iff_mem.mp e)
    simp at this
    rcases m with m | m
    · exact absurd m this.1
    · exact absurd m this.2
theorem okZF_n {t : Nat} (h : okZF F = true) (m : t = 47 ∨ (t = 50 ∧ (j = 15 ∨ j = 16 ∨ j = 17))) : F.contains (t, j) = false := by
  cases e : F.contains (t, j) with
  | false => rfl
  | true =>
    have := List.all_eq_true.mp h _ (List.contains_iff_mem.mp e)
    simp at this
    rcases m with m | ⟨m1, m2 | m2 | m2⟩
    · exact absurd m this.1.1.1
    · exact absurd m2 (this.1.1.2 m1)
    · exact absurd m2 (this.1.2 m1)
    · exact absurd m2 (this.2 m1)
theorem WlI.fr (h : WlI B S q n U) (w : wfC U) (g : WvI B S u) (f : cfr K F U u) (hK : okZ K = true) (hF : okZF F = true) : WlI B S q n u := by
  have kq := h.kq w
  obtain ⟨h1, h2, h3, h4⟩ := h
  have l := f.kL (j := 17) w w.k25 (w.ptr (by decide)) (okZ_n hK (Or.inr rfl)) (okZF_n hF (Or.inr ⟨rfl, by omega⟩))
  refine ⟨g, ?_, ?_, by rw [l]; exact h4⟩
  · rw [f.kO w.k25 (okZ_n hK (Or.inr rfl)) (okZF_n hF (Or.inr ⟨rfl, by omega⟩))]; exact h2
  · rw [f.kI kq (okZ_n hK (Or.inl rfl)) (okZF_n hF (Or.inl rfl))]; exact h3
theorem lo_L53 {Q : Int32 → MS → Prop} (h0 : 0 ≤ n ∧ n ≤ 1296) (hQ : ∀ (r : Int32) (u : MS), WlI B S q n u → qI u 28 1 = qI U 28 1 → Q r u) : ∀ (m : Nat) {V : MS} {v1 v2 : Int32}, WlI B S q n V → qI V 28 1 = qI U 28 1 → 0 ≤ v2.toInt → 2147483648 - v2.toInt < m → w_X11_layOut_L53 Q m V v1 v2 := by
  intro m
  induction m with
  | zero => intro V v1 v2 _ _ _ hm; have := rgI v2; omega
  | succ m ih =>
    intro V v1 v2 h e28 hv hm
    unfold w_X11_layOut_L53
    intro w
    have c2 : (qI V (qO V 25 15) 2).toInt = n := by rw [h.O]; exact h.2.2.1
    have l17 := h.2.2.2
    have wk : (qN V (qO V 25 16) : Int) = (qN V (qO V 25 17) : Int) := h.1.1.1.1.2.2.2.2.1
    refine ⟨h.hr, fun c => ⟨h.hr, by omega, fun S12 e12 k12 w12 => ?_⟩, fun c => ⟨by omega, fun S15 e15 k15 w15 => ?_⟩⟩
    · have f : cfr [245] [] V S12 := by rw [e12]; exact cfr.aI k12 rfl
      have g12 : ShC B S12 := ShC.ws w h.1.1.1.1 f (by rw [e12]; rfl) (by rw [e12]; rfl) (by rw [e12]; rfl) rfl rfl
      have v12 := h.1.fr w f g12 rfl rfl rfl rfl
      exact hQ v1 S12 (h.fr w v12.1 f rfl rfl) (v12.2.trans e28)
    · have f : cfr [245] [] V S15 := by rw [e15]; exact cfr.aI k15 rfl
      have g15 : ShC B S15 := ShC.ws w h.1.1.1.1 f (by rw [e15]; rfl) (by rw [e15]; rfl) (by rw [e15]; rfl) rfl rfl
      have v15 := h.1.fr w f g15 rfl rfl rfl rfl
      have h15 := h.fr w v15.1 f rfl rfl
      refine ⟨_, frX11_needOf w15 (wv_needOf h15.1 w15 h15.hr), fun r18 S19 q19 w19 s19 => ?_⟩
      have h19 := h15.fr w15 q19.1.1 q19.2 rfl rfl
      have o16 : qO S19 25 16 = qO S15 25 16 := qO_eq (q19.2.kO w15.k25 rfl rfl)
      have wk19 : (qN S19 (qO S19 25 16) : Int) = (qN S19 (qO S19 25 17) : Int) := h19.1.1.1.1.2.2.2.2.1
      have l19 := h19.2.2.2
      rw [← o16]
      refine ⟨by omega, fun S23 e23 k23 w23 => ?_⟩
      have f2 : cfr [244] [] S19 S23 := by rw [e23]; exact cfr.aI k23 rfl
      have g23 : ShC B S23 := ShC.ws w19 h19.1.1.1.1 f2 (by rw [e23]; rfl) (by rw [e23]; rfl) (by rw [e23]; rfl) rfl rfl
      have v23 := h19.1.fr w19 f2 g23 rfl rfl rfl rfl
      have h23 := h19.fr w19 v23.1 f2 rfl rfl
      have wk23 : (qN S23 (qO S23 25 16) : Int) = (qN S23 (qO S23 25 17) : Int) := h23.1.1.1.1.2.2.2.2.1
      have l23 := h23.2.2.2
      refine ⟨dd_X11_lengthOf w23 g23 h23.hr hv (by omega), fun a28 _ a29 e29 => ?_⟩
      have e := t_inc e29 (by omega)
      exact ih h23 (v23.2.trans (q19.1.2.trans (v15.2.trans e28))) (by omega) (by omega)
theorem wv_layOut (h : WvI B S U) (w : wfC U) (hr : qR U 25 15 = some q) : wX11_layOut U (fun _ u => WlI B S q (qI U q 2).toInt u ∧ qI u 28 1 = qI U 28 1) := by
  have oq : qO U 25 15 = q := qO_of hr
  have hr' : qR U 25 15 = some (qO U 25 15) := by rw [oq]; exact hr
  have kq : qT U q = 47 := by have := w.ref hr' w.k25; rw [oq] at this; exact this
  have g := h.1.1.1
  have R := (g.row kq).2
  have J : ∀ V : MS, WlI B S q (qI U q 2).toInt V → qI V 28 1 = qI U 28 1 → w_X11_layOut_J49 (fun _ u => WlI B S q (qI U q 2).toInt u ∧ qI u 28 1 = qI U 28 1) V := fun V hV eV => by
    unfold w_X11_layOut_J49
    exact fun _ => ⟨2147483649, lo_L53 (U := U) ⟨R.1, by omega⟩ (fun _ _ a b => ⟨a, b⟩) _ hV eV (by decide) (by rw [li_0k]; decide)⟩
  unfold wX11_layOut
  refine ⟨hr', fun c => J U ⟨h, hr, rfl, by rw [oq] at c; exact c⟩ rfl, fun c => ⟨hr', ?_⟩⟩
  rw [oq] at c ⊢
  have m2 := mul2_of (x := qI U q 2) (by omega)
  have li2 := li_2k
  have e2 : ((2 : Int32) * (qI U q 2) + (2 : Int32)).toInt = 2 * (qI U q 2).toInt + 2 := by rw [t_addk (by omega), m2, li_2k]
  obtain ⟨N, hN⟩ : ∃ N : Nat, N = ((2 : Int32) * (qI U q 2) + (2 : Int32)).toInt.toNat := ⟨_, rfl⟩
  rw [← hN]
  have rm := g.rm
  have cp := g.cap
  have hN2 : 2 * qN U (qO U 25 17) + 2 ≤ N ∧ N ≤ 2594 := by omega
  have hroom : qn U + 2 ≤ KCC ∧ qu U + 2 * N ≤ KSC := by
    unfold RmK PSc PNc at rm
    unfold CpK at cp
    have z : hp2 U ≤ 20000 := by unfold hp2; split <;> omega
    omega
  refine ⟨⟨by omega, by omega, by omega⟩, fun S38 e38 w38 S40 e40 k40 w40 => ?_⟩
  obtain ⟨f1, n1, d1, q1, u1, r1, l1, t1, o1⟩ := nw_step (K := []) (F := [(50, 16), (50, 17)]) w g.dn e38 w38 e40 k40 rfl (by decide)
  have hT := KC_TX (n := qn U) (by omega)
  have hT1 := KC_TX (n := qn S40) (by omega)
  have r40 : qR S40 25 15 = some q := by rw [f1.kO w.k25 rfl rfl]; exact hr
  have o40 : qO S40 25 15 = q := qO_of r40
  have c40 : qI S40 q 2 = qI U q 2 := f1.kI kq rfl rfl
  rw [o40, c40, ← hN]
  refine ⟨r40, ⟨by omega, by omega, by omega⟩, fun S48 e48 w48 S50 e50 k50 w50 => ?_⟩
  obtain ⟨f2, n2, d2, q2, u2, r2, l2, t2, o2⟩ := nw_step (K := []) (F := [(50, 16), (50, 17)]) w40 d1 e48 w48 e50 k50 rfl (by decide)
  have FF := f1.tr f2
  have NK := n1.tr n2 f2.1
  have ne1 := w40.ne hT1 w40.k25 (by decide)
  have R17 : qR S50 25 17 = some (qn U) := by rw [o2 25 17 (fun _ => by decide) ne1, r1]
  have N17 : qN S50 (qn U) = N := by rw [(f2.1.1 _ (by rw [t1]; decide)).2, l1]
  have O17 := qO_of R17
  have O16 := qO_of r2
  have G : ShC B S50 := ShC.g_wr w g FF NK rfl (by unfold WrK; rw [O17, O16, N17, l2]) (by rw [O17, N17]; omega) (by rw [O17, N17]; omega) (by omega) (by rw [O17, N17]; omega)
  have v50 := h.fr w FF G rfl rfl rfl rfl
  refine J S50 ⟨v50.1, by rw [FF.kO w.k25 rfl rfl]; exact hr, by rw [FF.kI kq rfl rfl], by rw [O17, N17]; omega⟩ v50.2
end WL
/-! Writer: what is put into 'rest' -/
section WR
variable {B : Nat × Nat} {S u v U V : MS} {i j s L q : Nat} {x y a r : Int32} {c k m m' : Int}
/-- Writer goes on; 'rest' has at most m bytes more -/
def RsG (B : Nat × Nat) (S : MS) (q : Nat) (c : Int) (U u : MS) (m : Int) : Prop := WlI B S q c u ∧ ((qI U 28 1).toInt ≤ (qI u 28 1).toInt ∧ (qI u 28 1).toInt ≤ (qI U 28 1).toInt + m) ∧ rSm U u q ∧ cfr [101] [(40, 0), (40, 1)] U u
theorem RsG.rf (h : WlI B S q c U) : RsG B S q c U U 0 := ⟨h, by omega, rSm.rf, cfr.rf⟩
theorem RsG.tr (a : RsG B S q c U u m) (b : RsG B S q c u v m') : RsG B S q c U v (m + m') := ⟨b.1, by have := a.2.1; have := b.2.1; omega, a.2.2.1.tr b.2.2.1, a.2.2.2.tr b.2.2.2⟩
theorem RsG.mo (a : RsG B S q c U u m) (h : m ≤ m') : RsG B S q c U u m' := ⟨a.1, by have := a.2.1; omega, a.2.2⟩
theorem WlI.p28 (h : WlI B S q c U) (w : wfC U) (p : ByPk 28 k 65536 U u) (hk : 0 ≤ k) (fb : fB 28 U u) (f : cfr [101] [(40, 0), (40, 1)] U u) : RsG B S q c U u k := by
  have kq := h.kq w
  obtain ⟨⟨h1, h2⟩, h3, h4, h5⟩ := h.1
  obtain ⟨a, b, c1, c2, -⟩ := h1.w3 w (Or.inl ⟨rfl, rfl⟩) p fb
  have g : WvI B S u := ⟨⟨a, h2.mo b (by rw [c1, c2]; omega)⟩, h3.fr h4.1 w h1.1 f rfl rfl, h4, h5⟩
  exact ⟨h.fr w g f rfl rfl, by have := p.2.1; omega, rSm.fr w kq (h1.1.row kq) f rfl rfl rfl, f⟩
theorem p65 : 65536 ∈ p2L := by decide
theorem rs_put (h : WlI B S q c U) (w : wfC U) (hc : (qI U 28 1).toInt + 1 ≤ 65536) : wX0_put U 28 x (fun u => (ByPk 28 1 65536 U u ∧ fB 28 U u) ∧ cfr [101] [(40, 0), (40, 1)] U u) := frX0_put w (sp_putC w w.k28 h.1.1.1.2.2.1.2.1 p65 (by omega) h.1.1.1.1.rb_28 (fun _ a b => ⟨a, b.1⟩))
theorem rs_put2 (h : WlI B S q c U) (w : wfC U) (hc : (qI U 28 1).toInt + 2 ≤ 65536) : wX0_put2 U 28 x (fun u => (ByPk 28 2 65536 U u ∧ fB 28 U u) ∧ cfr [101] [(40, 0), (40, 1)] U u) := frX0_put2 w (sp_put2C w w.k28 h.1.1.1.2.2.1.2.1 p65 (by omega) h.1.1.1.1.rb_28 (fun _ a b _ _ => ⟨a, b⟩))
theorem rs_put4 (h : WlI B S q c U) (w : wfC U) (hc : (qI U 28 1).toInt + 4 ≤ 65536) : wX0_put4 U 28 x (fun u => (ByPk 28 4 65536 U u ∧ fB 28 U u) ∧ cfr [101] [(40, 0), (40, 1)] U u) := frX0_put4 w (sp_put4C w w.k28 h.1.1.1.2.2.1.2.1 p65 (by omega) h.1.1.1.1.rb_28 (fun _ a b => ⟨a, b⟩))
theorem RsG.p (a : RsG B S q c U V m) (w : wfC V) (hk : 0 ≤ k) (b : (ByPk 28 k 65536 V u ∧ fB 28 V u) ∧ cfr [101] [(40, 0), (40, 1)] V u) : RsG B S q c U u (m + k) := a.tr (a.1.p28 w b.1.1 hk b.1.2 b.2)
theorem rs_putLocal (h : WlI B S q c U) (w : wfC U) (hm : m = if y.toInt ≤ 3 then 1 else 2) (hc : (qI U 28 1).toInt + m ≤ 65536) : wX11_putLocal U x y (fun u => RsG B S q c U u m) := by
  have h0 := RsG.rf h
  have one : ∀ (z : Int32), y.toInt ≤ 3 → ∃ Q3, wX0_put U 28 z Q3 ∧ ∀ S4, Q3 S4 → wfC S4 → shx U S4 → RsG B S q c U S4 m := fun z d => by
    rw [if_pos d] at hm
    exact ⟨_, rs_put h w (by omega), fun S4 q4 w4 s4 => (h0.p w (by omega) q4).mo (by omega)⟩
  unfold wX11_putLocal
  refine ⟨fun d => ⟨fun _ _ => one _ d, fun _ => ⟨fun _ _ => one _ d, fun _ => ⟨fun _ _ => one _ d, fun _ => ⟨fun _ _ => one _ d, fun _ => ⟨fun _ _ => one _ d, fun _ _ => one _ d⟩⟩⟩⟩⟩, fun d _ => ?_⟩
  rw [if_neg d] at hm
  refine ⟨_, rs_put h w (by omega), fun S33 q33 w33 s33 _ => ?_⟩
  have h33 := h0.p w (by omega) q33
  exact ⟨_, rs_put h33.1 w33 (by have := h33.2.1; omega), fun S37 q37 w37 s37 => (h33.p w33 (by omega) q37).mo (by omega)⟩
theorem pi_J23 {Q : MS → Prop} (h : WlI B S q c U) (w : wfC U) (hc : (qI U 28 1).toInt + 3 ≤ 65536) (hQ : ∀ u : MS, RsG B S q c U u 3 → Q u) : w_X11_putInt_J23 Q U x y := by
  have h0 := RsG.rf h
  have two : ∀ (z t : Int32), ∃ Q31, wX0_put U 28 z Q31 ∧ ∀ S32, Q31 S32 → wfC S32 → shx U S32 → (qT S32 28 = 40 → ∃ Q35, wX0_put S32 28 t Q35 ∧ ∀ S36, Q35 S36 → wfC S36 → shx S32 S36 → Q S36) := fun z t =>
    ⟨_, rs_put h w (by omega), fun S32 q32 w32 s32 _ => by
      have h32 := h0.p w (by omega) q32
      exact ⟨_, rs_put h32.1 w32 (by have := h32.2.1; omega), fun S36 q36 w36 s36 => hQ _ ((h32.p w32 (by omega) q36).mo (by omega))⟩⟩
  have three : ∀ (z t : Int32), ∃ Q31, wX0_put U 28 z Q31 ∧ ∀ S32, Q31 S32 → wfC S32 → shx U S32 → (qT S32 28 = 40 → ∃ Q35, wX0_put2 S32 28 t Q35 ∧ ∀ S36, Q35 S36 → wfC S36 → shx S32 S36 → Q S36) := fun z t =>
    ⟨_, rs_put h w (by omega), fun S32 q32 w32 s32 _ => by
      have h32 := h0.p w (by omega) q32
      exact ⟨_, rs_put2 h32.1 w32 (by have := h32.2.1; omega), fun S36 q36 w36 s36 => hQ _ ((h32.p w32 (by omega) q36).mo (by omega))⟩⟩
  unfold w_X11_putInt_J23
  exact fun _ => ⟨dd_X11_isByte, fun _ => ⟨fun _ _ => three _ _, fun _ => ⟨fun _ _ => three _ _, fun _ _ => two _ _⟩⟩, fun _ _ => two _ _⟩
theorem rs_putInt (h : WlI B S q c U) (w : wfC U) (hm : m = if -1 ≤ x.toInt ∧ x.toInt ≤ 5 then 1 else 3) (hc : (qI U 28 1).toInt + m ≤ 65536) : wX11_putInt U x y (fun u => RsG B S q c U u m) := by
  have h0 := RsG.rf h
  unfold wX11_putInt
  refine ⟨fun d => ?_, fun d => ⟨fun e => ?_, fun e _ => ?_⟩⟩
  · rw [if_neg (by omega)] at hm
    exact pi_J23 h w (by omega) (fun u q => q.mo (by omega))
  · rw [if_neg (by omega)] at hm
    exact pi_J23 h w (by omega) (fun u q => q.mo (by omega))
  · rw [if_pos (by omega)] at hm
    exact ⟨_, rs_put h w (by omega), fun S43 q43 w43 s43 => (h0.p w (by omega) q43).mo (by omega)⟩
theorem rs_putLong {z : Int64} (h : WlI B S q c U) (w : wfC U) (hm : m = if z.toInt = 0 ∨ z.toInt = 1 then 1 else 3) (hc : (qI U 28 1).toInt + m ≤ 65536) : wX11_putLong U z y (fun u => RsG B S q c U u m) := by
  have h0 := RsG.rf h
  have z0 : (0 : Int64).toInt = 0 := by decide
  have z1 : (1 : Int64).toInt = 1 := by decide
  have c0 := c_cmpk (x := z) (y := 0)
  have c1 := c_cmpk (x := z) (y := 1)
  have J : (z.toInt = 0 ∨ z.toInt = 1) → w_X11_putLong_J12 (fun u => RsG B S q c U u m) U z := fun d => by
    rw [if_pos d] at hm
    unfold w_X11_putLong_J12
    exact fun _ _ => ⟨_, rs_put h w (by omega), fun S4 q4 w4 s4 => (h0.p w (by omega) q4).mo (by omega)⟩
  unfold wX11_putLong
  refine ⟨fun d => J (by omega), fun d => ⟨fun e => J (by omega), fun e _ => ?_⟩⟩
  rw [if_neg (by omega)] at hm
  refine ⟨_, rs_put h w (by omega), fun S11 q11 w11 s11 _ => ?_⟩
  have h11 := h0.p w (by omega) q11
  exact ⟨_, rs_put2 h11.1 w11 (by have := h11.2.1; omega), fun S15 q15 w15 s15 => (h11.p w11 (by omega) q15).mo (by omega)⟩
theorem rs_putGrow (h : WlI B S q c U) (w : wfC U) (hm : m = if (fX11_isByte U (y.toInt64)).toInt = 0 then 6 else 3) (hc : (qI U 28 1).toInt + m ≤ 65536) : wX11_putGrow U x y (fun u => RsG B S q c U u m) := by
  have h0 := RsG.rf h
  unfold wX11_putGrow
  refine ⟨dd_X11_isByte, fun d _ => ?_, fun d _ => ?_⟩
  · rw [if_pos d] at hm
    refine ⟨_, rs_put h w (by omega), fun S6 q6 w6 s6 _ => ?_⟩
    have h6 := h0.p w (by omega) q6
    refine ⟨_, rs_put h6.1 w6 (by have := h6.2.1; omega), fun S10 q10 w10 s10 _ => ?_⟩
    have h10 := h6.p w6 (by omega) q10
    refine ⟨_, rs_put2 h10.1 w10 (by have := h10.2.1; omega), fun S14 q14 w14 s14 _ => ?_⟩
    have h14 := h10.p w10 (by omega) q14
    exact ⟨_, rs_put2 h14.1 w14 (by have := h14.2.1; omega), fun S18 q18 w18 s18 => (h14.p w14 (by omega) q18).mo (by omega)⟩
  · rw [if_neg d] at hm
    refine ⟨_, rs_put h w (by omega), fun S22 q22 w22 s22 _ => ?_⟩
    have h22 := h0.p w (by omega) q22
    refine ⟨_, rs_put h22.1 w22 (by have := h22.2.1; omega), fun S26 q26 w26 s26 _ => ?_⟩
    have h26 := h22.p w22 (by omega) q26
    exact ⟨_, rs_put h26.1 w26 (by have := h26.2.1; omega), fun S30 q30 w30 s30 => (h26.p w26 (by omega) q30).mo (by omega)⟩
theorem WlI.of (h : WlI B S q c U) (w : wfC U) : d_X11_offsetOf U x := dd_X11_offsetOf w h.1.1.1.1 h.hr (by rw [h.O, h.2.2.1]; exact h.2.2.2)
theorem WlI.ta (h : WlI B S q c U) (w : wfC U) : d_X8_targetAt U (qO U 25 15) x y := by rw [h.O]; exact dd_X8_targetAt w h.1.1.1.1 (h.kq w)
theorem WlI.tb (h : WlI B S q c U) (w : wfC U) : d_X8_tableAt U (qO U 25 15) x := by rw [h.O]; exact dd_X8_tableAt w h.1.1.1.1 (h.kq w)
/-- the ways of a switch -/
theorem ps_L180 {Q : MS → Prop} {v1 v3 v4 v5 : Int32} {per : Int} (hper : per = if v5.toInt = 0 then 8 else 4) (h4 : v4.toInt ≤ 300) (hR : (qI U 28 1).toInt + m + per * 300 ≤ 65536) (hQ : ∀ (u : MS) (t : Nat), ((t : Int) ≤ v4.toInt ∨ t = 0) → RsG B S q c U u (m + per * t) → Q u) : ∀ (n : Nat) {V : MS} {v6 : Int32} (t : Nat), v6.toInt = (t : Int) + 1 → RsG B S q c U V (m + per * t) → (t : Int) ≤ v4.toInt ∨ t = 0 → 2147483648 - v6.toInt < n → w_X11_putSwitch_L180 Q n V v1 v3 v4 v5 v6 := by
  have per2 : 4 ≤ per ∧ per ≤ 8 := by rw [hper]; split <;> omega
  intro n
  induction n with
  | zero => intro V v6 t _ _ _ hm; have := rgI v6; omega
  | succ n ih =>
    intro V v6 t h6 h ht hm
    unfold w_X11_putSwitch_L180
    intro w h5
    have step : ∀ W : MS, wfC W → ¬ v4.toInt < v6.toInt → RsG B S q c U W (m + per * (t + 1 : Nat) - 4) → w_X11_putSwitch_J215 Q (w_X11_putSwitch_L180 Q n) W v1 v3 v4 v5 v6 := fun W wW d hW => by
      unfold w_X11_putSwitch_J215
      intro _ _
      have b1 : per * (t + 1 : Nat) ≤ per * 300 := Int.mul_le_mul_of_nonneg_left (by omega) (by omega)
      refine ⟨hW.1.hr, hW.1.ta wW, fun a57 _ => ⟨hW.1.of wW, fun a61 _ => ⟨hW.1.of wW, fun a65 _ _ => ⟨_, rs_put4 hW.1 wW (by have := hW.2.1; omega), fun S68 q68 w68 s68 a71 e71 => ?_⟩⟩⟩⟩
      have e := t_inc e71 (by omega)
      refine ih (t + 1) (by omega) ((hW.p wW (by omega) q68).mo (by omega)) (Or.inl (by omega)) (by omega)
    refine ⟨fun _ => hQ V t ht h, fun d => ⟨fun e => ?_, fun e => step V w d (h.mo ?_)⟩⟩
    · rw [if_pos e] at hper
      have b1 : per * (t + 1 : Nat) ≤ per * 300 := Int.mul_le_mul_of_nonneg_left (by omega) (by omega)
      have b2 : per * (t + 1 : Nat) = per * t + per := by rw [Int.natCast_add, Int.mul_add]; omega
      refine ⟨h.1.hr, h.1.tb w, fun a81 _ _ => ⟨_, rs_put4 h.1 w (by have := h.2.1; omega), fun S83 q83 w83 s83 => step S83 w83 d ((h.p w (by omega) q83).mo (by omega))⟩⟩
    · have b2 : per * (t + 1 : Nat) = per * t + per := by rw [Int.natCast_add, Int.mul_add]; omega
      omega
end WR
/-! Writer: an instruction, with what it weighs -/
section WX
variable {B : Nat × Nat} {S u v U V : MS} {i j s L q : Nat} {x y a r : Int32} {c k m m' : Int}
theorem ps_J177 {Q : MS → Prop} {v1 v3 v4 v5 : Int32} {per : Int} (hper : per = if v5.toInt = 0 then 8 else 4) (h4 : v4.toInt ≤ 300) (hR : (qI U 28 1).toInt + m + per * 300 ≤ 65536) (h : RsG B S q c U V m) (hQ : ∀ (u : MS) (t : Nat), ((t : Int) ≤ v4.toInt ∨ t = 0) → RsG B S q c U u (m + per * t) → Q u) : w_X11_putSwitch_J177 Q V v1 v3 v4 v5 := by
  unfold w_X11_putSwitch_J177
  exact fun _ _ => ⟨2147483649, ps_L180 hper h4 hR hQ _ 0 (by decide) (h.mo (by rw [show ((0 : Nat) : Int) = 0 from rfl, Int.mul_zero]; omega)) (Or.inr rfl) (by rw [li_1k]; decide)⟩
theorem ps_J95 {Q : MS → Prop} {v1 v3 v4 v5 : Int32} {per bs : Int} (hper : (per = if v5.toInt = 0 then 8 else 4) ∧ (bs = if v5.toInt = 0 then 12 else 16)) (h4 : v4.toInt ≤ 300) (hR : (qI U 28 1).toInt + 2500 ≤ 65536) (w : wfC V) (h : RsG B S q c U V 4) (hQ : ∀ (u : MS) (t : Nat), ((t : Int) ≤ v4.toInt ∨ t = 0) → RsG B S q c U u (bs + per * t) → Q u) : w_X11_putSwitch_J95 Q V v1 v3 v4 v5 := by
  have p2 : per ≤ 8 ∧ bs ≤ 16 := by rw [hper.1, hper.2]; split <;> omega
  unfold w_X11_putSwitch_J95
  intro _ _
  refine ⟨h.1.hr, h.1.ta w, fun a37 _ => ⟨h.1.of w, fun a41 _ => ⟨h.1.of w, fun a45 _ _ => ⟨_, rs_put4 h.1 w (by have := h.2.1; omega), fun S48 q48 w48 s48 => ?_⟩⟩⟩⟩
  have h48 := h.p w (by omega) q48
  refine ⟨fun d _ => ?_, fun d => ?_⟩
  · rw [if_pos d, if_pos d] at hper
    refine ⟨_, rs_put4 h48.1 w48 (by have := h48.2.1; omega), fun S88 q88 w88 s88 => ?_⟩
    have h88 := h48.p w48 (by omega) q88
    exact ps_J177 (by rw [if_pos d]; exact hper.1) h4 (by omega) (h88.mo (m' := bs) (by omega)) hQ
  · rw [if_neg d, if_neg d] at hper
    refine ⟨h48.1.hr, h48.1.tb w48, fun a97 _ _ => ⟨_, rs_put4 h48.1 w48 (by have := h48.2.1; omega), fun S99 q99 w99 s99 => ?_⟩⟩
    have h99 := h48.p w48 (by omega) q99
    refine ⟨h99.1.hr, h99.1.tb w99, fun a108 _ _ => ⟨_, rs_put4 h99.1 w99 (by have := h99.2.1; omega), fun S112 q112 w112 s112 => ?_⟩⟩
    have h112 := h99.p w99 (by omega) q112
    exact ps_J177 (by rw [if_neg d]; exact hper.1) h4 (by omega) (h112.mo (m' := bs) (by omega)) hQ
theorem ps_L61 {Q : MS → Prop} {v1 v2 v3 v4 v5 : Int32} (hR : (qI U 28 1).toInt + 2500 ≤ 65536) (hk : ∀ W : MS, wfC W → RsG B S q c U W 4 → w_X11_putSwitch_J95 Q W v1 v3 v4 v5) : ∀ (n : Nat) {V : MS} {v6 : Int32}, RsG B S q c U V (1 + v6.toInt) → 0 ≤ v6.toInt ∧ v6.toInt ≤ 3 → 4 - v6.toInt < n → w_X11_putSwitch_L61 Q n V v1 v2 v3 v4 v5 v6 := by
  intro n
  induction n with
  | zero => intro V v6 _ _ hm; omega
  | succ n ih =>
    intro V v6 h h6 hm
    unfold w_X11_putSwitch_L61
    intro w _
    refine ⟨fun _ => hk V w (h.mo (by omega)), fun d => ⟨fun _ => hk V w (h.mo (by omega)), fun e _ => ⟨_, rs_put h.1 w (by have := h.2.1; omega), fun S120 q120 w120 s120 a123 e123 => ?_⟩⟩⟩
    have e1 := t_inc e123 (by omega)
    exact ih ((h.p w (by omega) q120).mo (by omega)) (by omega) (by omega)
theorem ps_J41 {Q : MS → Prop} {t0 v1 v2 v3 v4 : Int32} (h : WlI B S q c U) (w : wfC U) (hR : (qI U 28 1).toInt + 2500 ≤ 65536) (hk : ∀ W : MS, wfC W → RsG B S q c U W 4 → w_X11_putSwitch_J95 Q W v1 v3 v4 t0) : w_X11_putSwitch_J41 Q U t0 v1 v2 v3 v4 := by
  unfold w_X11_putSwitch_J41
  intro _ _
  refine ⟨h.hr, by rw [h.O]; exact dd_X8_opAt w h.1.1.1.1 (h.kq w), fun a27 _ _ => ⟨_, rs_put h w (by omega), fun S29 q29 w29 s29 => ⟨5, ?_⟩⟩⟩
  have z := li_0k
  exact ps_L61 hR hk _ (((RsG.rf h).p w (by omega) q29).mo (by omega)) (by omega) (by omega)
theorem rs_putSwitch {T : Int} (h : WlI B S q c U) (w : wfC U) (hT : (fX8_targetCount U q x).toInt = T) (h1 : 1 ≤ T ∧ T ≤ 300) (hm : m = if (fX8_opAt U q x).toInt = 170 then 12 + 4 * T else 4 + 8 * T) (hR : (qI U 28 1).toInt + 2500 ≤ 65536) : wX11_putSwitch U x y (fun u => RsG B S q c U u m) := by
  have kq := h.kq w
  have g := h.1.1.1.1
  unfold wX11_putSwitch
  rw [h.O]
  refine ⟨h.2.1, dd_X8_argAt w g kq, fun a6 _ a7 _ => ⟨h.2.1, dd_X8_targetCount w g kq, fun a13 e13 a15 e15 => ⟨h.2.1, dd_X8_opAt w g kq, fun a21 e21 => ?_⟩⟩⟩
  have e15' : a15.toInt = T - 1 := by rw [e15, t_subk (by rw [e13, li_1k]; omega), li_1k, e13, hT]
  rw [← e21] at hm
  refine ⟨fun d => ps_J41 h w hR (fun W wW hW => ps_J95 (per := 4) (bs := 16) (by decide) (by omega) hR wW hW (fun u t ht hu => hu.mo ?_)), fun d => ps_J41 h w hR (fun W wW hW => ps_J95 (per := 8) (bs := 12) (by decide) (by omega) hR wW hW (fun u t ht hu => hu.mo ?_))⟩
  · rw [if_pos d] at hm; omega
  · rw [if_neg d] at hm; omega
/-- twice what instruction i writes is at most this -/
def iB (U : MS) (q i : Nat) : Int := rW (rOp U q i).toInt (rAr U q i) + (if (rOp U q i).toInt = 170 ∨ (rOp U q i).toInt = 171 then 8 * szT (rOp U q i) (mT U q i) else 0)
theorem rW_3 {o : Int} {z : Int64} (h : o ≠ 171) : 3 ≤ rW o z := by
  unfold rW aW
  repeat' split
  all_goals omega
theorem lo_32k {z : Int64} (h : -2147483648 ≤ z.toInt ∧ z.toInt ≤ 2147483647) : (z.toInt32).toInt = z.toInt := by
  rw [Int64.toInt_toInt32]
  apply Int.bmod_eq_of_le <;> omega
theorem rW_ld {o : Int} {z : Int64} (h : o = 21 ∨ o = 22 ∨ o = 25 ∨ o = 54 ∨ o = 55 ∨ o = 58) : 2 * (if (z.toInt32).toInt ≤ 3 then 1 else 2) ≤ rW o z := by
  have e : rW o z = if 0 ≤ z.toInt ∧ z.toInt < 4 then 3 else 6 := by
    unfold rW aW
    rw [if_neg (by omega), if_neg (by omega), if_neg (by omega), if_neg (by omega), if_neg (by omega), if_neg (by omega), if_neg (by omega), if_neg (by omega), if_pos h]
  rw [e]
  by_cases d : 0 ≤ z.toInt ∧ z.toInt < 4
  · rw [if_pos d, if_pos (by rw [lo_32k (by omega)]; omega)]; omega
  · rw [if_neg d]; split <;> omega
theorem rW_17 {z : Int64} : 2 * (if -1 ≤ (z.toInt32).toInt ∧ (z.toInt32).toInt ≤ 5 then 1 else 3) ≤ rW 17 z := by
  have e : rW 17 z = if -1 ≤ z.toInt ∧ z.toInt ≤ 5 then 3 else 6 := by
    unfold rW aW
    rw [if_neg (by omega), if_neg (by omega), if_neg (by omega), if_neg (by omega), if_neg (by omega), if_neg (by omega), if_neg (by omega), if_pos rfl]
  rw [e]
  by_cases d : -1 ≤ z.toInt ∧ z.toInt ≤ 5
  · rw [if_pos d, if_pos (by rw [lo_32k (by omega)]; omega)]; omega
  · rw [if_neg d]; split <;> omega
theorem rW_2l {z : Int64} : 2 * (if z.toInt = 0 ∨ z.toInt = 1 then 1 else 3) ≤ rW 20 z := by
  unfold rW
  rw [if_pos rfl]
  split <;> omega
theorem rW_gr {z : Int64} : 2 * (if (fX11_isByte U (((z >>> ((8 : Int32).toInt64 &&& 63)).toInt32).toInt64)).toInt = 0 then 6 else 3) ≤ rW 132 z := by
  have e : rW 132 z = if ((z >>> ((8 : Int32).toInt64 &&& 63)).toInt32).toInt8.toInt32 = (z >>> ((8 : Int32).toInt64 &&& 63)).toInt32 then 9 else 18 := by
    unfold rW aW
    rw [if_neg (by omega), if_neg (by omega), if_neg (by omega), if_neg (by omega), if_neg (by omega), if_neg (by omega), if_neg (by omega), if_neg (by omega), if_neg (by omega), if_pos rfl]
  rw [e]
  generalize (z >>> ((8 : Int32).toInt64 &&& 63)).toInt32 = t
  by_cases d : t.toInt8.toInt32 = t
  · rw [if_pos d]
    have : fX11_isByte U t.toInt64 = 1 := by
      unfold fX11_isByte
      rw [Int32.toInt32_toInt64, d]
      have := c_cmpk (x := t.toInt64) (y := t.toInt64)
      rw [if_pos (by omega)]
    rw [this, if_neg (by decide)]; omega
  · rw [if_neg d]; split <;> omega
end WX
/-! Writer: putInstruction -/
section WY
variable {B : Nat × Nat} {S u v U V : MS} {i j s L q : Nat} {x y a r o : Int32} {c k m m' : Int}
theorem wx_ld (h : ¬ (fX6_isLoad U o).toInt = 0) : o.toInt = 21 ∨ o.toInt = 22 ∨ o.toInt = 25 := Decidable.byContradiction (fun n => h (by unfold fX6_isLoad; rw [if_neg (by omega), if_neg (by omega), if_neg (by omega)]; exact li_0k))
theorem wx_st (h : ¬ (fX6_isStore U o).toInt = 0) : o.toInt = 54 ∨ o.toInt = 55 ∨ o.toInt = 58 := Decidable.byContradiction (fun n => h (by unfold fX6_isStore; rw [if_neg (by omega), if_neg (by omega), if_neg (by omega)]; exact li_0k))
theorem wx_jp (h : ¬ (fX6_isJump U o).toInt = 0) : (153 ≤ o.toInt ∧ o.toInt ≤ 167) ∨ o.toInt = 198 ∨ o.toInt = 199 := Decidable.byContradiction (fun n => h (by
  unfold fX6_isJump f_X6_isJump_J14
  by_cases z : o.toInt < 153
  · rw [if_pos z, if_neg (by omega), if_neg (by omega)]; exact li_0k
  · rw [if_neg z, if_neg (by omega), if_neg (by omega), if_neg (by omega)]; exact li_0k))
theorem wx_s1 (h : ¬ (fX6_isSwitch U o).toInt = 0) : o.toInt = 170 ∨ o.toInt = 171 := Decidable.byContradiction (fun n => h (by unfold fX6_isSwitch; rw [if_neg (by omega), if_neg (by omega)]; exact li_0k))
theorem wx_s0 (h : (fX6_isSwitch U o).toInt = 0) : ¬ (o.toInt = 170 ∨ o.toInt = 171) := fun n => by
  have j : (f_X6_isSwitch_J14 U).toInt = 1 := li_1k
  unfold fX6_isSwitch at h
  by_cases z : o.toInt = 170
  · rw [if_pos z] at h; omega
  · rw [if_neg z, if_pos (by omega)] at h; omega
theorem iB_n (h : ¬ ((rOp U q i).toInt = 170 ∨ (rOp U q i).toInt = 171)) : iB U q i = rW (rOp U q i).toInt (rAr U q i) := by unfold iB; rw [if_neg h]; omega
theorem pi_J33 {z : Int64} (h : WlI B S q c U) (w : wfC U) (hR : (qI U 28 1).toInt + 2500 ≤ 65536) (eo : o = rOp U q i) (ez : z = rAr U q i) (ho : o.toInt = 21 ∨ o.toInt = 22 ∨ o.toInt = 25 ∨ o.toInt = 54 ∨ o.toInt = 55 ∨ o.toInt = 58) : w_X11_putInstruction_J33 (fun u => ∃ m, 2 * m ≤ iB U q i ∧ RsG B S q c U u m) U o z := by
  unfold w_X11_putInstruction_J33
  intro _
  have := rW_ld (o := o.toInt) (z := z) ho
  rw [eo] at ho
  refine ⟨_, rs_putLocal (m := if (z.toInt32).toInt ≤ 3 then 1 else 2) h w rfl (by split <;> omega), fun S18 q18 w18 s18 => ⟨_, ?_, q18⟩⟩
  rw [iB_n (by omega), ← eo, ← ez]
  exact this
theorem pi_J200 (h : RsG B S q c U V 1) (w : wfC V) (hR : (qI U 28 1).toInt + 2500 ≤ 65536) (hx : 0 ≤ x.toInt ∧ x.toInt < c) (hb : 6 ≤ iB U q i) : w_X11_putInstruction_J200 (fun u => ∃ m, 2 * m ≤ iB U q i ∧ RsG B S q c U u m) V x := by
  have wk : (qN V (qO V 25 16) : Int) = (qN V (qO V 25 17) : Int) := h.1.1.1.1.1.2.2.2.2.1
  have l := h.1.2.2.2
  unfold w_X11_putInstruction_J200
  exact fun _ => ⟨by omega, fun _ => ⟨_, rs_put2 h.1 w (by have := h.2.1; omega), fun S48 q48 w48 s48 => ⟨3, by omega, (h.p w (by omega) q48).mo (by omega)⟩⟩⟩
theorem rs_putInstruction (h : WlI B S q c U) (w : wfC U) (rv : RvK U q) (hi : x.toInt = (i : Int)) (hic : (i : Int) < c) (hR : (qI U 28 1).toInt + 2500 ≤ 65536) : wX11_putInstruction U x y (fun u => ∃ m, 2 * m ≤ iB U q i ∧ RsG B S q c U u m) := by
  have kq := h.kq w
  have g := h.1.1.1.1
  have h0 := RsG.rf h
  have e2 := h.2.2.1
  have ni : x.toInt.toNat = i := by omega
  have wk : (qN U (qO U 25 16) : Int) = (qN U (qO U 25 17) : Int) := g.2.2.2.2.1
  have l17 := h.2.2.2
  unfold wX11_putInstruction
  rw [h.O]
  refine ⟨h.2.1, dd_X8_opAt w g kq, fun a6 e6 => ⟨h.2.1, dd_X8_argAt w g kq, fun a12 e12 => ⟨dd_X6_isLoad, fun a16 e16 => ?_⟩⟩⟩
  have e6' : a6 = rOp U q i := by rw [e6, rv_op (by omega) (by omega), ni]
  have e12' : a12 = rAr U q i := by rw [e12, rv_arg (by omega) (by omega), ni]; rfl
  refine ⟨fun c0 => ⟨dd_X6_isStore, fun a25 e25 => ⟨fun c1 => ⟨dd_X6_isJump, fun a30 e30 => ⟨fun c2 => ⟨dd_X6_isSwitch, fun a35 e35 => ⟨fun c3 => ?_, fun c3 => ?_⟩⟩, fun c2 _ => ?_⟩⟩, fun c1 => ?_⟩⟩, fun c0 => ?_⟩
  · rw [e35] at c3
    have ns := wx_s0 c3
    have ns' := ns
    rw [e6'] at ns'
    have eb := iB_n ns'
    rw [← e6', ← e12'] at eb
    refine ⟨fun d => ⟨by omega, ?_⟩, fun d => ⟨fun d2 => ⟨by omega, ?_⟩, fun d2 => ⟨fun d3 => ?_, fun d3 _ => ?_⟩⟩⟩
    · have r17 := rW_17 (z := a12)
      rw [d] at eb
      exact ⟨_, rs_putInt (m := if -1 ≤ (a12.toInt32).toInt ∧ (a12.toInt32).toInt ≤ 5 then 1 else 3) h w rfl (by split <;> omega), fun S86 q86 w86 s86 => ⟨_, by rw [eb]; exact r17, q86⟩⟩
    · have r20 := rW_2l (z := a12)
      rw [d2] at eb
      exact ⟨_, rs_putLong (m := if a12.toInt = 0 ∨ a12.toInt = 1 then 1 else 3) h w rfl (by split <;> omega), fun S79 q79 w79 s79 => ⟨_, by rw [eb]; exact r20, q79⟩⟩
    · have rg := rW_gr (U := U) (z := a12)
      rw [d3] at eb
      refine ⟨h.2.1, dd_X8_localOf w g kq, fun a64 _ => ⟨h.2.1, dd_X8_stepOf w g kq, fun a70 e70 => ?_⟩⟩
      have e70' : a70 = (a12 >>> ((8 : Int32).toInt64 &&& 63)).toInt32 := by rw [e70, e12]; rfl
      rw [← e70'] at rg
      exact ⟨_, rs_putGrow (m := if (fX11_isByte U (a70.toInt64)).toInt = 0 then 6 else 3) h w rfl (by split <;> omega), fun S72 q72 w72 s72 => ⟨_, by rw [eb]; exact rg, q72⟩⟩
    · refine ⟨_, rs_put h w (by omega), fun S41 q41 w41 s41 => ?_⟩
      have h41 := h0.p w (by omega) q41
      have b3 := rW_3 (o := a6.toInt) (z := a12) (by omega)
      have b9 : a6.toInt = 178 ∨ a6.toInt = 179 ∨ a6.toInt = 184 → 6 ≤ iB U q i := fun z => by
        rw [eb]
        unfold rW aW
        rw [if_neg (by omega), if_neg (by omega), if_neg (by omega), if_neg (by omega), if_neg (by omega), if_neg (by omega), if_pos z]; omega
      refine ⟨fun z => pi_J200 (h41.mo (by omega)) w41 hR (by omega) (b9 (by omega)), fun _ => ⟨fun z => pi_J200 (h41.mo (by omega)) w41 hR (by omega) (b9 (by omega)), fun _ => ⟨fun z => pi_J200 (h41.mo (by omega)) w41 hR (by omega) (b9 (by omega)), fun _ => ⟨fun z _ => ?_, fun _ => ⟨1, by omega, h41.mo (by omega)⟩⟩⟩⟩⟩
      refine ⟨_, rs_put h41.1 w41 (by have := h41.2.1; omega), fun S56 q56 w56 s56 => ⟨2, ?_, (h41.p w41 (by omega) q56).mo (by omega)⟩⟩
      rw [eb]
      unfold rW aW
      rw [if_neg (by omega), if_neg (by omega), if_neg (by omega), if_neg (by omega), if_neg (by omega), if_neg (by omega), if_neg (by omega), if_neg (by omega), if_neg (by omega), if_neg (by omega), if_pos z]; omega
  · rw [e35] at c3
    have sw := wx_s1 c3
    rw [e6'] at sw
    have sw' : swO (rOp U q x.toInt.toNat) := by rw [ni]; exact sw
    have tc := rv.sw (x := x) ⟨by omega, by omega⟩ sw'
    rw [ni] at tc
    obtain ⟨t1, t2, t3, t4⟩ := rv.1 i (by omega) sw
    have eo : fX8_opAt U q x = rOp U q i := by rw [rv_op (by omega) (by omega), ni]
    refine ⟨_, rs_putSwitch (m := if (fX8_opAt U q x).toInt = 170 then 12 + 4 * mT U q i else 4 + 8 * mT U q i) h w tc ⟨t2, t3⟩ rfl hR, fun S90 q90 w90 s90 => ⟨_, ?_, q90⟩⟩
    rw [eo]
    unfold iB szT
    rw [if_pos sw]
    by_cases z : (rOp U q i).toInt = 170
    · rw [if_pos z, if_pos z, z, rW_n (by decide), aW_170]; omega
    · rw [if_neg z, if_neg z, show (rOp U q i).toInt = 171 by omega, rW_n (by decide), aW_171]; omega
  · rw [e30] at c2
    have jp := wx_jp c2
    rw [e6'] at jp
    refine ⟨_, rs_put h w (by omega), fun S94 q94 w94 s94 => ?_⟩
    have h94 := h0.p w (by omega) q94
    refine ⟨h94.1.of w94, fun a100 _ => ⟨h94.1.of w94, fun a104 _ _ => ⟨_, rs_put2 h94.1 w94 (by have := h94.2.1; omega), fun S107 q107 w107 s107 => ⟨3, ?_, (h94.p w94 (by omega) q107).mo (by omega)⟩⟩⟩⟩
    rw [iB_n (by omega), rW_n (by omega), aW_j jp]; omega
  · rw [e25] at c1
    have := wx_st c1
    exact pi_J33 h w hR e6' e12' (by omega)
  · rw [e16] at c0
    have := wx_ld c0
    exact pi_J33 h w hR e6' e12' (by omega)
end WY
/-! Writer: addMethod -/
section WZ
variable {B : Nat × Nat} {S u v U V : MS} {i j s L q : Nat} {x y a r o : Int32} {c k m m' κ X : Int}
theorem rWs_ad : ∀ k : Nat, rWs U q i ≤ rWs U q (i + k) := by
  intro k
  induction k with
  | zero => exact Int.le_refl _
  | succ k ih =>
    have := rW_rg (o := (rOp U q (i + k)).toInt) (a := rAr U q (i + k))
    rw [show i + (k + 1) = i + k + 1 from rfl, rWs_s]
    omega
theorem ll_L20 (h : WlI B S q c U) : ∀ (n : Nat) {v1 v2 : Int32}, 2147483648 - v2.toInt < n → w_X11_leastLocals_L20 (fun _ u => u = U) n U v1 v2 := by
  intro n
  induction n with
  | zero => intro v1 v2 hm; have := rgI v2; omega
  | succ n ih =>
    intro v1 v2 hm
    unfold w_X11_leastLocals_L20
    intro w
    have kq := h.kq w
    have g := h.1.1.1.1
    have rc := rgI (qI U q 2)
    rw [h.O]
    have J : ∀ t : Int32, ¬ (qI U q 2).toInt ≤ v2.toInt → w_X11_leastLocals_J70 (fun _ u => u = U) (w_X11_leastLocals_L20 (fun _ u => u = U) n) U t v2 := fun t d => by
      unfold w_X11_leastLocals_J70
      intro _ a ea
      have e := t_inc ea (by omega)
      exact ih (by omega)
    exact ⟨h.2.1, fun _ => rfl, fun d => ⟨h.2.1, dd_X8_opAt w g kq, fun a21 _ => ⟨dd_X6_usesLocal, fun a25 _ => ⟨fun _ => J _ d, fun _ => ⟨h.2.1, dd_X8_localOf w g kq, fun a33 _ => ⟨h.2.1, dd_X8_opAt w g kq, fun a39 _ => ⟨dd_X6_localWidth, fun a43 _ a46 _ => J _ d⟩⟩⟩⟩⟩⟩⟩
theorem wv_leastLocals (h : WlI B S q c U) (w : wfC U) : wX11_leastLocals U (fun _ u => u = U) := by
  unfold wX11_leastLocals
  refine ⟨h.1.hu, h.hr, dd_X10_takesOfMethod w h.1.1.1.1 (h.1.un w).1, fun a8 _ => ⟨_, sp_placesOf, ?_⟩⟩
  rintro r10 S11 ⟨rfl, -⟩ w11 s11
  exact ⟨2147483649, ll_L20 h _ (by rw [li_0k]; decide)⟩
theorem WlI.cat (h : WlI B S q c V) (w : wfC V) (hk : (qI V q 9).toInt = κ) {t : Int} (ht : 0 ≤ t ∧ t < κ) : (qR V q 5 = some (qO V q 5) ∧ qR V q 6 = some (qO V q 6) ∧ qR V q 7 = some (qO V q 7) ∧ qR V q 8 = some (qO V q 8)) ∧ (t < (qN V (qO V q 5) : Int) ∧ t < (qN V (qO V q 6) : Int) ∧ t < (qN V (qO V q 7) : Int) ∧ t < (qN V (qO V q 8) : Int)) := by
  have R := h.1.1.1.1.row (h.kq w)
  have R2 := R.2
  exact ⟨⟨R.1.2.2.2.1, R.1.2.2.2.2.1, R.1.2.2.2.2.2.1, R.1.2.2.2.2.2.2⟩, by omega⟩
theorem am_L229 {Q : MS → Prop} (hκ : 0 ≤ κ ∧ κ ≤ 16) (hX : X + 300 ≤ 65536) (hQ : ∀ u : MS, WlI B S q c u → (qI u 28 1).toInt ≤ X + 8 * κ + 2 → Q u) : ∀ (n : Nat) {V : MS} {v5 : Int32} (t : Nat), WlI B S q c V → (qI V q 9).toInt = κ → (qI V 28 1).toInt ≤ X + 8 * t → v5.toInt = (t : Int) → (t : Int) ≤ κ → 2147483648 - v5.toInt < n → w_X11_addMethod_L229 Q n V v5 := by
  intro n
  induction n with
  | zero => intro V v5 t _ _ _ _ _ hm; have := rgI v5; omega
  | succ n ih =>
    intro V v5 t h h9 hX' h5 ht hm
    unfold w_X11_addMethod_L229
    intro w
    rw [h.O]
    refine ⟨h.2.1, fun d _ => ⟨_, rs_put2 h w (by omega), fun S102 q102 w102 s102 => ?_⟩, fun d => ?_⟩
    · have r := h.p28 w q102.1.1 (by omega) q102.1.2 q102.2
      exact hQ _ r.1 (by have := r.2.1; omega)
    · have kq := h.kq w
      have ct := h.cat w h9 (t := v5.toInt) (by omega)
      refine ⟨h.2.1, ct.1.1, by omega, h.of w, fun a114 _ _ => ⟨_, rs_put2 h w (by omega), fun S1 q1 w1 s1 => ?_⟩⟩
      have r1 := h.p28 w q1.1.1 (by omega) q1.1.2 q1.2
      have e1 : (qI S1 q 9).toInt = κ := by rw [r1.2.2.2.kI kq rfl rfl]; exact h9
      have k1 := r1.1.kq w1
      have c1 := r1.1.cat w1 e1 (t := v5.toInt) (by omega)
      have b1 := r1.2.1
      rw [r1.1.O]
      refine ⟨r1.1.2.1, c1.1.2.1, by omega, r1.1.of w1, fun a128 _ _ => ⟨_, rs_put2 r1.1 w1 (by omega), fun S2 q2 w2 s2 => ?_⟩⟩
      have r2 := r1.1.p28 w1 q2.1.1 (by omega) q2.1.2 q2.2
      have e2 : (qI S2 q 9).toInt = κ := by rw [r2.2.2.2.kI k1 rfl rfl]; exact e1
      have k2 := r2.1.kq w2
      have c2 := r2.1.cat w2 e2 (t := v5.toInt) (by omega)
      have b2 := r2.2.1
      rw [r2.1.O]
      refine ⟨r2.1.2.1, c2.1.2.2.1, by omega, r2.1.of w2, fun a142 _ _ => ⟨_, rs_put2 r2.1 w2 (by omega), fun S3 q3 w3 s3 => ?_⟩⟩
      have r3 := r2.1.p28 w2 q3.1.1 (by omega) q3.1.2 q3.2
      have e3 : (qI S3 q 9).toInt = κ := by rw [r3.2.2.2.kI k2 rfl rfl]; exact e2
      have k3 := r3.1.kq w3
      have c3 := r3.1.cat w3 e3 (t := v5.toInt) (by omega)
      have b3 := r3.2.1
      rw [r3.1.O]
      refine ⟨r3.1.2.1, c3.1.2.2.2, by omega, _, wv_classOf r3.1.1 w3, fun r154 S4 q4 w4 s4 _ => ?_⟩
      have h4 := r3.1.fr w3 q4.1 q4.2.2.2 rfl rfl
      have e4 : (qI S4 q 9).toInt = κ := by rw [q4.2.2.2.kI k3 rfl rfl]; exact e3
      have b4 : (qI S4 28 1).toInt = (qI S3 28 1).toInt := by rw [q4.2.2.1]
      have k4 := h4.kq w4
      refine ⟨_, rs_put2 h4 w4 (by omega), fun S5 q5 w5 s5 a162 e162 => ?_⟩
      have r5 := h4.p28 w4 q5.1.1 (by omega) q5.1.2 q5.2
      have e5 : (qI S5 q 9).toInt = κ := by rw [r5.2.2.2.kI k4 rfl rfl]; exact e4
      have b5 := r5.2.1
      have e := t_inc e162 (by omega)
      exact ih (t + 1) r5.1 e5 (by omega) (by omega) (by omega) (by omega)
theorem iB_cg (s : rSm U V q) : iB V q i = iB U q i := by
  unfold iB
  rw [s.xOp, s.xAr, s.xM]
theorem am_L186 {Q : MS → Prop} {v4 : Int32} (h0 : WlI B S q c U) (w0 : wfC U) (rv : RvK U q) (hκ : (qI U q 9).toInt = κ ∧ 0 ≤ κ ∧ κ ≤ 16) (hR : 2 * (qI U 28 1).toInt + rWs U q c.toNat + 8 * (qI U q 4).toInt + 6000 ≤ 131072) (hQ : ∀ u : MS, WlI B S q c u → 2 * (qI u 28 1).toInt ≤ 2 * (qI U 28 1).toInt + rWs U q c.toNat + 8 * (qI U q 4).toInt + 16 * κ + 8 → Q u) : ∀ (n : Nat) {V : MS} {v5 : Int32} (i : Nat) (M e : Int), RsG B S q c U V M → 2 * M ≤ rWs U q i + 8 * e → (0 ≤ e ∧ e ≤ (qI U q 4).toInt) → (∀ i' : Nat, i ≤ i' → (i' : Int) < c → swO (rOp U q i') → e ≤ aTk U q i') → v5.toInt = (i : Int) → (i : Int) ≤ c ∨ i = 0 → 2147483648 - v5.toInt < n → w_X11_addMethod_L186 Q n V v4 v5 := by
  have kq0 := h0.kq w0
  have c0 : (qI U q 2).toInt = c := h0.2.2.1
  have cl := (h0.1.1.1.1.row kq0).2
  intro n
  induction n with
  | zero => intro V v5 i M e _ _ _ _ _ _ hm; have := rgI v5; omega
  | succ n ih =>
    intro V v5 i M e h hM he hs h5 hi hm
    have b := h.2.1
    have rv' := rv.mv h.2.2.1
    have rw1 := rWs_ad (U := U) (q := q) (i := i) (c.toNat - i)
    unfold w_X11_addMethod_L186
    intro w
    rw [h.1.O]
    have e2 : (qI V q 2).toInt = c := h.1.2.2.1
    refine ⟨h.1.2.1, fun d => ⟨h.1.2.1, fun _ => ?_⟩, fun d => ?_⟩
    · rw [show i + (c.toNat - i) = c.toNat by omega] at rw1
      have e9 : (qI V q 9).toInt = κ := by rw [h.2.2.2.kI kq0 rfl rfl]; exact hκ.1
      refine ⟨_, rs_put2 h.1 w (by omega), fun S95 q95 w95 s95 => ⟨2147483649, ?_⟩⟩
      have r := h.1.p28 w q95.1.1 (by omega) q95.1.2 q95.2
      have e9' : (qI S95 q 9).toInt = κ := by rw [r.2.2.2.kI (h.1.kq w) rfl rfl]; exact e9
      have b2 := r.2.1
      exact am_L229 (X := (qI V 28 1).toInt + 2) hκ.2 (by omega) (fun u hu hb => hQ u hu (by omega)) _ 0 r.1 e9' (by omega) (by decide) (by omega) (by rw [li_0k]; decide)
    · rw [show i + (c.toNat - i) = c.toNat by omega] at rw1
      refine ⟨_, rs_putInstruction h.1 w rv' h5 (by omega) (by omega), fun S164 q164 w164 s164 a167 e167 => ?_⟩
      obtain ⟨m, hm2, hr⟩ := q164
      rw [iB_cg h.2.2.1] at hm2
      have ei := t_inc e167 (by omega)
      have ws : rWs U q (i + 1) = rWs U q i + rW (rOp U q i).toInt (rAr U q i) := rfl
      by_cases sw : (rOp U q i).toInt = 170 ∨ (rOp U q i).toInt = 171
      · obtain ⟨t1, t2, t3, t4⟩ := rv.1 i (by omega) sw
        have et : eT U q i = aTk U q i + szT (rOp U q i) (mT U q i) := rfl
        have ea := hs i (Nat.le_refl _) (by omega) sw
        unfold iB at hm2
        rw [if_pos sw] at hm2
        have sz := szT_ge (o := rOp U q i) t2
        refine ih (i + 1) (M + m) (eT U q i) (h.tr hr) (by omega) ⟨by omega, t4⟩ (fun i' h1 h2 h3 => rv.2 i i' (by omega) (by omega) sw h3) (by omega) (Or.inl (by omega)) (by omega)
      · rw [iB_n sw] at hm2
        exact ih (i + 1) (M + m) e (h.tr hr) (by omega) he (fun i' h1 h2 h3 => hs i' (by omega) h2 h3) (by omega) (Or.inl (by omega)) (by omega)
end WZ
/-! Writer: addMethod whole -/
section XA
variable {B : Nat × Nat} {S u v U V : MS} {i j s L q : Nat} {x y a r o z : Int32} {c k m m' κ X W : Int}
/-- Writer goes on; 'rest' has m bytes more -/
def RvG (B : Nat × Nat) (S U u : MS) (m : Int) : Prop := WvI B S u ∧ (qI u 28 1).toInt = (qI U 28 1).toInt + m ∧ cfr [101] [(40, 0), (40, 1)] U u
theorem RvG.rf (h : WvI B S U) : RvG B S U U 0 := ⟨h, by omega, cfr.rf⟩
theorem RvG.p (a : RvG B S U V m) (w : wfC V) (b : (ByPk 28 k 65536 V u ∧ fB 28 V u) ∧ cfr [101] [(40, 0), (40, 1)] V u) : RvG B S U u (m + k) := by
  obtain ⟨⟨⟨h1, h2⟩, h3, h4, h5⟩, a2, a3⟩ := a
  obtain ⟨⟨p, fb⟩, f⟩ := b
  obtain ⟨b1, b2, c1, c2, -⟩ := h1.w3 w (Or.inl ⟨rfl, rfl⟩) p fb
  exact ⟨⟨⟨b1, h2.mo b2 (by rw [c1, c2]; omega)⟩, h3.fr h4.1 w h1.1 f rfl rfl, h4, h5⟩, by have := p.2.1; omega, a3.tr f⟩
theorem wv_p2 (h : WvI B S U) (w : wfC U) (hc : (qI U 28 1).toInt + 2 ≤ 65536) : wX0_put2 U 28 x (fun u => (ByPk 28 2 65536 U u ∧ fB 28 U u) ∧ cfr [101] [(40, 0), (40, 1)] U u) := frX0_put2 w (sp_put2C w w.k28 h.1.1.2.2.1.2.1 p65 (by omega) h.1.1.1.rb_28 (fun _ a b _ _ => ⟨a, b⟩))
theorem wv_putMember (h : WvI B S U) (w : wfC U) (hc : (qI U 28 1).toInt + 8 ≤ 65536) : wX11_putMember U x y z (fun u => RvG B S U u 8) := by
  have h0 := RvG.rf h
  unfold wX11_putMember
  refine fun _ => ⟨_, wv_p2 h w (by omega), fun S1 q1 w1 s1 _ => ?_⟩
  have h1 := h0.p w q1
  refine ⟨_, wv_p2 h1.1 w1 (by have := h1.2.1; omega), fun S2 q2 w2 s2 _ => ?_⟩
  have h2 := h1.p w1 q2
  refine ⟨_, wv_p2 h2.1 w2 (by have := h2.2.1; omega), fun S3 q3 w3 s3 _ => ?_⟩
  have h3 := h2.p w2 q3
  exact ⟨_, wv_p2 h3.1 w3 (by have := h3.2.1; omega), fun S4 q4 w4 s4 => h3.p w3 q4⟩
theorem wv_addMethod (h : WvI B S U) (w : wfC U) (kq : qT U q = 47) (rv : RvK U q) (hW : rWs U q (qI U q 2).toInt.toNat + 8 * (qI U q 4).toInt ≤ W) (hR : 2 * (qI U 28 1).toInt + W + 6400 ≤ 131072) : wX11_addMethod U (some q) (fun u => WvI B S u ∧ 2 * (qI u 28 1).toInt ≤ 2 * (qI U 28 1).toInt + W + 308) := by
  have Rq := (h.1.1.1.row kq).2
  have w0 := rWs_ad (U := U) (q := q) (i := 0) (qI U q 2).toInt.toNat
  rw [Nat.zero_add, show rWs U q 0 = 0 from rfl] at w0
  unfold wX11_addMethod
  refine ⟨fun c => (by cases c), fun _ S1 e1 k1 w1 => ?_⟩
  have e1' : S1 = wR U 25 15 (some q) := e1
  have f1 : cfr [] [(50, 15)] U S1 := by rw [e1']; exact cfr.oR k1 rfl
  have g1 : ShC B S1 := ShC.ws w h.1.1.1 f1 (by rw [e1']; rfl) (by rw [e1']; rfl) (by rw [e1']; rfl) rfl rfl
  have v1 := h.fr w f1 g1 rfl rfl rfl rfl
  have R1 : qR S1 25 15 = some q := by rw [e1', qR_wR, if_pos ⟨rfl, rfl⟩]
  have O1 := qO_of R1
  have kq1 : qT S1 q = 47 := f1.1.T kq (by decide)
  have m1 : rSm U S1 q := rSm.fr w kq (h.1.1.1.row kq) f1 rfl rfl rfl
  have un1 := (v1.1.un w1).2
  have i28 : (qI S1 28 1).toInt = (qI U 28 1).toInt := by rw [v1.2]
  have done : WvI B S S1 ∧ 2 * (qI S1 28 1).toInt ≤ 2 * (qI U 28 1).toInt + W + 308 := ⟨v1.1, by omega⟩
  rw [O1]
  refine ⟨fun d => (by rw [R1] at d; cases d), fun _ => ⟨R1, fun _ => done, fun d => ⟨R1, v1.1.hu, un1.1.2.2.2.2.1, fun e => ?_, fun _ => done⟩⟩⟩
  have mn := v1.1.mn w1 (m := (qI S1 q 11).toInt.toNat) (by omega)
  refine ⟨v1.1.hu, un1.1.2.2.2.2.1, R1, by omega, _, wv_name v1.1 w1 mn.2.1.2 mn.2.1.1, fun r2 S2 q2 w2 s2 => ?_⟩
  have h2 := v1.1.nm w1 (by omega) mn.2.1.2 mn.2.1.1 q2
  have f2 := h2.2.2.2
  have R2 : qR S2 25 15 = some q := by rw [f2.kO w1.k25 rfl rfl]; exact R1
  have n2 : qI S2 q 11 = qI S1 q 11 := f2.kI kq1 rfl rfl
  have kq2 : qT S2 q = 47 := f2.1.T kq1 (by decide)
  have m2 : rSm S1 S2 q := rSm.fr w1 kq1 (v1.1.1.1.1.row kq1) f2 rfl rfl rfl
  have un2 := (h2.1.un w2).2
  have l1 := un1.2
  have l2 := un2.2
  have us := v1.1.2.1
  have us2 := h2.1.2.1
  have e8 : qI S2 (qO S2 25 7) 8 = qI S1 (qO S1 25 7) 8 := by rw [us2.O, us.O, (us2.2.1 8).1, (us.2.1 8).1]
  rw [e8] at l2
  have mn2 := h2.1.mn w2 (m := (qI S1 q 11).toInt.toNat) (by omega)
  rw [qO_of R2, n2]
  refine ⟨h2.1.hu, un2.1.2.2.2.2.2.1, R2, by omega, _, wv_name h2.1 w2 mn2.2.2.2 mn2.2.2.1, fun r3 S3 q3 w3 s3 => ?_⟩
  have h3 := h2.1.nm w2 (by omega) mn2.2.2.2 mn2.2.2.1 q3
  have f3 := h3.2.2.2
  have R3 : qR S3 25 15 = some q := by rw [f3.kO w2.k25 rfl rfl]; exact R2
  have kq3 : qT S3 q = 47 := f3.1.T kq2 (by decide)
  have m3 : rSm S2 S3 q := rSm.fr w2 kq2 (h2.1.1.1.1.row kq2) f3 rfl rfl rfl
  have i3 : (qI S3 28 1).toInt = (qI U 28 1).toInt := by rw [h3.2.2.1, h2.2.2.1]; exact i28
  refine ⟨_, wv_putMember h3.1 w3 (by omega), fun S4 q4 w4 s4 => ?_⟩
  have f4 := q4.2.2
  have R4 : qR S4 25 15 = some q := by rw [f4.kO w3.k25 rfl rfl]; exact R3
  have kq4 : qT S4 q = 47 := f4.1.T kq3 (by decide)
  have m4 : rSm S3 S4 q := rSm.fr w3 kq3 (h3.1.1.1.1.row kq3) f4 rfl rfl rfl
  have i4 := q4.2.1
  refine ⟨_, frX11_layOut w4 (wv_layOut q4.1 w4 R4), fun r5 S5 q5 w5 s5 => ?_⟩
  obtain ⟨⟨h5, i5⟩, f5⟩ := q5
  have kq5 := h5.kq w5
  have m5 : rSm S4 S5 q := rSm.fr w4 kq4 (q4.1.1.1.1.row kq4) f5 rfl rfl rfl
  have R5 := (h5.1.1.1.1.row kq5).2
  refine ⟨h5.1.hu, h5.hr, fun k38 k7 k15 => ⟨_, frX4_seek w5 (sgX4_seek w5 h5.1.1.1.1 k38 k7 k15 (Or.inr ⟨rfl, by rw [h5.O]; omega⟩)), fun S6 q6 w6 s6 _ => ?_⟩⟩
  have f6 := q6.2
  have v6 := h5.1.fr w5 f6 q6.1.1 rfl rfl rfl rfl
  have h6 := h5.fr w5 v6.1 f6 rfl rfl
  have m6 : rSm S5 S6 q := rSm.fr w5 kq5 (h5.1.1.1.1.row kq5) f6 rfl rfl rfl
  have i6 : (qI S6 28 1).toInt = (qI S4 28 1).toInt := by rw [v6.2, i5]
  have r6 := RsG.rf h6
  refine ⟨_, rs_put2 h6 w6 (by omega), fun S7 q7 w7 s7 => ?_⟩
  have r7 := r6.p w6 (by omega) q7
  refine ⟨r7.1.hr, fun _ => ⟨_, rs_put4 r7.1 w7 (by have := r7.2.1; omega), fun S8 q8 w8 s8 _ => ?_⟩⟩
  have r8 := r7.p w7 (by omega) q8
  refine ⟨_, rs_put2 r8.1 w8 (by have := r8.2.1; omega), fun S9 q9 w9 s9 => ?_⟩
  have r9 := r8.p w8 (by omega) q9
  refine ⟨_, wv_leastLocals r9.1 w9, ?_⟩
  rintro r243 S9' rfl w9' s9' -
  refine ⟨_, rs_put2 r9.1 w9 (by have := r9.2.1; omega), fun S10 q10 w10 s10 _ => ?_⟩
  have r10 := r9.p w9 (by omega) q10
  refine ⟨_, rs_put4 r10.1 w10 (by have := r10.2.1; omega), fun S11 q11 w11 s11 a254 _ => ⟨2147483649, ?_⟩⟩
  have r11 := r10.p w10 (by omega) q11
  have M : rSm U S11 q := (((((m1.tr m2).tr m3).tr m4).tr m5).tr m6).tr r11.2.2.1
  have c4 : (qI S4 q 2).toInt = (qI U q 2).toInt := by rw [(((m1.tr m2).tr m3).tr m4).1.1]
  have b11 := r11.2.1
  have kq11 := r11.1.kq w11
  have R11 := (r11.1.1.1.1.1.row kq11).2
  have t4 : (qI S11 q 4).toInt = (qI U q 4).toInt := by rw [M.1.2]
  have wS : rWs S11 q (qI S4 q 2).toInt.toNat = rWs U q (qI U q 2).toInt.toNat := by rw [c4]; exact M.xW _
  have z0 := li_0k
  refine am_L186 (κ := (qI S11 q 9).toInt) r11.1 w11 (rv.mv M) ⟨rfl, by omega, by omega⟩ (by rw [wS, t4]; omega) (fun u hu hb => ⟨hu.1, ?_⟩) _ 0 0 0 (RsG.rf r11.1) (by rw [show rWs S11 q 0 = 0 from rfl]; omega) ⟨by omega, by omega⟩ (fun i' _ h2' h3' => ((rv.mv M).1 i' (by have := r11.1.2.2.1; omega) h3').1) (by rw [z0]; rfl) (Or.inr rfl) (by rw [z0]; decide)
  rw [wS, t4] at hb
  omega
end XA
/-! Writer: begin -/
section XB
variable {B : Nat × Nat} {S u v U V : MS} {i j s L p q : Nat} {x y a r o z : Int32} {c k m m' κ X W : Int}
/-- Writer's Bytes, at rest -/
def WbI (U : MS) : Prop := (ByI U 26 16384 ∧ ByI U 28 65536 ∧ ByI U 30 128) ∧ qO U 26 0 ≠ qO U 30 0 ∧ qO U 26 0 ≠ qO U 28 0
theorem WvI.wb (h : WvI B S U) : WbI U := h.1.1.2.2
theorem WvI.fn (h : WvI B S U) (w : wfC U) {m : Nat} (hm : (m : Int) < (qN U (qO U (qO U 25 7) 5) : Int)) : m < 24 ∧ (qI U (qO U (qO U 25 7) 5) m = offS S (2 + m) ∧ uNm S (qO S 25 7) (offS S (2 + m))) ∧ (qI U (qO U (qO U 25 7) 6) m = offS S (26 + m) ∧ uNm S (qO S 25 7) (offS S (26 + m))) ∧ (m : Int) < (qN U (qO U (qO U 25 7) 6) : Int) := by
  have un := (h.un w).2.2
  have us := h.2.1
  have e4 : qI U (qO S 25 7) 4 = qI S (qO S 25 7) 4 := (us.2.1 4).1
  rw [us.O] at hm un ⊢
  have nm := h.2.2.1.2.2.1 m (by rw [← e4]; omega)
  have m24 : m < 24 := by omega
  have l6 : (m : Int) < (qN U (qO U (qO S 25 7) 6) : Int) := by omega
  have o5 : offS S (2 + m) = qI S (qO S (qO S 25 7) 5) m := by
    unfold offS
    rw [if_neg (by omega), if_neg (by omega), if_pos (by omega), show 2 + m - 2 = m by omega]
  have o6 : offS S (26 + m) = qI S (qO S (qO S 25 7) 6) m := by
    unfold offS
    rw [if_neg (by omega), if_neg (by omega), if_neg (by omega), if_pos (by omega), show 26 + m - 26 = m by omega]
  refine ⟨m24, ?_, ?_, l6⟩
  · rw [o5, qO_eq (us.2.1 5).2, (us.2.2 5 (by omega)).1]; exact ⟨rfl, nm.1⟩
  · rw [o6, qO_eq (us.2.1 6).2, (us.2.2 6 (by omega)).1]; exact ⟨rfl, nm.2⟩
theorem bg_J267 {Q : MS → Prop} {k155 : MS → Int32 → Int32 → Prop} {t0 v4 v5 : Int32} (h : WvI B S V) (h5 : 0 ≤ v5.toInt ∧ v5.toInt < 24) (hX : (qI V 28 1).toInt + 8 ≤ 65536) (hk : ∀ (u : MS) (a : Int32), WvI B S u → (qI u 28 1).toInt = (qI V 28 1).toInt + 8 → a = v5 + Int32.ofInt 1 → k155 u v4 a) : w_X11_begin_J267 Q k155 V t0 v5 v4 v5 := by
  unfold w_X11_begin_J267
  intro w
  refine ⟨h5, fun S84 e84 k84 w84 => ⟨h5, h5, ?_⟩⟩
  have f : cfr [241] [] V S84 := by rw [e84]; exact cfr.aI k84 rfl
  have g : ShC B S84 := ShC.ws w h.1.1.1 f (by rw [e84]; rfl) (by rw [e84]; rfl) (by rw [e84]; rfl) rfl rfl
  have v84 := h.fr w f g rfl rfl rfl rfl
  have i84 : (qI S84 28 1).toInt = (qI V 28 1).toInt := by rw [v84.2]
  exact ⟨_, wv_putMember v84.1 w84 (by omega), fun S90 q90 w90 s90 a93 e93 => hk S90 a93 q90.1 (by have := q90.2.1; omega) e93⟩
theorem bg_J232 {Q : MS → Prop} {k155 : MS → Int32 → Int32 → Prop} {t0 v4 v5 v6 : Int32} (h : WvI B S V) (h5 : 0 ≤ v5.toInt ∧ v5.toInt < 24) (h6 : ¬ v6.toInt = 0 → v5.toInt < (qN V (qO V (qO V 25 7) 5) : Int)) (hX : (qI V 28 1).toInt + 8 ≤ 65536) (hk : ∀ (u : MS) (a : Int32), WvI B S u → (qI u 28 1).toInt = (qI V 28 1).toInt + 8 → a = v5 + Int32.ofInt 1 → k155 u v4 a) : w_X11_begin_J232 Q k155 V t0 v5 v4 v5 v6 := by
  unfold w_X11_begin_J232
  intro w _
  refine ⟨h5, fun S82 e82 k82 w82 => ?_⟩
  have f : cfr [240] [] V S82 := by rw [e82]; exact cfr.aI k82 rfl
  have g : ShC B S82 := ShC.ws w h.1.1.1 f (by rw [e82]; rfl) (by rw [e82]; rfl) (by rw [e82]; rfl) rfl rfl
  have v82 := h.fr w f g rfl rfl rfl rfl
  have i82 : (qI S82 28 1).toInt = (qI V 28 1).toInt := by rw [v82.2]
  have go : ∀ (u : MS) (r : Int32), WvQ B S S82 u r → w_X11_begin_J267 Q k155 u r v5 v4 v5 := fun u r q => by
    have iu : (qI u 28 1).toInt = (qI S82 28 1).toInt := by rw [q.2.2.1]
    exact bg_J267 q.1 h5 (by omega) (fun u' a h1 h2 h3 => hk u' a h1 (by omega) h3)
  refine ⟨fun _ _ => ?_, fun d => ?_⟩
  · rw [show (10000010 : Nat) = TXB + 2 * 5 from rfl]
    exact ⟨_, frX11_textEntry w82 (sp_textEntry (t := 5) (by decide) w82 v82.1.1.1 v82.1.pl), fun r97 S98 q98 w98 s98 => go S98 r97 (v82.1.sm w82 ⟨q98.1.sm (by decide), q98.2⟩)⟩
  · have us := h.2.1
    have us2 := v82.1.2.1
    have l5 : (qN S82 (qO S82 (qO S82 25 7) 5) : Int) = (qN V (qO V (qO V 25 7) 5) : Int) := by
      rw [us2.O, us.O, qO_eq (us2.2.1 5).2, qO_eq (us.2.1 5).2, (us2.2.2 5 (by omega)).2, (us.2.2 5 (by omega)).2]
    have fn := v82.1.fn w82 (m := v5.toInt.toNat) (by have := h6 d; omega)
    have un := (v82.1.un w82).2
    exact ⟨v82.1.hu, un.1.2.2.1, by omega, _, wv_name v82.1 w82 fn.2.2.1.2 fn.2.2.1.1, fun r108 S109 q109 w109 s109 => go S109 r108 (v82.1.nm w82 (by omega) fn.2.2.1.2 fn.2.2.1.1 q109)⟩
theorem bg_J187 {Q : MS → Prop} {k155 : MS → Int32 → Int32 → Prop} {t0 v4 v5 : Int32} (h : WvI B S V) (h5 : 0 ≤ v5.toInt ∧ v5.toInt < 24) (h6 : ¬ t0.toInt = 0 → v5.toInt < (qN V (qO V (qO V 25 7) 5) : Int)) (hX : (qI V 28 1).toInt + 8 ≤ 65536) (hk : ∀ (u : MS) (a : Int32), WvI B S u → (qI u 28 1).toInt = (qI V 28 1).toInt + 8 → a = v5 + Int32.ofInt 1 → k155 u v4 a) : w_X11_begin_J187 Q k155 V t0 v4 v5 := by
  unfold w_X11_begin_J187
  intro w _
  have un := (h.un w).2
  have us := h.2.1
  have go : ∀ (u : MS) (r : Int32), WvQ B S V u r → w_X11_begin_J232 Q k155 u r v5 v4 v5 t0 := fun u r q => by
    have iu : (qI u 28 1).toInt = (qI V 28 1).toInt := by rw [q.2.2.1]
    have us2 := q.1.2.1
    have l5 : (qN u (qO u (qO u 25 7) 5) : Int) = (qN V (qO V (qO V 25 7) 5) : Int) := by
      rw [us2.O, us.O, qO_eq (us2.2.1 5).2, qO_eq (us.2.1 5).2, (us2.2.2 5 (by omega)).2, (us.2.2 5 (by omega)).2]
    exact bg_J232 q.1 h5 (fun d => by have := h6 d; omega) (by omega) (fun u' a h1 h2 h3 => hk u' a h1 (by omega) h3)
  refine ⟨fun _ => ⟨h.hu, un.1.2.1, _, frX11_counterEntry w (sp_counterEntry w h.1.1 h.pl), fun r120 S121 q121 w121 s121 => go S121 r120 (h.sm w q121)⟩, fun d => ?_⟩
  have fn := h.fn w (m := v5.toInt.toNat) (by have := h6 d; omega)
  have := h6 d
  exact ⟨h.hu, un.1.2.1, by omega, _, wv_name h w fn.2.1.2 fn.2.1.1, fun r131 S132 q132 w132 s132 => go S132 r131 (h.nm w (by omega) fn.2.1.2 fn.2.1.1 q132)⟩
theorem bg_L155 {Q : MS → Prop} {v4 : Int32} (hX : X + 300 ≤ 65536) (hQ : ∀ u : MS, WvI B S u → (qI u 28 1).toInt ≤ X + 194 → Q u) : ∀ (n : Nat) {V : MS} {v5 : Int32} (t : Nat), WvI B S V → (qI V 28 1).toInt ≤ X + 8 * t → v5.toInt = (t : Int) → t ≤ 24 → 2147483648 - v5.toInt < n → w_X11_begin_L155 Q n V v4 v5 := by
  intro n
  induction n with
  | zero => intro V v5 t _ _ _ _ hm; have := rgI v5; omega
  | succ n ih =>
    intro V v5 t h hb h5 ht hm
    have J : w_X11_begin_J293 Q V := by
      unfold w_X11_begin_J293
      intro w
      refine ⟨h.hu, fun _ => ⟨_, wv_p2 h w (by omega), fun S71 q71 w71 s71 => ?_⟩⟩
      have r := (RvG.rf h).p w q71
      exact hQ _ r.1 (by have := r.2.1; omega)
    unfold w_X11_begin_L155
    intro w
    have un := (h.un w).2
    have nx : ∀ (u : MS) (a : Int32), WvI B S u → (qI u 28 1).toInt = (qI V 28 1).toInt + 8 → a = v5 + Int32.ofInt 1 → ¬ 24 ≤ v5.toInt → w_X11_begin_L155 Q n u v4 a := fun u a h1 h2 h3 d => by
      have e := t_inc h3 (by omega)
      exact ih (t + 1) h1 (by omega) (by omega) (by omega) (by omega)
    refine ⟨fun _ => J, fun _ => ⟨fun _ => J, fun d => ⟨h.hu, un.1.2.1, fun _ => bg_J187 h (by omega) (fun z => absurd li_0k z) (by omega) (fun u a h1 h2 h3 => nx u a h1 h2 h3 d), fun e => bg_J187 h (by omega) (fun _ => by omega) (by omega) (fun u a h1 h2 h3 => nx u a h1 h2 h3 d)⟩⟩⟩
end XB
/-! Writer: begin whole -/
section XC
variable {B : Nat × Nat} {S u v U V : MS} {i j s L p q : Nat} {x y a r o z : Int32} {c k m m' κ X W : Int}
theorem WvI.cn (h : WvI B S V) : (qI V (qO V 25 7) 2 = offS S 0 ∧ uNm S (qO S 25 7) (offS S 0)) ∧ (qI V (qO V 25 7) 3 = offS S 1 ∧ uNm S (qO S 25 7) (offS S 1)) := by
  have us := h.2.1
  have o0 : offS S 0 = qI S (qO S 25 7) 2 := by unfold offS; rw [if_pos rfl]
  have o1 : offS S 1 = qI S (qO S 25 7) 3 := by unfold offS; rw [if_neg (by decide), if_pos rfl]
  rw [o0, o1, us.O, (us.2.1 2).1, (us.2.1 3).1]
  exact ⟨⟨rfl, h.2.2.1.2.1.1⟩, rfl, h.2.2.1.2.1.2⟩
theorem wv_begin (g : ShC B U) (w : wfC U) (wb : WbI U) (kp : qT U p = 49) (nm : NmU U p) : wX11_begin U p x (fun u => ∃ S, WvI B S u ∧ qR S 25 7 = some p ∧ (qI u 28 1).toInt ≤ 204) := by
  obtain ⟨⟨b26, b28, b30⟩, n30, n28⟩ := wb
  unfold wX11_begin
  intro S1 e1 k1 w1 S2 e2 k2 w2 S3 e3 k3 w3 S4 e4 k4 w4 S5 e5 k5 w5 k36
  have f1 : cfr [242, 243] [(50, 7), (40, 1), (50, 5), (50, 6)] U S1 := by rw [e1]; exact cfr.oR k1 rfl
  have f2 : cfr [242, 243] [(50, 7), (40, 1), (50, 5), (50, 6)] S1 S2 := by rw [e2]; exact cfr.oI k2 rfl
  have f3 : cfr [242, 243] [(50, 7), (40, 1), (50, 5), (50, 6)] S2 S3 := by rw [e3]; exact cfr.oI k3 rfl
  have f4 : cfr [242, 243] [(50, 7), (40, 1), (50, 5), (50, 6)] S3 S4 := by rw [e4]; exact cfr.oI k4 rfl
  have f5 : cfr [242, 243] [(50, 7), (40, 1), (50, 5), (50, 6)] S4 S5 := by rw [e5]; exact cfr.oI k5 rfl
  have F5 := (((f1.tr f2).tr f3).tr f4).tr f5
  have g5 : ShC B S5 := ShC.ws w g F5 (by rw [e5, e4, e3, e2, e1]; rfl) (by rw [e5, e4, e3, e2, e1]; rfl) (by rw [e5, e4, e3, e2, e1]; rfl) rfl rfl
  have I5 : ∀ a j, qI S5 a j = if a = 25 ∧ j = 6 then 0 else if a = 25 ∧ j = 5 then 1 else if a = 28 ∧ j = 1 then 0 else if a = 26 ∧ j = 1 then 0 else qI U a j := fun a j => by
    rw [e5, qI_wI, e4, qI_wI, e3, qI_wI, e2, qI_wI, e1]
    rfl
  refine ⟨_, frJ7_fill_53178 k36 (by decide) (sfJ7_fill_53178 w5 k36 (by decide)), fun S7 q7 w7 s7 k37 => ?_⟩
  have g7 : ShC B S7 := ShC.ca w5 g5 q7.2 s7 w7 rfl rfl
  refine ⟨_, frJ7_fill_53178 k37 (by decide) (sfJ7_fill_53178 w7 k37 (by decide)), fun S10 q10 w10 s10 _ => ?_⟩
  have g10 : ShC B S10 := ShC.ca w7 g7 q10.2 s10 w10 rfl rfl
  have F10 : cfr [242, 243] [] S5 S10 := (q7.2.mo (K' := [242, 243]) (F' := []) rfl rfl).tr (q10.2.mo (K' := [242, 243]) (F' := []) rfl rfl)
  have FF := F5.tr (F10.mo (K' := [242, 243]) (F' := [(50, 7), (40, 1), (50, 5), (50, 6)]) rfl rfl)
  have kb : ∀ b, qT U b = 40 → qT S5 b = 40 := fun b h => F5.1.T h (by decide)
  have Ib : ∀ b, qT U b = 40 → qI S10 b 1 = qI S5 b 1 := fun b h => F10.kI (kb b h) rfl rfl
  have Rb : ∀ b, qT U b = 40 → qR S10 b 0 = qR U b 0 := fun b h => FF.kO h rfl rfl
  have BB : ∀ b cap, qT U b = 40 → ByI U b cap → (qI S5 b 1 = 0 ∨ qI S5 b 1 = qI U b 1) → ByI S10 b cap := fun b cap hb q hc => by
    have nb : qN S10 (qO U b 0) = qN U (qO U b 0) := (FF.1.1 _ (by rw [q.kr w hb]; decide)).2
    unfold ByI
    rw [qO_eq (Rb b hb), Rb b hb, nb, Ib b hb]
    refine ⟨q.1, ?_, q.2.2⟩
    rcases hc with e | e
    · rw [e, li_0k]; omega
    · rw [e]; exact q.2.1
  have c26 : qI S10 26 1 = 0 := by rw [Ib 26 w.k26, I5, if_neg (by decide), if_neg (by decide), if_neg (by decide), if_pos ⟨rfl, rfl⟩]
  have c28 : qI S10 28 1 = 0 := by rw [Ib 28 w.k28, I5, if_neg (by decide), if_neg (by decide), if_pos ⟨rfl, rfl⟩]
  have c30 : qI S5 30 1 = qI U 30 1 := by rw [I5, if_neg (by decide), if_neg (by decide), if_neg (by decide), if_neg (by decide)]
  have c5 : qI S10 25 5 = 1 := by rw [F10.kI w5.k25 rfl rfl, I5, if_neg (by decide), if_pos ⟨rfl, rfl⟩]
  have R7 : qR S10 25 7 = some p := by
    rw [F10.kO w5.k25 rfl rfl, e5, e4, e3, e2, e1]
    show qR (wR U 25 7 (some p)) 25 7 = some p
    rw [qR_wR, if_pos ⟨rfl, rfl⟩]
  have O7 := qO_of R7
  have kp10 : qT S10 p = 49 := FF.1.T kp (by decide)
  have un10 := g10.2.1 _ kp10
  have h10 : WvI B S10 S10 := by
    refine ⟨⟨⟨g10, ⟨by rw [c5, li_1k]; omega, fun k h1 h2 => ?_⟩, ⟨BB _ _ w.k26 b26 (Or.inl (by rw [← Ib 26 w.k26]; exact c26)), BB _ _ w.k28 b28 (Or.inl (by rw [← Ib 28 w.k28]; exact c28)), BB _ _ w.k30 b30 (Or.inr c30)⟩, by rw [qO_eq (Rb 26 w.k26), qO_eq (Rb 30 w.k30)]; exact n30, by rw [qO_eq (Rb 26 w.k26), qO_eq (Rb 28 w.k28)]; exact n28⟩, ?_⟩, uS.rf, ⟨by rw [O7]; exact R7, by rw [O7]; exact nm.mv w kp (g.2.1 _ kp) (uOld.fr FF rfl rfl) FF.1⟩, w10, by rw [O7]; exact w10.ref un10.1.1 kp10⟩
    · rw [c5, li_1k] at h2; omega
    · unfold PtI
      rw [c26, c5, li_0k, li_1k]
      omega
  rw [show (10000012 : Nat) = TXB + 2 * 6 from rfl]
  refine ⟨_, frX11_textEntry w10 (sp_textEntry (t := 6) (by decide) w10 h10.1.1 h10.pl), fun r14 S15 q15 w15 s15 S18 e18 k18 w18 => ?_⟩
  have h15 := h10.sm w10 ⟨q15.1.sm (by decide), q15.2⟩
  have f18 : cfr [] [(50, 8)] S15 S18 := by rw [e18]; exact cfr.oI k18 rfl
  have g18 : ShC B S18 := ShC.ws w15 h15.1.1.1.1 f18 (by rw [e18]; rfl) (by rw [e18]; rfl) (by rw [e18]; rfl) rfl rfl
  have h18 := h15.1.fr w15 f18 g18 rfl rfl rfl rfl
  have cn := h18.1.cn
  refine ⟨h18.1.hu, _, wv_name h18.1 w18 cn.1.2 cn.1.1, fun r22 S23 q23 w23 s23 => ?_⟩
  have h23 := h18.1.nm w18 (by decide) cn.1.2 cn.1.1 q23
  refine ⟨_, frX11_pointerEntry w23 (sp_pointerEntry w23 h23.1.1.1 h23.1.pl), fun r27 S28 q28 w28 s28 S31 e31 k31 w31 => ?_⟩
  have h28 := h23.1.sm w23 q28
  have f31 : cfr [] [(50, 9)] S28 S31 := by rw [e31]; exact cfr.oI k31 rfl
  have g31 : ShC B S31 := ShC.ws w28 h28.1.1.1.1 f31 (by rw [e31]; rfl) (by rw [e31]; rfl) (by rw [e31]; rfl) rfl rfl
  have h31 := h28.1.fr w28 f31 g31 rfl rfl rfl rfl
  have cn2 := h31.1.cn
  refine ⟨h31.1.hu, _, wv_name h31.1 w31 cn2.2.2 cn2.2.1, fun r35 S36 q36 w36 s36 => ?_⟩
  have h36 := h31.1.nm w31 (by decide) cn2.2.2 cn2.2.1 q36
  refine ⟨_, frX11_pointerEntry w36 (sp_pointerEntry w36 h36.1.1.1 h36.1.pl), fun r40 S41 q41 w41 s41 _ => ?_⟩
  have h41 := h36.1.sm w36 q41
  have i41 : (qI S41 28 1).toInt = 0 := by rw [h41.2.2.1, h36.2.2.1, h31.2, h28.2.2.1, h23.2.2.1, h18.2, h15.2.2.1, c28]; exact li_0k
  have r41 := RvG.rf h41.1
  refine ⟨_, wv_p2 h41.1 w41 (by omega), fun S45 q45 w45 s45 _ => ?_⟩
  have r45 := r41.p w41 q45
  have b45 := r45.2.1
  refine ⟨_, wv_p2 r45.1 w45 (by omega), fun S49 q49 w49 s49 _ => ?_⟩
  have r49 := r45.p w45 q49
  have b49 := r49.2.1
  refine ⟨_, wv_p2 r49.1 w49 (by omega), fun S53 q53 w53 s53 _ => ?_⟩
  have r53 := r49.p w49 q53
  have b53 := r53.2.1
  refine ⟨_, wv_p2 r53.1 w53 (by omega), fun S57 q57 w57 s57 => ?_⟩
  have r57 := r53.p w53 q57
  have b57 := r57.2.1
  refine ⟨r57.1.hu, fun a63 _ _ => ⟨_, wv_p2 r57.1 w57 (by omega), fun S65 q65 w65 s65 => ⟨2147483649, ?_⟩⟩⟩
  have r65 := r57.p w57 q65
  have b65 := r65.2.1
  exact bg_L155 (X := 10) (by omega) (fun u hu hb => ⟨S10, hu, R7, by omega⟩) _ 0 r65.1 (by omega) (by decide) (by decide) (by rw [li_0k]; decide)
end XC
/-! Writer: finish -/
section XD
variable {B : Nat × Nat} {S u v U V : MS} {i j s L p q o : Nat} {x y a r z : Int32} {c k m m' n6 n8 N : Int}
/-- what is written so far into Bytes o: N bytes -/
def FoI (B : Nat × Nat) (o : Nat) (n6 n8 N : Int) (V : MS) : Prop := ShC B V ∧ ByI V o 65536 ∧ WbI V ∧ (qI V 26 1).toInt = n6 ∧ (qI V 28 1).toInt = n8 ∧ (qI V o 1).toInt = N
theorem FoI.st (h : FoI B o n6 n8 N V) (w : wfC V) (ho : o = 3 ∨ o = 5) (p : ByPk o k 65536 V u) : FoI B o n6 n8 (N + k) u := by
  obtain ⟨g, b, ⟨⟨b26, b28, b30⟩, n30, n28⟩, e6, e8, eN⟩ := h
  obtain ⟨p1, p2, p3, p4⟩ := p
  have gu : ShC B u := by
    rcases ho with rfl | rfl
    · exact ShC.b_3 w g p3 p4 p1.2.2.2
    · exact ShC.b_5 w g p3 p4 p1.2.2.2
  have a26 := p3.at w.k26 (by decide) (by decide) (show 26 ≠ o by omega)
  have a28 := p3.at w.k28 (by decide) (by decide) (show 28 ≠ o by omega)
  have a30 := p3.at w.k30 (by decide) (by decide) (show 30 ≠ o by omega)
  exact ⟨gu, p1, ⟨⟨b26.fb w w.k26 p3 (by omega), b28.fb w w.k28 p3 (by omega), b30.fb w w.k30 p3 (by omega)⟩, by rw [qO_eq (a26 0).2, qO_eq (a30 0).2]; exact n30, by rw [qO_eq (a26 0).2, qO_eq (a28 0).2]; exact n28⟩, by rw [(a26 1).1]; exact e6, by rw [(a28 1).1]; exact e8, by omega⟩
theorem FoI.rm (h : FoI B o n6 n8 N V) (ho : o = 3 ∨ o = 5) : RmB o 65536 V := by
  rcases ho with rfl | rfl
  · exact h.1.rb_3
  · exact h.1.rb_5
theorem fi_L15 {Q : MS → Prop} (ho : o = 3 ∨ o = 5) (hn : 0 ≤ n6 ∧ 0 ≤ n8 ∧ n6 + n8 + 10 ≤ 65536) (hQ : ∀ u : MS, FoI B o n6 n8 (10 + n6 + n8) u → Q u) : ∀ (n : Nat) {V : MS} {v2 : Int32} (t : Nat), FoI B o n6 n8 t V → v2.toInt = (t : Int) → t ≤ 8 → 2147483648 - v2.toInt < n → w_X11_finish_L15 Q n V o v2 := by
  intro n
  induction n with
  | zero => intro V v2 t _ _ _ hm; have := rgI v2; omega
  | succ n ih =>
    intro V v2 t h h2 ht hm
    unfold w_X11_finish_L15
    intro w ko
    have eN := h.2.2.2.2.2
    refine ⟨fun d _ => ?_, fun d => ⟨by omega, fun _ => ?_⟩⟩
    · refine ⟨_, sp_put2 w ko h.2.1 p65 (by omega) (h.rm ho) (Q := fun u => ByPk o 2 65536 V u) (fun u q => q), fun S9 q9 w9 s9 k9 _ => ?_⟩
      have h9 := h.st w ho q9
      have b9 := h9.2.2.1.1.1
      have e6 := h9.2.2.2.1
      refine ⟨_, sp_putAll (cap := 65536) (by omega) h9.2.1 p65 ⟨b9.1, b9.2.1⟩ (by rw [h9.2.2.2.2.2, e6]; omega) (h9.rm ho) (Q := fun u => ByPk o (qI S9 26 1).toInt 65536 S9 u) (fun u q => q), fun S13 q13 w13 s13 k13 _ => ?_⟩
      have h13 := h9.st w9 ho q13
      rw [e6] at h13
      have b13 := h13.2.2.1.1.2.1
      have e8 := h13.2.2.2.2.1
      refine ⟨_, sp_putAll (cap := 65536) (by omega) h13.2.1 p65 ⟨b13.1, b13.2.1⟩ (by rw [h13.2.2.2.2.2, e8]; omega) (h13.rm ho) (Q := fun u => ByPk o (qI S13 28 1).toInt 65536 S13 u) (fun u q => q), fun S17 q17 w17 s17 => hQ _ ?_⟩
      have h17 := h13.st w13 ho q17
      rw [e8] at h17
      rw [show (10 : Int) + n6 + n8 = t + 2 + n6 + n8 by omega]
      exact h17
    · refine ⟨_, sp_put w ko h.2.1 p65 (by omega) (h.rm ho) (Q := fun u => ByPk o 1 65536 V u) (fun u q => q), fun S23 q23 w23 s23 a26 e26 => ?_⟩
      have h23 := h.st w ho q23
      have e := t_inc e26 (by omega)
      exact ih (t + 1) h23 (by omega) (by omega) (by omega)
theorem wv_finish (h : WvI B S U) (w : wfC U) (ho : o = 3 ∨ o = 5) (hb : ByI U o 65536) (hc : (qI U 28 1).toInt ≤ 50000) : wX11_finish U o (fun u => FoI B o (qI U 26 1).toInt ((qI U 28 1).toInt + 2) (10 + (qI U 26 1).toInt + ((qI U 28 1).toInt + 2)) u) := by
  have p26 := h.1.2.le h.1.1.2.1
  have q26 := h.1.1.2.2.1.1.2.1
  have q28 := h.1.1.2.2.1.2.1.2.1
  unfold wX11_finish
  refine fun _ => ⟨_, wv_p2 h w (by omega), fun S2 q2 w2 s2 S5 e5 k5 w5 => ⟨2147483649, ?_⟩⟩
  have r2 := (RvG.rf h).p w q2
  have ko : qT U o = 40 := by
    rcases ho with rfl | rfl
    · exact w.k3
    · exact w.k5
  have a26 := q2.1.1.2.2.1.at w.k26 (by decide) (by decide) (show 26 ≠ 28 by decide)
  have bo := hb.fb w ko q2.1.1.2.2.1 (by omega)
  have f : cfr [] [(40, 1)] S2 S5 := by rw [e5]; exact cfr.oI k5 rfl
  have I : ∀ a, a ≠ o → qI S5 a 1 = qI S2 a 1 := fun a ha => by rw [e5, qI_wI, if_neg (fun z => ha z.1)]
  have O : ∀ a j, qO S5 a j = qO S2 a j := fun a j => by rw [e5]; rfl
  have BB : ∀ b cap, b ≠ o → ByI S2 b cap → ByI S5 b cap := fun b cap hb q => by
    unfold ByI
    rw [O, I b hb, show qR S5 b 0 = qR S2 b 0 by rw [e5]; rfl, show qN S5 = qN S2 by rw [e5]; rfl]
    exact q
  have c0 : qI S5 o 1 = 0 := by rw [e5, qI_wI, if_pos ⟨rfl, rfl⟩]
  have bo5 : ByI S5 o 65536 := by
    unfold ByI
    rw [O, c0, show qR S5 o 0 = qR S2 o 0 by rw [e5]; rfl, show qN S5 = qN S2 by rw [e5]; rfl, li_0k]
    exact ⟨bo.1, by omega, bo.2.2⟩
  obtain ⟨⟨b26, b28, b30⟩, n30, n28⟩ := r2.1.wb
  have i28 := r2.2.1
  exact fi_L15 ho ⟨by omega, by omega, by omega⟩ (fun u q => q) _ 0 ⟨ShC.ws w2 r2.1.1.1.1 f (by rw [e5]; rfl) (by rw [e5]; rfl) (by rw [e5]; rfl) rfl rfl, bo5, ⟨⟨BB _ _ (by omega) b26, BB _ _ (by omega) b28, BB _ _ (by omega) b30⟩, by rw [O, O]; exact n30, by rw [O, O]; exact n28⟩, by rw [I 26 (by omega), (a26 1).1], by rw [I 28 (by omega)]; omega, by rw [c0]; exact li_0k⟩ (by decide) (by decide) (by rw [li_0k]; decide)
end XD
