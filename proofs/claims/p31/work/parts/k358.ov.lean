/-! values of types; what the checker's work leaves alone and gives (behind VmI.st) -/
def nb (t : Int32) : Int32 := vp_nar .byte t
theorem nb_nb (t : Int32) : nb (nb t) = nb t := by
  unfold nb
  rw [vp_nar_byte, vp_nar_byte]
  apply Int32.toInt_inj.mp
  rw [Int8.toInt_toInt32, Int8.toInt_toInt32, Int8.toInt8_toInt32]
theorem nb_8 (t : Int32) : vp_nar .byte (t.toInt8.toInt32) = nb t := by
  unfold nb
  rw [vp_nar_byte, vp_nar_byte, Int8.toInt8_toInt32]
/-- a value and its tag -/
abbrev TV : Type := Int64 × Int32
def qW (S : MS) (h j : Nat) : TV := (qJ S h j, qI S (h + 2) j)
def nW (v : TV) : TV := (v.1, nb v.2)
theorem fW {S u : MS} {W J : List Nat} (k : frm W J S u) {h : Nat} (h0 : h ≠ 0) (h1 : h ∉ W) (h2 : h + 2 ∉ W) : qW u h = qW S h := by
  funext j
  unfold qW
  rw [(k.2.2.2.2.1 h h0 h1).2.1, (k.2.2.2.2.1 (h + 2) (by omega) h2).1]
theorem qW_I {S : MS} {r i h : Nat} {v : Int32} (hr : ¬ h + 2 = r) : qW (wI S r i v) h = qW S h := by
  funext j
  unfold qW
  rw [qI_wI, if_neg (fun q => hr q.1)]
  rfl
/-- a value of a type, where n arrays are made; its tag is one of the type -/
def okV (n : Int) (t : Int32) (v : TV) : Prop := (t.toInt = 4 → 0 ≤ v.1.toInt ∧ v.1.toInt ≤ n) ∧ (t.toInt = 6 → v.1.toInt = 0) ∧ (t.toInt = 1 → -2147483648 ≤ v.1.toInt ∧ v.1.toInt ≤ 2147483647) ∧ (t.toInt = 5 → -2147483648 ≤ v.1.toInt ∧ v.1.toInt ≤ 0) ∧ sbT v.2 t
theorem okV.sb {n : Int} {t o : Int32} {v : TV} (h : okV n t v) (hs : sbT t o) (hn : 0 ≤ n) : okV n o v := by
  have st : sbT v.2 o := sbT.tr h.2.2.2.2 hs
  rcases hs with q | q | ⟨q, r⟩
  · exact ⟨fun c => h.1 (by omega), fun c => h.2.1 (by omega), fun c => h.2.2.1 (by omega), fun c => h.2.2.2.1 (by omega), st⟩
  · exact ⟨fun c => by omega, fun c => by omega, fun c => by omega, fun c => by omega, st⟩
  · have := h.2.1 q
    exact ⟨fun _ => ⟨by omega, by omega⟩, fun c => by omega, fun c => by omega, fun _ => ⟨by omega, by omega⟩, st⟩
theorem okV.mono {n m : Int} {t : Int32} {v : TV} (h : okV n t v) (hm : n ≤ m) : okV m t v := ⟨fun c => ⟨(h.1 c).1, by have := (h.1 c).2; omega⟩, h.2⟩
theorem okV.no {n : Int} {t : Int32} {v : TV} (h4 : ¬ t.toInt = 4) (h6 : ¬ t.toInt = 6) (h1 : ¬ t.toInt = 1) (h5 : ¬ t.toInt = 5) (hs : sbT v.2 t) : okV n t v := ⟨fun c => absurd c h4, fun c => absurd c h6, fun c => absurd c h1, fun c => absurd c h5, hs⟩
theorem sb_nb {t o : Int32} (h : sbT t o) : sbT (nb t) (nb o) := by
  rcases h with q | q | ⟨q, r⟩
  · rw [Int32.toInt_inj.mp q]
    exact Or.inl rfl
  · have e : o = 0 := Int32.toInt_inj.mp (by rw [q]; rfl)
    subst e
    exact Or.inr (Or.inl (by decide))
  · have e : t = 6 := Int32.toInt_inj.mp (by rw [q]; rfl)
    subst e
    rcases r with r | r
    · have e : o = 4 := Int32.toInt_inj.mp (by rw [r]; rfl)
      subst e
      exact Or.inr (Or.inr (by decide))
    · have e : o = 5 := Int32.toInt_inj.mp (by rw [r]; rfl)
      subst e
      exact Or.inr (Or.inr (by decide))
/-- locals sl and pile pl hold values of the types a -/
theorem okV.nw {n : Int} {t : Int32} {v : TV} (h : okV n (nb t) v) : okV n (nb t) (nW v) := by
  have s := sb_nb h.2.2.2.2
  rw [nb_nb] at s
  exact ⟨h.1, h.2.1, h.2.2.1, h.2.2.2.1, s⟩
def okA (n : Int) (a : AS) (sl pl : Nat → TV) : Prop := (∀ k : Nat, k < 24 → okV n (aL a k) (sl k)) ∧ ∀ k : Nat, (k : Int) < (aT a).toInt → okV n (aP a k) (pl k)
theorem okA.nx {S : MS} {j : Nat} {y n : Int} {t : Nat → Int32} {b : AS} {sl pl : Nat → TV} (hn : 0 ≤ n) (h : nxT S j y t) (hb : MtA S j b) (h1 : ∀ k : Nat, k < 24 → okV n (nb (t k)) (sl k)) (h2 : ∀ k : Nat, (k : Int) < y → okV n (nb (t (24 + k))) (pl k)) (hy : 0 ≤ y) : okA n b sl pl := by
  obtain ⟨-, e, s⟩ := h
  obtain ⟨b1, b2, b3⟩ := hb
  refine ⟨fun k hk => ?_, fun k hk => ?_⟩
  · rw [b1 k hk]
    exact (h1 k hk).sb (sb_nb (s k (by omega))) hn
  · rw [b2 k (by omega)]
    rw [Nat.add_assoc]
    exact (h2 k (by omega)).sb (sb_nb (s (24 + k) (by omega))) hn
/-- the types of a place are bytes -/
theorem MtA.nb {S : MS} {x : Nat} {a : AS} (h : MtA S x a) : (∀ k : Nat, k < 24 → nb (aL a k) = aL a k) ∧ ∀ k : Nat, (k : Int) < (aT a).toInt → nb (aP a k) = aP a k := by
  obtain ⟨b1, b2, b3⟩ := h
  refine ⟨fun k hk => ?_, fun k hk => ?_⟩
  · rw [b1 k hk]; exact nb_nb _
  · rw [b2 k (by omega)]; exact nb_nb _
theorem LP_take {c : Int32} {a : AS} : aL (aTake c a) = aL a ∧ aP (aTake c a) = aP a := by
  unfold aTake
  by_cases c1 : c.toInt = 73
  · rw [if_pos c1]; exact ⟨rfl, rfl⟩
  · rw [if_neg c1]
    by_cases c2 : c.toInt = 65
    · rw [if_pos c2]; exact ⟨rfl, rfl⟩
    · rw [if_neg c2]
      by_cases c3 : c.toInt = 69
      · rw [if_pos c3]; exact ⟨rfl, rfl⟩
      · rw [if_neg c3]
        by_cases c4 : c.toInt = 82
        · rw [if_pos c4]; exact ⟨rfl, rfl⟩
        · rw [if_neg c4]; exact ⟨rfl, rfl⟩
theorem LP_takes {g : Nat → Int32} : ∀ (n : Nat) (a : AS), aL (aTakes g n a) = aL a ∧ aP (aTakes g n a) = aP a := by
  intro n
  induction n with
  | zero => intro a; exact ⟨rfl, rfl⟩
  | succ n ih =>
    intro a
    have e := LP_take (c := g n) (a := a)
    unfold aTakes
    rw [(ih _).1, (ih _).2, e.1, e.2]
    exact ⟨rfl, rfl⟩
theorem L_gives {g : Nat → Int32} {th : Int32} : ∀ (n k : Nat) (a : AS), aL (aGives g th k n a) = aL a ∧ aF (aGives g th k n a) = aF a := by
  intro n
  induction n with
  | zero => intro k a; exact ⟨rfl, rfl⟩
  | succ n ih =>
    intro k a
    unfold aGives
    rw [(ih _ _).1, (ih _ _).2]
    unfold aGive
    by_cases c : (g k).toInt = 74
    · rw [if_pos c]; exact ⟨rfl, rfl⟩
    · rw [if_neg c]; exact ⟨rfl, rfl⟩
theorem P_push {t : Int32} {a : AS} (ht : 0 ≤ (aT a).toInt) : (∀ k : Nat, (k : Int) < (aT a).toInt → aP (aPush t a) k = aP a k) ∧ aP (aPush t a) (aT a).toInt.toNat = nb t := by
  refine ⟨fun k hk => ?_, ?_⟩
  · show upd (aP a) (aT a).toInt.toNat _ k = _
    unfold upd
    rw [if_neg (by omega)]
  · show upd (aP a) (aT a).toInt.toNat _ (aT a).toInt.toNat = _
    unfold upd
    rw [if_pos rfl, nb_8]
/-- nothing that is needed fails later: fits falls only -/
theorem F_need {g : Int32} {a : AS} (h : ¬ (aF (aNeed g a)).toInt = 0) : ¬ (aF a).toInt = 0 ∧ ¬ g.toInt = 0 := by
  unfold aNeed aF at h
  refine ⟨fun q => h ?_, fun q => h ?_⟩
  · show (if (aF a).toInt = 0 then (0 : Int32) else if g.toInt = 0 then 0 else 1).toInt = 0
    rw [if_pos q]; rfl
  · show (if (aF a).toInt = 0 then (0 : Int32) else if g.toInt = 0 then 0 else 1).toInt = 0
    rw [if_pos q, ite_self]; rfl
theorem T_take {c : Int32} {a : AS} (h : ¬ (aF (aTake c a)).toInt = 0) : (c.toInt = 69 → (aTop a).toInt = 5 ∨ (aTop a).toInt = 6) ∧ (c.toInt = 82 → ¬ (isTh (aTop a)).toInt = 0) ∧ (c.toInt = 74 → (aTop a).toInt = 3 ∧ (aTop (aPull a)).toInt = 2) := by
  unfold aTake at h
  by_cases c1 : c.toInt = 73
  · exact ⟨fun q => by omega, fun q => by omega, fun q => by omega⟩
  · rw [if_neg c1] at h
    by_cases c2 : c.toInt = 65
    · exact ⟨fun q => by omega, fun q => by omega, fun q => by omega⟩
    · rw [if_neg c2] at h
      by_cases c3 : c.toInt = 69
      · rw [if_pos c3] at h
        have g := (F_need h).2
        refine ⟨fun _ => ?_, fun q => by omega, fun q => by omega⟩
        by_cases q : (aTop a).toInt = 5
        · exact Or.inl q
        · rw [if_neg q] at g
          by_cases q2 : (aTop a).toInt = 6
          · exact Or.inr q2
          · rw [if_neg q2] at g; exact absurd rfl g
      · rw [if_neg c3] at h
        by_cases c4 : c.toInt = 82
        · rw [if_pos c4] at h
          exact ⟨fun q => by omega, fun _ => (F_need h).2, fun q => by omega⟩
        · rw [if_neg c4] at h
          have g := (F_need h).2
          refine ⟨fun q => by omega, fun q => by omega, fun _ => ?_⟩
          by_cases q : (aTop a).toInt = 3
          · rw [if_pos q] at g
            by_cases q2 : (aTop (aPull a)).toInt = 2
            · exact ⟨q, q2⟩
            · rw [if_neg q2] at g; exact absurd rfl g
          · rw [if_neg q] at g; exact absurd rfl g
theorem F_take {c : Int32} {a : AS} (h : ¬ (aF (aTake c a)).toInt = 0) : ¬ (aF a).toInt = 0 ∧ (c.toInt = 65 → (aTop a).toInt = 4 ∨ (aTop a).toInt = 6) ∧ (c.toInt = 73 → (aTop a).toInt = 1) := by
  unfold aTake at h
  by_cases c1 : c.toInt = 73
  · rw [if_pos c1] at h
    refine ⟨(F_need h).1, fun q => by omega, fun _ => ?_⟩
    have g := (F_need h).2
    by_cases q : (aTop a).toInt = 1
    · exact q
    · rw [if_neg q] at g; exact absurd rfl g
  · rw [if_neg c1] at h
    by_cases c2 : c.toInt = 65
    · rw [if_pos c2] at h
      refine ⟨(F_need h).1, fun _ => ?_, fun q => absurd q c1⟩
      have g := (F_need h).2
      by_cases q : (aTop a).toInt = 4
      · exact Or.inl q
      · rw [if_neg q] at g
        by_cases q2 : (aTop a).toInt = 6
        · exact Or.inr q2
        · rw [if_neg q2] at g; exact absurd rfl g
    · rw [if_neg c2] at h
      by_cases c3 : c.toInt = 69
      · rw [if_pos c3] at h
        exact ⟨(F_need h).1, fun q => by omega, fun q => absurd q c1⟩
      · rw [if_neg c3] at h
        by_cases c4 : c.toInt = 82
        · rw [if_pos c4] at h
          exact ⟨(F_need h).1, fun q => by omega, fun q => absurd q c1⟩
        · rw [if_neg c4] at h
          exact ⟨(F_need h).1, fun q => by omega, fun q => absurd q c1⟩
/-- what else a letter wants of the places from q on -/
def tkO (c : Int32) (g : Nat → Int32) (q : Int) : Prop := (c.toInt = 69 → (g q.toNat).toInt = 5 ∨ (g q.toNat).toInt = 6) ∧ (c.toInt = 82 → ¬ (isTh (g q.toNat)).toInt = 0) ∧ (c.toInt = 74 → (g q.toNat).toInt = 2 ∧ (g (q + 1).toNat).toInt = 3)
/-- the letters that are taken: an array is an array or null -/
theorem F_takes {g : Nat → Int32} : ∀ (n : Nat) (a : AS), (∀ i : Nat, i < n → (g i).toInt = 73 ∨ (g i).toInt = 74 ∨ (g i).toInt = 65 ∨ (g i).toInt = 69 ∨ (g i).toInt = 82) → plc g n ≤ (aT a).toInt → (aT a).toInt ≤ 28 → ¬ (aF (aTakes g n a)).toInt = 0 → ¬ (aF a).toInt = 0 ∧ ∀ i : Nat, i < n → ((g i).toInt = 65 → (aP a ((aT a).toInt - plc g n + plc g i).toNat).toInt = 4 ∨ (aP a ((aT a).toInt - plc g n + plc g i).toNat).toInt = 6) ∧ ((g i).toInt = 73 → (aP a ((aT a).toInt - plc g n + plc g i).toNat).toInt = 1) ∧ tkO (g i) (aP a) ((aT a).toInt - plc g n + plc g i) := by
  intro n
  induction n with
  | zero => intro a _ _ _ h; exact ⟨h, fun i hi => by omega⟩
  | succ n ih =>
    intro a hl hp ht h
    have p0 := plc_ge (g := g) n
    have pk : plc g (n + 1) = plc g n + if (g n).toInt = 74 then 2 else 1 := rfl
    rw [pk] at hp ⊢
    have z01 : 1 ≤ (if (g n).toInt = 74 then (2 : Int) else 1) := by split <;> omega
    have h1 : 1 ≤ (aT a).toInt := by omega
    have e := t_take (c := g n) ⟨h1, ht⟩ (hl n (by omega))
    unfold aTakes at h
    obtain ⟨f1, f2⟩ := ih (aTake (g n) a) (fun i hi => hl i (by omega)) (by omega) (by omega) h
    obtain ⟨k1, k2⟩ := F_take f1
    refine ⟨k1, fun i hi => ?_⟩
    by_cases w : i = n
    · subst w
      have e' : (aT a - (1 : Int32)).toInt = (aT a).toInt - 1 := by rw [t_sub (by rw [li_1]; omega), li_1]
      have k2' := k2.1
      have k3' := k2.2
      unfold aTop at k2' k3'
      rw [e'] at k2' k3'
      have k4 := T_take f1
      have et : aTop a = aP a ((aT a).toInt - 1).toNat := by unfold aTop; rw [e']
      have et2 : 2 ≤ (aT a).toInt → aTop (aPull a) = aP a ((aT a).toInt - 2).toNat := fun h2 => by
        have e2' : (aT a - (1 : Int32) - (1 : Int32)).toInt = (aT a).toInt - 2 := by rw [t_sub (by rw [e', li_1]; omega), e', li_1]; omega
        show aP a (aT a - (1 : Int32) - (1 : Int32)).toInt.toNat = _
        rw [e2']
      refine ⟨fun q => ?_, fun q => ?_, fun q => ?_, fun q => ?_, fun q => ?_⟩
      · rw [if_neg (show ¬ (g i).toInt = 74 by omega), show (aT a).toInt - (plc g i + 1) + plc g i = (aT a).toInt - 1 by omega]
        exact k2' q
      · rw [if_neg (show ¬ (g i).toInt = 74 by omega), show (aT a).toInt - (plc g i + 1) + plc g i = (aT a).toInt - 1 by omega]
        exact k3' q
      · rw [if_neg (show ¬ (g i).toInt = 74 by omega), show (aT a).toInt - (plc g i + 1) + plc g i = (aT a).toInt - 1 by omega, ← et]
        exact k4.1 q
      · rw [if_neg (show ¬ (g i).toInt = 74 by omega), show (aT a).toInt - (plc g i + 1) + plc g i = (aT a).toInt - 1 by omega, ← et]
        exact k4.2.1 q
      · have q2 := q
        rw [if_pos q] at hp ⊢
        rw [show (aT a).toInt - (plc g i + 2) + plc g i = (aT a).toInt - 2 by omega, show (aT a).toInt - 2 + 1 = (aT a).toInt - 1 by omega, ← et, ← et2 (by omega)]
        exact ⟨(k4.2.2 q2).2, (k4.2.2 q2).1⟩
    · have t := f2 i (by omega)
      rw [(LP_take (c := g n) (a := a)).2, e] at t
      rw [show (aT a).toInt - (plc g n + (if (g n).toInt = 74 then 2 else 1)) + plc g i = (aT a).toInt - (if (g n).toInt = 74 then 2 else 1) - plc g n + plc g i by omega]
      exact t
/-! the work of an instruction that is no move, taken apart (behind F_takes, cg_wk) -/
def ltT (c th : Int32) : Int32 := if c.toInt = 74 then 2 else if c.toInt = 73 then 1 else if c.toInt = 65 then 4 else if c.toInt = 78 then 6 else th
theorem P_gives {g : Nat → Int32} {th : Int32} : ∀ (n k : Nat) (a : AS), 0 ≤ (aT a).toInt → (aT a).toInt + (plc g (k + n) - plc g k) ≤ 28 → (aT (aGives g th k n a)).toInt = (aT a).toInt + (plc g (k + n) - plc g k) ∧ (∀ i : Nat, (i : Int) < (aT a).toInt → aP (aGives g th k n a) i = aP a i) ∧ ∀ i : Nat, i < n → aP (aGives g th k n a) ((aT a).toInt + (plc g (k + i) - plc g k)).toNat = nb (ltT (g (k + i)) th) ∧ ((g (k + i)).toInt = 74 → aP (aGives g th k n a) ((aT a).toInt + (plc g (k + i) - plc g k) + 1).toNat = nb 3) := by
  intro n
  induction n with
  | zero =>
    intro k a _ _
    refine ⟨?_, fun _ _ => rfl, fun i hi => by omega⟩
    rw [Nat.add_zero]
    show (aT a).toInt = _
    omega
  | succ n ih =>
    intro k a h0 hp
    have up : ∀ (d m : Nat), plc g m ≤ plc g (m + d) := by
      intro d
      induction d with
      | zero => intro m; exact Int.le_refl _
      | succ d ih2 =>
        intro m
        have := ih2 m
        have e9 : plc g (m + (d + 1)) = plc g (m + d) + if (g (m + d)).toInt = 74 then 2 else 1 := rfl
        rw [e9]
        split <;> omega
    have u1 := up n (k + 1)
    have pk : plc g (k + 1) = plc g k + if (g k).toInt = 74 then 2 else 1 := rfl
    have ex : k + (n + 1) = k + 1 + n := by omega
    rw [ex] at hp ⊢
    have eg : aGives g th k (n + 1) a = aGives g th (k + 1) n (aGive (g k) th a) := rfl
    rw [eg]
    -- one letter
    have one : (aT (aGive (g k) th a)).toInt = (aT a).toInt + (plc g (k + 1) - plc g k) ∧ (∀ i : Nat, (i : Int) < (aT a).toInt → aP (aGive (g k) th a) i = aP a i) ∧ aP (aGive (g k) th a) (aT a).toInt.toNat = nb (ltT (g k) th) ∧ ((g k).toInt = 74 → aP (aGive (g k) th a) ((aT a).toInt + 1).toNat = nb 3) := by
      by_cases w : (g k).toInt = 74
      · rw [if_pos w] at pk
        have t1 := t_push (t := 2) (a := a) ⟨by omega, by omega⟩
        have t2 := t_push (t := 3) (a := aPush 2 a) ⟨by omega, by omega⟩
        obtain ⟨a1, a2⟩ := P_push (t := 2) (a := a) h0
        obtain ⟨b1, b2⟩ := P_push (t := 3) (a := aPush 2 a) (by omega)
        unfold aGive ltT
        rw [if_pos w, if_pos w]
        refine ⟨by omega, fun i hi => by rw [b1 i (by omega), a1 i hi], by rw [b1 _ (by omega), a2], fun _ => by rw [← t1]; exact b2⟩
      · rw [if_neg w] at pk
        have el : (if (g k).toInt = 73 then (1 : Int32) else if (g k).toInt = 65 then 4 else if (g k).toInt = 78 then 6 else th) = ltT (g k) th := by unfold ltT; rw [if_neg w]
        unfold aGive
        rw [if_neg w, el]
        have t1 := t_push (t := ltT (g k) th) (a := a) ⟨by omega, by omega⟩
        obtain ⟨a1, a2⟩ := P_push (t := ltT (g k) th) (a := a) h0
        exact ⟨by omega, a1, a2, fun q => absurd q w⟩
    obtain ⟨o1, o2, o3, o4⟩ := one
    have uk : plc g k + 1 ≤ plc g (k + 1) := by rw [pk]; split <;> omega
    obtain ⟨i1, i2, i3⟩ := ih (k + 1) (aGive (g k) th a) (by omega) (by omega)
    refine ⟨by omega, fun i hi => by rw [i2 i (by omega), o2 i hi], fun i hi => ?_⟩
    by_cases z : i = 0
    · subst z
      simp only [Nat.add_zero, Int.sub_self, Int.add_zero]
      refine ⟨by rw [i2 _ (by omega), o3], fun q => ?_⟩
      rw [if_pos q] at pk
      rw [i2 _ (by omega), o4 q]
    · obtain ⟨j, rfl⟩ : ∃ j : Nat, i = j + 1 := ⟨i - 1, by omega⟩
      have := i3 j (by omega)
      rw [o1] at this
      rw [show k + (j + 1) = k + 1 + j by omega, show (aT a).toInt + (plc g (k + 1 + j) - plc g k) = (aT a).toInt + (plc g (k + 1) - plc g k) + (plc g (k + 1 + j) - plc g (k + 1)) by omega]
      exact this
theorem L_ite {c : Prop} [Decidable c] {u v u' v' : AS} (h1 : aL u = aL u') (h2 : aL v = aL v') : aL (if c then u else v) = aL (if c then u' else v') := by
  by_cases z : c
  · rw [if_pos z, if_pos z]; exact h1
  · rw [if_neg z, if_neg z]; exact h2
theorem L_set {k : Nat} {t : Int32} {a b : AS} (h : aL a = aL b) : aL (aSet k t a) = aL (aSet k t b) := by
  show upd (aL a) k _ = upd (aL b) k _
  rw [h]
theorem L_store {a b : AS} {op k th : Int32} (h : aL a = aL b) : aL (aStore op k th a) = aL (aStore op k th b) := by
  unfold aStore
  simp only
  have s1 : aL (if k.toInt ≤ 0 then a else if (aL a (k - 1).toInt.toNat).toInt = 2 then aSet (k - 1).toInt.toNat 0 a else a) = aL (if k.toInt ≤ 0 then b else if (aL b (k - 1).toInt.toNat).toInt = 2 then aSet (k - 1).toInt.toNat 0 b else b) := by
    rw [h]
    exact L_ite h (L_ite (L_set h) h)
  revert s1
  generalize (if k.toInt ≤ 0 then a else if (aL a (k - 1).toInt.toNat).toInt = 2 then aSet (k - 1).toInt.toNat 0 a else a) = a1
  generalize (if k.toInt ≤ 0 then b else if (aL b (k - 1).toInt.toNat).toInt = 2 then aSet (k - 1).toInt.toNat 0 b else b) = b1
  intro s1
  rw [s1]
  exact L_ite (L_set (L_set (L_ite s1 (L_ite (L_set s1) s1)))) (L_set (L_ite s1 (L_ite (L_set s1) s1)))
theorem PTF_store {a : AS} {op k th : Int32} : aP (aStore op k th a) = aP a ∧ aT (aStore op k th a) = aT a ∧ aF (aStore op k th a) = aF a := by
  unfold aStore
  simp only
  repeat' split
  all_goals exact ⟨rfl, rfl, rfl⟩
theorem set_k {a : AS} {k j : Nat} {t : Int32} : aL (aSet k t a) j = if j = k then nb t else aL a j := by
  show upd (aL a) k _ j = _
  unfold upd
  rw [nb_8]
/-- behind a store: its place has the new type, any other its own or none or the high half -/
theorem k_store {a : AS} {op k th : Int32} (hk : 0 ≤ k.toInt ∧ k.toInt < 24) : aL (aStore op k th a) k.toInt.toNat = nb (if op.toInt = 54 then 1 else if op.toInt = 55 then 2 else th) ∧ ∀ j : Nat, j ≠ k.toInt.toNat → (aL (aStore op k th a) j = aL a j ∧ ¬ (op.toInt = 55 ∧ j = k.toInt.toNat + 1)) ∨ aL (aStore op k th a) j = 0 ∨ (aL (aStore op k th a) j = 3 ∧ op.toInt = 55 ∧ j = k.toInt.toNat + 1) := by
  have e2 : (k + (1 : Int32)).toInt = k.toInt + 1 := by rw [t_add (by rw [li_1]; omega), li_1]
  have n0 : nb 0 = 0 := by decide
  have n3 : nb 3 = 3 := by decide
  unfold aStore
  simp only
  have hn2 : ((if op.toInt = 55 then (2 : Int32) else 1).toInt = 2) ↔ op.toInt = 55 := by
    by_cases q : op.toInt = 55
    · rw [if_pos q]; exact ⟨fun _ => q, fun _ => by decide⟩
    · rw [if_neg q]; exact ⟨fun z => absurd z (by decide), fun z => absurd z q⟩
  revert hn2
  generalize (if op.toInt = 55 then (2 : Int32) else 1) = n
  intro hn2
  generalize (if op.toInt = 54 then (1 : Int32) else if op.toInt = 55 then 2 else th) = t
  have s1 : ∀ j : Nat, aL (if k.toInt ≤ 0 then a else if (aL a (k - 1).toInt.toNat).toInt = 2 then aSet (k - 1).toInt.toNat 0 a else a) j = aL a j ∨ aL (if k.toInt ≤ 0 then a else if (aL a (k - 1).toInt.toNat).toInt = 2 then aSet (k - 1).toInt.toNat 0 a else a) j = 0 := fun j => by
    by_cases z : k.toInt ≤ 0
    · rw [if_pos z]; exact Or.inl rfl
    · rw [if_neg z]
      by_cases z2 : (aL a (k - 1).toInt.toNat).toInt = 2
      · rw [if_pos z2, set_k]
        by_cases z3 : j = (k - 1).toInt.toNat
        · rw [if_pos z3]; exact Or.inr n0
        · rw [if_neg z3]; exact Or.inl rfl
      · rw [if_neg z2]; exact Or.inl rfl
  revert s1
  generalize (if k.toInt ≤ 0 then a else if (aL a (k - 1).toInt.toNat).toInt = 2 then aSet (k - 1).toInt.toNat 0 a else a) = a1
  intro s1
  have s2 : ∀ j : Nat, aL (if 24 ≤ (k + n).toInt then a1 else if (aL a1 (k + n).toInt.toNat).toInt = 3 then aSet (k + n).toInt.toNat 0 a1 else a1) j = aL a j ∨ aL (if 24 ≤ (k + n).toInt then a1 else if (aL a1 (k + n).toInt.toNat).toInt = 3 then aSet (k + n).toInt.toNat 0 a1 else a1) j = 0 := fun j => by
    by_cases z : 24 ≤ (k + n).toInt
    · rw [if_pos z]; exact s1 j
    · rw [if_neg z]
      by_cases z2 : (aL a1 (k + n).toInt.toNat).toInt = 3
      · rw [if_pos z2, set_k]
        by_cases z3 : j = (k + n).toInt.toNat
        · rw [if_pos z3]; exact Or.inr n0
        · rw [if_neg z3]; exact s1 j
      · rw [if_neg z2]; exact s1 j
  revert s2
  generalize (if 24 ≤ (k + n).toInt then a1 else if (aL a1 (k + n).toInt.toNat).toInt = 3 then aSet (k + n).toInt.toNat 0 a1 else a1) = a2
  intro s2
  have s3 : aL (aSet k.toInt.toNat t a2) k.toInt.toNat = nb t ∧ ∀ j : Nat, j ≠ k.toInt.toNat → aL (aSet k.toInt.toNat t a2) j = aL a j ∨ aL (aSet k.toInt.toNat t a2) j = 0 := by
    refine ⟨by rw [set_k, if_pos rfl], fun j hj => ?_⟩
    rw [set_k, if_neg hj]
    exact s2 j
  by_cases z : n.toInt = 2
  · rw [if_pos z]
    refine ⟨by rw [set_k, if_neg (by omega)]; exact s3.1, fun j hj => ?_⟩
    rw [set_k]
    by_cases z3 : j = (k + 1).toInt.toNat
    · rw [if_pos z3]; exact Or.inr (Or.inr ⟨n3, hn2.mp z, by omega⟩)
    · rw [if_neg z3]
      rcases s3.2 j hj with q | q
      · exact Or.inl ⟨q, fun y => z3 (by omega)⟩
      · exact Or.inr (Or.inl q)
  · rw [if_neg z]
    refine ⟨s3.1, fun j hj => ?_⟩
    rcases s3.2 j hj with q | q
    · exact Or.inl ⟨q, fun y => z (hn2.mpr y.1)⟩
    · exact Or.inr (Or.inl q)
/-! values behind the work of an instruction that is no move (behind k_store, P_gives, F_takes) -/
noncomputable def thV (S : MS) (x : Int32) (a : AS) : Int32 := if (isTh (if (f_op S x).toInt = 25 then aL a (f_first S x).toInt.toNat else if (f_op S x).toInt = 58 then aTop a else 0)).toInt = 0 then 0 else (if (f_op S x).toInt = 25 then aL a (f_first S x).toInt.toNat else if (f_op S x).toInt = 58 then aTop a else 0)
def isSt (op : Int32) : Prop := op.toInt = 54 ∨ op.toInt = 55 ∨ op.toInt = 58
theorem mv_iff {S : MS} {o : Int32} : 0 < (f_moved S o).toInt ↔ (o.toInt = 87 ∨ o.toInt = 88 ∨ o.toInt = 89 ∨ o.toInt = 90 ∨ o.toInt = 92 ∨ o.toInt = 95) := by
  unfold f_moved f_moved_J12 f_moved_J40
  by_cases z1 : o.toInt = 87
  · rw [if_pos z1]; simp [z1]
  · rw [if_neg z1]
    by_cases z2 : o.toInt = 89
    · rw [if_pos z2]; simp [z2]
    · rw [if_neg z2]
      by_cases z3 : o.toInt = 88
      · rw [if_pos z3]; simp [z3]
      · rw [if_neg z3]
        by_cases z4 : o.toInt = 90
        · rw [if_pos z4]; simp [z4]
        · rw [if_neg z4]
          by_cases z5 : o.toInt = 92
          · rw [if_pos z5]; simp [z5]
          · rw [if_neg z5]
            by_cases z6 : o.toInt = 95
            · rw [if_pos z6]; simp [z6]
            · rw [if_neg z6]; simp [z1, z2, z3, z4, z5, z6]
theorem F_w2 {op fst rm : Int32} {a : AS} (h : ¬ (aF (aW2 op fst rm a)).toInt = 0) : ¬ (aF a).toInt = 0 ∧ ((op.toInt = 172 ∨ op.toInt = 173 ∨ op.toInt = 176 ∨ op.toInt = 177) → ¬ rm.toInt = 0) ∧ (op.toInt = 21 ∨ op.toInt = 132 → (aL a fst.toInt.toNat).toInt = 1) := by
  unfold aW2 at h
  simp only at h
  have st : ∀ (c : Prop) [Decidable c] (g : Int32) (u : AS), ¬ (aF (if c then aNeed g u else u)).toInt = 0 → ¬ (aF u).toInt = 0 ∧ (c → ¬ g.toInt = 0) := fun c _ g u hu => by
    by_cases z : c
    · rw [if_pos z] at hu
      exact ⟨(F_need hu).1, fun _ => (F_need hu).2⟩
    · rw [if_neg z] at hu
      exact ⟨hu, fun q => absurd q z⟩
  obtain ⟨h1, h2⟩ := st _ _ _ h
  have h3 := st _ _ _ (st _ _ _ h1).1
  refine ⟨h3.1, h2, fun q => ?_⟩
  have g := h3.2 q
  by_cases z : (aL a fst.toInt.toNat).toInt = 1
  · exact z
  · rw [if_neg z] at g; exact absurd rfl g
theorem R_ite {c : Prop} [Decidable c] {u v : AS} {R : AS → Prop} (h1 : R u) (h2 : R v) : R (if c then u else v) := by
  by_cases z : c
  · rw [if_pos z]; exact h1
  · rw [if_neg z]; exact h2
theorem wk_dec {S : MS} {a : AS} {x : Int32} {p : Nat} (h : LkI S) (ht : TxI S) (hx : 0 ≤ x.toInt ∧ x.toInt < (qI S 0 52).toInt) (hT : tkV S x ≤ (aT a).toInt ∧ (aT a).toInt ≤ 24 ∧ (aT a).toInt - tkV S x + gvV S x ≤ 28) (hm : ¬ 0 < (f_moved S (f_op S x)).toInt) : ∃ b : AS, wkV S x p a = aGives (qI S (f_givesOf S x + 1)) (thV S x a) 0 (qN S (f_givesOf S x + 1)) b ∧ aP b = aP a ∧ (aT b).toInt = (aT a).toInt - tkV S x ∧ (¬ isSt (f_op S x) → aL b = aL a) ∧ (isSt (f_op S x) → aL b = aL (aStore (f_op S x) (f_first S x) (thV S x a) a)) ∧ (¬ (aF (wkV S x p a)).toInt = 0 → (((f_op S x).toInt = 172 ∨ (f_op S x).toInt = 173 ∨ (f_op S x).toInt = 176 ∨ (f_op S x).toInt = 177) → ¬ (rmV S (f_op S x) p).toInt = 0) ∧ ((f_op S x).toInt = 21 ∨ (f_op S x).toInt = 132 → (aL a (f_first S x).toInt.toNat).toInt = 1) ∧ ∀ i : Nat, i < qN S (f_takesOf S x + 1) → ((qI S (f_takesOf S x + 1) i).toInt = 65 → (aP a ((aT a).toInt - tkV S x + plc (qI S (f_takesOf S x + 1)) i).toNat).toInt = 4 ∨ (aP a ((aT a).toInt - tkV S x + plc (qI S (f_takesOf S x + 1)) i).toNat).toInt = 6) ∧ ((qI S (f_takesOf S x + 1) i).toInt = 73 → (aP a ((aT a).toInt - tkV S x + plc (qI S (f_takesOf S x + 1)) i).toNat).toInt = 1) ∧ tkO (qI S (f_takesOf S x + 1) i) (aP a) ((aT a).toInt - tkV S x + plc (qI S (f_takesOf S x + 1)) i)) := by
  have tk := h.tk hx ht
  obtain ⟨k1, k2, k3, k4, k5⟩ := tk
  have o : ¬ ((f_op S x).toInt = 87 ∨ (f_op S x).toInt = 88 ∨ (f_op S x).toInt = 89 ∨ (f_op S x).toInt = 90 ∨ (f_op S x).toInt = 92 ∨ (f_op S x).toInt = 95) := fun q => hm (mv_iff.mpr q)
  have eT : tkV S x = plc (qI S (f_takesOf S x + 1)) (qN S (f_takesOf S x + 1)) := by unfold tkV; rw [if_neg hm]; rfl
  unfold wkV aWork
  simp only
  rw [if_neg o]
  have eth : (if (isTh (if (f_op S x).toInt = 25 then aL (aL a, aP a, aT a, 1) (f_first S x).toInt.toNat else if (f_op S x).toInt = 58 then aTop (aL a, aP a, aT a, 1) else 0)).toInt = 0 then 0 else (if (f_op S x).toInt = 25 then aL (aL a, aP a, aT a, 1) (f_first S x).toInt.toNat else if (f_op S x).toInt = 58 then aTop (aL a, aP a, aT a, 1) else 0)) = thV S x a := rfl
  rw [eth]
  generalize (if (f_op S x).toInt = 25 then aL (aL a, aP a, aT a, 1) (f_first S x).toInt.toNat else if (f_op S x).toInt = 58 then aTop (aL a, aP a, aT a, 1) else 0) = th1
  generalize thV S x a = th
  obtain ⟨l2, p2, t2⟩ : aL (if (f_op S x).toInt = 25 then aNeed (isTh th1) (aL a, aP a, aT a, 1) else (aL a, aP a, aT a, 1)) = aL a ∧ aP (if (f_op S x).toInt = 25 then aNeed (isTh th1) (aL a, aP a, aT a, 1) else (aL a, aP a, aT a, 1)) = aP a ∧ aT (if (f_op S x).toInt = 25 then aNeed (isTh th1) (aL a, aP a, aT a, 1) else (aL a, aP a, aT a, 1)) = aT a := R_ite (R := fun u => aL u = aL a ∧ aP u = aP a ∧ aT u = aT a) ⟨rfl, rfl, rfl⟩ ⟨rfl, rfl, rfl⟩
  revert l2 p2 t2
  generalize (if (f_op S x).toInt = 25 then aNeed (isTh th1) (aL a, aP a, aT a, 1) else (aL a, aP a, aT a, 1)) = a2
  intro l2 p2 t2
  have w2 := aT_W2 (op := f_op S x) (fst := f_first S x) (rm := rmV S (f_op S x) p) (a := a2)
  have f2 := fun q => F_w2 (op := f_op S x) (fst := f_first S x) (rm := rmV S (f_op S x) p) (a := a2) q
  revert w2 f2
  generalize aW2 (f_op S x) (f_first S x) (rmV S (f_op S x) p) a2 = a3
  intro w2 f2
  obtain ⟨t3, l3, p3⟩ := w2
  rw [t2] at t3
  rw [l2] at l3
  rw [p2] at p3
  have pT : plc (qI S (f_takesOf S x + 1)) (qN S (f_takesOf S x + 1)) ≤ (aT a3).toInt := by rw [t3, ← eT]; exact hT.1
  have LP := LP_takes (g := qI S (f_takesOf S x + 1)) (qN S (f_takesOf S x + 1)) a3
  have t4 := t_takes (g := qI S (f_takesOf S x + 1)) (qN S (f_takesOf S x + 1)) a3 k3 pT (by rw [t3]; omega)
  have f4 := F_takes (g := qI S (f_takesOf S x + 1)) (qN S (f_takesOf S x + 1)) a3 k3 pT (by rw [t3]; omega)
  rw [p3, t3, ← eT] at f4
  rw [t3, ← eT] at t4
  rw [l3, p3] at LP
  unfold aW1
  revert LP t4 f4
  generalize aTakes (qI S (f_takesOf S x + 1)) (qN S (f_takesOf S x + 1)) a3 = a4
  intro LP t4 f4
  have ps := PTF_store (a := a4) (op := f_op S x) (k := f_first S x) (th := th)
  by_cases z : (f_op S x).toInt = 54 ∨ (f_op S x).toInt = 55 ∨ (f_op S x).toInt = 58
  · rw [if_pos z]
    refine ⟨_, rfl, by rw [ps.1, LP.2], by rw [ps.2.1]; exact t4, fun q => absurd z q, fun _ => L_store LP.1, fun q => ?_⟩
    rw [(L_gives _ _ _).2, ps.2.2] at q
    have z2 := (f2 (f4 q).1).2
    rw [l2] at z2
    exact ⟨z2.1, z2.2, (f4 q).2⟩
  · rw [if_neg z]
    refine ⟨_, rfl, LP.2, t4, fun _ => LP.1, fun q => absurd q z, fun q => ?_⟩
    rw [(L_gives _ _ _).2] at q
    have z2 := (f2 (f4 q).1).2
    rw [l2] at z2
    exact ⟨z2.1, z2.2, (f4 q).2⟩
/-! values behind the work, no move (behind wk_dec, okA.nx) -/
theorem plc_at {g : Nat → Int32} : ∀ (n k : Nat), (k : Int) < plc g n → ∃ i : Nat, i < n ∧ ((k : Int) = plc g i ∨ ((g i).toInt = 74 ∧ (k : Int) = plc g i + 1)) := by
  intro n
  induction n with
  | zero => intro k hk; have e : plc g 0 = 0 := rfl; omega
  | succ n ih =>
    intro k hk
    have pk : plc g (n + 1) = plc g n + if (g n).toInt = 74 then 2 else 1 := rfl
    by_cases c : (k : Int) < plc g n
    · obtain ⟨i, hi, q⟩ := ih k c
      exact ⟨i, by omega, q⟩
    · refine ⟨n, by omega, ?_⟩
      by_cases w : (g n).toInt = 74
      · rw [if_pos w] at pk
        by_cases z : (k : Int) = plc g n
        · exact Or.inl z
        · exact Or.inr ⟨w, by omega⟩
      · rw [if_neg w] at pk
        exact Or.inl (by omega)
theorem tk_58 {S : MS} {x : Int32} (ht : TxI S) (q : (f_op S x).toInt = 58) : 1 ≤ tkV S x := by
  have mv : ¬ 0 < (f_moved S (f_op S x)).toInt := fun z => by have := mv_iff.mp z; omega
  have e5 : tkV S x = plS S (f_takesOf S x) := by unfold tkV; rw [if_neg mv]
  have ft : f_takesOf S x = 10000024 := by
    unfold f_takesOf f_takesOf_J18 f_takesOf_J47 f_takesOf_J75 f_takesOf_J93 f_takesOf_J111
    rw [if_pos (by omega), if_pos (by omega), if_pos (by omega), if_pos (by omega), if_pos (by omega), if_neg (by omega), if_neg (by omega), if_neg (by omega), if_pos q]
  have n1 : qN S (10000024 + 1) = 1 := (ht 12 (by decide)).2.1
  have g1 := plc_ge (g := qI S (10000024 + 1)) 1
  rw [ft] at e5
  unfold plS at e5
  rw [n1] at e5
  omega
theorem okV.z0 {n : Int} {v : TV} : okV n (nb 0) v := okV.no (by decide) (by decide) (by decide) (by decide) (Or.inr (Or.inl (by decide)))
theorem okV.z2 {n : Int} {v : TV} (h : v.2.toInt = 2) : okV n (nb 2) v := okV.no (by decide) (by decide) (by decide) (by decide) (Or.inl (by rw [h]; decide))
theorem okV.z3 {n : Int} {v : TV} (h : v.2.toInt = 3) : okV n (nb 3) v := okV.no (by decide) (by decide) (by decide) (by decide) (Or.inl (by rw [h]; decide))
theorem okV.t1 {n : Int} {t : Int32} {v : TV} (h : okV n t v) : (t.toInt = 1 → v.2.toInt = 1) ∧ (t.toInt = 2 → v.2.toInt = 2) ∧ (t.toInt = 3 → v.2.toInt = 3) ∧ (t.toInt = 4 ∨ t.toInt = 6 → v.2.toInt = 4 ∨ v.2.toInt = 6) ∧ (t.toInt = 5 ∨ t.toInt = 6 → v.2.toInt = 5 ∨ v.2.toInt = 6) := by
  have s := h.2.2.2.2
  unfold sbT at s
  exact ⟨fun q => by omega, fun q => by omega, fun q => by omega, fun q => by omega, fun q => by omega⟩
theorem okV.i {n : Int} {v : TV} (h : -2147483648 ≤ v.1.toInt ∧ v.1.toInt ≤ 2147483647) (g : v.2.toInt = 1) : okV n (nb 1) v := ⟨fun z => absurd z (by decide), fun z => absurd z (by decide), fun _ => h, fun z => absurd z (by decide), Or.inl (by rw [g]; decide)⟩
theorem okV.a {n : Int} {v : TV} (h : 0 ≤ v.1.toInt ∧ v.1.toInt ≤ n) (g : v.2.toInt = 4 ∨ v.2.toInt = 6) : okV n (nb 4) v := ⟨fun _ => h, fun z => absurd z (by decide), fun z => absurd z (by decide), fun z => absurd z (by decide), by
  rcases g with g | g
  · exact Or.inl (by rw [g]; decide)
  · exact Or.inr (Or.inr ⟨g, Or.inl (by decide)⟩)⟩
theorem okV.e {n : Int} {v : TV} (h : -2147483648 ≤ v.1.toInt ∧ v.1.toInt ≤ 0) (g : v.2.toInt = 5 ∨ v.2.toInt = 6) : okV n (nb 5) v := ⟨fun z => absurd z (by decide), fun z => absurd z (by decide), fun z => absurd z (by decide), fun _ => h, by
  rcases g with g | g
  · exact Or.inl (by rw [g]; decide)
  · exact Or.inr (Or.inr ⟨g, Or.inr (by decide)⟩)⟩
theorem okV.u {n : Int} {v : TV} (h : v.1.toInt = 0) (g : v.2.toInt = 6) : okV n (nb 6) v := ⟨fun z => absurd z (by decide), fun _ => h, fun z => absurd z (by decide), fun z => absurd z (by decide), Or.inl (by rw [g]; decide)⟩
/-- of a letter's type -/
theorem gv_l {n : Int} {c th : Int32} {v : TV} : (c.toInt = 73 → -2147483648 ≤ v.1.toInt ∧ v.1.toInt ≤ 2147483647 → v.2.toInt = 1 → okV n (nb (ltT c th)) v) ∧ (c.toInt = 74 → v.2.toInt = 2 → okV n (nb (ltT c th)) v) ∧ (c.toInt = 65 → 0 ≤ v.1.toInt ∧ v.1.toInt ≤ n → v.2.toInt = 4 ∨ v.2.toInt = 6 → okV n (nb (ltT c th)) v) ∧ (c.toInt = 78 → v.1.toInt = 0 → v.2.toInt = 6 → okV n (nb (ltT c th)) v) ∧ (c.toInt = 82 → okV n (nb th) v → okV n (nb (ltT c th)) v) := by
  unfold ltT
  refine ⟨fun q a b => ?_, fun q b => ?_, fun q a b => ?_, fun q a b => ?_, fun q a => ?_⟩
  · rw [if_neg (by omega), if_pos q]; exact okV.i a b
  · rw [if_pos q]; exact okV.z2 b
  · rw [if_neg (by omega), if_neg (by omega), if_pos q]; exact okV.a a b
  · rw [if_neg (by omega), if_neg (by omega), if_neg (by omega), if_pos q]; exact okV.u a b
  · rw [if_neg (by omega), if_neg (by omega), if_neg (by omega), if_neg (by omega)]; exact a
theorem wk_val {S : MS} {a : AS} {x : Int32} {p : Nat} {n n' : Int} {sl pl sl' pl' : Nat → TV} (h : LkI S) (ht : TxI S) (hx : 0 ≤ x.toInt ∧ x.toInt < (qI S 0 52).toInt) (hT : tkV S x ≤ (aT a).toInt ∧ (aT a).toInt ≤ 24 ∧ (aT a).toInt - tkV S x + gvV S x ≤ 28) (hm : ¬ 0 < (f_moved S (f_op S x)).toInt) (hn : n ≤ n') (hA : okA n a sl pl) (hb : (∀ k : Nat, k < 24 → nb (aL a k) = aL a k) ∧ ∀ k : Nat, (k : Int) < (aT a).toInt → nb (aP a k) = aP a k)
    (s1 : ∀ k : Nat, k < 24 → (isSt (f_op S x) ∨ (f_op S x).toInt = 132 → k ≠ (f_first S x).toInt.toNat) → ((f_op S x).toInt = 55 → k ≠ (f_first S x).toInt.toNat + 1) → sl' k = sl k) (s5 : (f_op S x).toInt = 54 → okV n' (nb 1) (sl' (f_first S x).toInt.toNat)) (s7 : (f_op S x).toInt = 55 → okV n' (nb 2) (sl' (f_first S x).toInt.toNat) ∧ okV n' (nb 3) (sl' ((f_first S x).toInt.toNat + 1))) (s6 : (f_op S x).toInt = 132 → okV n' (aL a (f_first S x).toInt.toNat) (sl' (f_first S x).toInt.toNat)) (s2 : (f_op S x).toInt = 58 → sl' (f_first S x).toInt.toNat = nW (pl ((aT a).toInt - 1).toNat)) (s3 : ∀ k : Nat, (k : Int) < (aT a).toInt - tkV S x → pl' k = pl k)
    (s4 : ∀ i : Nat, i < qN S (f_givesOf S x + 1) → okV n' (nb (ltT (qI S (f_givesOf S x + 1) i) (thV S x a))) (pl' ((aT a).toInt - tkV S x + plc (qI S (f_givesOf S x + 1)) i).toNat) ∧ ((qI S (f_givesOf S x + 1) i).toInt = 74 → (pl' ((aT a).toInt - tkV S x + plc (qI S (f_givesOf S x + 1)) i + 1).toNat).2.toInt = 3)) :
    (∀ k : Nat, k < 24 → okV n' (nb (wkT S x p a k)) (sl' k)) ∧ ∀ k : Nat, (k : Int) < (aT a).toInt - tkV S x + gvV S x → okV n' (nb (wkT S x p a (24 + k))) (pl' k) := by
  obtain ⟨b, e, bP, bT, bL1, bL2, -⟩ := wk_dec (p := p) h ht hx hT hm
  have tk0 : 0 ≤ tkV S x := by
    have q := (h.tk hx ht).2.2.2.1
    unfold tkV
    rw [if_neg hm]
    exact q
  have gv := h.gv hx ht
  obtain ⟨g1, g2, g3, g4, g5⟩ := gv
  have eG : gvV S x = plc (qI S (f_givesOf S x + 1)) (qN S (f_givesOf S x + 1)) := by unfold gvV; rw [if_neg hm]; rfl
  have z0 : plc (qI S (f_givesOf S x + 1)) 0 = 0 := rfl
  obtain ⟨u1, u2, u3⟩ := P_gives (g := qI S (f_givesOf S x + 1)) (th := thV S x a) (qN S (f_givesOf S x + 1)) 0 b (by omega) (by rw [Nat.zero_add, ← eG, z0]; omega)
  have uL := (L_gives (g := qI S (f_givesOf S x + 1)) (th := thV S x a) (qN S (f_givesOf S x + 1)) 0 b).1
  rw [← e] at u1 u2 u3 uL
  obtain ⟨L, F, M, ts, la, lb, rv, -, -⟩ := h.rv hx
  obtain ⟨v1, v2, v3, v4, v5, v6, v7⟩ := rv
  refine ⟨fun k hk => ?_, fun k hk => ?_⟩
  · have ew : wkT S x p a k = aL b k := by unfold wkT; rw [if_pos hk, uL]
    rw [ew]
    have same : (isSt (f_op S x) ∨ (f_op S x).toInt = 132 → k ≠ (f_first S x).toInt.toNat) → ((f_op S x).toInt = 55 → k ≠ (f_first S x).toInt.toNat + 1) → okV n' (nb (aL a k)) (sl' k) := fun q q5 => by
      rw [s1 k hk q q5, hb.1 k hk]
      exact (hA.1 k hk).mono hn
    by_cases st : isSt (f_op S x)
    · rw [bL2 st]
      have hf : 0 ≤ (f_first S x).toInt ∧ (f_first S x).toInt < 24 := by
        unfold isSt at st
        by_cases z : (f_op S x).toInt = 55
        · have := v5 (Or.inr z); omega
        · have := v4 (by omega); omega
      obtain ⟨k1, k2⟩ := k_store (a := a) (op := f_op S x) (k := f_first S x) (th := thV S x a) hf
      by_cases ek : k = (f_first S x).toInt.toNat
      · subst ek
        rw [k1, nb_nb]
        by_cases c4 : (f_op S x).toInt = 54
        · rw [if_pos c4]; exact s5 c4
        · rw [if_neg c4]
          by_cases c5 : (f_op S x).toInt = 55
          · rw [if_pos c5]; exact (s7 c5).1
          · rw [if_neg c5]
            have c8 : (f_op S x).toInt = 58 := by unfold isSt at st; omega
            have t1 := tk_58 ht c8
            rw [s2 c8]
            unfold thV
            simp only [if_neg (show ¬ (f_op S x).toInt = 25 by omega), if_pos c8]
            by_cases i : (isTh (aTop a)).toInt = 0
            · rw [if_pos i]; exact okV.z0
            · rw [if_neg i]
              have et : aTop a = aP a ((aT a).toInt - 1).toNat := by
                unfold aTop
                rw [show (aT a - (1 : Int32)).toInt = (aT a).toInt - 1 by rw [t_sub (by rw [li_1]; omega), li_1]]
              have oo := hA.2 ((aT a).toInt - 1).toNat (by omega)
              rw [← hb.2 _ (by omega)] at oo
              rw [et]
              exact oo.nw.mono hn
      · rcases k2 k ek with q | q | q
        · rw [q.1]; exact same (fun _ => ek) (fun y z => q.2 ⟨y, z⟩)
        · rw [q]; exact okV.z0
        · rw [q.1, q.2.2]; exact (s7 q.2.1).2
    · rw [bL1 st]
      by_cases g : (f_op S x).toInt = 132 ∧ k = (f_first S x).toInt.toNat
      · obtain ⟨g1, g2⟩ := g
        subst g2
        rw [hb.1 _ hk]
        exact s6 g1
      · exact same (fun q e => q.elim st (fun q => g ⟨q, e⟩)) (fun q => absurd (Or.inr (Or.inl q)) st)
  · have ew : wkT S x p a (24 + k) = aP (wkV S x p a) k := by
      unfold wkT
      rw [if_neg (by omega), show 24 + k - 24 = k by omega]
    rw [ew]
    by_cases low : (k : Int) < (aT a).toInt - tkV S x
    · rw [u2 k (by omega), bP, s3 k low, hb.2 k (by omega)]
      exact (hA.2 k (by omega)).mono hn
    · obtain ⟨j, ej⟩ : ∃ j : Nat, (k : Int) = (aT a).toInt - tkV S x + j := ⟨(k - ((aT a).toInt - tkV S x)).toNat, by omega⟩
      obtain ⟨i, hi, q⟩ := plc_at (g := qI S (f_givesOf S x + 1)) (qN S (f_givesOf S x + 1)) j (by omega)
      have w := u3 i hi
      rw [Nat.zero_add, z0, bT, Int.sub_zero] at w
      have c := s4 i hi
      rcases q with q | ⟨q7, q⟩
      · have ek : ((aT a).toInt - tkV S x + plc (qI S (f_givesOf S x + 1)) i).toNat = k := by omega
        rw [ek] at w c
        rw [w.1, nb_nb]
        exact c.1
      · have ek : ((aT a).toInt - tkV S x + plc (qI S (f_givesOf S x + 1)) i + 1).toNat = k := by omega
        have w2 := w.2 q7
        rw [ek] at w2 c
        rw [w2, nb_nb]
        exact okV.z3 (c.2 q7)
