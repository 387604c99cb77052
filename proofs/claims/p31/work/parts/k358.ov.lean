/-! values of types; what the checker's work leaves alone and gives (behind VmI.st) -/
def nb (t : Int32) : Int32 := vp_nar .byte t
theorem nb_nb (t : Int32) : nb (nb t) = nb t := by
  unfold nb
  rw [vp_nar_byte, vp_nar_byte]
  apply Int32.toInt_inj.mp
  rw [Int8.toInt_toInt32, Int8.toInt_toInt32, Int8.toInt8_toInt32]
theorem nb_8 (t : Int32) : vp_nar .byte (t.toInt8.toInt32) = nb t := by
  unfold nb
  rw [vp_nar_byte, vp_nar_byte, Int8.toInt8_toInt32]
/-- a value and its tag -/
abbrev TV : Type := Int64 × Int32
def qW (S : MS) (h j : Nat) : TV := (qJ S h j, qI S (h + 2) j)
def nW (v : TV) : TV := (v.1, nb v.2)
theorem fW {S u : MS} {W J : List Nat} (k : frm W J S u) {h : Nat} (h0 : h ≠ 0) (h1 : h ∉ W) (h2 : h + 2 ∉ W) : qW u h = qW S h := by
  funext j
  unfold qW
  rw [(k.2.2.2.2.1 h h0 h1).2.1, (k.2.2.2.2.1 (h + 2) (by omega) h2).1]
theorem qW_I {S : MS} {r i h : Nat} {v : Int32} (hr : ¬ h + 2 = r) : qW (wI S r i v) h = qW S h := by
  funext j
  unfold qW
  rw [qI_wI, if_neg (fun q => hr q.1)]
  rfl
/-- a value of a type, where n arrays are made; its tag is one of the type -/
def okV (n : Int) (t : Int32) (v : TV) : Prop := (t.toInt = 4 → 0 ≤ v.1.toInt ∧ v.1.toInt ≤ n) ∧ (t.toInt = 6 → v.1.toInt = 0) ∧ (t.toInt = 1 → -2147483648 ≤ v.1.toInt ∧ v.1.toInt ≤ 2147483647) ∧ (t.toInt = 5 → -2147483648 ≤ v.1.toInt ∧ v.1.toInt ≤ 0) ∧ sbT v.2 t
theorem okV.sb {n : Int} {t o : Int32} {v : TV} (h : okV n t v) (hs : sbT t o) (hn : 0 ≤ n) : okV n o v := by
  have st : sbT v.2 o := sbT.tr h.2.2.2.2 hs
  rcases hs with q | q | ⟨q, r⟩
  · exact ⟨fun c => h.1 (by omega), fun c => h.2.1 (by omega), fun c => h.2.2.1 (by omega), fun c => h.2.2.2.1 (by omega), st⟩
  · exact ⟨fun c => by omega, fun c => by omega, fun c => by omega, fun c => by omega, st⟩
  · have := h.2.1 q
    exact ⟨fun _ => ⟨by omega, by omega⟩, fun c => by omega, fun c => by omega, fun _ => ⟨by omega, by omega⟩, st⟩
theorem okV.mono {n m : Int} {t : Int32} {v : TV} (h : okV n t v) (hm : n ≤ m) : okV m t v := ⟨fun c => ⟨(h.1 c).1, by have := (h.1 c).2; omega⟩, h.2⟩
theorem okV.no {n : Int} {t : Int32} {v : TV} (h4 : ¬ t.toInt = 4) (h6 : ¬ t.toInt = 6) (h1 : ¬ t.toInt = 1) (h5 : ¬ t.toInt = 5) (hs : sbT v.2 t) : okV n t v := ⟨fun c => absurd c h4, fun c => absurd c h6, fun c => absurd c h1, fun c => absurd c h5, hs⟩
theorem sb_nb {t o : Int32} (h : sbT t o) : sbT (nb t) (nb o) := by
  rcases h with q | q | ⟨q, r⟩
  · rw [Int32.toInt_inj.mp q]
    exact Or.inl rfl
  · have e : o = 0 := Int32.toInt_inj.mp (by rw [q]; rfl)
    subst e
    exact Or.inr (Or.inl (by decide))
  · have e : t = 6 := Int32.toInt_inj.mp (by rw [q]; rfl)
    subst e
    rcases r with r | r
    · have e : o = 4 := Int32.toInt_inj.mp (by rw [r]; rfl)
      subst e
      exact Or.inr (Or.inr (by decide))
    · have e : o = 5 := Int32.toInt_inj.mp (by rw [r]; rfl)
      subst e
      exact Or.inr (Or.inr (by decide))
/-- locals sl and pile pl hold values of the types a -/
theorem okV.nw {n : Int} {t : Int32} {v : TV} (h : okV n (nb t) v) : okV n (nb t) (nW v) := by
  have s := sb_nb h.2.2.2.2
  rw [nb_nb] at s
  exact ⟨h.1, h.2.1, h.2.2.1, h.2.2.2.1, s⟩
def okA (n : Int) (a : AS) (sl pl : Nat → TV) : Prop := (∀ k : Nat, k < 24 → okV n (aL a k) (sl k)) ∧ ∀ k : Nat, (k : Int) < (aT a).toInt → okV n (aP a k) (pl k)
theorem okA.nx {S : MS} {j : Nat} {y n : Int} {t : Nat → Int32} {b : AS} {sl pl : Nat → TV} (hn : 0 ≤ n) (h : nxT S j y t) (hb : MtA S j b) (h1 : ∀ k : Nat, k < 24 → okV n (nb (t k)) (sl k)) (h2 : ∀ k : Nat, (k : Int) < y → okV n (nb (t (24 + k))) (pl k)) (hy : 0 ≤ y) : okA n b sl pl := by
  obtain ⟨-, e, s⟩ := h
  obtain ⟨b1, b2, b3⟩ := hb
  refine ⟨fun k hk => ?_, fun k hk => ?_⟩
  · rw [b1 k hk]
    exact (h1 k hk).sb (sb_nb (s k (by omega))) hn
  · rw [b2 k (by omega)]
    rw [Nat.add_assoc]
    exact (h2 k (by omega)).sb (sb_nb (s (24 + k) (by omega))) hn
/-- the types of a place are bytes -/
theorem MtA.nb {S : MS} {x : Nat} {a : AS} (h : MtA S x a) : (∀ k : Nat, k < 24 → nb (aL a k) = aL a k) ∧ ∀ k : Nat, (k : Int) < (aT a).toInt → nb (aP a k) = aP a k := by
  obtain ⟨b1, b2, b3⟩ := h
  refine ⟨fun k hk => ?_, fun k hk => ?_⟩
  · rw [b1 k hk]; exact nb_nb _
  · rw [b2 k (by omega)]; exact nb_nb _
theorem LP_take {c : Int32} {a : AS} : aL (aTake c a) = aL a ∧ aP (aTake c a) = aP a := by
  unfold aTake
  by_cases c1 : c.toInt = 73
  · rw [if_pos c1]; exact ⟨rfl, rfl⟩
  · rw [if_neg c1]
    by_cases c2 : c.toInt = 65
    · rw [if_pos c2]; exact ⟨rfl, rfl⟩
    · rw [if_neg c2]
      by_cases c3 : c.toInt = 69
      · rw [if_pos c3]; exact ⟨rfl, rfl⟩
      · rw [if_neg c3]
        by_cases c4 : c.toInt = 82
        · rw [if_pos c4]; exact ⟨rfl, rfl⟩
        · rw [if_neg c4]; exact ⟨rfl, rfl⟩
theorem LP_takes {g : Nat → Int32} : ∀ (n : Nat) (a : AS), aL (aTakes g n a) = aL a ∧ aP (aTakes g n a) = aP a := by
  intro n
  induction n with
  | zero => intro a; exact ⟨rfl, rfl⟩
  | succ n ih =>
    intro a
    have e := LP_take (c := g n) (a := a)
    unfold aTakes
    rw [(ih _).1, (ih _).2, e.1, e.2]
    exact ⟨rfl, rfl⟩
theorem L_gives {g : Nat → Int32} {th : Int32} : ∀ (n k : Nat) (a : AS), aL (aGives g th k n a) = aL a ∧ aF (aGives g th k n a) = aF a := by
  intro n
  induction n with
  | zero => intro k a; exact ⟨rfl, rfl⟩
  | succ n ih =>
    intro k a
    unfold aGives
    rw [(ih _ _).1, (ih _ _).2]
    unfold aGive
    by_cases c : (g k).toInt = 74
    · rw [if_pos c]; exact ⟨rfl, rfl⟩
    · rw [if_neg c]; exact ⟨rfl, rfl⟩
theorem P_push {t : Int32} {a : AS} (ht : 0 ≤ (aT a).toInt) : (∀ k : Nat, (k : Int) < (aT a).toInt → aP (aPush t a) k = aP a k) ∧ aP (aPush t a) (aT a).toInt.toNat = nb t := by
  refine ⟨fun k hk => ?_, ?_⟩
  · show upd (aP a) (aT a).toInt.toNat _ k = _
    unfold upd
    rw [if_neg (by omega)]
  · show upd (aP a) (aT a).toInt.toNat _ (aT a).toInt.toNat = _
    unfold upd
    rw [if_pos rfl, nb_8]
/-- nothing that is needed fails later: fits falls only -/
theorem F_need {g : Int32} {a : AS} (h : ¬ (aF (aNeed g a)).toInt = 0) : ¬ (aF a).toInt = 0 ∧ ¬ g.toInt = 0 := by
  unfold aNeed aF at h
  refine ⟨fun q => h ?_, fun q => h ?_⟩
  · show (if (aF a).toInt = 0 then (0 : Int32) else if g.toInt = 0 then 0 else 1).toInt = 0
    rw [if_pos q]; rfl
  · show (if (aF a).toInt = 0 then (0 : Int32) else if g.toInt = 0 then 0 else 1).toInt = 0
    rw [if_pos q, ite_self]; rfl
theorem T_take {c : Int32} {a : AS} (h : ¬ (aF (aTake c a)).toInt = 0) : (c.toInt = 69 → (aTop a).toInt = 5 ∨ (aTop a).toInt = 6) ∧ (c.toInt = 82 → ¬ (isTh (aTop a)).toInt = 0) ∧ (c.toInt = 74 → (aTop a).toInt = 3 ∧ (aTop (aPull a)).toInt = 2) := by
  unfold aTake at h
  by_cases c1 : c.toInt = 73
  · exact ⟨fun q => by omega, fun q => by omega, fun q => by omega⟩
  · rw [if_neg c1] at h
    by_cases c2 : c.toInt = 65
    · exact ⟨fun q => by omega, fun q => by omega, fun q => by omega⟩
    · rw [if_neg c2] at h
      by_cases c3 : c.toInt = 69
      · rw [if_pos c3] at h
        have g := (F_need h).2
        refine ⟨fun _ => ?_, fun q => by omega, fun q => by omega⟩
        by_cases q : (aTop a).toInt = 5
        · exact Or.inl q
        · rw [if_neg q] at g
          by_cases q2 : (aTop a).toInt = 6
          · exact Or.inr q2
          · rw [if_neg q2] at g; exact absurd rfl g
      · rw [if_neg c3] at h
        by_cases c4 : c.toInt = 82
        · rw [if_pos c4] at h
          exact ⟨fun q => by omega, fun _ => (F_need h).2, fun q => by omega⟩
        · rw [if_neg c4] at h
          have g := (F_need h).2
          refine ⟨fun q => by omega, fun q => by omega, fun _ => ?_⟩
          by_cases q : (aTop a).toInt = 3
          · rw [if_pos q] at g
            by_cases q2 : (aTop (aPull a)).toInt = 2
            · exact ⟨q, q2⟩
            · rw [if_neg q2] at g; exact absurd rfl g
          · rw [if_neg q] at g; exact absurd rfl g
theorem F_take {c : Int32} {a : AS} (h : ¬ (aF (aTake c a)).toInt = 0) : ¬ (aF a).toInt = 0 ∧ (c.toInt = 65 → (aTop a).toInt = 4 ∨ (aTop a).toInt = 6) ∧ (c.toInt = 73 → (aTop a).toInt = 1) := by
  unfold aTake at h
  by_cases c1 : c.toInt = 73
  · rw [if_pos c1] at h
    refine ⟨(F_need h).1, fun q => by omega, fun _ => ?_⟩
    have g := (F_need h).2
    by_cases q : (aTop a).toInt = 1
    · exact q
    · rw [if_neg q] at g; exact absurd rfl g
  · rw [if_neg c1] at h
    by_cases c2 : c.toInt = 65
    · rw [if_pos c2] at h
      refine ⟨(F_need h).1, fun _ => ?_, fun q => absurd q c1⟩
      have g := (F_need h).2
      by_cases q : (aTop a).toInt = 4
      · exact Or.inl q
      · rw [if_neg q] at g
        by_cases q2 : (aTop a).toInt = 6
        · exact Or.inr q2
        · rw [if_neg q2] at g; exact absurd rfl g
    · rw [if_neg c2] at h
      by_cases c3 : c.toInt = 69
      · rw [if_pos c3] at h
        exact ⟨(F_need h).1, fun q => by omega, fun q => absurd q c1⟩
      · rw [if_neg c3] at h
        by_cases c4 : c.toInt = 82
        · rw [if_pos c4] at h
          exact ⟨(F_need h).1, fun q => by omega, fun q => absurd q c1⟩
        · rw [if_neg c4] at h
          exact ⟨(F_need h).1, fun q => by omega, fun q => absurd q c1⟩
/-- what else a letter wants of the places from q on -/
def tkO (c : Int32) (g : Nat → Int32) (q : Int) : Prop := (c.toInt = 69 → (g q.toNat).toInt = 5 ∨ (g q.toNat).toInt = 6) ∧ (c.toInt = 82 → ¬ (isTh (g q.toNat)).toInt = 0) ∧ (c.toInt = 74 → (g q.toNat).toInt = 2 ∧ (g (q + 1).toNat).toInt = 3)
/-- the letters that are taken: an array is an array or null -/
theorem F_takes {g : Nat → Int32} : ∀ (n : Nat) (a : AS), (∀ i : Nat, i < n → (g i).toInt = 73 ∨ (g i).toInt = 74 ∨ (g i).toInt = 65 ∨ (g i).toInt = 69 ∨ (g i).toInt = 82) → plc g n ≤ (aT a).toInt → (aT a).toInt ≤ 28 → ¬ (aF (aTakes g n a)).toInt = 0 → ¬ (aF a).toInt = 0 ∧ ∀ i : Nat, i < n → ((g i).toInt = 65 → (aP a ((aT a).toInt - plc g n + plc g i).toNat).toInt = 4 ∨ (aP a ((aT a).toInt - plc g n + plc g i).toNat).toInt = 6) ∧ ((g i).toInt = 73 → (aP a ((aT a).toInt - plc g n + plc g i).toNat).toInt = 1) ∧ tkO (g i) (aP a) ((aT a).toInt - plc g n + plc g i) := by
  intro n
  induction n with
  | zero => intro a _ _ _ h; exact ⟨h, fun i hi => by omega⟩
  | succ n ih =>
    intro a hl hp ht h
    have p0 := plc_ge (g := g) n
    have pk : plc g (n + 1) = plc g n + if (g n).toInt = 74 then 2 else 1 := rfl
    rw [pk] at hp ⊢
    have z01 : 1 ≤ (if (g n).toInt = 74 then (2 : Int) else 1) := by split <;> omega
    have h1 : 1 ≤ (aT a).toInt := by omega
    have e := t_take (c := g n) ⟨h1, ht⟩ (hl n (by omega))
    unfold aTakes at h
    obtain ⟨f1, f2⟩ := ih (aTake (g n) a) (fun i hi => hl i (by omega)) (by omega) (by omega) h
    obtain ⟨k1, k2⟩ := F_take f1
    refine ⟨k1, fun i hi => ?_⟩
    by_cases w : i = n
    · subst w
      have e' : (aT a - (1 : Int32)).toInt = (aT a).toInt - 1 := by rw [t_sub (by rw [li_1]; omega), li_1]
      have k2' := k2.1
      have k3' := k2.2
      unfold aTop at k2' k3'
      rw [e'] at k2' k3'
      have k4 := T_take f1
      have et : aTop a = aP a ((aT a).toInt - 1).toNat := by unfold aTop; rw [e']
      have et2 : 2 ≤ (aT a).toInt → aTop (aPull a) = aP a ((aT a).toInt - 2).toNat := fun h2 => by
        have e2' : (aT a - (1 : Int32) - (1 : Int32)).toInt = (aT a).toInt - 2 := by rw [t_sub (by rw [e', li_1]; omega), e', li_1]; omega
        show aP a (aT a - (1 : Int32) - (1 : Int32)).toInt.toNat = _
        rw [e2']
      refine ⟨fun q => ?_, fun q => ?_, fun q => ?_, fun q => ?_, fun q => ?_⟩
      · rw [if_neg (show ¬ (g i).toInt = 74 by omega), show (aT a).toInt - (plc g i + 1) + plc g i = (aT a).toInt - 1 by omega]
        exact k2' q
      · rw [if_neg (show ¬ (g i).toInt = 74 by omega), show (aT a).toInt - (plc g i + 1) + plc g i = (aT a).toInt - 1 by omega]
        exact k3' q
      · rw [if_neg (show ¬ (g i).toInt = 74 by omega), show (aT a).toInt - (plc g i + 1) + plc g i = (aT a).toInt - 1 by omega, ← et]
        exact k4.1 q
      · rw [if_neg (show ¬ (g i).toInt = 74 by omega), show (aT a).toInt - (plc g i + 1) + plc g i = (aT a).toInt - 1 by omega, ← et]
        exact k4.2.1 q
      · have q2 := q
        rw [if_pos q] at hp ⊢
        rw [show (aT a).toInt - (plc g i + 2) + plc g i = (aT a).toInt - 2 by omega, show (aT a).toInt - 2 + 1 = (aT a).toInt - 1 by omega, ← et, ← et2 (by omega)]
        exact ⟨(k4.2.2 q2).2, (k4.2.2 q2).1⟩
    · have t := f2 i (by omega)
      rw [(LP_take (c := g n) (a := a)).2, e] at t
      rw [show (aT a).toInt - (plc g n + (if (g n).toInt = 74 then 2 else 1)) + plc g i = (aT a).toInt - (if (g n).toInt = 74 then 2 else 1) - plc g n + plc g i by omega]
      exact t
/-! the work of an instruction that is no move, taken apart (behind F_takes, cg_wk) -/
def ltT (c th : Int32) : Int32 := if c.toInt = 74 then 2 else if c.toInt = 73 then 1 else if c.toInt = 65 then 4 else if c.toInt = 78 then 6 else th
theorem P_gives {g : Nat → Int32} {th : Int32} : ∀ (n k : Nat) (a : AS), 0 ≤ (aT a).toInt → (aT a).toInt + (plc g (k + n) - plc g k) ≤ 28 → (aT (aGives g th k n a)).toInt = (aT a).toInt + (plc g (k + n) - plc g k) ∧ (∀ i : Nat, (i : Int) < (aT a).toInt → aP (aGives g th k n a) i = aP a i) ∧ ∀ i : Nat, i < n → aP (aGives g th k n a) ((aT a).toInt + (plc g (k + i) - plc g k)).toNat = nb (ltT (g (k + i)) th) ∧ ((g (k + i)).toInt = 74 → aP (aGives g th k n a) ((aT a).toInt + (plc g (k + i) - plc g k) + 1).toNat = nb 3) := by
  intro n
  induction n with
  | zero =>
    intro k a _ _
    refine ⟨?_, fun _ _ => rfl, fun i hi => by omega⟩
    rw [Nat.add_zero]
    show (aT a).toInt = _
    omega
  | succ n ih =>
    intro k a h0 hp
    have up : ∀ (d m : Nat), plc g m ≤ plc g (m + d) := by
      intro d
      induction d with
      | zero => intro m; exact Int.le_refl _
      | succ d ih2 =>
        intro m
        have := ih2 m
        have e9 : plc g (m + (d + 1)) = plc g (m + d) + if (g (m + d)).toInt = 74 then 2 else 1 := rfl
        rw [e9]
        split <;> omega
    have u1 := up n (k + 1)
    have pk : plc g (k + 1) = plc g k + if (g k).toInt = 74 then 2 else 1 := rfl
    have ex : k + (n + 1) = k + 1 + n := by omega
    rw [ex] at hp ⊢
    have eg : aGives g th k (n + 1) a = aGives g th (k + 1) n (aGive (g k) th a) := rfl
    rw [eg]
    -- one letter
    have one : (aT (aGive (g k) th a)).toInt = (aT a).toInt + (plc g (k + 1) - plc g k) ∧ (∀ i : Nat, (i : Int) < (aT a).toInt → aP (aGive (g k) th a) i = aP a i) ∧ aP (aGive (g k) th a) (aT a).toInt.toNat = nb (ltT (g k) th) ∧ ((g k).toInt = 74 → aP (aGive (g k) th a) ((aT a).toInt + 1).toNat = nb 3) := by
      by_cases w : (g k).toInt = 74
      · rw [if_pos w] at pk
        have t1 := t_push (t := 2) (a := a) ⟨by omega, by omega⟩
        have t2 := t_push (t := 3) (a := aPush 2 a) ⟨by omega, by omega⟩
        obtain ⟨a1, a2⟩ := P_push (t := 2) (a := a) h0
        obtain ⟨b1, b2⟩ := P_push (t := 3) (a := aPush 2 a) (by omega)
        unfold aGive ltT
        rw [if_pos w, if_pos w]
        refine ⟨by omega, fun i hi => by rw [b1 i (by omega), a1 i hi], by rw [b1 _ (by omega), a2], fun _ => by rw [← t1]; exact b2⟩
      · rw [if_neg w] at pk
        have el : (if (g k).toInt = 73 then (1 : Int32) else if (g k).toInt = 65 then 4 else if (g k).toInt = 78 then 6 else th) = ltT (g k) th := by unfold ltT; rw [if_neg w]
        unfold aGive
        rw [if_neg w, el]
        have t1 := t_push (t := ltT (g k) th) (a := a) ⟨by omega, by omega⟩
        obtain ⟨a1, a2⟩ := P_push (t := ltT (g k) th) (a := a) h0
        exact ⟨by omega, a1, a2, fun q => absurd q w⟩
    obtain ⟨o1, o2, o3, o4⟩ := one
    have uk : plc g k + 1 ≤ plc g (k + 1) := by rw [pk]; split <;> omega
    obtain ⟨i1, i2, i3⟩ := ih (k + 1) (aGive (g k) th a) (by omega) (by omega)
    refine ⟨by omega, fun i hi => by rw [i2 i (by omega), o2 i hi], fun i hi => ?_⟩
    by_cases z : i = 0
    · subst z
      simp only [Nat.add_zero, Int.sub_self, Int.add_zero]
      refine ⟨by rw [i2 _ (by omega), o3], fun q => ?_⟩
      rw [if_pos q] at pk
      rw [i2 _ (by omega), o4 q]
    · obtain ⟨j, rfl⟩ : ∃ j : Nat, i = j + 1 := ⟨i - 1, by omega⟩
      have := i3 j (by omega)
      rw [o1] at this
      rw [show k + (j + 1) = k + 1 + j by omega, show (aT a).toInt + (plc g (k + 1 + j) - plc g k) = (aT a).toInt + (plc g (k + 1) - plc g k) + (plc g (k + 1 + j) - plc g (k + 1)) by omega]
      exact this
theorem L_ite {c : Prop} [Decidable c] {u v u' v' : AS} (h1 : aL u = aL u') (h2 : aL v = aL v') : aL (if c then u else v) = aL (if c then u' else v') := by
  by_cases z : c
  · rw [if_pos z, if_pos z]; exact h1
  · rw [if_neg z, if_neg z]; exact h2
theorem L_set {k : Nat} {t : Int32} {a b : AS} (h : aL a = aL b) : aL (aSet k t a) = aL (aSet k t b) := by
  show upd (aL a) k _ = upd (aL b) k _
  rw [h]
theorem L_store {a b : AS} {op k th : Int32} (h : aL a = aL b) : aL (aStore op k th a) = aL (aStore op k th b) := by
  unfold aStore
  simp only
  have s1 : aL (if k.toInt ≤ 0 then a else if (aL a (k - 1).toInt.toNat).toInt = 2 then aSet (k - 1).toInt.toNat 0 a else a) = aL (if k.toInt ≤ 0 then b else if (aL b (k - 1).toInt.toNat).toInt = 2 then aSet (k - 1).toInt.toNat 0 b else b) := by
    rw [h]
    exact L_ite h (L_ite (L_set h) h)
  revert s1
  generalize (if k.toInt ≤ 0 then a else if (aL a (k - 1).toInt.toNat).toInt = 2 then aSet (k - 1).toInt.toNat 0 a else a) = a1
  generalize (if k.toInt ≤ 0 then b else if (aL b (k - 1).toInt.toNat).toInt = 2 then aSet (k - 1).toInt.toNat 0 b else b) = b1
  intro s1
  rw [s1]
  exact L_ite (L_set (L_set (L_ite s1 (L_ite (L_set s1) s1)))) (L_set (L_ite s1 (L_ite (L_set s1) s1)))
theorem PTF_store {a : AS} {op k th : Int32} : aP (aStore op k th a) = aP a ∧ aT (aStore op k th a) = aT a ∧ aF (aStore op k th a) = aF a := by
  unfold aStore
  simp only
  repeat' split
  all_goals exact ⟨rfl, rfl, rfl⟩
theorem set_k {a : AS} {k j : Nat} {t : Int32} : aL (aSet k t a) j = if j = k then nb t else aL a j := by
  show upd (aL a) k _ j = _
  unfold upd
  rw [nb_8]
/-- behind a store: its place has the new type, any other its own or none or the high half -/
theorem k_store {a : AS} {op k th : Int32} (hk : 0 ≤ k.toInt ∧ k.toInt < 24) : aL (aStore op k th a) k.toInt.toNat = nb (if op.toInt = 54 then 1 else if op.toInt = 55 then 2 else th) ∧ ∀ j : Nat, j ≠ k.toInt.toNat → (aL (aStore op k th a) j = aL a j ∧ ¬ (op.toInt = 55 ∧ j = k.toInt.toNat + 1)) ∨ aL (aStore op k th a) j = 0 ∨ (aL (aStore op k th a) j = 3 ∧ op.toInt = 55 ∧ j = k.toInt.toNat + 1) := by
  have e2 : (k + (1 : Int32)).toInt = k.toInt + 1 := by rw [t_add (by rw [li_1]; omega), li_1]
  have n0 : nb 0 = 0 := by decide
  have n3 : nb 3 = 3 := by decide
  unfold aStore
  simp only
  have hn2 : ((if op.toInt = 55 then (2 : Int32) else 1).toInt = 2) ↔ op.toInt = 55 := by
    by_cases q : op.toInt = 55
    · rw [if_pos q]; exact ⟨fun _ => q, fun _ => by decide⟩
    · rw [if_neg q]; exact ⟨fun z => absurd z (by decide), fun z => absurd z q⟩
  revert hn2
  generalize (if op.toInt = 55 then (2 : Int32) else 1) = n
  intro hn2
  generalize (if op.toInt = 54 then (1 : Int32) else if op.toInt = 55 then 2 else th) = t
  have s1 : ∀ j : Nat, aL (if k.toInt ≤ 0 then a else if (aL a (k - 1).toInt.toNat).toInt = 2 then aSet (k - 1).toInt.toNat 0 a else a) j = aL a j ∨ aL (if k.toInt ≤ 0 then a else if (aL a (k - 1).toInt.toNat).toInt = 2 then aSet (k - 1).toInt.toNat 0 a else a) j = 0 := fun j => by
    by_cases z : k.toInt ≤ 0
    · rw [if_pos z]; exact Or.inl rfl
    · rw [if_neg z]
      by_cases z2 : (aL a (k - 1).toInt.toNat).toInt = 2
      · rw [if_pos z2, set_k]
        by_cases z3 : j = (k - 1).toInt.toNat
        · rw [if_pos z3]; exact Or.inr n0
        · rw [if_neg z3]; exact Or.inl rfl
      · rw [if_neg z2]; exact Or.inl rfl
  revert s1
  generalize (if k.toInt ≤ 0 then a else if (aL a (k - 1).toInt.toNat).toInt = 2 then aSet (k - 1).toInt.toNat 0 a else a) = a1
  intro s1
  have s2 : ∀ j : Nat, aL (if 24 ≤ (k + n).toInt then a1 else if (aL a1 (k + n).toInt.toNat).toInt = 3 then aSet (k + n).toInt.toNat 0 a1 else a1) j = aL a j ∨ aL (if 24 ≤ (k + n).toInt then a1 else if (aL a1 (k + n).toInt.toNat).toInt = 3 then aSet (k + n).toInt.toNat 0 a1 else a1) j = 0 := fun j => by
    by_cases z : 24 ≤ (k + n).toInt
    · rw [if_pos z]; exact s1 j
    · rw [if_neg z]
      by_cases z2 : (aL a1 (k + n).toInt.toNat).toInt = 3
      · rw [if_pos z2, set_k]
        by_cases z3 : j = (k + n).toInt.toNat
        · rw [if_pos z3]; exact Or.inr n0
        · rw [if_neg z3]; exact s1 j
      · rw [if_neg z2]; exact s1 j
  revert s2
  generalize (if 24 ≤ (k + n).toInt then a1 else if (aL a1 (k + n).toInt.toNat).toInt = 3 then aSet (k + n).toInt.toNat 0 a1 else a1) = a2
  intro s2
  have s3 : aL (aSet k.toInt.toNat t a2) k.toInt.toNat = nb t ∧ ∀ j : Nat, j ≠ k.toInt.toNat → aL (aSet k.toInt.toNat t a2) j = aL a j ∨ aL (aSet k.toInt.toNat t a2) j = 0 := by
    refine ⟨by rw [set_k, if_pos rfl], fun j hj => ?_⟩
    rw [set_k, if_neg hj]
    exact s2 j
  by_cases z : n.toInt = 2
  · rw [if_pos z]
    refine ⟨by rw [set_k, if_neg (by omega)]; exact s3.1, fun j hj => ?_⟩
    rw [set_k]
    by_cases z3 : j = (k + 1).toInt.toNat
    · rw [if_pos z3]; exact Or.inr (Or.inr ⟨n3, hn2.mp z, by omega⟩)
    · rw [if_neg z3]
      rcases s3.2 j hj with q | q
      · exact Or.inl ⟨q, fun y => z3 (by omega)⟩
      · exact Or.inr (Or.inl q)
  · rw [if_neg z]
    refine ⟨s3.1, fun j hj => ?_⟩
    rcases s3.2 j hj with q | q
    · exact Or.inl ⟨q, fun y => z (hn2.mpr y.1)⟩
    · exact Or.inr (Or.inl q)
/-! values behind the work of an instruction that is no move (behind k_store, P_gives, F_takes) -/
noncomputable def thV (S : MS) (x : Int32) (a : AS) : Int32 := if (isTh (if (f_op S x).toInt = 25 then aL a (f_first S x).toInt.toNat else if (f_op S x).toInt = 58 then aTop a else 0)).toInt = 0 then 0 else (if (f_op S x).toInt = 25 then aL a (f_first S x).toInt.toNat else if (f_op S x).toInt = 58 then aTop a else 0)
def isSt (op : Int32) : Prop := op.toInt = 54 ∨ op.toInt = 55 ∨ op.toInt = 58
theorem mv_iff {S : MS} {o : Int32} : 0 < (f_moved S o).toInt ↔ (o.toInt = 87 ∨ o.toInt = 88 ∨ o.toInt = 89 ∨ o.toInt = 90 ∨ o.toInt = 92 ∨ o.toInt = 95) := by
  unfold f_moved f_moved_J12 f_moved_J40
  by_cases z1 : o.toInt = 87
  · rw [if_pos z1]; simp [z1]
  · rw [if_neg z1]
    by_cases z2 : o.toInt = 89
    · rw [if_pos z2]; simp [z2]
    · rw [if_neg z2]
      by_cases z3 : o.toInt = 88
      · rw [if_pos z3]; simp [z3]
      · rw [if_neg z3]
        by_cases z4 : o.toInt = 90
        · rw [if_pos z4]; simp [z4]
        · rw [if_neg z4]
          by_cases z5 : o.toInt = 92
          · rw [if_pos z5]; simp [z5]
          · rw [if_neg z5]
            by_cases z6 : o.toInt = 95
            · rw [if_pos z6]; simp [z6]
            · rw [if_neg z6]; simp [z1, z2, z3, z4, z5, z6]
theorem F_w2 {op fst rm : Int32} {a : AS} (h : ¬ (aF (aW2 op fst rm a)).toInt = 0) : ¬ (aF a).toInt = 0 ∧ ((op.toInt = 172 ∨ op.toInt = 173 ∨ op.toInt = 176 ∨ op.toInt = 177) → ¬ rm.toInt = 0) ∧ (op.toInt = 21 ∨ op.toInt = 132 → (aL a fst.toInt.toNat).toInt = 1) := by
  unfold aW2 at h
  simp only at h
  have st : ∀ (c : Prop) [Decidable c] (g : Int32) (u : AS), ¬ (aF (if c then aNeed g u else u)).toInt = 0 → ¬ (aF u).toInt = 0 ∧ (c → ¬ g.toInt = 0) := fun c _ g u hu => by
    by_cases z : c
    · rw [if_pos z] at hu
      exact ⟨(F_need hu).1, fun _ => (F_need hu).2⟩
    · rw [if_neg z] at hu
      exact ⟨hu, fun q => absurd q z⟩
  obtain ⟨h1, h2⟩ := st _ _ _ h
  have h3 := st _ _ _ (st _ _ _ h1).1
  refine ⟨h3.1, h2, fun q => ?_⟩
  have g := h3.2 q
  by_cases z : (aL a fst.toInt.toNat).toInt = 1
  · exact z
  · rw [if_neg z] at g; exact absurd rfl g
theorem R_ite {c : Prop} [Decidable c] {u v : AS} {R : AS → Prop} (h1 : R u) (h2 : R v) : R (if c then u else v) := by
  by_cases z : c
  · rw [if_pos z]; exact h1
  · rw [if_neg z]; exact h2
theorem wk_dec {S : MS} {a : AS} {x : Int32} {p : Nat} (h : LkI S) (ht : TxI S) (hx : 0 ≤ x.toInt ∧ x.toInt < (qI S 0 52).toInt) (hT : tkV S x ≤ (aT a).toInt ∧ (aT a).toInt ≤ 24 ∧ (aT a).toInt - tkV S x + gvV S x ≤ 28) (hm : ¬ 0 < (f_moved S (f_op S x)).toInt) : ∃ b : AS, wkV S x p a = aGives (qI S (f_givesOf S x + 1)) (thV S x a) 0 (qN S (f_givesOf S x + 1)) b ∧ aP b = aP a ∧ (aT b).toInt = (aT a).toInt - tkV S x ∧ (¬ isSt (f_op S x) → aL b = aL a) ∧ (isSt (f_op S x) → aL b = aL (aStore (f_op S x) (f_first S x) (thV S x a) a)) ∧ (¬ (aF (wkV S x p a)).toInt = 0 → (((f_op S x).toInt = 172 ∨ (f_op S x).toInt = 173 ∨ (f_op S x).toInt = 176 ∨ (f_op S x).toInt = 177) → ¬ (rmV S (f_op S x) p).toInt = 0) ∧ ((f_op S x).toInt = 21 ∨ (f_op S x).toInt = 132 → (aL a (f_first S x).toInt.toNat).toInt = 1) ∧ ∀ i : Nat, i < qN S (f_takesOf S x + 1) → ((qI S (f_takesOf S x + 1) i).toInt = 65 → (aP a ((aT a).toInt - tkV S x + plc (qI S (f_takesOf S x + 1)) i).toNat).toInt = 4 ∨ (aP a ((aT a).toInt - tkV S x + plc (qI S (f_takesOf S x + 1)) i).toNat).toInt = 6) ∧ ((qI S (f_takesOf S x + 1) i).toInt = 73 → (aP a ((aT a).toInt - tkV S x + plc (qI S (f_takesOf S x + 1)) i).toNat).toInt = 1) ∧ tkO (qI S (f_takesOf S x + 1) i) (aP a) ((aT a).toInt - tkV S x + plc (qI S (f_takesOf S x + 1)) i)) := by
  have tk := h.tk hx ht
  obtain ⟨k1, k2, k3, k4, k5⟩ := tk
  have o : ¬ ((f_op S x).toInt = 87 ∨ (f_op S x).toInt = 88 ∨ (f_op S x).toInt = 89 ∨ (f_op S x).toInt = 90 ∨ (f_op S x).toInt = 92 ∨ (f_op S x).toInt = 95) := fun q => hm (mv_iff.mpr q)
  have eT : tkV S x = plc (qI S (f_takesOf S x + 1)) (qN S (f_takesOf S x + 1)) := by unfold tkV; rw [if_neg hm]; rfl
  unfold wkV aWork
  simp only
  rw [if_neg o]
  have eth : (if (isTh (if (f_op S x).toInt = 25 then aL (aL a, aP a, aT a, 1) (f_first S x).toInt.toNat else if (f_op S x).toInt = 58 then aTop (aL a, aP a, aT a, 1) else 0)).toInt = 0 then 0 else (if (f_op S x).toInt = 25 then aL (aL a, aP a, aT a, 1) (f_first S x).toInt.toNat else if (f_op S x).toInt = 58 then aTop (aL a, aP a, aT a, 1) else 0)) = thV S x a := rfl
  rw [eth]
  generalize (if (f_op S x).toInt = 25 then aL (aL a, aP a, aT a, 1) (f_first S x).toInt.toNat else if (f_op S x).toInt = 58 then aTop (aL a, aP a, aT a, 1) else 0) = th1
  generalize thV S x a = th
  obtain ⟨l2, p2, t2⟩ : aL (if (f_op S x).toInt = 25 then aNeed (isTh th1) (aL a, aP a, aT a, 1) else (aL a, aP a, aT a, 1)) = aL a ∧ aP (if (f_op S x).toInt = 25 then aNeed (isTh th1) (aL a, aP a, aT a, 1) else (aL a, aP a, aT a, 1)) = aP a ∧ aT (if (f_op S x).toInt = 25 then aNeed (isTh th1) (aL a, aP a, aT a, 1) else (aL a, aP a, aT a, 1)) = aT a := R_ite (R := fun u => aL u = aL a ∧ aP u = aP a ∧ aT u = aT a) ⟨rfl, rfl, rfl⟩ ⟨rfl, rfl, rfl⟩
  revert l2 p2 t2
  generalize (if (f_op S x).toInt = 25 then aNeed (isTh th1) (aL a, aP a, aT a, 1) else (aL a, aP a, aT a, 1)) = a2
  intro l2 p2 t2
  have w2 := aT_W2 (op := f_op S x) (fst := f_first S x) (rm := rmV S (f_op S x) p) (a := a2)
  have f2 := fun q => F_w2 (op := f_op S x) (fst := f_first S x) (rm := rmV S (f_op S x) p) (a := a2) q
  revert w2 f2
  generalize aW2 (f_op S x) (f_first S x) (rmV S (f_op S x) p) a2 = a3
  intro w2 f2
  obtain ⟨t3, l3, p3⟩ := w2
  rw [t2] at t3
  rw [l2] at l3
  rw [p2] at p3
  have pT : plc (qI S (f_takesOf S x + 1)) (qN S (f_takesOf S x + 1)) ≤ (aT a3).toInt := by rw [t3, ← eT]; exact hT.1
  have LP := LP_takes (g := qI S (f_takesOf S x + 1)) (qN S (f_takesOf S x + 1)) a3
  have t4 := t_takes (g := qI S (f_takesOf S x + 1)) (qN S (f_takesOf S x + 1)) a3 k3 pT (by rw [t3]; omega)
  have f4 := F_takes (g := qI S (f_takesOf S x + 1)) (qN S (f_takesOf S x + 1)) a3 k3 pT (by rw [t3]; omega)
  rw [p3, t3, ← eT] at f4
  rw [t3, ← eT] at t4
  rw [l3, p3] at LP
  unfold aW1
  revert LP t4 f4
  generalize aTakes (qI S (f_takesOf S x + 1)) (qN S (f_takesOf S x + 1)) a3 = a4
  intro LP t4 f4
  have ps := PTF_store (a := a4) (op := f_op S x) (k := f_first S x) (th := th)
  by_cases z : (f_op S x).toInt = 54 ∨ (f_op S x).toInt = 55 ∨ (f_op S x).toInt = 58
  · rw [if_pos z]
    refine ⟨_, rfl, by rw [ps.1, LP.2], by rw [ps.2.1]; exact t4, fun q => absurd z q, fun _ => L_store LP.1, fun q => ?_⟩
    rw [(L_gives _ _ _).2, ps.2.2] at q
    have z2 := (f2 (f4 q).1).2
    rw [l2] at z2
    exact ⟨z2.1, z2.2, (f4 q).2⟩
  · rw [if_neg z]
    refine ⟨_, rfl, LP.2, t4, fun _ => LP.1, fun q => absurd q z, fun q => ?_⟩
    rw [(L_gives _ _ _).2] at q
    have z2 := (f2 (f4 q).1).2
    rw [l2] at z2
    exact ⟨z2.1, z2.2, (f4 q).2⟩
/-! values behind the work, no move (behind wk_dec, okA.nx) -/
theorem plc_at {g : Nat → Int32} : ∀ (n k : Nat), (k : Int) < plc g n → ∃ i : Nat, i < n ∧ ((k : Int) = plc g i ∨ ((g i).toInt = 74 ∧ (k : Int) = plc g i + 1)) := by
  intro n
  induction n with
  | zero => intro k hk; have e : plc g 0 = 0 := rfl; omega
  | succ n ih =>
    intro k hk
    have pk : plc g (n + 1) = plc g n + if (g n).toInt = 74 then 2 else 1 := rfl
    by_cases c : (k : Int) < plc g n
    · obtain ⟨i, hi, q⟩ := ih k c
      exact ⟨i, by omega, q⟩
    · refine ⟨n, by omega, ?_⟩
      by_cases w : (g n).toInt = 74
      · rw [if_pos w] at pk
        by_cases z : (k : Int) = plc g n
        · exact Or.inl z
        · exact Or.inr ⟨w, by omega⟩
      · rw [if_neg w] at pk
        exact Or.inl (by omega)
theorem tk_58 {S : MS} {x : Int32} (ht : TxI S) (q : (f_op S x).toInt = 58) : 1 ≤ tkV S x := by
  have mv : ¬ 0 < (f_moved S (f_op S x)).toInt := fun z => by have := mv_iff.mp z; omega
  have e5 : tkV S x = plS S (f_takesOf S x) := by unfold tkV; rw [if_neg mv]
  have ft : f_takesOf S x = 10000024 := by
    unfold f_takesOf f_takesOf_J18 f_takesOf_J47 f_takesOf_J75 f_takesOf_J93 f_takesOf_J111
    rw [if_pos (by omega), if_pos (by omega), if_pos (by omega), if_pos (by omega), if_pos (by omega), if_neg (by omega), if_neg (by omega), if_neg (by omega), if_pos q]
  have n1 : qN S (10000024 + 1) = 1 := (ht 12 (by decide)).2.1
  have g1 := plc_ge (g := qI S (10000024 + 1)) 1
  rw [ft] at e5
  unfold plS at e5
  rw [n1] at e5
  omega
theorem okV.z0 {n : Int} {v : TV} : okV n (nb 0) v := okV.no (by decide) (by decide) (by decide) (by decide) (Or.inr (Or.inl (by decide)))
theorem okV.z2 {n : Int} {v : TV} (h : v.2.toInt = 2) : okV n (nb 2) v := okV.no (by decide) (by decide) (by decide) (by decide) (Or.inl (by rw [h]; decide))
theorem okV.z3 {n : Int} {v : TV} (h : v.2.toInt = 3) : okV n (nb 3) v := okV.no (by decide) (by decide) (by decide) (by decide) (Or.inl (by rw [h]; decide))
theorem okV.t1 {n : Int} {t : Int32} {v : TV} (h : okV n t v) : (t.toInt = 1 → v.2.toInt = 1) ∧ (t.toInt = 2 → v.2.toInt = 2) ∧ (t.toInt = 3 → v.2.toInt = 3) ∧ (t.toInt = 4 ∨ t.toInt = 6 → v.2.toInt = 4 ∨ v.2.toInt = 6) ∧ (t.toInt = 5 ∨ t.toInt = 6 → v.2.toInt = 5 ∨ v.2.toInt = 6) := by
  have s := h.2.2.2.2
  unfold sbT at s
  exact ⟨fun q => by omega, fun q => by omega, fun q => by omega, fun q => by omega, fun q => by omega⟩
theorem okV.i {n : Int} {v : TV} (h : -2147483648 ≤ v.1.toInt ∧ v.1.toInt ≤ 2147483647) (g : v.2.toInt = 1) : okV n (nb 1) v := ⟨fun z => absurd z (by decide), fun z => absurd z (by decide), fun _ => h, fun z => absurd z (by decide), Or.inl (by rw [g]; decide)⟩
theorem okV.a {n : Int} {v : TV} (h : 0 ≤ v.1.toInt ∧ v.1.toInt ≤ n) (g : v.2.toInt = 4 ∨ v.2.toInt = 6) : okV n (nb 4) v := ⟨fun _ => h, fun z => absurd z (by decide), fun z => absurd z (by decide), fun z => absurd z (by decide), by
  rcases g with g | g
  · exact Or.inl (by rw [g]; decide)
  · exact Or.inr (Or.inr ⟨g, Or.inl (by decide)⟩)⟩
theorem okV.e {n : Int} {v : TV} (h : -2147483648 ≤ v.1.toInt ∧ v.1.toInt ≤ 0) (g : v.2.toInt = 5 ∨ v.2.toInt = 6) : okV n (nb 5) v := ⟨fun z => absurd z (by decide), fun z => absurd z (by decide), fun z => absurd z (by decide), fun _ => h, by
  rcases g with g | g
  · exact Or.inl (by rw [g]; decide)
  · exact Or.inr (Or.inr ⟨g, Or.inr (by decide)⟩)⟩
theorem okV.u {n : Int} {v : TV} (h : v.1.toInt = 0) (g : v.2.toInt = 6) : okV n (nb 6) v := ⟨fun z => absurd z (by decide), fun _ => h, fun z => absurd z (by decide), fun z => absurd z (by decide), Or.inl (by rw [g]; decide)⟩
/-- of a letter's type -/
theorem gv_l {n : Int} {c th : Int32} {v : TV} : (c.toInt = 73 → -2147483648 ≤ v.1.toInt ∧ v.1.toInt ≤ 2147483647 → v.2.toInt = 1 → okV n (nb (ltT c th)) v) ∧ (c.toInt = 74 → v.2.toInt = 2 → okV n (nb (ltT c th)) v) ∧ (c.toInt = 65 → 0 ≤ v.1.toInt ∧ v.1.toInt ≤ n → v.2.toInt = 4 ∨ v.2.toInt = 6 → okV n (nb (ltT c th)) v) ∧ (c.toInt = 78 → v.1.toInt = 0 → v.2.toInt = 6 → okV n (nb (ltT c th)) v) ∧ (c.toInt = 82 → okV n (nb th) v → okV n (nb (ltT c th)) v) := by
  unfold ltT
  refine ⟨fun q a b => ?_, fun q b => ?_, fun q a b => ?_, fun q a b => ?_, fun q a => ?_⟩
  · rw [if_neg (by omega), if_pos q]; exact okV.i a b
  · rw [if_pos q]; exact okV.z2 b
  · rw [if_neg (by omega), if_neg (by omega), if_pos q]; exact okV.a a b
  · rw [if_neg (by omega), if_neg (by omega), if_neg (by omega), if_pos q]; exact okV.u a b
  · rw [if_neg (by omega), if_neg (by omega), if_neg (by omega), if_neg (by omega)]; exact a
theorem wk_val {S : MS} {a : AS} {x : Int32} {p : Nat} {n n' : Int} {sl pl sl' pl' : Nat → TV} (h : LkI S) (ht : TxI S) (hx : 0 ≤ x.toInt ∧ x.toInt < (qI S 0 52).toInt) (hT : tkV S x ≤ (aT a).toInt ∧ (aT a).toInt ≤ 24 ∧ (aT a).toInt - tkV S x + gvV S x ≤ 28) (hm : ¬ 0 < (f_moved S (f_op S x)).toInt) (hn : n ≤ n') (hA : okA n a sl pl) (hb : (∀ k : Nat, k < 24 → nb (aL a k) = aL a k) ∧ ∀ k : Nat, (k : Int) < (aT a).toInt → nb (aP a k) = aP a k)
    (s1 : ∀ k : Nat, k < 24 → (isSt (f_op S x) ∨ (f_op S x).toInt = 132 → k ≠ (f_first S x).toInt.toNat) → ((f_op S x).toInt = 55 → k ≠ (f_first S x).toInt.toNat + 1) → sl' k = sl k) (s5 : (f_op S x).toInt = 54 → okV n' (nb 1) (sl' (f_first S x).toInt.toNat)) (s7 : (f_op S x).toInt = 55 → okV n' (nb 2) (sl' (f_first S x).toInt.toNat) ∧ okV n' (nb 3) (sl' ((f_first S x).toInt.toNat + 1))) (s6 : (f_op S x).toInt = 132 → okV n' (aL a (f_first S x).toInt.toNat) (sl' (f_first S x).toInt.toNat)) (s2 : (f_op S x).toInt = 58 → sl' (f_first S x).toInt.toNat = nW (pl ((aT a).toInt - 1).toNat)) (s3 : ∀ k : Nat, (k : Int) < (aT a).toInt - tkV S x → pl' k = pl k)
    (s4 : ∀ i : Nat, i < qN S (f_givesOf S x + 1) → okV n' (nb (ltT (qI S (f_givesOf S x + 1) i) (thV S x a))) (pl' ((aT a).toInt - tkV S x + plc (qI S (f_givesOf S x + 1)) i).toNat) ∧ ((qI S (f_givesOf S x + 1) i).toInt = 74 → (pl' ((aT a).toInt - tkV S x + plc (qI S (f_givesOf S x + 1)) i + 1).toNat).2.toInt = 3)) :
    (∀ k : Nat, k < 24 → okV n' (nb (wkT S x p a k)) (sl' k)) ∧ ∀ k : Nat, (k : Int) < (aT a).toInt - tkV S x + gvV S x → okV n' (nb (wkT S x p a (24 + k))) (pl' k) := by
  obtain ⟨b, e, bP, bT, bL1, bL2, -⟩ := wk_dec (p := p) h ht hx hT hm
  have tk0 : 0 ≤ tkV S x := by
    have q := (h.tk hx ht).2.2.2.1
    unfold tkV
    rw [if_neg hm]
    exact q
  have gv := h.gv hx ht
  obtain ⟨g1, g2, g3, g4, g5⟩ := gv
  have eG : gvV S x = plc (qI S (f_givesOf S x + 1)) (qN S (f_givesOf S x + 1)) := by unfold gvV; rw [if_neg hm]; rfl
  have z0 : plc (qI S (f_givesOf S x + 1)) 0 = 0 := rfl
  obtain ⟨u1, u2, u3⟩ := P_gives (g := qI S (f_givesOf S x + 1)) (th := thV S x a) (qN S (f_givesOf S x + 1)) 0 b (by omega) (by rw [Nat.zero_add, ← eG, z0]; omega)
  have uL := (L_gives (g := qI S (f_givesOf S x + 1)) (th := thV S x a) (qN S (f_givesOf S x + 1)) 0 b).1
  rw [← e] at u1 u2 u3 uL
  obtain ⟨L, F, M, ts, la, lb, rv, -, -⟩ := h.rv hx
  obtain ⟨v1, v2, v3, v4, v5, v6, v7⟩ := rv
  refine ⟨fun k hk => ?_, fun k hk => ?_⟩
  · have ew : wkT S x p a k = aL b k := by unfold wkT; rw [if_pos hk, uL]
    rw [ew]
    have same : (isSt (f_op S x) ∨ (f_op S x).toInt = 132 → k ≠ (f_first S x).toInt.toNat) → ((f_op S x).toInt = 55 → k ≠ (f_first S x).toInt.toNat + 1) → okV n' (nb (aL a k)) (sl' k) := fun q q5 => by
      rw [s1 k hk q q5, hb.1 k hk]
      exact (hA.1 k hk).mono hn
    by_cases st : isSt (f_op S x)
    · rw [bL2 st]
      have hf : 0 ≤ (f_first S x).toInt ∧ (f_first S x).toInt < 24 := by
        unfold isSt at st
        by_cases z : (f_op S x).toInt = 55
        · have := v5 (Or.inr z); omega
        · have := v4 (by omega); omega
      obtain ⟨k1, k2⟩ := k_store (a := a) (op := f_op S x) (k := f_first S x) (th := thV S x a) hf
      by_cases ek : k = (f_first S x).toInt.toNat
      · subst ek
        rw [k1, nb_nb]
        by_cases c4 : (f_op S x).toInt = 54
        · rw [if_pos c4]; exact s5 c4
        · rw [if_neg c4]
          by_cases c5 : (f_op S x).toInt = 55
          · rw [if_pos c5]; exact (s7 c5).1
          · rw [if_neg c5]
            have c8 : (f_op S x).toInt = 58 := by unfold isSt at st; omega
            have t1 := tk_58 ht c8
            rw [s2 c8]
            unfold thV
            simp only [if_neg (show ¬ (f_op S x).toInt = 25 by omega), if_pos c8]
            by_cases i : (isTh (aTop a)).toInt = 0
            · rw [if_pos i]; exact okV.z0
            · rw [if_neg i]
              have et : aTop a = aP a ((aT a).toInt - 1).toNat := by
                unfold aTop
                rw [show (aT a - (1 : Int32)).toInt = (aT a).toInt - 1 by rw [t_sub (by rw [li_1]; omega), li_1]]
              have oo := hA.2 ((aT a).toInt - 1).toNat (by omega)
              rw [← hb.2 _ (by omega)] at oo
              rw [et]
              exact oo.nw.mono hn
      · rcases k2 k ek with q | q | q
        · rw [q.1]; exact same (fun _ => ek) (fun y z => q.2 ⟨y, z⟩)
        · rw [q]; exact okV.z0
        · rw [q.1, q.2.2]; exact (s7 q.2.1).2
    · rw [bL1 st]
      by_cases g : (f_op S x).toInt = 132 ∧ k = (f_first S x).toInt.toNat
      · obtain ⟨g1, g2⟩ := g
        subst g2
        rw [hb.1 _ hk]
        exact s6 g1
      · exact same (fun q e => q.elim st (fun q => g ⟨q, e⟩)) (fun q => absurd (Or.inr (Or.inl q)) st)
  · have ew : wkT S x p a (24 + k) = aP (wkV S x p a) k := by
      unfold wkT
      rw [if_neg (by omega), show 24 + k - 24 = k by omega]
    rw [ew]
    by_cases low : (k : Int) < (aT a).toInt - tkV S x
    · rw [u2 k (by omega), bP, s3 k low, hb.2 k (by omega)]
      exact (hA.2 k (by omega)).mono hn
    · obtain ⟨j, ej⟩ : ∃ j : Nat, (k : Int) = (aT a).toInt - tkV S x + j := ⟨(k - ((aT a).toInt - tkV S x)).toNat, by omega⟩
      obtain ⟨i, hi, q⟩ := plc_at (g := qI S (f_givesOf S x + 1)) (qN S (f_givesOf S x + 1)) j (by omega)
      have w := u3 i hi
      rw [Nat.zero_add, z0, bT, Int.sub_zero] at w
      have c := s4 i hi
      rcases q with q | ⟨q7, q⟩
      · have ek : ((aT a).toInt - tkV S x + plc (qI S (f_givesOf S x + 1)) i).toNat = k := by omega
        rw [ek] at w c
        rw [w.1, nb_nb]
        exact c.1
      · have ek : ((aT a).toInt - tkV S x + plc (qI S (f_givesOf S x + 1)) i + 1).toNat = k := by omega
        have w2 := w.2 q7
        rw [ek] at w2 c
        rw [w2, nb_nb]
        exact okV.z3 (c.2 q7)
/-! values behind a move (behind wk_val) -/
def okP (n : Int) (b : AS) (pl : Nat → TV) : Prop := ∀ k : Nat, (k : Int) < (aT b).toInt → okV n (nb (aP b k)) (pl k)
theorem okP.push {n : Int} {b : AS} {t : Int32} {pl : Nat → TV} (h : okP n b pl) (ht : 0 ≤ (aT b).toInt ∧ (aT b).toInt < 28) (hv : okV n (nb t) (pl (aT b).toInt.toNat)) : okP n (aPush t b) pl := by
  intro k hk
  rw [t_push ht] at hk
  obtain ⟨p1, p2⟩ := P_push (t := t) (a := b) ht.1
  by_cases c : k = (aT b).toInt.toNat
  · subst c
    rw [p2, nb_nb]
    exact hv
  · rw [p1 k (by omega)]
    exact h k (by omega)
/-- what a move does to the pile -/
def mvP (op : Int32) (T : Int) (pl pl' : Nat → TV) : Prop := (op.toInt = 87 → ∀ k : Nat, (k : Int) < T - 1 → pl' k = pl k) ∧ (op.toInt = 88 → ∀ k : Nat, (k : Int) < T - 2 → pl' k = pl k) ∧ (op.toInt = 89 → (∀ k : Nat, (k : Int) < T → pl' k = pl k) ∧ pl' T.toNat = nW (pl (T - 1).toNat)) ∧ (op.toInt = 90 → (∀ k : Nat, (k : Int) < T - 2 → pl' k = pl k) ∧ pl' (T - 2).toNat = nW (pl (T - 1).toNat) ∧ pl' (T - 1).toNat = nW (pl (T - 2).toNat) ∧ pl' T.toNat = nW (pl (T - 1).toNat)) ∧ (op.toInt = 92 → (∀ k : Nat, (k : Int) < T → pl' k = pl k) ∧ pl' T.toNat = nW (pl (T - 2).toNat) ∧ pl' (T + 1).toNat = nW (pl (T - 1).toNat)) ∧ (op.toInt = 95 → (∀ k : Nat, (k : Int) < T - 2 → pl' k = pl k) ∧ pl' (T - 2).toNat = nW (pl (T - 1).toNat) ∧ pl' (T - 1).toNat = nW (pl (T - 2).toNat))
theorem mvn {S : MS} {op : Int32} : ((op.toInt = 87 ∨ op.toInt = 89) → (f_moved S op).toInt = 1) ∧ ((op.toInt = 88 ∨ op.toInt = 90 ∨ op.toInt = 92 ∨ op.toInt = 95) → (f_moved S op).toInt = 2) := by
  unfold f_moved f_moved_J12 f_moved_J40
  refine ⟨fun q => ?_, fun q => ?_⟩
  · by_cases z1 : op.toInt = 87
    · rw [if_pos z1]; rfl
    · rw [if_neg z1, if_pos (by omega)]; rfl
  · rw [if_neg (by omega), if_neg (by omega)]
    by_cases z3 : op.toInt = 88
    · rw [if_pos z3]; rfl
    · rw [if_neg z3]
      by_cases z4 : op.toInt = 90
      · rw [if_pos z4]; rfl
      · rw [if_neg z4]
        by_cases z5 : op.toInt = 92
        · rw [if_pos z5]; rfl
        · rw [if_neg z5, if_pos (by omega)]; rfl
theorem mv_val {n : Int} {a : AS} {op : Int32} {pl pl' : Nat → TV} (hA : okP n a pl) (ho : op.toInt = 87 ∨ op.toInt = 88 ∨ op.toInt = 89 ∨ op.toInt = 90 ∨ op.toInt = 92 ∨ op.toInt = 95) (ht : 1 ≤ (aT a).toInt ∧ (aT a).toInt ≤ 24) (h2 : op.toInt = 87 ∨ op.toInt = 89 ∨ 2 ≤ (aT a).toInt) (hp : mvP op (aT a).toInt pl pl') : aL (aMove op a) = aL a ∧ okP n (aMove op a) pl' := by
  have tp := t_pull (a := a) ⟨ht.1, by omega⟩
  have ey : aTop a = aP a ((aT a).toInt - 1).toNat := by
    unfold aTop
    rw [show (aT a - (1 : Int32)).toInt = (aT a).toInt - 1 by rw [t_sub (by rw [li_1]; omega), li_1]]
  have vy := hA ((aT a).toInt - 1).toNat (by omega)
  rw [← ey] at vy
  obtain ⟨m87, m88, m89, m90, m92, m95⟩ := hp
  have pick : ∀ (c : Prop) [Decidable c] (d : Prop) [Decidable d] (t : Int32) (v : TV), okV n (nb t) v → okV n (nb (if c then (if d then 0 else t) else t)) v := fun c _ d _ t v hv => by
    by_cases z : c
    · rw [if_pos z]
      by_cases z2 : d
      · rw [if_pos z2]; exact okV.z0
      · rw [if_neg z2]; exact hv
    · rw [if_neg z]; exact hv
  unfold aMove
  simp only
  by_cases o : op.toInt = 87 ∨ op.toInt = 89
  · have ea : (if op.toInt = 87 then aPull a else if op.toInt = 89 then aPull a else aPull (aPull a)) = aPull a := by
      rcases o with o | o
      · rw [if_pos o]
      · rw [if_neg (by omega), if_pos o]
    rw [ea]
    generalize (if op.toInt = 87 then (1 : Int32) else if op.toInt = 89 then 1 else aTop (aPull a)) = X
    generalize (if (op.toInt = 88 ∨ op.toInt = 92) ∧ X.toInt = 2 ∧ (aTop a).toInt = 3 then (1 : Int32) else 0) = W
    have py := fun v => pick (W.toInt = 0) ((isOn (aTop a)).toInt = 0) (aTop a) v
    revert py
    generalize (if W.toInt = 0 then (if (isOn (aTop a)).toInt = 0 then 0 else aTop a) else aTop a) = y2
    generalize (if W.toInt = 0 then (if (isOn X).toInt = 0 then 0 else X) else X) = x2
    generalize (if W.toInt = 0 then (if (isOn X).toInt = 0 then (0 : Int32) else if (isOn (aTop a)).toInt = 0 then 0 else 1) else 1) = gg
    intro py
    have tn : (aT (aNeed gg (aPull a))).toInt = (aT a).toInt - 1 := tp
    have base : (∀ k : Nat, (k : Int) < (aT a).toInt - 1 → pl' k = pl k) → okP n (aNeed gg (aPull a)) pl' := fun e k hk => by
      rw [tn] at hk
      rw [e k hk]
      exact hA k (by omega)
    by_cases z : op.toInt = 87
    · rw [if_pos z]
      exact ⟨rfl, base (m87 z)⟩
    · have z9 : op.toInt = 89 := by omega
      have n1 : ¬ op.toInt = 88 := by omega
      have n2 : ¬ op.toInt = 90 := by omega
      have n3 : ¬ op.toInt = 92 := by omega
      have n4 : ¬ op.toInt = 95 := by omega
      obtain ⟨q1, q2⟩ := m89 z9
      rw [if_neg z, if_neg n1]
      unfold aMv1
      simp only [if_neg n2, if_neg n3, if_neg n4, if_pos z9]
      refine ⟨rfl, ?_⟩
      have t1 := t_push (t := y2) (a := aNeed gg (aPull a)) ⟨by omega, by omega⟩
      have e1 := (base (fun k hk => q1 k (by omega))).push (t := y2) ⟨by omega, by omega⟩ (by rw [tn, q1 _ (by omega)]; exact py _ vy)
      refine e1.push ⟨by omega, by omega⟩ ?_
      rw [t1, tn, show (aT a).toInt - 1 + 1 = (aT a).toInt by omega, q2]
      exact py _ vy.nw
  · have o1 : ¬ op.toInt = 87 := fun q => o (Or.inl q)
    have o2 : ¬ op.toInt = 89 := fun q => o (Or.inr q)
    have tp2 := t_pull (a := aPull a) ⟨by omega, by omega⟩
    have ex : aTop (aPull a) = aP a ((aT a).toInt - 2).toNat := by
      unfold aTop
      rw [show (aT (aPull a) - (1 : Int32)).toInt = (aT a).toInt - 2 by rw [t_sub (by rw [li_1]; omega), li_1]; omega]
      rfl
    have vx := hA ((aT a).toInt - 2).toNat (by omega)
    rw [← ex] at vx
    simp only [if_neg o1, if_neg o2]
    generalize (if (op.toInt = 88 ∨ op.toInt = 92) ∧ (aTop (aPull a)).toInt = 2 ∧ (aTop a).toInt = 3 then (1 : Int32) else 0) = W
    have py := fun v => pick (W.toInt = 0) ((isOn (aTop a)).toInt = 0) (aTop a) v
    have px := fun v => pick (W.toInt = 0) ((isOn (aTop (aPull a))).toInt = 0) (aTop (aPull a)) v
    revert py px
    generalize (if W.toInt = 0 then (if (isOn (aTop a)).toInt = 0 then 0 else aTop a) else aTop a) = y2
    generalize (if W.toInt = 0 then (if (isOn (aTop (aPull a))).toInt = 0 then 0 else aTop (aPull a)) else aTop (aPull a)) = x2
    generalize (if W.toInt = 0 then (if (isOn (aTop (aPull a))).toInt = 0 then (0 : Int32) else if (isOn (aTop a)).toInt = 0 then 0 else 1) else 1) = gg
    intro py px
    have tn : (aT (aNeed gg (aPull (aPull a)))).toInt = (aT a).toInt - 2 := by
      show (aT (aPull (aPull a))).toInt = _
      omega
    have base : (∀ k : Nat, (k : Int) < (aT a).toInt - 2 → pl' k = pl k) → okP n (aNeed gg (aPull (aPull a))) pl' := fun e k hk => by
      rw [tn] at hk
      rw [e k hk]
      exact hA k (by omega)
    revert tn base
    have lN : aL (aNeed gg (aPull (aPull a))) = aL a := rfl
    revert lN
    generalize aNeed gg (aPull (aPull a)) = b
    intro lN tn base
    by_cases z : op.toInt = 88
    · rw [if_pos z]
      exact ⟨lN, base (m88 z)⟩
    · rw [if_neg z]
      unfold aMv1
      by_cases z0 : op.toInt = 90
      · have n3 : ¬ op.toInt = 92 := by omega
        have n4 : ¬ op.toInt = 95 := by omega
        obtain ⟨q1, q2, q3, q4⟩ := m90 z0
        simp only [if_pos z0, if_neg n3, if_neg n4, if_neg o2]
        refine ⟨lN, ?_⟩
        have t1 := t_push (t := y2) (a := b) ⟨by omega, by omega⟩
        have t2 := t_push (t := x2) (a := aPush y2 b) ⟨by omega, by omega⟩
        have e1 := (base q1).push (t := y2) ⟨by omega, by omega⟩ (by rw [tn, q2]; exact py _ vy.nw)
        have e2 := e1.push (t := x2) ⟨by omega, by omega⟩ (by rw [t1, tn, show (aT a).toInt - 2 + 1 = (aT a).toInt - 1 by omega, q3]; exact px _ vx.nw)
        refine e2.push ⟨by omega, by omega⟩ ?_
        rw [t2, t1, tn, show (aT a).toInt - 2 + 1 + 1 = (aT a).toInt by omega, q4]
        exact py _ vy.nw
      · by_cases z2 : op.toInt = 92
        · have n4 : ¬ op.toInt = 95 := by omega
          obtain ⟨q1, q2, q3⟩ := m92 z2
          simp only [if_neg z0, if_pos z2, if_neg n4]
          refine ⟨lN, ?_⟩
          have t1 := t_push (t := x2) (a := b) ⟨by omega, by omega⟩
          have t2 := t_push (t := y2) (a := aPush x2 b) ⟨by omega, by omega⟩
          have t3 := t_push (t := x2) (a := aPush y2 (aPush x2 b)) ⟨by omega, by omega⟩
          have e1 := (base (fun k hk => q1 k (by omega))).push (t := x2) ⟨by omega, by omega⟩ (by rw [tn, q1 _ (by omega)]; exact px _ vx)
          have e2 := e1.push (t := y2) ⟨by omega, by omega⟩ (by rw [t1, tn, show (aT a).toInt - 2 + 1 = (aT a).toInt - 1 by omega, q1 _ (by omega)]; exact py _ vy)
          have e3 := e2.push (t := x2) ⟨by omega, by omega⟩ (by rw [t2, t1, tn, show (aT a).toInt - 2 + 1 + 1 = (aT a).toInt by omega, q2]; exact px _ vx.nw)
          refine e3.push ⟨by omega, by omega⟩ ?_
          rw [t3, t2, t1, tn, show (aT a).toInt - 2 + 1 + 1 + 1 = (aT a).toInt + 1 by omega, q3]
          exact py _ vy.nw
        · have n4 : op.toInt = 95 := by omega
          obtain ⟨q1, q2, q3⟩ := m95 n4
          simp only [if_neg z0, if_neg z2, if_pos n4, if_neg o2]
          refine ⟨lN, ?_⟩
          have t1 := t_push (t := y2) (a := b) ⟨by omega, by omega⟩
          have e1 := (base q1).push (t := y2) ⟨by omega, by omega⟩ (by rw [tn, q2]; exact py _ vy.nw)
          refine e1.push ⟨by omega, by omega⟩ ?_
          rw [t1, tn, show (aT a).toInt - 2 + 1 = (aT a).toInt - 1 by omega, q3]
          exact px _ vx.nw
/-! a move's height and values (behind mv_val) -/
theorem lfn {S : MS} {op : Int32} : ((op.toInt = 87 ∨ op.toInt = 88) → (f_left S op).toInt = 0) ∧ ((op.toInt = 89 ∨ op.toInt = 95) → (f_left S op).toInt = 2) ∧ (op.toInt = 90 → (f_left S op).toInt = 3) ∧ (op.toInt = 92 → (f_left S op).toInt = 4) := by
  unfold f_left f_left_J12
  refine ⟨fun q => ?_, fun q => ?_, fun q => ?_, fun q => ?_⟩
  · rw [if_neg (by omega), if_neg (by omega), if_neg (by omega), if_neg (by omega)]; rfl
  · by_cases z : op.toInt = 89
    · rw [if_pos z]; rfl
    · rw [if_neg z, if_pos (by omega)]; rfl
  · rw [if_neg (by omega), if_neg (by omega), if_pos q]; rfl
  · rw [if_neg (by omega), if_neg (by omega), if_neg (by omega), if_pos q]; rfl
theorem t_mv {S : MS} {a : AS} {op : Int32} (ho : op.toInt = 87 ∨ op.toInt = 88 ∨ op.toInt = 89 ∨ op.toInt = 90 ∨ op.toInt = 92 ∨ op.toInt = 95) (ht : 1 ≤ (aT a).toInt ∧ (aT a).toInt ≤ 24) (h2 : op.toInt = 87 ∨ op.toInt = 89 ∨ 2 ≤ (aT a).toInt) : (aT (aMove op a)).toInt = (aT a).toInt - (f_moved S op).toInt + (f_left S op).toInt := by
  have tp := t_pull (a := a) ⟨ht.1, by omega⟩
  have m := mvn (S := S) (op := op)
  have l := lfn (S := S) (op := op)
  have P := fun (t : Int32) (b : AS) (hb : 0 ≤ (aT b).toInt ∧ (aT b).toInt < 28) => t_push (t := t) (a := b) hb
  unfold aMove
  simp only
  by_cases o : op.toInt = 87 ∨ op.toInt = 89
  · have ea : (if op.toInt = 87 then aPull a else if op.toInt = 89 then aPull a else aPull (aPull a)) = aPull a := by
      rcases o with o | o
      · rw [if_pos o]
      · rw [if_neg (by omega), if_pos o]
    rw [ea, m.1 o]
    generalize (if op.toInt = 87 then (1 : Int32) else if op.toInt = 89 then 1 else aTop (aPull a)) = X
    generalize (if (op.toInt = 88 ∨ op.toInt = 92) ∧ X.toInt = 2 ∧ (aTop a).toInt = 3 then (1 : Int32) else 0) = W
    generalize (if W.toInt = 0 then (if (isOn (aTop a)).toInt = 0 then 0 else aTop a) else aTop a) = y2
    generalize (if W.toInt = 0 then (if (isOn X).toInt = 0 then 0 else X) else X) = x2
    generalize (if W.toInt = 0 then (if (isOn X).toInt = 0 then (0 : Int32) else if (isOn (aTop a)).toInt = 0 then 0 else 1) else 1) = gg
    have tn : (aT (aNeed gg (aPull a))).toInt = (aT a).toInt - 1 := tp
    by_cases z : op.toInt = 87
    · rw [if_pos z, tn, l.1 (Or.inl z)]; omega
    · have z9 : op.toInt = 89 := by omega
      have n1 : ¬ op.toInt = 88 := by omega
      have n2 : ¬ op.toInt = 90 := by omega
      have n3 : ¬ op.toInt = 92 := by omega
      have n4 : ¬ op.toInt = 95 := by omega
      rw [if_neg z, if_neg n1]
      unfold aMv1
      simp only [if_neg n2, if_neg n3, if_neg n4, if_pos z9]
      have t1 := P y2 (aNeed gg (aPull a)) ⟨by omega, by omega⟩
      rw [P y2 _ ⟨by omega, by omega⟩, t1, tn, l.2.1 (Or.inl z9)]
      omega
  · have o1 : ¬ op.toInt = 87 := fun q => o (Or.inl q)
    have o2 : ¬ op.toInt = 89 := fun q => o (Or.inr q)
    have tp2 := t_pull (a := aPull a) ⟨by omega, by omega⟩
    rw [m.2 (by omega)]
    simp only [if_neg o1, if_neg o2]
    generalize (if (op.toInt = 88 ∨ op.toInt = 92) ∧ (aTop (aPull a)).toInt = 2 ∧ (aTop a).toInt = 3 then (1 : Int32) else 0) = W
    generalize (if W.toInt = 0 then (if (isOn (aTop a)).toInt = 0 then 0 else aTop a) else aTop a) = y2
    generalize (if W.toInt = 0 then (if (isOn (aTop (aPull a))).toInt = 0 then 0 else aTop (aPull a)) else aTop (aPull a)) = x2
    generalize (if W.toInt = 0 then (if (isOn (aTop (aPull a))).toInt = 0 then (0 : Int32) else if (isOn (aTop a)).toInt = 0 then 0 else 1) else 1) = gg
    have tn : (aT (aNeed gg (aPull (aPull a)))).toInt = (aT a).toInt - 2 := by
      show (aT (aPull (aPull a))).toInt = _
      omega
    revert tn
    generalize aNeed gg (aPull (aPull a)) = b
    intro tn
    by_cases z : op.toInt = 88
    · rw [if_pos z, tn, l.1 (Or.inr z)]; omega
    · rw [if_neg z]
      unfold aMv1
      by_cases z0 : op.toInt = 90
      · have n3 : ¬ op.toInt = 92 := by omega
        have n4 : ¬ op.toInt = 95 := by omega
        simp only [if_pos z0, if_neg n3, if_neg n4, if_neg o2]
        have t1 := P y2 b ⟨by omega, by omega⟩
        have t2 := P x2 (aPush y2 b) ⟨by omega, by omega⟩
        rw [P y2 _ ⟨by omega, by omega⟩, t2, t1, tn, l.2.2.1 z0]
        omega
      · by_cases z2 : op.toInt = 92
        · have n4 : ¬ op.toInt = 95 := by omega
          simp only [if_neg z0, if_pos z2, if_neg n4]
          have t1 := P x2 b ⟨by omega, by omega⟩
          have t2 := P y2 (aPush x2 b) ⟨by omega, by omega⟩
          have t3 := P x2 (aPush y2 (aPush x2 b)) ⟨by omega, by omega⟩
          rw [P y2 _ ⟨by omega, by omega⟩, t3, t2, t1, tn, l.2.2.2 z2]
          omega
        · have n4 : op.toInt = 95 := by omega
          simp only [if_neg z0, if_neg z2, if_pos n4, if_neg o2]
          have t1 := P y2 b ⟨by omega, by omega⟩
          rw [P x2 _ ⟨by omega, by omega⟩, t1, tn, l.2.1 (Or.inr n4)]
          omega
theorem wk_mval {S : MS} {a : AS} {x : Int32} {p : Nat} {n : Int} {sl pl sl' pl' : Nat → TV} (hT : tkV S x ≤ (aT a).toInt ∧ (aT a).toInt ≤ 24) (hm : 0 < (f_moved S (f_op S x)).toInt) (hA : okA n a sl pl) (hb : (∀ k : Nat, k < 24 → nb (aL a k) = aL a k) ∧ ∀ k : Nat, (k : Int) < (aT a).toInt → nb (aP a k) = aP a k) (s1 : ∀ k : Nat, k < 24 → sl' k = sl k) (s2 : mvP (f_op S x) (aT a).toInt pl pl') :
    (∀ k : Nat, k < 24 → okV n (nb (wkT S x p a k)) (sl' k)) ∧ ∀ k : Nat, (k : Int) < (aT a).toInt - tkV S x + gvV S x → okV n (nb (wkT S x p a (24 + k))) (pl' k) := by
  have o := mv_iff.mp hm
  have eT : tkV S x = (f_moved S (f_op S x)).toInt := by unfold tkV; rw [if_pos hm]
  have eG : gvV S x = (f_left S (f_op S x)).toInt := by unfold gvV; rw [if_pos hm]
  have m := mvn (S := S) (op := f_op S x)
  have h2 : (f_op S x).toInt = 87 ∨ (f_op S x).toInt = 89 ∨ 2 ≤ (aT a).toInt := by
    by_cases z : (f_op S x).toInt = 87 ∨ (f_op S x).toInt = 89
    · omega
    · have := m.2 (by omega); omega
  have ew : wkV S x p a = aMove (f_op S x) (aL a, aP a, aT a, 1) := by
    unfold wkV aWork
    simp only
    rw [if_pos o]
  have hP : okP n (aL a, aP a, aT a, 1) pl := fun k hk => by
    show okV n (nb (aP a k)) (pl k)
    rw [hb.2 k hk]
    exact hA.2 k hk
  obtain ⟨e1, e2⟩ := mv_val (a := (aL a, aP a, aT a, 1)) hP o ⟨by show 1 ≤ (aT a).toInt; omega, hT.2⟩ h2 s2
  have e3 := t_mv (S := S) (a := (aL a, aP a, aT a, 1)) o ⟨by show 1 ≤ (aT a).toInt; omega, hT.2⟩ h2
  rw [← ew] at e1 e2 e3
  refine ⟨fun k hk => ?_, fun k hk => ?_⟩
  · have q : wkT S x p a k = aL a k := by unfold wkT; rw [if_pos hk, e1]; rfl
    rw [q, hb.1 k hk, s1 k hk]
    exact hA.1 k hk
  · have q : wkT S x p a (24 + k) = aP (wkV S x p a) k := by
      unfold wkT
      rw [if_neg (by omega), show 24 + k - 24 = k by omega]
    rw [q]
    refine e2 k ?_
    rw [e3]
    show (k : Int) < (aT a).toInt - _ + _
    omega
/-! the machine's small methods (behind wk_mval, fr_got) -/
def fN (S : MS) : Int := (qI S 0 97).toInt - 1
def fT (S : MS) : Int := (qI S 44 (fN S).toNat).toInt
def FrB (S : MS) : Prop := 1 ≤ (qI S 0 97).toInt ∧ (qI S 0 97).toInt ≤ 60
theorem FrB.e {S : MS} (h : FrB S) : (qI S 0 97 - (1 : Int32)).toInt = fN S ∧ 0 ≤ fN S ∧ fN S < 60 ∧ ((24 : Int32) * (qI S 0 97 - (1 : Int32))).toInt = 24 * fN S := by
  have q : (qI S 0 97 - (1 : Int32)).toInt = fN S := by
    obtain ⟨a, b⟩ := h
    rw [t_sub (by rw [li_1]; omega), li_1]
    rfl
  have n : 0 ≤ fN S ∧ fN S < 60 := by
    unfold fN
    obtain ⟨a, b⟩ := h
    omega
  refine ⟨q, n.1, n.2, ?_⟩
  rw [t_mul (by rw [li_24, q]; omega), li_24, q]
theorem sp_goTo {S : MS} {x : Int32} (h : FrB S) : w_goTo S x (fun u => frm [43] [] S u ∧ qI u 43 = upd (qI S 43) (fN S).toNat x) := by
  obtain ⟨e1, e2, e3, e4⟩ := h.e
  unfold w_goTo
  rw [e1]
  refine ⟨⟨e2, e3⟩, fun A eA => ?_⟩
  rw [eA]
  exact ⟨frm.pI (by decide), qI_self⟩
theorem sp_got {S : MS} {n : Int32} (h : FrB S) (hn : 1 ≤ n.toInt ∧ n.toInt ≤ fT S) (hT : fT S ≤ 24) : w_got S n (fun r u => r = qJ S 46 (24 * fN S + fT S - n.toInt).toNat ∧ frm [44] [] S u ∧ qI u 44 = upd (qI S 44) (fN S).toNat (qI S 44 (fN S).toNat - n) ∧ fT u = fT S - n.toInt) := by
  obtain ⟨e1, e2, e3, e4⟩ := h.e
  have eT : (qI S 44 (fN S).toNat - n).toInt = fT S - n.toInt := by
    unfold fT at hn hT ⊢
    exact t_sub (by omega)
  unfold w_got
  intro a2 ea
  have q : a2.toInt = fN S := by rw [ea]; exact e1
  have q4 : ((24 : Int32) * a2).toInt = 24 * fN S := by rw [ea]; exact e4
  rw [q]
  refine ⟨⟨e2, e3⟩, ⟨e2, e3⟩, fun A eA => ?_⟩
  have a44 : qI A 44 = upd (qI S 44) (fN S).toNat (qI S 44 (fN S).toNat - n) := by rw [eA]; exact qI_self
  have aT' : qI A 44 (fN S).toNat = qI S 44 (fN S).toNat - n := by rw [a44]; unfold upd; rw [if_pos rfl]
  have j46 : qJ A 46 = qJ S 46 := by rw [eA]; rfl
  have i97 : qI A 0 97 = qI S 0 97 := by rw [eA, rdH (by decide)]
  have fA : fN A = fN S := by unfold fN; rw [i97]
  have ix : ((24 : Int32) * a2 + qI A 44 (fN S).toNat).toInt = 24 * fN S + fT S - n.toInt := by
    rw [aT', t_add (by rw [q4, eT]; omega), q4, eT]
    omega
  rw [ix, j46]
  refine ⟨⟨e2, e3⟩, ⟨by omega, by omega⟩, rfl, by rw [eA]; exact frm.pI (by decide), a44, ?_⟩
  unfold fT
  rw [fA, aT', eT]
  rfl
/-- a value is put -/
def PtP (S : MS) (v : TV) (n : Int32) (u : MS) : Prop := frm [44, 46, 48] [] S u ∧ (∀ j : Nat, qW u 46 j = if j = (24 * fN S + fT S).toNat then v else if n.toInt = 2 ∧ j = (24 * fN S + fT S + 1).toNat then (qJ S 46 j, 3) else qW S 46 j) ∧ qI u 44 = upd (qI S 44) (fN S).toNat (qI S 44 (fN S).toNat + n) ∧ fT u = fT S + n.toInt
theorem sp_putT {S : MS} {v : Int64} {t n : Int32} (h : FrB S) (hn : n.toInt = 1 ∨ n.toInt = 2) (hT : 0 ≤ fT S ∧ fT S + n.toInt ≤ 24) : w_putTagged S v t n (PtP S (v, nb t) n) := by
  obtain ⟨e1, e2, e3, e4⟩ := h.e
  have eT : (qI S 44 (fN S).toNat + n).toInt = fT S + n.toInt := by
    unfold fT at hT ⊢
    exact t_add (by omega)
  have ix : ((24 : Int32) * (qI S 0 97 - 1) + qI S 44 (fN S).toNat).toInt = 24 * fN S + fT S := by
    have : (qI S 44 (fN S).toNat).toInt = fT S := rfl
    rw [t_add (by rw [e4, this]; omega), e4, this]
  unfold w_putTagged
  rw [e1]
  refine ⟨⟨e2, e3⟩, fun a7 e7 => ?_⟩
  have q7 : a7.toInt = 24 * fN S + fT S := by rw [e7]; exact ix
  have q8 : (a7 + (1 : Int32)).toInt = 24 * fN S + fT S + 1 := by rw [t_add (by rw [q7, li_1]; omega), q7, li_1]
  have fin : ∀ U : MS, frm [44, 46, 48] [] S U → qI U 44 = qI S 44 → (∀ j : Nat, qW U 46 j = if j = (24 * fN S + fT S).toNat then (v, nb t) else if n.toInt = 2 ∧ j = (24 * fN S + fT S + 1).toNat then (qJ S 46 j, 3) else qW S 46 j) → w_putTagged_J55 (PtP S (v, nb t) n) U n := fun U fU u44 u46 => by
    have i97 : qI U 0 97 = qI S 0 97 := (fU.2.2.2.2.2 97 (by decide)).1
    unfold w_putTagged_J55
    rw [i97, e1]
    refine ⟨⟨e2, e3⟩, ⟨e2, e3⟩, fun A eA => ?_⟩
    have a44 : qI A 44 = upd (qI S 44) (fN S).toNat (qI S 44 (fN S).toNat + n) := by rw [eA, qI_self, u44]
    have fA : fN A = fN S := by
      unfold fN
      rw [eA, rdH (by decide), i97]
    refine ⟨fU.tr (by rw [eA]; exact frm.pI (by decide)), fun j => ?_, a44, ?_⟩
    · have : qW A 46 = qW U 46 := by rw [eA]; exact qW_I (by decide)
      rw [this, u46]
    · unfold fT
      rw [fA, a44]
      unfold upd
      rw [if_pos rfl, eT]
      rfl
  refine ⟨⟨by omega, by omega⟩, fun A eA => ⟨⟨by omega, by omega⟩, fun B eB => ?_⟩⟩
  have fA : frm [44, 46, 48] [] S A := by rw [eA]; exact frm.pJ (by decide)
  have fB : frm [44, 46, 48] [] S B := fA.tr (by rw [eB]; exact frm.pI (by decide))
  have b44 : qI B 44 = qI S 44 := by rw [eB, rdH (by decide), eA]; rfl
  have b46 : ∀ j : Nat, qJ B 46 j = if j = (24 * fN S + fT S).toNat then v else qJ S 46 j := fun j => by
    rw [eB, qJ_wI, eA, qJ_wJ, q7]
    by_cases c : j = (24 * fN S + fT S).toNat
    · rw [if_pos c, if_pos ⟨rfl, c⟩]
    · rw [if_neg c, if_neg (fun q => c q.2)]
  have b48 : ∀ j : Nat, qI B 48 j = if j = (24 * fN S + fT S).toNat then nb t else qI S 48 j := fun j => by
    rw [eB, qI_wI, q7]
    by_cases c : j = (24 * fN S + fT S).toNat
    · rw [if_pos c, if_pos ⟨rfl, c⟩]; rfl
    · rw [if_neg c, if_neg (fun q => c q.2), eA]; rfl
  refine ⟨fun c => ⟨⟨by omega, by omega⟩, fun C eC => ?_⟩, fun c => fin B fB b44 (fun j => ?_)⟩
  · refine fin C (fB.tr (by rw [eC]; exact frm.pI (by decide))) (by rw [eC, rdH (by decide), b44]) (fun j => ?_)
    have c46 : qJ C 46 j = qJ B 46 j := by rw [eC]; rfl
    have c48 : qI C 48 j = if j = (24 * fN S + fT S + 1).toNat then 3 else qI B 48 j := by
      rw [eC, qI_wI, q8]
      by_cases y : j = (24 * fN S + fT S + 1).toNat
      · rw [if_pos y, if_pos ⟨rfl, y⟩]; decide
      · rw [if_neg y, if_neg (fun q => y q.2)]
    unfold qW
    rw [c46, show 46 + 2 = 48 from rfl, c48, b46, b48]
    by_cases y : j = (24 * fN S + fT S).toNat
    · rw [if_pos y, if_pos y, if_pos y, if_neg (by omega)]
    · rw [if_neg y, if_neg y, if_neg y]
      by_cases z : j = (24 * fN S + fT S + 1).toNat
      · rw [if_pos z, if_pos ⟨c, z⟩]
      · rw [if_neg z, if_neg (fun q => z q.2)]
  · unfold qW
    rw [show 46 + 2 = 48 from rfl, b46, b48]
    by_cases y : j = (24 * fN S + fT S).toNat
    · rw [if_pos y, if_pos y, if_pos y]
    · rw [if_neg y, if_neg y, if_neg y, if_neg (fun q => c q.1)]
theorem sp_putI {S : MS} {v : Int32} (h : FrB S) (hT : 0 ≤ fT S ∧ fT S + 1 ≤ 24) : w_putInt S v (PtP S (v.toInt64, nb 1) 1) := by
  unfold w_putInt
  exact ⟨_, sp_putT h (Or.inl li_1) ⟨hT.1, by rw [li_1]; exact hT.2⟩, fun u hu => hu⟩
/-- the tag that put gives -/
def ptT (v : Int64) (n : Int32) : Int32 := if n.toInt = 2 then nb 2 else if v.toInt = 0 then nb 6 else if v.toInt ≤ 0 then nb 5 else nb 4
theorem ptT_4 {v : Int64} {n : Int32} (h : ¬ n.toInt = 2) (h0 : 0 ≤ v.toInt) : (ptT v n).toInt = 4 ∨ (ptT v n).toInt = 6 := by
  unfold ptT
  rw [if_neg h]
  by_cases c : v.toInt = 0
  · rw [if_pos c]; exact Or.inr (by decide)
  · rw [if_neg c, if_neg (by omega)]; exact Or.inl (by decide)
theorem ptT_6 {v : Int64} {n : Int32} (h : ¬ n.toInt = 2) (h0 : v.toInt = 0) : (ptT v n).toInt = 6 := by
  unfold ptT
  rw [if_neg h, if_pos h0]; decide
theorem ptT_5 {v : Int64} {n : Int32} (h : ¬ n.toInt = 2) (h0 : v.toInt ≤ 0) : (ptT v n).toInt = 5 ∨ (ptT v n).toInt = 6 := by
  unfold ptT
  rw [if_neg h]
  by_cases c : v.toInt = 0
  · rw [if_pos c]; exact Or.inr (by decide)
  · rw [if_neg c, if_pos h0]; exact Or.inl (by decide)
theorem ptT_2 {v : Int64} {n : Int32} (h : n.toInt = 2) : (ptT v n).toInt = 2 := by
  unfold ptT
  rw [if_pos h]; decide
theorem tt_f {S : MS} {v : Int64} {n : Int32} (h : ¬ n.toInt = 2) : nb (f_thingTag S v) = ptT v n := by
  have c1 := c_cmp (x := v) (y := (0 : Int64))
  have l0 : (0 : Int64).toInt = 0 := by decide
  rw [l0] at c1
  have c2 := c_le (x := v) (y := (0 : Int64))
  rw [l0] at c2
  unfold f_thingTag ptT
  rw [if_neg h]
  by_cases c : v.toInt = 0
  · rw [if_pos c, if_pos (by omega)]; decide
  · rw [if_neg c, if_neg (by omega)]
    by_cases d : v.toInt ≤ 0
    · rw [if_pos d, if_pos (c2.mpr d)]; decide
    · rw [if_neg d, if_neg (fun q => d (c2.mp q))]; decide
theorem sp_putV {S : MS} {v : Int64} {n : Int32} (h : FrB S) (hn : n.toInt = 1 ∨ n.toInt = 2) (hT : 0 ≤ fT S ∧ fT S + n.toInt ≤ 24) : w_put S v n (PtP S (v, ptT v n) n) := by
  have d : d_thingTag S v := by
    unfold d_thingTag
    simp
  unfold w_put
  exact ⟨fun c => ⟨_, sp_putT h hn hT, fun u hu => by unfold ptT; rw [if_pos c]; exact hu⟩, fun c => ⟨d, _, sp_putT h hn hT, fun u hu => by rw [← tt_f (S := S) c]; exact hu⟩⟩
/-! enter (behind sp_putT, fr_enter) -/
def EnP (S : MS) (m : Int32) (u : MS) : Prop := frm [42, 43, 44, 45, 47] [97] S u ∧ (qI u 0 97).toInt = (qI S 0 97).toInt + 1 ∧ qI u 42 = upd (qI S 42) (qI S 0 97).toInt.toNat m ∧ qI u 43 = upd (qI S 43) (qI S 0 97).toInt.toNat 0 ∧ qI u 44 = upd (qI S 44) (qI S 0 97).toInt.toNat 0 ∧ ∀ j : Nat, qW u 45 j = if 24 * (qI S 0 97).toInt ≤ (j : Int) ∧ (j : Int) < 24 * (qI S 0 97).toInt + 24 then (0, 0) else qW S 45 j
theorem sp_enter {S : MS} {m : Int32} (h : 0 ≤ (qI S 0 97).toInt ∧ (qI S 0 97).toInt < 60) : w_enter S m (EnP S m) := by
  have L : ∀ (c : Nat) (U : MS) (k : Int32), (0 ≤ k.toInt ∧ k.toInt ≤ 24) → frm [42, 43, 44, 45, 47] [97] S U → qI U 0 97 = qI S 0 97 → (qI U 42 = upd (qI S 42) (qI S 0 97).toInt.toNat m ∧ qI U 43 = upd (qI S 43) (qI S 0 97).toInt.toNat 0 ∧ qI U 44 = upd (qI S 44) (qI S 0 97).toInt.toNat 0) → (∀ j : Nat, qW U 45 j = if 24 * (qI S 0 97).toInt ≤ (j : Int) ∧ (j : Int) < 24 * (qI S 0 97).toInt + k.toInt then (0, 0) else qW S 45 j) → (24 - k.toInt).toNat < c → w_enter_L32 (EnP S m) c U k := by
    intro c
    induction c with
    | zero => intro U k _ _ _ _ _ h9; exact absurd h9 (Nat.not_lt_zero _)
    | succ c ih =>
      intro U k hk fU u97 ur u45 hc
      have ek : (k + Int32.ofInt 1).toInt = k.toInt + 1 := by rw [t_add (by rw [lo_1]; omega), lo_1]
      have em : ((24 : Int32) * qI S 0 97).toInt = 24 * (qI S 0 97).toInt := by rw [t_mul (by rw [li_24]; omega), li_24]
      have ix : ((24 : Int32) * qI S 0 97 + k).toInt = 24 * (qI S 0 97).toInt + k.toInt := by rw [t_add (by rw [em]; omega), em]
      unfold w_enter_L32
      rw [u97]
      refine ⟨fun q A eA => ?_, fun q => ?_⟩
      · have e24 : k.toInt = 24 := by omega
        refine ⟨fU.tr (by rw [eA]; exact frm.pI0 (by decide)), ?_, by rw [eA, rdH (by decide)]; exact ur.1, by rw [eA, rdH (by decide)]; exact ur.2.1, by rw [eA, rdH (by decide)]; exact ur.2.2, fun j => ?_⟩
        · rw [eA, qI_wI, if_pos ⟨rfl, rfl⟩, t_add (by rw [li_1]; omega), li_1]
        · have : qW A 45 = qW U 45 := by rw [eA]; exact qW_I (by decide)
          rw [this, u45, e24]
      · rw [ix]
        refine ⟨⟨by omega, by omega⟩, fun A eA => ?_⟩
        have a97 : qI A 0 97 = qI S 0 97 := by rw [eA]; exact u97
        rw [a97, ix]
        refine ⟨⟨by omega, by omega⟩, fun B eB a18 e18 => ?_⟩
        subst e18
        refine ih B _ ⟨by omega, by omega⟩ (fU.tr ((show frm [42, 43, 44, 45, 47] [97] U A by rw [eA]; exact frm.pJ (by decide)).tr (by rw [eB]; exact frm.pI (by decide)))) (by rw [eB, rdH (by decide), a97]) ?_ (fun j => ?_) (by omega)
        · rw [eB, rdH (by decide), rdH (by decide), rdH (by decide), eA]
          exact ur
        · have bJ : qJ B 45 j = if j = (24 * (qI S 0 97).toInt + k.toInt).toNat then 0 else qJ U 45 j := by
            rw [eB, qJ_wI, eA, qJ_wJ]
            by_cases y : j = (24 * (qI S 0 97).toInt + k.toInt).toNat
            · rw [if_pos y, if_pos ⟨rfl, y⟩]
            · rw [if_neg y, if_neg (fun q => y q.2)]
          have bI : qI B 47 j = if j = (24 * (qI S 0 97).toInt + k.toInt).toNat then 0 else qI U 47 j := by
            rw [eB, qI_wI]
            by_cases y : j = (24 * (qI S 0 97).toInt + k.toInt).toNat
            · rw [if_pos y, if_pos ⟨rfl, y⟩]; decide
            · rw [if_neg y, if_neg (fun q => y q.2), eA]; rfl
          have bW : qW B 45 j = if j = (24 * (qI S 0 97).toInt + k.toInt).toNat then (0, 0) else qW U 45 j := by
            unfold qW
            rw [bJ, show 45 + 2 = 47 from rfl, bI]
            split <;> rfl
          rw [bW, u45, ek]
          by_cases c1 : j = (24 * (qI S 0 97).toInt + k.toInt).toNat
          · rw [if_pos c1, if_pos ⟨by omega, by omega⟩]
          · rw [if_neg c1]
            by_cases c2 : 24 * (qI S 0 97).toInt ≤ (j : Int) ∧ (j : Int) < 24 * (qI S 0 97).toInt + k.toInt
            · rw [if_pos c2, if_pos ⟨c2.1, by omega⟩]
            · rw [if_neg c2, if_neg (fun w => c2 ⟨w.1, by omega⟩)]
  unfold w_enter
  refine ⟨h, fun A eA => ?_⟩
  have a97 : qI A 0 97 = qI S 0 97 := by rw [eA, rdH (by decide)]
  rw [a97]
  refine ⟨h, fun B eB => ?_⟩
  have b97 : qI B 0 97 = qI S 0 97 := by rw [eB, rdH (by decide), a97]
  rw [b97]
  refine ⟨h, fun C eC => ?_⟩
  have c97 : qI C 0 97 = qI S 0 97 := by rw [eC, rdH (by decide), b97]
  refine ⟨_, L _ C 0 (by decide) ?_ c97 ⟨?_, ?_, ?_⟩ (fun j => ?_) (Nat.lt_succ_self _)⟩
  · exact (show frm [42, 43, 44, 45, 47] [97] S A by rw [eA]; exact frm.pI (by decide)).tr ((show frm [42, 43, 44, 45, 47] [97] A B by rw [eB]; exact frm.pI (by decide)).tr (by rw [eC]; exact frm.pI (by decide)))
  · rw [eC, rdH (by decide), eB, rdH (by decide), eA, qI_self]
  · rw [eC, rdH (by decide), eB, qI_self, eA, rdH (by decide)]
  · rw [eC, qI_self, eB, rdH (by decide), eA, rdH (by decide)]
  · rw [li_0, if_neg (by omega)]
    rw [eC, qW_I (by decide), eB, qW_I (by decide), eA, qW_I (by decide)]
/-! watch (behind sp_enter, sp_got) -/
theorem d_ag {S : MS} {a b : Int32} : d_agrees S a b ∧ d_isTaken S a b := by
  unfold d_agrees d_agrees_J10 d_agrees_J21 d_agrees_J36 d_isTaken d_isTaken_J34 d_isTaken_J45 d_isTaken_J49
  simp only [ite_self]
  exact ⟨trivial, trivial⟩
theorem d_tg {S : MS} {k : Int32} (h : FrB S) (hk : 1 ≤ k.toInt ∧ k.toInt ≤ fT S) (hT : fT S ≤ 24) : d_tagAt S k := by
  obtain ⟨e1, e2, e3, e4⟩ := h.e
  have eT : (qI S 44 (fN S).toNat).toInt = fT S := rfl
  have i1 : ((24 : Int32) * (qI S 0 97 - (1 : Int32)) + qI S 44 (fN S).toNat).toInt = 24 * fN S + fT S := by rw [t_add (by rw [e4, eT]; omega), e4, eT]
  have i2 : ((24 : Int32) * (qI S 0 97 - (1 : Int32)) + qI S 44 (fN S).toNat - k).toInt = 24 * fN S + fT S - k.toInt := by rw [t_sub (by rw [i1]; omega), i1]
  unfold d_tagAt
  rw [e1, i2]
  exact ⟨⟨e2, e3⟩, ⟨by omega, by omega⟩, trivial⟩
theorem d_mvb {S : MS} {op : Int32} (h : FrB S) (hk : 1 ≤ (f_moved S op).toInt ∧ (f_moved S op).toInt ≤ fT S) (hT : fT S ≤ 24) : d_isMovable S op := by
  have d1 : d_tagAt S 1 := d_tg h ⟨by decide, by rw [li_1]; omega⟩ hT
  have l2 : (2 : Int32).toInt = 2 := by decide
  have m := mvn (S := S) (op := op)
  have bm := b_mv (S := S) (op := op)
  have d2 : ¬ (f_moved S op).toInt = 1 → d_tagAt S 2 := fun q => d_tg h ⟨by decide, by rw [l2]; omega⟩ hT
  have j35 : ∀ t : Int32, d_isMovable_J35 S t op := fun t => by
    unfold d_isMovable_J35 d_isMovable_J74 d_isMovable_J70
    by_cases c : t.toInt = 0
    · rw [if_pos c]
      refine ⟨d1, f_on.2, ?_⟩
      by_cases c2 : (f_isOne S (f_tagAt S (1 : Int32))).toInt = 0
      · rw [if_pos c2]; trivial
      · rw [if_neg c2]
        refine ⟨bm.2.2.2.2.1, ?_⟩
        by_cases c3 : (f_moved S op).toInt = 1
        · rw [if_pos c3]; trivial
        · rw [if_neg c3, ite_self]
          exact ⟨d2 c3, f_on.2, trivial⟩
    · rw [if_neg c]; trivial
  have j12 : (op.toInt = 88 ∨ op.toInt = 92) → d_isMovable_J12 S op := fun q => by
    have m2 := m.2 (by omega)
    unfold d_isMovable_J12
    refine ⟨d1, ?_⟩
    by_cases c : (f_tagAt S (1 : Int32)).toInt = 3
    · rw [if_pos c]
      refine ⟨d2 (by omega), ?_⟩
      by_cases c2 : (f_tagAt S (2 : Int32)).toInt = 2
      · rw [if_pos c2]; exact j35 1
      · rw [if_neg c2]; exact j35 0
    · rw [if_neg c]; exact j35 0
  unfold d_isMovable
  by_cases c : op.toInt = 88
  · rw [if_pos c]; exact j12 (Or.inl c)
  · rw [if_neg c]
    by_cases c2 : op.toInt = 92
    · rw [if_pos c2]; exact j12 (Or.inr c2)
    · rw [if_neg c2]; exact j35 0
/-- a tag, read off the top frame's pile -/
theorem f_tg {S : MS} {k : Int32} (h : FrB S) (hk : 1 ≤ k.toInt ∧ k.toInt ≤ fT S) (hT : fT S ≤ 24) : f_tagAt S k = qI S 48 (24 * fN S + fT S - k.toInt).toNat := by
  obtain ⟨e1, e2, e3, e4⟩ := h.e
  have eT : (qI S 44 (fN S).toNat).toInt = fT S := rfl
  have i1 : ((24 : Int32) * (qI S 0 97 - (1 : Int32)) + qI S 44 (fN S).toNat).toInt = 24 * fN S + fT S := by rw [t_add (by rw [e4, eT]; omega), e4, eT]
  have i2 : ((24 : Int32) * (qI S 0 97 - (1 : Int32)) + qI S 44 (fN S).toNat - k).toInt = 24 * fN S + fT S - k.toInt := by rw [t_sub (by rw [i1]; omega), i1]
  unfold f_tagAt
  rw [e1, i2]
theorem ag_sb {S : MS} {t g : Int32} (h : sbT g t) : ¬ (f_agrees S t g).toInt = 0 := by
  have one : ¬ (1 : Int32).toInt = 0 := by decide
  unfold sbT at h
  unfold f_agrees f_agrees_J10 f_agrees_J21 f_agrees_J36
  by_cases c4 : t.toInt = 4
  · rw [if_pos c4]
    by_cases d : g.toInt = t.toInt
    · rw [if_pos d]; exact one
    · rw [if_neg d, if_pos (by omega)]; exact one
  · rw [if_neg c4]
    by_cases c5 : t.toInt = 5
    · rw [if_pos c5]
      by_cases d : g.toInt = t.toInt
      · rw [if_pos d]; exact one
      · rw [if_neg d, if_pos (by omega)]; exact one
    · rw [if_neg c5]
      by_cases c0 : t.toInt = 0
      · rw [if_pos c0]; exact one
      · rw [if_neg c0, if_pos (by omega)]; exact one
/-- what a taken letter wants of the tags at its places -/
def tgP (c g h : Int32) : Prop := (c.toInt = 73 → g.toInt = 1) ∧ (c.toInt = 74 → g.toInt = 2 ∧ h.toInt = 3) ∧ (c.toInt = 65 → g.toInt = 4 ∨ g.toInt = 6) ∧ (c.toInt = 69 → g.toInt = 5 ∨ g.toInt = 6) ∧ (c.toInt = 82 → g.toInt = 4 ∨ g.toInt = 5 ∨ g.toInt = 6)
theorem tgP.tk {S : MS} {c g h : Int32} (p : tgP c g h) (hc : c.toInt = 73 ∨ c.toInt = 65 ∨ c.toInt = 69 ∨ c.toInt = 82) : ¬ (f_isTaken S c g).toInt = 0 := by
  have one : ¬ (1 : Int32).toInt = 0 := by decide
  obtain ⟨p1, p2, p3, p4, p5⟩ := p
  unfold f_isTaken f_isTaken_J34 f_isTaken_J45
  by_cases c1 : c.toInt = 73
  · rw [if_pos c1, if_pos (p1 c1)]; exact one
  · rw [if_neg c1]
    by_cases d6 : g.toInt = 6
    · rw [if_pos d6]; exact one
    · rw [if_neg d6]
      by_cases d4 : g.toInt = 4
      · rw [if_pos d4, if_neg (by omega)]; exact one
      · rw [if_neg d4, if_pos (by omega), if_neg (by omega)]; exact one
/-- the top places are right for a move -/
def mvT (op : Int32) (y x : Int32) : Prop := ((op.toInt = 88 ∨ op.toInt = 92) ∧ y.toInt = 3 ∧ x.toInt = 2) ∨ (¬ (isOn y).toInt = 0 ∧ (op.toInt = 87 ∨ op.toInt = 89 ∨ ¬ (isOn x).toInt = 0))
theorem mvb {S : MS} {op : Int32} (h : FrB S) (hk : 1 ≤ (f_moved S op).toInt ∧ (f_moved S op).toInt ≤ fT S) (hT : fT S ≤ 24) (m : mvT op (qI S 48 (24 * fN S + fT S - 1).toNat) (qI S 48 (24 * fN S + fT S - 2).toNat)) : ¬ (f_isMovable S op).toInt = 0 := by
  have one : ¬ (1 : Int32).toInt = 0 := by decide
  have l2 : (2 : Int32).toInt = 2 := by decide
  have mm := mvn (S := S) (op := op)
  have o : op.toInt = 87 ∨ op.toInt = 88 ∨ op.toInt = 89 ∨ op.toInt = 90 ∨ op.toInt = 92 ∨ op.toInt = 95 := (mv_iff (S := S)).mp (by omega)
  have t1 : f_tagAt S 1 = qI S 48 (24 * fN S + fT S - 1).toNat := by
    have := f_tg (k := 1) h ⟨by decide, by rw [li_1]; omega⟩ hT
    rw [li_1] at this
    exact this
  have t2 : 2 ≤ fT S → f_tagAt S 2 = qI S 48 (24 * fN S + fT S - 2).toNat := fun q => by
    have := f_tg (k := 2) h ⟨by decide, by rw [l2]; omega⟩ hT
    rw [l2] at this
    exact this
  have j35 : ∀ t : Int32, (t.toInt = 0 → ¬ (isOn (qI S 48 (24 * fN S + fT S - 1).toNat)).toInt = 0 ∧ (op.toInt = 87 ∨ op.toInt = 89 ∨ ¬ (isOn (qI S 48 (24 * fN S + fT S - 2).toNat)).toInt = 0)) → ¬ (f_isMovable_J35 S t op).toInt = 0 := fun t ht => by
    unfold f_isMovable_J35 f_isMovable_J70
    by_cases c : t.toInt = 0
    · obtain ⟨q1, q2⟩ := ht c
      rw [if_pos c, f_on.1, t1, if_neg q1]
      by_cases c3 : (f_moved S op).toInt = 1
      · rw [if_pos c3]; exact one
      · have o2 : op.toInt = 88 ∨ op.toInt = 90 ∨ op.toInt = 92 ∨ op.toInt = 95 := by
          by_cases y : op.toInt = 87 ∨ op.toInt = 89
          · exact absurd (mm.1 y) c3
          · omega
        have m2 := mm.2 o2
        rw [if_neg c3, f_on.1, t2 (by omega), if_neg (q2.resolve_left (by omega) |>.resolve_left (by omega))]
        exact one
    · rw [if_neg c]; exact one
  have off : ¬ ((op.toInt = 88 ∨ op.toInt = 92) ∧ (qI S 48 (24 * fN S + fT S - 1).toNat).toInt = 3 ∧ (qI S 48 (24 * fN S + fT S - 2).toNat).toInt = 2) → ¬ (f_isMovable_J35 S 0 op).toInt = 0 := fun q => j35 0 (fun _ => m.resolve_left q)
  have on : ¬ (f_isMovable_J35 S 1 op).toInt = 0 := j35 1 (fun q => absurd q (by decide))
  have j12 : (op.toInt = 88 ∨ op.toInt = 92) → ¬ (f_isMovable_J12 S op).toInt = 0 := fun q => by
    have m2 := mm.2 (by omega)
    unfold f_isMovable_J12 f_isMovable_J34
    rw [t1, t2 (by omega)]
    by_cases c : (qI S 48 (24 * fN S + fT S - 1).toNat).toInt = 3
    · rw [if_pos c]
      by_cases c2 : (qI S 48 (24 * fN S + fT S - 2).toNat).toInt = 2
      · rw [if_pos c2]; exact on
      · rw [if_neg c2]; exact off (fun z => c2 z.2.2)
    · rw [if_neg c]; exact off (fun z => c z.2.1)
  unfold f_isMovable f_isMovable_J34
  by_cases c : op.toInt = 88
  · rw [if_pos c]; exact j12 (Or.inl c)
  · rw [if_neg c]
    by_cases c2 : op.toInt = 92
    · rw [if_pos c2]; exact j12 (Or.inr c2)
    · rw [if_neg c2]; exact off (fun z => by omega)
theorem sp_watch {S : MS} {x : Int32} {f St : Nat} (h : LkI S) (ht : TxI S) (hF : FrB S) (hx : 0 ≤ x.toInt ∧ x.toInt < (qI S 0 52).toInt) (hT : tkV S x ≤ fT S ∧ fT S ≤ 24) (h80 : qR S 0 80 = some f) (h22 : qR S f 22 = some St) (h51 : 0 ≤ (qI S 0 51).toInt ∧ (qI S 0 51).toInt ≤ 28800 ∧ 4 * ((qI S 0 51).toInt + x.toInt) + 4 ≤ (qN S St : Int)) (w0 : (qI S St (4 * ((qI S 0 51).toInt + x.toInt)).toNat).toInt = fT S) {g : Nat → Int32} (gr : ∀ k : Nat, k < 24 → 0 ≤ (g k).toInt ∧ (g k).toInt ≤ 15) (w1 : ∀ k : Nat, k < 3 → qI S St ((4 * ((qI S 0 51).toInt + x.toInt)).toNat + 1 + k) = pkW (fun j => g (8 * k + j)) 8) (w2 : ∀ k : Nat, k < 24 → sbT (qI S 47 (24 * (fN S).toNat + k)) (g k)) (w3 : 0 < (f_moved S (f_op S x)).toInt → mvT (f_op S x) (qI S 48 (24 * fN S + fT S - 1).toNat) (qI S 48 (24 * fN S + fT S - 2).toNat)) (w4 : ¬ 0 < (f_moved S (f_op S x)).toInt → ∀ i : Nat, i < qN S (f_takesOf S x + 1) → tgP (qI S (f_takesOf S x + 1) i) (qI S 48 (24 * fN S + fT S - tkV S x + plc (qI S (f_takesOf S x + 1)) i).toNat) (qI S 48 (24 * fN S + fT S - tkV S x + plc (qI S (f_takesOf S x + 1)) i + 1).toNat)) : w_watch S x (fun u => u = S) := by
  have cn := h.cnt
  obtain ⟨e1, e2, e3, e4⟩ := hF.e
  have o80 : qO S 0 80 = f := by unfold qO; rw [h80]; rfl
  have o22 : qO S f 22 = St := by unfold qO; rw [h22]; rfl
  have l4 : (4 : Int32).toInt = 4 := li_4
  have j244 : ∀ v : Int32, ¬ v.toInt = 0 → w_watch_J244 (fun u => u = S) S v := fun v nz => by
    unfold w_watch_J244
    exact ⟨fun z => absurd z nz, fun _ => rfl⟩
  have j129 : ∀ v : Int32, ¬ v.toInt = 0 → ¬ 0 < (f_moved S (f_op S x)).toInt → w_watch_J129 (fun u => u = S) S x v := fun v v0 hm => by
    have w4 := w4 hm
    have tk := h.tk hx ht
    obtain ⟨k1, k2, k3, k4, k5⟩ := tk
    have L : ∀ (c : Nat) (v t k : Int32), ¬ v.toInt = 0 → (-1 ≤ k.toInt ∧ k.toInt < qN S (f_takesOf S x + 1)) → t.toInt = 1 + plS S (f_takesOf S x) - plc (qI S (f_takesOf S x + 1)) (k.toInt + 1).toNat → (k.toInt + 1).toNat < c → w_watch_L148 (fun u => u = S) c S v (f_takesOf S x) t k := by
      intro c
      induction c with
      | zero => intro v t k _ _ _ h9; exact absurd h9 (Nat.not_lt_zero _)
      | succ c ih =>
        intro v t k hv hk et hc
        unfold w_watch_L148
        refine ⟨fun _ => j244 v hv, fun q => ⟨fun _ => j244 v hv, fun nz => ?_⟩⟩
        have eT : tkV S x = plS S (f_takesOf S x) := by unfold tkV; rw [if_neg hm]
        have en : (k.toInt + 1).toNat = k.toInt.toNat + 1 := by omega
        have pk : plc (qI S (f_takesOf S x + 1)) (k.toInt.toNat + 1) = plc (qI S (f_takesOf S x + 1)) k.toInt.toNat + if (qI S (f_takesOf S x + 1) k.toInt.toNat).toInt = 74 then 2 else 1 := rfl
        have p0 := plc_ge (g := qI S (f_takesOf S x + 1)) k.toInt.toNat
        have up : plc (qI S (f_takesOf S x + 1)) (k.toInt.toNat + 1) ≤ plS S (f_takesOf S x) := by
          have u : ∀ (d m : Nat), plc (qI S (f_takesOf S x + 1)) m ≤ plc (qI S (f_takesOf S x + 1)) (m + d) := by
            intro d
            induction d with
            | zero => intro m; exact Int.le_refl _
            | succ d ih2 =>
              intro m
              have := ih2 m
              have e9 : plc (qI S (f_takesOf S x + 1)) (m + (d + 1)) = plc (qI S (f_takesOf S x + 1)) (m + d) + if (qI S (f_takesOf S x + 1) (m + d)).toInt = 74 then 2 else 1 := rfl
              rw [e9]
              split <;> omega
          have := u (qN S (f_takesOf S x + 1) - (k.toInt.toNat + 1)) (k.toInt.toNat + 1)
          rw [show k.toInt.toNat + 1 + (qN S (f_takesOf S x + 1) - (k.toInt.toNat + 1)) = qN S (f_takesOf S x + 1) by omega] at this
          exact this
        rw [en] at et
        have hl := k3 k.toInt.toNat (by omega)
        have ec : cAt S (f_takesOf S x) k = qI S (f_takesOf S x + 1) k.toInt.toNat := by
          unfold cAt
          exact (asc (by omega) (by omega)).2.2
        have lm : (Int32.ofInt (-1)).toInt = -1 := by decide
        have t1 : (t + (1 : Int32)).toInt = t.toInt + 1 := by rw [t_add (by rw [li_1]; omega), li_1]
        have nx : ∀ (v2 d : Int32), ¬ v2.toInt = 0 → (d.toInt = if (qI S (f_takesOf S x + 1) k.toInt.toNat).toInt = 74 then 2 else 1) → w_watch_J235 (fun u => u = S) (w_watch_L148 (fun u => u = S) c) S d t v2 (f_takesOf S x) k := fun v2 d v20 ed => by
          unfold w_watch_J235
          intro a29 e29 a30 e30
          have q30 : a30.toInt = k.toInt - 1 := by rw [e30, t_add (by rw [lm]; omega), lm]; omega
          have d2 : 1 ≤ d.toInt ∧ d.toInt ≤ 2 := by rw [ed]; split <;> omega
          refine ih v2 a29 a30 v20 ⟨by omega, by omega⟩ ?_ (by omega)
          rw [q30, show (k.toInt - 1 + 1).toNat = k.toInt.toNat by omega, e29, t_add (by omega), et, ed, pk]
          omega
        have j215 : ∀ v2 : Int32, ¬ v2.toInt = 0 → w_watch_J215 (fun u => u = S) (w_watch_L148 (fun u => u = S) c) S v2 (f_takesOf S x) t k := fun v2 v20 => by
          unfold w_watch_J215
          rw [ec]
          exact ⟨⟨by omega, by omega⟩, fun w => nx v2 2 v20 (by rw [if_pos w]; decide), fun w => nx v2 1 v20 (by rw [if_neg w]; decide)⟩
        rw [ec]
        have tp := w4 k.toInt.toNat (by omega)
        rw [eT] at tp
        refine ⟨⟨by omega, by omega⟩, fun w => ?_, fun w => ?_⟩
        · rw [if_pos w] at pk
          have tt := tp.2.1 w
          have g1 := f_tg (k := t) hF ⟨by omega, by omega⟩ hT.2
          have g2 := f_tg (k := t + 1) hF ⟨by omega, by omega⟩ hT.2
          rw [show 24 * fN S + fT S - t.toInt = 24 * fN S + fT S - plS S (f_takesOf S x) + plc (qI S (f_takesOf S x + 1)) k.toInt.toNat + 1 by omega] at g1
          rw [show 24 * fN S + fT S - (t + (1 : Int32)).toInt = 24 * fN S + fT S - plS S (f_takesOf S x) + plc (qI S (f_takesOf S x + 1)) k.toInt.toNat by omega] at g2
          refine ⟨d_tg hF ⟨by omega, by omega⟩ hT.2, fun _ => ⟨d_tg hF ⟨by omega, by omega⟩ hT.2, fun _ => j215 1 (by decide), fun z => ?_⟩, fun z => ?_⟩
          · rw [g2] at z; exact absurd tt.1 z
          · rw [g1] at z; exact absurd tt.2 z
        · rw [if_neg w] at pk
          have g1 := f_tg (k := t) hF ⟨by omega, by omega⟩ hT.2
          rw [show 24 * fN S + fT S - t.toInt = 24 * fN S + fT S - plS S (f_takesOf S x) + plc (qI S (f_takesOf S x + 1)) k.toInt.toNat by omega] at g1
          refine ⟨⟨by omega, by omega⟩, d_tg hF ⟨by omega, by omega⟩ hT.2, d_ag.2, j215 _ ?_⟩
          rw [g1]
          exact tp.tk (by omega)
    unfold w_watch_J129
    refine ⟨h.dtk hx, fun a21 e21 => ?_⟩
    have q : a21.toInt = qN S (f_takesOf S x + 1) - 1 := by rw [e21, t_sub (by rw [oN (by omega), li_1]; omega), oN (by omega), li_1]
    refine ⟨_, L _ v 1 a21 v0 ⟨by omega, by omega⟩ ?_ (Nat.lt_succ_self _)⟩
    rw [q, show ((qN S (f_takesOf S x + 1) : Int) - 1 + 1).toNat = qN S (f_takesOf S x + 1) by omega, li_1]
    unfold plS
    omega
  have j101 : ∀ v : Int32, ¬ v.toInt = 0 → w_watch_J101 (fun u => u = S) S x v := fun v v0 => by
    have bm := b_mv (S := S) (op := f_op S x)
    unfold w_watch_J101
    have eT : 0 < (f_moved S (f_op S x)).toInt → tkV S x = (f_moved S (f_op S x)).toInt := fun y => by unfold tkV; rw [if_pos y]
    refine ⟨fun c => absurd c v0, fun c => ⟨(h.dop hx).1, bm.2.2.2.2.1, fun q => j129 v v0 (by omega), fun q => ⟨(h.dop hx).1, d_mvb hF ?_ hT.2, fun a64 e64 => j244 a64 ?_⟩⟩⟩
    · have := eT (by omega)
      omega
    · have := eT (by omega)
      rw [e64]
      exact mvb hF ⟨by omega, by omega⟩ hT.2 (w3 (by omega))
  unfold w_watch
  intro a3 ea
  have s1 : (qI S 0 51 + x).toInt = (qI S 0 51).toInt + x.toInt := t_add (by omega)
  have s3 : a3.toInt = 4 * ((qI S 0 51).toInt + x.toInt) := by rw [ea, t_mul (by rw [l4, s1]; omega), l4, s1]
  have L41 : ∀ (c : Nat) (v k : Int32), ¬ v.toInt = 0 → (0 ≤ k.toInt ∧ k.toInt ≤ 24) → (24 - k.toInt).toNat < c → w_watch_L41 (fun u => u = S) c S x a3 v k := by
    intro c
    induction c with
    | zero => intro v k _ _ h9; exact absurd h9 (Nat.not_lt_zero _)
    | succ c ih =>
      intro v k v0 hk hc
      unfold w_watch_L41
      refine ⟨fun _ => j101 v v0, fun q => ⟨fun _ => j101 v v0, fun nz => ?_⟩⟩
      have e8 : (k / (8 : Int32)).toInt = k.toInt / 8 := by
        rw [Int32.toInt_div, li_8, Int.tdiv_eq_ediv_of_nonneg (by omega)]
        simp only [Int.bmod_def]
        omega
      have i1 : (a3 + (1 : Int32)).toInt = a3.toInt + 1 := by rw [t_add (by rw [li_1]; omega), li_1]
      have i2 : (a3 + (1 : Int32) + k / (8 : Int32)).toInt = a3.toInt + 1 + k.toInt / 8 := by rw [t_add (by rw [i1, e8]; omega), i1, e8]
      have sl : (f_slot S k).toInt = 24 * fN S + k.toInt := by
        unfold f_slot
        rw [t_add (by rw [e4]; omega), e4]
      have ek : (k + Int32.ofInt 1).toInt = k.toInt + 1 := by rw [t_add (by rw [lo_1]; omega), lo_1]
      rw [o80, o22, i2, sl]
      refine ⟨h80, h22, ⟨by omega, by omega⟩, trivial, ⟨by omega, by omega⟩, d_ag.1, fun a88 e88 a89 e89 => ?_⟩
      subst e89
      refine ih _ _ ?_ ⟨by omega, by omega⟩ (by omega)
      have m8 : (k - k / (8 : Int32) * (8 : Int32)).toInt = k.toInt % 8 := by
        have y : (k / (8 : Int32) * (8 : Int32)).toInt = k.toInt / 8 * 8 := by rw [t_mul (by rw [e8, li_8]; omega), e8, li_8]
        rw [t_sub (by rw [y]; omega), y]
        omega
      have em : k - k / (8 : Int32) * (8 : Int32) = Int32.ofNat (k.toInt.toNat % 8) := Int32.toInt_inj.mp (by rw [m8, oN (by omega)]; omega)
      have p1 := w1 (k.toInt.toNat / 8) (by omega)
      have ia : (a3.toInt + 1 + k.toInt / 8).toNat = (4 * ((qI S 0 51).toInt + x.toInt)).toNat + 1 + k.toInt.toNat / 8 := by omega
      have gt := pk_get (g := fun j => g (8 * (k.toInt.toNat / 8) + j)) (fun j hj => gr _ (by omega)) (j := k.toInt.toNat % 8) (by omega)
      have w2k := w2 k.toInt.toNat (by omega)
      rw [e88, ia, p1, em, gt, show (24 * fN S + k.toInt).toNat = 24 * (fN S).toNat + k.toInt.toNat by omega]
      have eg : g (8 * (k.toInt.toNat / 8) + k.toInt.toNat % 8) = g k.toInt.toNat := by rw [show 8 * (k.toInt.toNat / 8) + k.toInt.toNat % 8 = k.toInt.toNat by omega]
      show ¬ (f_agrees S (g (8 * (k.toInt.toNat / 8) + k.toInt.toNat % 8)) _).toInt = 0
      rw [eg]
      exact ag_sb w2k
  have j37 : ∀ v : Int32, ¬ v.toInt = 0 → w_watch_J37 (fun u => u = S) S v x a3 := fun v v0 => ⟨_, L41 _ v 0 v0 (by decide) (Nat.lt_succ_self _)⟩
  rw [o80, o22, e1]
  exact ⟨h80, h22, ⟨by omega, by omega⟩, ⟨e2, e3⟩, fun _ => j37 1 (by decide), fun z => absurd (by rw [s3, w0]; rfl) z⟩
/-! shuffle (behind sp_watch, mvP) -/
def plF (S : MS) (i : Nat) : Nat → TV := fun k => qW S 46 (24 * i + k)
def ShP (S : MS) (op : Int32) (d : Int) (u : MS) : Prop := frm [44, 46, 48] [] S u ∧ fT u = fT S + d ∧ (∀ j : Nat, j ≠ (fN S).toNat → qI u 44 j = qI S 44 j) ∧ mvP op (fT S) (plF S (fN S).toNat) (plF u (fN S).toNat) ∧ ∀ j : Nat, (j : Int) < 24 * fN S → qW u 46 j = qW S 46 j
theorem FrB.mv {S u : MS} (h : FrB S) {W : List Nat} (f : frm W [] S u) : FrB u ∧ fN u = fN S := by
  have e : qI u 0 97 = qI S 0 97 := (f.2.2.2.2.2 97 (by decide)).1
  unfold FrB fN
  rw [e]
  exact ⟨h, rfl⟩
theorem sp_shuffle {S : MS} {op : Int32} (h : FrB S) (ho : op.toInt = 89 ∨ op.toInt = 90 ∨ op.toInt = 92 ∨ op.toInt = 95) (hT : 1 ≤ fT S ∧ (op.toInt = 89 ∨ 2 ≤ fT S) ∧ fT S ≤ 24 ∧ (op.toInt = 92 → fT S ≤ 22) ∧ (op.toInt = 89 ∨ op.toInt = 90 → fT S ≤ 23)) : w_shuffle S op (ShP S op (if op.toInt = 89 ∨ op.toInt = 90 then 1 else if op.toInt = 92 then 2 else 0)) := by
  obtain ⟨e1, e2, e3, e4⟩ := h.e
  have l2 : (2 : Int32).toInt = 2 := by decide
  have eT : (qI S 44 (fN S).toNat).toInt = fT S := rfl
  unfold w_shuffle
  intro a2 ea
  have q2 : a2.toInt = fN S := by rw [ea]; exact e1
  rw [q2]
  refine ⟨⟨e2, e3⟩, fun a7 e7 => ?_⟩
  have q7 : a7.toInt = 24 * fN S + fT S := by
    rw [e7, ea, t_add (by rw [e4, eT]; omega), e4, eT]
  have i1 : (a7 - (1 : Int32)).toInt = 24 * fN S + fT S - 1 := by rw [t_sub (by rw [q7, li_1]; omega), q7, li_1]
  rw [i1]
  refine ⟨⟨by omega, by omega⟩, fun y ey => ⟨⟨by omega, by omega⟩, fun a15 e15 => ?_⟩⟩
  have ey' : (y, nb a15) = nW (plF S (fN S).toNat (fT S - 1).toNat) := by
    rw [ey, e15]
    unfold plF nW qW
    rw [show (24 * fN S + fT S - 1).toNat = 24 * (fN S).toNat + (fT S - 1).toNat by omega]
  have pos : ∀ (k : Nat) (t : Int), 0 ≤ t → (24 * (fN S).toNat + k = (24 * fN S + t).toNat ↔ (k : Int) = t) := fun k t h0 => by omega
  -- one value put onto V at height t
  have one : ∀ (V u : MS) (v : TV), frm [44, 46, 48] [] S V → PtP V v 1 u → 0 ≤ fT V → frm [44, 46, 48] [] S u ∧ fT u = fT V + 1 ∧ (∀ j : Nat, j ≠ (fN S).toNat → qI u 44 j = qI V 44 j) ∧ (∀ k : Nat, plF u (fN S).toNat k = if (k : Int) = fT V then v else plF V (fN S).toNat k) ∧ ∀ j : Nat, (j : Int) < 24 * fN S → qW u 46 j = qW V 46 j := fun V u v fV hp h0 => by
    have eN := (h.mv fV).2
    obtain ⟨p1, p2, p3, p4⟩ := hp
    rw [eN] at p2 p3
    refine ⟨fV.tr p1, by rw [p4, li_1], fun j hj => ?_, fun k => ?_, fun j hj => ?_⟩
    · rw [p3]
      unfold upd
      rw [if_neg hj]
    · unfold plF
      rw [p2]
      by_cases c : (k : Int) = fT V
      · rw [if_pos c, if_pos ((pos k _ h0).mpr c)]
      · rw [if_neg c, if_neg (fun q => c ((pos k _ h0).mp q)), if_neg (fun q => absurd q.1 (by decide))]
    · rw [p2, if_neg (by omega), if_neg (fun q => absurd q.1 (by decide))]
  refine ⟨fun c => ?_, fun c => ?_⟩
  · refine ⟨_, sp_putT h (Or.inl li_1) ⟨by omega, by rw [li_1]; have := hT.2.2.2.2 (Or.inl c); omega⟩, fun u hu => ?_⟩
    obtain ⟨o1, o2, o3, o4, o5⟩ := one S u _ frm.rf hu (by omega)
    refine ⟨o1, by rw [o2, if_pos (Or.inl c)], o3, ⟨fun q => by omega, fun q => by omega, fun _ => ⟨fun k hk => by rw [o4, if_neg (by omega)], ?_⟩, fun q => by omega, fun q => by omega, fun q => by omega⟩, o5⟩
    rw [o4, if_pos (by omega), ey']
  · have i2 : (a7 - (2 : Int32)).toInt = 24 * fN S + fT S - 2 := by rw [t_sub (by rw [q7, l2]; omega), q7, l2]
    have t2 : 2 ≤ fT S := by have := hT.2.1; omega
    rw [i2]
    refine ⟨⟨by omega, by omega⟩, fun x ex => ⟨⟨by omega, by omega⟩, fun a24 e24 => ?_⟩⟩
    have ex' : (x, nb a24) = nW (plF S (fN S).toNat (fT S - 2).toNat) := by
      rw [ex, e24]
      unfold plF nW qW
      rw [show (24 * fN S + fT S - 2).toNat = 24 * (fN S).toNat + (fT S - 2).toNat by omega]
    refine ⟨fun c2 => ?_, fun c2 => ?_⟩
    · have t22 := hT.2.2.2.1 c2
      refine ⟨_, sp_putT h (Or.inl li_1) ⟨by omega, by rw [li_1]; omega⟩, fun u hu => ?_⟩
      obtain ⟨o1, o2, o3, o4, o5⟩ := one S u _ frm.rf hu (by omega)
      refine ⟨_, sp_putT (h.mv o1).1 (Or.inl li_1) ⟨by omega, by rw [li_1]; omega⟩, fun w hw => ?_⟩
      obtain ⟨r1, r2, r3, r4, r5⟩ := one u w _ o1 hw (by omega)
      refine ⟨r1, by rw [r2, o2, if_neg (by omega), if_pos c2]; omega, fun j hj => by rw [r3 j hj, o3 j hj], ⟨fun q => by omega, fun q => by omega, fun q => by omega, fun q => by omega, fun _ => ⟨fun k hk => by rw [r4, if_neg (by omega), o4, if_neg (by omega)], ?_, ?_⟩, fun q => by omega⟩, fun j hj => by rw [r5 j hj, o5 j hj]⟩
      · rw [r4, if_neg (by omega), o4, if_pos (by omega), ex']
      · rw [r4, if_pos (by omega), ey']
    · refine ⟨⟨by omega, by omega⟩, fun A eA => ⟨⟨by omega, by omega⟩, fun B eB => ⟨⟨by omega, by omega⟩, fun C eC => ⟨⟨by omega, by omega⟩, fun D eD => ?_⟩⟩⟩⟩
      have fD : frm [44, 46, 48] [] S D := (show frm [44, 46, 48] [] S A by rw [eA]; exact frm.pJ (by decide)).tr ((show frm [44, 46, 48] [] A B by rw [eB]; exact frm.pI (by decide)).tr ((show frm [44, 46, 48] [] B C by rw [eC]; exact frm.pJ (by decide)).tr (by rw [eD]; exact frm.pI (by decide))))
      have d44 : qI D 44 = qI S 44 := by rw [eD, rdH (by decide), eC, qI_wJ, eB, rdH (by decide), eA, qI_wJ]
      have dj : ∀ j : Nat, qW D 46 j = if j = (24 * fN S + fT S - 1).toNat then (x, nb a24) else if j = (24 * fN S + fT S - 2).toNat then (y, nb a15) else qW S 46 j := fun j => by
        have dJ : qJ D 46 j = if j = (24 * fN S + fT S - 1).toNat then x else if j = (24 * fN S + fT S - 2).toNat then y else qJ S 46 j := by
          rw [eD, qJ_wI, eC, qJ_wJ, eB, qJ_wI, eA, qJ_wJ]
          by_cases z : j = (24 * fN S + fT S - 1).toNat
          · rw [if_pos ⟨rfl, z⟩, if_pos z]
          · rw [if_neg (fun q => z q.2), if_neg z]
            by_cases z2 : j = (24 * fN S + fT S - 2).toNat
            · rw [if_pos ⟨rfl, z2⟩, if_pos z2]
            · rw [if_neg (fun q => z2 q.2), if_neg z2]
        have dI : qI D 48 j = if j = (24 * fN S + fT S - 1).toNat then nb a24 else if j = (24 * fN S + fT S - 2).toNat then nb a15 else qI S 48 j := by
          rw [eD, qI_wI, eC, qI_wJ, eB, qI_wI, eA, qI_wJ]
          by_cases z : j = (24 * fN S + fT S - 1).toNat
          · rw [if_pos ⟨rfl, z⟩, if_pos z]; rfl
          · rw [if_neg (fun q => z q.2), if_neg z]
            by_cases z2 : j = (24 * fN S + fT S - 2).toNat
            · rw [if_pos ⟨rfl, z2⟩, if_pos z2]; rfl
            · rw [if_neg (fun q => z2 q.2), if_neg z2]
        unfold qW
        rw [dJ, show 46 + 2 = 48 from rfl, dI]
        by_cases z : j = (24 * fN S + fT S - 1).toNat
        · rw [if_pos z, if_pos z, if_pos z]
        · rw [if_neg z, if_neg z, if_neg z]
          by_cases z2 : j = (24 * fN S + fT S - 2).toNat
          · rw [if_pos z2, if_pos z2, if_pos z2]
          · rw [if_neg z2, if_neg z2, if_neg z2]
      have dT : fT D = fT S := by
        unfold fT
        rw [(h.mv fD).2, d44]
      have dp : ∀ k : Nat, plF D (fN S).toNat k = if (k : Int) = fT S - 1 then (x, nb a24) else if (k : Int) = fT S - 2 then (y, nb a15) else plF S (fN S).toNat k := fun k => by
        unfold plF
        rw [dj]
        by_cases z : (k : Int) = fT S - 1
        · rw [if_pos z, if_pos (by omega)]
        · rw [if_neg z, if_neg (by omega)]
          by_cases z2 : (k : Int) = fT S - 2
          · rw [if_pos z2, if_pos (by omega)]
          · rw [if_neg z2, if_neg (by omega)]
      have dl : ∀ j : Nat, (j : Int) < 24 * fN S → qW D 46 j = qW S 46 j := fun j hj => by rw [dj, if_neg (by omega), if_neg (by omega)]
      refine ⟨fun c0 => ?_, fun c0 => ?_⟩
      · have t23 := hT.2.2.2.2 (Or.inr c0)
        refine ⟨_, sp_putT (h.mv fD).1 (Or.inl li_1) ⟨by omega, by rw [li_1]; omega⟩, fun w hw => ?_⟩
        obtain ⟨r1, r2, r3, r4, r5⟩ := one D w _ fD hw (by omega)
        refine ⟨r1, by rw [r2, dT, if_pos (Or.inr c0)], fun j hj => by rw [r3 j hj, d44], ⟨fun q => by omega, fun q => by omega, fun q => by omega, fun _ => ⟨fun k hk => by rw [r4, if_neg (by omega), dp, if_neg (by omega), if_neg (by omega)], ?_, ?_, ?_⟩, fun q => by omega, fun q => by omega⟩, fun j hj => by rw [r5 j hj, dl j hj]⟩
        · rw [r4, if_neg (by omega), dp, if_neg (by omega), if_pos (by omega), ey']
        · rw [r4, if_neg (by omega), dp, if_pos (by omega), ex']
        · rw [r4, if_pos (by omega), ey']
      · refine ⟨fD, by rw [dT, if_neg (by omega), if_neg (by omega)]; omega, fun j hj => by rw [d44], ⟨fun q => by omega, fun q => by omega, fun q => by omega, fun q => by omega, fun q => by omega, fun _ => ⟨fun k hk => by rw [dp, if_neg (by omega), if_neg (by omega)], ?_, ?_⟩⟩, dl⟩
        · rw [dp, if_neg (by omega), if_pos (by omega), ey']
        · rw [dp, if_pos (by omega), ex']
/-! chosen, jump (behind sp_shuffle, LkI.ways) -/
theorem sp_chosen {S : MS} {x v : Int32} (h : LkI S) (hx : 0 ≤ x.toInt ∧ x.toInt < (qI S 0 52).toInt) (ho : (f_op S x).toInt = 170 ∨ (f_op S x).toInt = 171) : w_chosen S x v (fun r u => u = S ∧ ∃ k : Int32, 0 ≤ k.toInt ∧ k.toInt < (f_ways S x).toInt ∧ r = f_way S x k) := by
  obtain ⟨d1, d2, d3⟩ := h.dop hx
  obtain ⟨L, F, M, ts, la, lb, rv, -, -⟩ := h.rv hx
  have r49 := h.1.2.2.2.1
  obtain ⟨v1, v2, v3, -⟩ := rv
  obtain ⟨s1, s2, s3, s4, s5⟩ := v3 ho
  have l2 : (2 : Int32).toInt = 2 := by decide
  have ej : (f_isJump S (f_op S x)).toInt = 0 := by
    unfold f_isJump f_isJump_J14 f_isJump_J28
    rw [if_neg (by omega), if_neg (by omega), if_neg (by omega), if_neg (by omega)]; rfl
  have ew : (f_ways S x).toInt = (f_second S x).toInt + 1 := by
    unfold f_ways f_isSwitch f_isSwitch_J14
    rw [if_pos ej]
    by_cases c : (f_op S x).toInt = 170
    · rw [if_pos c, if_neg (by decide), t_add (by rw [li_1]; omega), li_1]
    · rw [if_neg c, if_pos (show (f_op S x).toInt = 171 by omega), if_neg (by decide), t_add (by rw [li_1]; omega), li_1]
  have fw : ∀ k : Int32, f_way S x k = qI S (qO S 0 49) (f_first S x + (2 : Int32) * k).toInt.toNat := fun k => by
    unfold f_way
    rw [if_pos ej]
  have Lp : ∀ (c : Nat) (k : Int32), (0 ≤ k.toInt ∧ k.toInt ≤ (f_second S x).toInt) → ((f_second S x).toInt - k.toInt).toNat < c → w_chosen_L2 (fun r u => u = S ∧ ∃ k : Int32, 0 ≤ k.toInt ∧ k.toInt < (f_ways S x).toInt ∧ r = f_way S x k) c S x v k := by
    intro c
    induction c with
    | zero => intro k _ h9; exact absurd h9 (Nat.not_lt_zero _)
    | succ c ih =>
      intro k hk hc
      have ek : (k + Int32.ofInt 1).toInt = k.toInt + 1 := by rw [t_add (by rw [lo_1]; omega), lo_1]
      have e2 : ((2 : Int32) * k).toInt = 2 * k.toInt := by rw [t_mul (by rw [l2]; omega), l2]
      have i1 : (f_first S x + (1 : Int32)).toInt = (f_first S x).toInt + 1 := by rw [t_add (by rw [li_1]; omega), li_1]
      have i2 : (f_first S x + (1 : Int32) + (2 : Int32) * k).toInt = (f_first S x).toInt + 1 + 2 * k.toInt := by rw [t_add (by rw [i1, e2]; omega), i1, e2]
      have j1 : (f_first S x + (2 : Int32)).toInt = (f_first S x).toInt + 2 := by rw [t_add (by rw [l2]; omega), l2]
      have j2 : (f_first S x + (2 : Int32) + (2 : Int32) * k).toInt = (f_first S x).toInt + 2 + 2 * k.toInt := by rw [t_add (by rw [j1, e2]; omega), j1, e2]
      unfold w_chosen_L2
      rw [i2, j2]
      refine ⟨d3, fun q => ⟨r49, d2, ⟨by omega, by omega⟩, rfl, 0, by decide, by rw [ew, li_0]; omega, ?_⟩, fun q => ⟨r49, d2, ⟨by omega, by omega⟩, fun _ => ⟨r49, d2, ⟨by omega, by omega⟩, rfl, k + Int32.ofInt 1, by omega, by omega, ?_⟩, fun _ a23 e23 => ?_⟩⟩
      · rw [fw]
        have z : (f_first S x + (2 : Int32) * (0 : Int32)).toInt = (f_first S x).toInt := by
          have z0 : ((2 : Int32) * (0 : Int32)).toInt = 0 := by decide
          rw [t_add (by rw [z0]; omega), z0]
          omega
        rw [z]
      · rw [fw]
        have z0 : ((2 : Int32) * (k + Int32.ofInt 1)).toInt = 2 * (k.toInt + 1) := by rw [t_mul (by rw [l2, ek]; omega), l2, ek]
        have z : (f_first S x + (2 : Int32) * (k + Int32.ofInt 1)).toInt = (f_first S x).toInt + 2 + 2 * k.toInt := by
          rw [t_add (by rw [z0]; omega), z0]
          omega
        rw [z]
      · subst e23
        exact ih _ ⟨by omega, by omega⟩ (by omega)
  exact ⟨_, Lp _ 0 ⟨by decide, by rw [li_0]; exact s2⟩ (Nat.lt_succ_self _)⟩
theorem d_so {S : MS} {a b c : Int32} : d_isSo S a b c := by
  unfold d_isSo d_isSo_J77 d_isSo_J48 d_isSo_J15 d_isSo_J87 d_isSo_J58 d_isSo_J24
  simp only [ite_self]
def JmP (S : MS) (x op to : Int32) (d : Int) (u : MS) : Prop := frm [43, 44] [] S u ∧ fT u = fT S - d ∧ (∀ j : Nat, j ≠ (fN S).toNat → qI u 44 j = qI S 44 j) ∧ (qI u 43 = upd (qI S 43) (fN S).toNat to ∨ (op.toInt ≠ 167 ∧ qI u 43 = upd (qI S 43) (fN S).toNat (x + 1)))
theorem sp_jump {S : MS} {x op to : Int32} (h : FrB S) (hT : (if op.toInt = 167 then 0 else if 159 ≤ op.toInt ∧ op.toInt ≤ 166 then 2 else 1) ≤ fT S ∧ fT S ≤ 24) : w_jump S x op to (JmP S x op to (if op.toInt = 167 then 0 else if 159 ≤ op.toInt ∧ op.toInt ≤ 166 then 2 else 1)) := by
  have fin : ∀ (U : MS) (g : Int32) (d : Int), frm [43, 44] [] S U → fT U = fT S - d → (∀ j : Nat, j ≠ (fN S).toNat → qI U 44 j = qI S 44 j) → qI U 43 = qI S 43 → (op.toInt = 167 → g.toInt ≠ 0) → w_jump_J180 (JmP S x op to d) U x to g := fun U g d fU uT u44 u43 hg => by
    have m := h.mv fU
    have go : ∀ t : Int32, (t = to ∨ (op.toInt ≠ 167 ∧ t = x + 1)) → ∃ Q3, w_goTo U t Q3 ∧ ∀ S4, Q3 S4 → JmP S x op to d S4 := fun t ht => by
      refine ⟨_, sp_goTo m.1, ?_⟩
      rintro u ⟨fu, e43⟩
      have i44 : qI u 44 = qI U 44 := (fu.2.2.2.2.1 44 (by decide) (by decide)).1
      refine ⟨fU.tr (fu.mo (by decide) (by decide)), ?_, fun j hj => by rw [i44]; exact u44 j hj, ?_⟩
      · rw [← uT]
        unfold fT
        rw [(m.1.mv fu).2, i44]
      · rw [e43, m.2, u43]
        rcases ht with q | ⟨q1, q⟩
        · exact Or.inl (by rw [q])
        · exact Or.inr ⟨q1, by rw [q]⟩
    unfold w_jump_J180
    exact ⟨fun c => go _ (Or.inr ⟨fun q => hg q c, rfl⟩), fun _ => go _ (Or.inl rfl)⟩
  have pull : ∀ (U : MS) (d : Int) (Q : Int64 → MS → Prop), frm [43, 44] [] S U → fT U = fT S - d → (∀ j : Nat, j ≠ (fN S).toNat → qI U 44 j = qI S 44 j) → qI U 43 = qI S 43 → 1 ≤ fT U → (∀ (r : Int64) (u : MS), frm [43, 44] [] S u → fT u = fT S - (d + 1) → (∀ j : Nat, j ≠ (fN S).toNat → qI u 44 j = qI S 44 j) → qI u 43 = qI S 43 → 1 = 1 → Q r u) → (0 ≤ d) → ∃ Q1, w_got U 1 Q1 ∧ ∀ r u, Q1 r u → Q r u := fun U d Q fU uT u44 u43 h1 hq d0 => by
    have m := h.mv fU
    refine ⟨_, sp_got m.1 ⟨by decide, by rw [li_1]; exact h1⟩ (by omega), ?_⟩
    rintro r u ⟨-, fu, e44, eT⟩
    rw [li_1] at eT
    refine hq r u (fU.tr (fu.mo (by decide) (by decide))) (by omega) (fun j hj => ?_) ?_ rfl
    · rw [e44, m.2]
      unfold upd
      rw [if_neg hj]
      exact u44 j hj
    · rw [(fu.2.2.2.2.1 43 (by decide) (by decide)).1, u43]
  have j74 : ¬ (159 ≤ op.toInt ∧ op.toInt ≤ 164) → w_jump_J74 (JmP S x op to (if op.toInt = 167 then 0 else if 159 ≤ op.toInt ∧ op.toInt ≤ 166 then 2 else 1)) S x op to 1 := fun hn => by
    have j88 : (op.toInt = 165 ∨ op.toInt = 166) → w_jump_J88 (JmP S x op to (if op.toInt = 167 then 0 else if 159 ≤ op.toInt ∧ op.toInt ≤ 166 then 2 else 1)) S x op to := fun q => by
      rw [if_neg (show ¬ op.toInt = 167 by omega), if_pos (show 159 ≤ op.toInt ∧ op.toInt ≤ 166 by omega)] at hT ⊢
      unfold w_jump_J88
      refine pull S 0 _ frm.rf (by omega) (fun _ _ => rfl) rfl (by omega) (fun r10 A fA tA a44 a43 _ => ?_) (by decide)
      refine pull A 1 _ fA (by omega) a44 a43 (by omega) (fun r14 B fB tB b44 b43 _ => ?_) (by decide)
      have f2 := fun g => fin B g 2 fB (by omega) b44 b43 (fun z => by omega)
      have k123 : ∀ a b : Int32, w_jump_J123 (JmP S x op to 2) B a b x to := fun a b => by
        unfold w_jump_J123 w_jump_J131
        exact ⟨fun _ => f2 1, fun _ => f2 0⟩
      unfold w_jump_J111
      exact ⟨fun _ => ⟨fun _ => k123 _ _, fun _ => k123 _ _⟩, fun _ => ⟨fun _ => k123 _ _, fun _ => k123 _ _⟩⟩
    unfold w_jump_J74
    refine ⟨fun c => j88 (Or.inl c), fun c1 => ⟨fun c => j88 (Or.inr c), fun c2 => ⟨fun c => ?_, fun c3 => ?_⟩⟩⟩
    · rw [if_pos c]
      exact fin S 1 0 frm.rf (by omega) (fun _ _ => rfl) rfl (fun _ => by decide)
    · rw [if_neg c3, if_neg (show ¬ (159 ≤ op.toInt ∧ op.toInt ≤ 166) by omega)] at hT ⊢
      refine pull S 0 _ frm.rf (by omega) (fun _ _ => rfl) rfl (by omega) (fun r25 B fB tB b44 b43 _ => ?_) (by decide)
      have f2 := fun g => fin B g 1 fB (by omega) b44 b43 (fun z => absurd z c3)
      have k170 : ∀ a b : Int32, w_jump_J170 (JmP S x op to 1) B a b x to := fun a b => by
        unfold w_jump_J170 w_jump_J178
        exact ⟨fun _ => f2 1, fun _ => f2 0⟩
      unfold w_jump_J158
      exact ⟨fun _ => ⟨fun _ => k170 _ _, fun _ => k170 _ _⟩, fun _ => ⟨fun _ => k170 _ _, fun _ => k170 _ _⟩⟩
  have j42 : ¬ (159 ≤ op.toInt ∧ op.toInt ≤ 164) → w_jump_J42 (JmP S x op to (if op.toInt = 167 then 0 else if 159 ≤ op.toInt ∧ op.toInt ≤ 166 then 2 else 1)) S x op to 1 := fun hn => by
    unfold w_jump_J42 w_gotInt
    refine ⟨fun _ => j74 hn, fun c1 => ⟨fun _ => j74 hn, fun c2 => ?_⟩⟩
    rw [if_neg (show ¬ op.toInt = 167 by omega), if_neg (show ¬ (159 ≤ op.toInt ∧ op.toInt ≤ 166) by omega)] at hT ⊢
    refine ⟨fun _ u => frm [43, 44] [] S u ∧ fT u = fT S - 1 ∧ (∀ j : Nat, j ≠ (fN S).toNat → qI u 44 j = qI S 44 j) ∧ qI u 43 = qI S 43, pull S 0 (fun _ u => frm [43, 44] [] S u ∧ fT u = fT S - 1 ∧ (∀ j : Nat, j ≠ (fN S).toNat → qI u 44 j = qI S 44 j) ∧ qI u 43 = qI S 43) frm.rf (by omega) (fun _ _ => rfl) rfl (by omega) (fun r u a b c d _ => ⟨a, by omega, c, d⟩) (by decide), ?_⟩
    rintro r B ⟨fB, tB, b44, b43⟩
    exact ⟨d_so, fun a42 _ => fin B a42 1 fB tB b44 b43 (fun z => by omega)⟩
  unfold w_jump w_gotInt
  refine ⟨fun c => j42 (by omega), fun c1 => ⟨fun c => j42 (by omega), fun c2 => ?_⟩⟩
  rw [if_neg (show ¬ op.toInt = 167 by omega), if_pos (show 159 ≤ op.toInt ∧ op.toInt ≤ 166 by omega)] at hT ⊢
  refine ⟨fun _ u => frm [43, 44] [] S u ∧ fT u = fT S - 1 ∧ (∀ j : Nat, j ≠ (fN S).toNat → qI u 44 j = qI S 44 j) ∧ qI u 43 = qI S 43, pull S 0 (fun _ u => frm [43, 44] [] S u ∧ fT u = fT S - 1 ∧ (∀ j : Nat, j ≠ (fN S).toNat → qI u 44 j = qI S 44 j) ∧ qI u 43 = qI S 43) frm.rf (by omega) (fun _ _ => rfl) rfl (by omega) (fun r u a b c d _ => ⟨a, by omega, c, d⟩) (by decide), ?_⟩
  rintro r A ⟨fA, tA, a44, a43⟩
  refine ⟨fun _ u => frm [43, 44] [] S u ∧ fT u = fT S - 2 ∧ (∀ j : Nat, j ≠ (fN S).toNat → qI u 44 j = qI S 44 j) ∧ qI u 43 = qI S 43, pull A 1 (fun _ u => frm [43, 44] [] S u ∧ fT u = fT S - 2 ∧ (∀ j : Nat, j ≠ (fN S).toNat → qI u 44 j = qI S 44 j) ∧ qI u 43 = qI S 43) fA (by omega) a44 a43 (by omega) (fun r u a b c d _ => ⟨a, by omega, c, d⟩) (by decide), ?_⟩
  rintro r2 B ⟨fB, tB, b44, b43⟩
  exact ⟨d_so, fun a57 _ => fin B a57 2 fB tB b44 b43 (fun z => by omega)⟩
