/-! the fresh state: the constructors step by step (laid by gz.py) -/
def TFc : List Nat := [51, 40, 101, 40, 101, 40, 101, 5, 42, 46, 101, 218, 219, 220, 221, 201, 41, 44, 213, 214, 304, 102, 301, 302, 103, 50, 40, 101, 40, 101, 40, 101, 238, 239, 240, 241, 242, 243, 44, 213, 214, 304, 244, 245, 45, 402, 215, 216, 403, 404, 405, 217, 43, 202, 203, 204, 205, 206, 207, 303, 401, 208, 209, 210, 211, 212, 48, 47, 222, 406, 223, 224, 225, 226, 227, 228, 305, 306, 229, 230]
def NFc : List Nat := [0, 0, 64, 0, 64, 0, 64, 12, 0, 0, 0, 500, 48, 24, 24, 1201, 0, 0, 0, 0, 0, 0, 0, 0, 48, 0, 0, 64, 0, 64, 0, 64, 500, 500, 24, 24, 24, 24, 0, 0, 0, 0, 0, 0, 0, 24, 0, 8, 8, 0, 0, 180, 0, 0, 0, 0, 16, 0, 0, 0, 0, 0, 0, 0, 0, 0, 0, 0, 0, 0, 0, 0, 0, 0, 0, 12, 0, 0, 0, 0]
def RFc : List (Nat × Nat × Nat) := [(0, 9, 66), (66, 5, 79), (66, 4, 78), (66, 3, 77), (66, 2, 76), (66, 1, 75), (66, 0, 67), (67, 8, 74), (67, 7, 73), (67, 6, 72), (67, 5, 71), (67, 3, 70), (67, 1, 69), (67, 0, 68), (0, 8, 52), (52, 15, 65), (52, 14, 64), (52, 13, 63), (52, 12, 62), (52, 11, 61), (52, 9, 60), (52, 8, 59), (52, 7, 58), (52, 6, 57), (52, 5, 56), (52, 4, 55), (52, 3, 54), (52, 2, 53), (0, 7, 44), (44, 10, 51), (44, 9, 50), (44, 8, 49), (44, 6, 48), (44, 4, 47), (44, 2, 46), (44, 1, 45), (0, 6, 25), (25, 17, 43), (25, 16, 42), (25, 14, 38), (38, 2, 41), (38, 1, 40), (38, 0, 39), (25, 13, 37), (25, 12, 36), (25, 11, 35), (25, 10, 34), (25, 4, 33), (25, 3, 32), (25, 2, 30), (30, 0, 31), (25, 1, 28), (28, 0, 29), (25, 0, 26), (26, 0, 27), (0, 5, 16), (16, 4, 24), (16, 3, 23), (16, 2, 22), (16, 1, 21), (16, 0, 17), (17, 2, 20), (17, 1, 19), (17, 0, 18), (0, 4, 8), (8, 7, 15), (8, 0, 9), (9, 11, 14), (9, 10, 13), (9, 9, 12), (9, 4, 11), (9, 0, 10), (0, 3, 7), (0, 2, 5), (5, 0, 6), (0, 1, 3), (3, 0, 4), (0, 0, 1), (1, 0, 2)]
def IFc : List (Nat × Nat × Int32) := [(0, 17, (-1 : Int32)), (0, 16, (-1 : Int32)), (0, 15, (-1 : Int32)), (0, 14, (-1 : Int32)), (44, 17, (-1 : Int32)), (9, 3, (-1 : Int32))]
def lkR : List (Nat × Nat × Nat) → Nat → Nat → Option Nat
  | [], _, _ => none
  | x :: L, a, j => if a = x.1 ∧ j = x.2.1 then some x.2.2 else lkR L a j
def lkI : List (Nat × Nat × Int32) → Nat → Nat → Int32
  | [], _, _ => 0
  | x :: L, a, j => if a = x.1 ∧ j = x.2.1 then x.2.2 else lkI L a j
/-- m cells; what was written so far; k slots -/
def StC (m q i k : Nat) (S : MS) : Prop := qn S = m ∧ qu S = k ∧ (∀ a, a < m → qT S a = TFc.getD a 0 ∧ qN S a = NFc.getD a 0) ∧ (∀ a j, a < m → qR S a j = lkR (RFc.drop q) a j ∧ qI S a j = lkI (IFc.drop i) a j) ∧ (∀ x ∈ RFc.drop q, x.1 < m) ∧ ∀ x ∈ IFc.drop i, x.1 < m
section STC
variable {S u : MS} {m q q' i i' k k' a b j t n c : Nat} {v : Int32}
theorem lkR_no : ∀ (L : List (Nat × Nat × Nat)), (∀ x ∈ L, x.1 < m) → lkR L m j = none := by
  intro L
  induction L with
  | nil => intro _; rfl
  | cons x L ih =>
    intro h
    have h0 := h x List.mem_cons_self
    show (if m = x.1 ∧ j = x.2.1 then some x.2.2 else lkR L m j) = none
    rw [if_neg (fun z => by omega)]
    exact ih (fun y hy => h y (List.mem_cons_of_mem _ hy))
theorem lkI_no : ∀ (L : List (Nat × Nat × Int32)), (∀ x ∈ L, x.1 < m) → lkI L m j = 0 := by
  intro L
  induction L with
  | nil => intro _; rfl
  | cons x L ih =>
    intro h
    have h0 := h x List.mem_cons_self
    show (if m = x.1 ∧ j = x.2.1 then x.2.2 else lkI L m j) = 0
    rw [if_neg (fun z => by omega)]
    exact ih (fun y hy => h y (List.mem_cons_of_mem _ hy))
theorem StC.nw (h : StC m q i k S) (ht : TFc.getD m 0 = t) (hn : NFc.getD m 0 = n) (hk : k + c = k') : StC (m + 1) q i k' (wN S t n c) := by
  obtain ⟨h1, h2, h3, h4, h5, h6⟩ := h
  refine ⟨by show qn S + 1 = m + 1; rw [h1], by show qu S + c = k'; rw [h2, hk], fun a ha => ?_, fun a j ha => ?_, fun x hx => by have := h5 x hx; omega, fun x hx => by have := h6 x hx; omega⟩
  · by_cases e : a = m
    · subst e
      refine ⟨?_, ?_⟩
      · show (if a = qn S then t else qT S a) = _
        rw [if_pos h1.symm, ht]
      · show (if a = qn S then n else qN S a) = _
        rw [if_pos h1.symm, hn]
    · have := h3 a (by omega)
      refine ⟨?_, ?_⟩
      · show (if a = qn S then t else qT S a) = _
        rw [if_neg (by omega)]; exact this.1
      · show (if a = qn S then n else qN S a) = _
        rw [if_neg (by omega)]; exact this.2
  · by_cases e : a = m
    · subst e
      refine ⟨?_, ?_⟩
      · show (if a = qn S then fun _ => none else qR S a) j = _
        rw [if_pos h1.symm, lkR_no _ h5]
      · show (if a = qn S then fun _ => 0 else qI S a) j = _
        rw [if_pos h1.symm, lkI_no _ h6]
    · have := h4 a j (by omega)
      refine ⟨?_, ?_⟩
      · show (if a = qn S then fun _ => none else qR S a) j = _
        rw [if_neg (by omega)]; exact this.1
      · show (if a = qn S then fun _ => 0 else qI S a) j = _
        rw [if_neg (by omega)]; exact this.2
theorem StC.pr (h : StC m q i k S) (hd : RFc.drop q' = (a, j, b) :: RFc.drop q) (ha : a < m) : StC m q' i k (wR S a j (some b)) := by
  obtain ⟨h1, h2, h3, h4, h5, h6⟩ := h
  refine ⟨h1, h2, h3, fun a' j' ha' => ⟨?_, (h4 a' j' ha').2⟩, fun x hx => ?_, h6⟩
  · rw [qR_wR, hd]
    show _ = if a' = a ∧ j' = j then some b else lkR (RFc.drop q) a' j'
    rw [(h4 a' j' ha').1]
  · rw [hd] at hx
    rcases List.mem_cons.mp hx with e | e
    · rw [e]; exact ha
    · exact h5 x e
theorem StC.pi (h : StC m q i k S) (hd : IFc.drop i' = (a, j, v) :: IFc.drop i) (ha : a < m) : StC m q i' k (wI S a j v) := by
  obtain ⟨h1, h2, h3, h4, h5, h6⟩ := h
  refine ⟨h1, h2, h3, fun a' j' ha' => ⟨(h4 a' j' ha').1, ?_⟩, h5, fun x hx => ?_⟩
  · rw [qI_wI, hd]
    show _ = if a' = a ∧ j' = j then v else lkI (IFc.drop i) a' j'
    rw [(h4 a' j' ha').2]
  · rw [hd] at hx
    rcases List.mem_cons.mp hx with e | e
    · rw [e]; exact ha
    · exact h6 x e
theorem StC.R (h : StC m 0 0 k u) (ha : a < m) (e : lkR RFc a j = some b) : qR u a j = some b := (h.2.2.2.1 a j ha).1.trans e
theorem StC.R0 (h : StC m 0 0 k u) (ha : a < m) (e : lkR RFc a j = none) : qR u a j = none := (h.2.2.2.1 a j ha).1.trans e
theorem StC.I (h : StC m 0 0 k u) (ha : a < m) (e : lkI IFc a j = v) : qI u a j = v := (h.2.2.2.1 a j ha).2.trans e
theorem StC.T (h : StC m 0 0 k u) (ha : a < m) (e : TFc.getD a 0 = t) : qT u a = t := (h.2.2.1 a ha).1.trans e
theorem StC.N (h : StC m 0 0 k u) (ha : a < m) (e : NFc.getD a 0 = n) : qN u a = n := (h.2.2.1 a ha).2.trans e
theorem StC.O (h : StC m 0 0 k u) (ha : a < m) (e : lkR RFc a j = some b) : qO u a j = b := qO_of (h.R ha e)
end STC
theorem zi_1 {S : MS} (h : StC 2 79 6 20 S) : zX0_init S 1 (fun u => StC 3 78 6 84 u) := by
  unfold zX0_init
  refine ⟨(by rw [h.1, h.2.1]; decide), fun S4 eS4 _ => ?_⟩
  have hS4 : StC 3 79 6 84 S4 := by rw [eS4]; exact h.nw rfl rfl rfl
  intro S6 eS6 _ wS6
  have hS6 : StC 3 78 6 84 S6 := by rw [eS6, h.1]; exact hS4.pr rfl (by decide)
  exact hS6
theorem zi_2 {S : MS} (h : StC 4 77 6 86 S) : zX0_init S 3 (fun u => StC 5 76 6 150 u) := by
  unfold zX0_init
  refine ⟨(by rw [h.1, h.2.1]; decide), fun S4 eS4 _ => ?_⟩
  have hS4 : StC 5 77 6 150 S4 := by rw [eS4]; exact h.nw rfl rfl rfl
  intro S6 eS6 _ wS6
  have hS6 : StC 5 76 6 150 S6 := by rw [eS6, h.1]; exact hS4.pr rfl (by decide)
  exact hS6
theorem zi_3 {S : MS} (h : StC 6 75 6 152 S) : zX0_init S 5 (fun u => StC 7 74 6 216 u) := by
  unfold zX0_init
  refine ⟨(by rw [h.1, h.2.1]; decide), fun S4 eS4 _ => ?_⟩
  have hS4 : StC 7 75 6 216 S4 := by rw [eS4]; exact h.nw rfl rfl rfl
  intro S6 eS6 _ wS6
  have hS6 : StC 7 74 6 216 S6 := by rw [eS6, h.1]; exact hS4.pr rfl (by decide)
  exact hS6
theorem zi_5 {S : MS} (h : StC 10 72 6 257 S) : zX7_init S 9 (fun u => StC 15 67 5 853 u) := by
  unfold zX7_init
  refine ⟨(by rw [h.1, h.2.1]; decide), fun S4 eS4 _ => ?_⟩
  have hS4 : StC 11 72 6 257 S4 := by rw [eS4]; exact h.nw rfl rfl rfl
  intro S6 eS6 _ wS6
  have hS6 : StC 11 71 6 257 S6 := by rw [eS6, h.1]; exact hS4.pr rfl (by decide)
  intro S7 eS7 _ wS7
  have hS7 : StC 11 71 5 257 S7 := by rw [eS7]; exact hS6.pi rfl (by decide)
  refine ⟨(by rw [hS7.1, hS7.2.1]; decide), fun S11 eS11 _ => ?_⟩
  have hS11 : StC 12 71 5 757 S11 := by rw [eS11]; exact hS7.nw rfl rfl rfl
  intro S13 eS13 _ wS13
  have hS13 : StC 12 70 5 757 S13 := by rw [eS13, hS7.1]; exact hS11.pr rfl (by decide)
  refine ⟨(by rw [hS13.1, hS13.2.1]; decide), fun S17 eS17 _ => ?_⟩
  have hS17 : StC 13 70 5 805 S17 := by rw [eS17]; exact hS13.nw rfl rfl rfl
  intro S19 eS19 _ wS19
  have hS19 : StC 13 69 5 805 S19 := by rw [eS19, hS13.1]; exact hS17.pr rfl (by decide)
  refine ⟨(by rw [hS19.1, hS19.2.1]; decide), fun S23 eS23 _ => ?_⟩
  have hS23 : StC 14 69 5 829 S23 := by rw [eS23]; exact hS19.nw rfl rfl rfl
  intro S25 eS25 _ wS25
  have hS25 : StC 14 68 5 829 S25 := by rw [eS25, hS19.1]; exact hS23.pr rfl (by decide)
  refine ⟨(by rw [hS25.1, hS25.2.1]; decide), fun S29 eS29 _ => ?_⟩
  have hS29 : StC 15 68 5 853 S29 := by rw [eS29]; exact hS25.nw rfl rfl rfl
  intro S31 eS31 _ wS31
  have hS31 : StC 15 67 5 853 S31 := by rw [eS31, hS25.1]; exact hS29.pr rfl (by decide)
  exact hS31
theorem zi_4 {S : MS} (h : StC 9 72 6 240 S) : zX2_init S 8 (fun u => StC 16 65 5 2054 u) := by
  unfold zX2_init
  refine ⟨(by rw [h.1, h.2.1]; decide), fun S4 eS4 _ => ?_⟩
  have hS4 : StC 10 72 6 257 S4 := by rw [eS4]; exact h.nw rfl rfl rfl
  intro _
  refine ⟨fun u => StC 15 67 5 853 u, (by rw [h.1]; exact zi_5 hS4), fun S7 hS7 _ _ => ?_⟩
  intro S10 eS10 _ wS10
  have hS10 : StC 15 66 5 853 S10 := by rw [eS10, h.1]; exact hS7.pr rfl (by decide)
  refine ⟨(by rw [hS10.1, hS10.2.1]; decide), fun S14 eS14 _ => ?_⟩
  have hS14 : StC 16 66 5 2054 S14 := by rw [eS14]; exact hS10.nw rfl rfl rfl
  intro S16 eS16 _ wS16
  have hS16 : StC 16 65 5 2054 S16 := by rw [eS16, hS10.1]; exact hS14.pr rfl (by decide)
  exact hS16
theorem zi_7 {S : MS} (h : StC 18 64 5 2072 S) : zX4_init S 17 (fun u => StC 21 61 5 2072 u) := by
  unfold zX4_init
  refine ⟨(by rw [h.1, h.2.1]; decide), fun S4 eS4 _ => ?_⟩
  have hS4 : StC 19 64 5 2072 S4 := by rw [eS4]; exact h.nw rfl rfl rfl
  intro S6 eS6 _ wS6
  have hS6 : StC 19 63 5 2072 S6 := by rw [eS6, h.1]; exact hS4.pr rfl (by decide)
  refine ⟨(by rw [hS6.1, hS6.2.1]; decide), fun S10 eS10 _ => ?_⟩
  have hS10 : StC 20 63 5 2072 S10 := by rw [eS10]; exact hS6.nw rfl rfl rfl
  intro S12 eS12 _ wS12
  have hS12 : StC 20 62 5 2072 S12 := by rw [eS12, hS6.1]; exact hS10.pr rfl (by decide)
  refine ⟨(by rw [hS12.1, hS12.2.1]; decide), fun S16 eS16 _ => ?_⟩
  have hS16 : StC 21 62 5 2072 S16 := by rw [eS16]; exact hS12.nw rfl rfl rfl
  intro S18 eS18 _ wS18
  have hS18 : StC 21 61 5 2072 S18 := by rw [eS18, hS12.1]; exact hS16.pr rfl (by decide)
  exact hS18
theorem zi_6 {S : MS} (h : StC 17 64 5 2064 S) : zX1_init S 16 (fun u => StC 25 56 5 2120 u) := by
  unfold zX1_init
  refine ⟨(by rw [h.1, h.2.1]; decide), fun S4 eS4 _ => ?_⟩
  have hS4 : StC 18 64 5 2072 S4 := by rw [eS4]; exact h.nw rfl rfl rfl
  intro _
  refine ⟨fun u => StC 21 61 5 2072 u, (by rw [h.1]; exact zi_7 hS4), fun S7 hS7 _ _ => ?_⟩
  intro S10 eS10 _ wS10
  have hS10 : StC 21 60 5 2072 S10 := by rw [eS10, h.1]; exact hS7.pr rfl (by decide)
  refine ⟨(by rw [hS10.1, hS10.2.1]; decide), fun S14 eS14 _ => ?_⟩
  have hS14 : StC 22 60 5 2072 S14 := by rw [eS14]; exact hS10.nw rfl rfl rfl
  intro S16 eS16 _ wS16
  have hS16 : StC 22 59 5 2072 S16 := by rw [eS16, hS10.1]; exact hS14.pr rfl (by decide)
  refine ⟨(by rw [hS16.1, hS16.2.1]; decide), fun S20 eS20 _ => ?_⟩
  have hS20 : StC 23 59 5 2072 S20 := by rw [eS20]; exact hS16.nw rfl rfl rfl
  intro S22 eS22 _ wS22
  have hS22 : StC 23 58 5 2072 S22 := by rw [eS22, hS16.1]; exact hS20.pr rfl (by decide)
  refine ⟨(by rw [hS22.1, hS22.2.1]; decide), fun S26 eS26 _ => ?_⟩
  have hS26 : StC 24 58 5 2072 S26 := by rw [eS26]; exact hS22.nw rfl rfl rfl
  intro S28 eS28 _ wS28
  have hS28 : StC 24 57 5 2072 S28 := by rw [eS28, hS22.1]; exact hS26.pr rfl (by decide)
  refine ⟨(by rw [hS28.1, hS28.2.1]; decide), fun S32 eS32 _ => ?_⟩
  have hS32 : StC 25 57 5 2120 S32 := by rw [eS32]; exact hS28.nw rfl rfl rfl
  intro S34 eS34 _ wS34
  have hS34 : StC 25 56 5 2120 S34 := by rw [eS34, hS28.1]; exact hS32.pr rfl (by decide)
  exact hS34
theorem zi_9 {S : MS} (h : StC 27 55 5 2140 S) : zX0_init S 26 (fun u => StC 28 54 5 2204 u) := by
  unfold zX0_init
  refine ⟨(by rw [h.1, h.2.1]; decide), fun S4 eS4 _ => ?_⟩
  have hS4 : StC 28 55 5 2204 S4 := by rw [eS4]; exact h.nw rfl rfl rfl
  intro S6 eS6 _ wS6
  have hS6 : StC 28 54 5 2204 S6 := by rw [eS6, h.1]; exact hS4.pr rfl (by decide)
  exact hS6
theorem zi_10 {S : MS} (h : StC 29 53 5 2206 S) : zX0_init S 28 (fun u => StC 30 52 5 2270 u) := by
  unfold zX0_init
  refine ⟨(by rw [h.1, h.2.1]; decide), fun S4 eS4 _ => ?_⟩
  have hS4 : StC 30 53 5 2270 S4 := by rw [eS4]; exact h.nw rfl rfl rfl
  intro S6 eS6 _ wS6
  have hS6 : StC 30 52 5 2270 S6 := by rw [eS6, h.1]; exact hS4.pr rfl (by decide)
  exact hS6
theorem zi_11 {S : MS} (h : StC 31 51 5 2272 S) : zX0_init S 30 (fun u => StC 32 50 5 2336 u) := by
  unfold zX0_init
  refine ⟨(by rw [h.1, h.2.1]; decide), fun S4 eS4 _ => ?_⟩
  have hS4 : StC 32 51 5 2336 S4 := by rw [eS4]; exact h.nw rfl rfl rfl
  intro S6 eS6 _ wS6
  have hS6 : StC 32 50 5 2336 S6 := by rw [eS6, h.1]; exact hS4.pr rfl (by decide)
  exact hS6
theorem zi_12 {S : MS} (h : StC 39 43 5 3440 S) : zX4_init S 38 (fun u => StC 42 40 5 3440 u) := by
  unfold zX4_init
  refine ⟨(by rw [h.1, h.2.1]; decide), fun S4 eS4 _ => ?_⟩
  have hS4 : StC 40 43 5 3440 S4 := by rw [eS4]; exact h.nw rfl rfl rfl
  intro S6 eS6 _ wS6
  have hS6 : StC 40 42 5 3440 S6 := by rw [eS6, h.1]; exact hS4.pr rfl (by decide)
  refine ⟨(by rw [hS6.1, hS6.2.1]; decide), fun S10 eS10 _ => ?_⟩
  have hS10 : StC 41 42 5 3440 S10 := by rw [eS10]; exact hS6.nw rfl rfl rfl
  intro S12 eS12 _ wS12
  have hS12 : StC 41 41 5 3440 S12 := by rw [eS12, hS6.1]; exact hS10.pr rfl (by decide)
  refine ⟨(by rw [hS12.1, hS12.2.1]; decide), fun S16 eS16 _ => ?_⟩
  have hS16 : StC 42 41 5 3440 S16 := by rw [eS16]; exact hS12.nw rfl rfl rfl
  intro S18 eS18 _ wS18
  have hS18 : StC 42 40 5 3440 S18 := by rw [eS18, hS12.1]; exact hS16.pr rfl (by decide)
  exact hS18
theorem zi_8 {S : MS} (h : StC 26 55 5 2138 S) : zX11_init S 25 (fun u => StC 44 37 5 3440 u) := by
  unfold zX11_init
  refine ⟨(by rw [h.1, h.2.1]; decide), fun S4 eS4 _ => ?_⟩
  have hS4 : StC 27 55 5 2140 S4 := by rw [eS4]; exact h.nw rfl rfl rfl
  intro _
  refine ⟨fun u => StC 28 54 5 2204 u, (by rw [h.1]; exact zi_9 hS4), fun S7 hS7 _ _ => ?_⟩
  intro S10 eS10 _ wS10
  have hS10 : StC 28 53 5 2204 S10 := by rw [eS10, h.1]; exact hS7.pr rfl (by decide)
  refine ⟨(by rw [hS10.1, hS10.2.1]; decide), fun S14 eS14 _ => ?_⟩
  have hS14 : StC 29 53 5 2206 S14 := by rw [eS14]; exact hS10.nw rfl rfl rfl
  intro _
  refine ⟨fun u => StC 30 52 5 2270 u, (by rw [hS10.1]; exact zi_10 hS14), fun S17 hS17 _ _ => ?_⟩
  intro S20 eS20 _ wS20
  have hS20 : StC 30 51 5 2270 S20 := by rw [eS20, hS10.1]; exact hS17.pr rfl (by decide)
  refine ⟨(by rw [hS20.1, hS20.2.1]; decide), fun S24 eS24 _ => ?_⟩
  have hS24 : StC 31 51 5 2272 S24 := by rw [eS24]; exact hS20.nw rfl rfl rfl
  intro _
  refine ⟨fun u => StC 32 50 5 2336 u, (by rw [hS20.1]; exact zi_11 hS24), fun S27 hS27 _ _ => ?_⟩
  intro S30 eS30 _ wS30
  have hS30 : StC 32 49 5 2336 S30 := by rw [eS30, hS20.1]; exact hS27.pr rfl (by decide)
  refine ⟨(by rw [hS30.1, hS30.2.1]; decide), fun S34 eS34 _ => ?_⟩
  have hS34 : StC 33 49 5 2836 S34 := by rw [eS34]; exact hS30.nw rfl rfl rfl
  intro S36 eS36 _ wS36
  have hS36 : StC 33 48 5 2836 S36 := by rw [eS36, hS30.1]; exact hS34.pr rfl (by decide)
  refine ⟨(by rw [hS36.1, hS36.2.1]; decide), fun S40 eS40 _ => ?_⟩
  have hS40 : StC 34 48 5 3336 S40 := by rw [eS40]; exact hS36.nw rfl rfl rfl
  intro S42 eS42 _ wS42
  have hS42 : StC 34 47 5 3336 S42 := by rw [eS42, hS36.1]; exact hS40.pr rfl (by decide)
  refine ⟨(by rw [hS42.1, hS42.2.1]; decide), fun S46 eS46 _ => ?_⟩
  have hS46 : StC 35 47 5 3360 S46 := by rw [eS46]; exact hS42.nw rfl rfl rfl
  intro S48 eS48 _ wS48
  have hS48 : StC 35 46 5 3360 S48 := by rw [eS48, hS42.1]; exact hS46.pr rfl (by decide)
  refine ⟨(by rw [hS48.1, hS48.2.1]; decide), fun S52 eS52 _ => ?_⟩
  have hS52 : StC 36 46 5 3384 S52 := by rw [eS52]; exact hS48.nw rfl rfl rfl
  intro S54 eS54 _ wS54
  have hS54 : StC 36 45 5 3384 S54 := by rw [eS54, hS48.1]; exact hS52.pr rfl (by decide)
  refine ⟨(by rw [hS54.1, hS54.2.1]; decide), fun S58 eS58 _ => ?_⟩
  have hS58 : StC 37 45 5 3408 S58 := by rw [eS58]; exact hS54.nw rfl rfl rfl
  intro S60 eS60 _ wS60
  have hS60 : StC 37 44 5 3408 S60 := by rw [eS60, hS54.1]; exact hS58.pr rfl (by decide)
  refine ⟨(by rw [hS60.1, hS60.2.1]; decide), fun S64 eS64 _ => ?_⟩
  have hS64 : StC 38 44 5 3432 S64 := by rw [eS64]; exact hS60.nw rfl rfl rfl
  intro S66 eS66 _ wS66
  have hS66 : StC 38 43 5 3432 S66 := by rw [eS66, hS60.1]; exact hS64.pr rfl (by decide)
  refine ⟨(by rw [hS66.1, hS66.2.1]; decide), fun S70 eS70 _ => ?_⟩
  have hS70 : StC 39 43 5 3440 S70 := by rw [eS70]; exact hS66.nw rfl rfl rfl
  intro _
  refine ⟨fun u => StC 42 40 5 3440 u, (by rw [hS66.1]; exact zi_12 hS70), fun S73 hS73 _ _ => ?_⟩
  intro S76 eS76 _ wS76
  have hS76 : StC 42 39 5 3440 S76 := by rw [eS76, hS66.1]; exact hS73.pr rfl (by decide)
  refine ⟨(by rw [hS76.1, hS76.2.1]; decide), fun S80 eS80 _ => ?_⟩
  have hS80 : StC 43 39 5 3440 S80 := by rw [eS80]; exact hS76.nw rfl rfl rfl
  intro S82 eS82 _ wS82
  have hS82 : StC 43 38 5 3440 S82 := by rw [eS82, hS76.1]; exact hS80.pr rfl (by decide)
  refine ⟨(by rw [hS82.1, hS82.2.1]; decide), fun S86 eS86 _ => ?_⟩
  have hS86 : StC 44 38 5 3440 S86 := by rw [eS86]; exact hS82.nw rfl rfl rfl
  intro S88 eS88 _ wS88
  have hS88 : StC 44 37 5 3440 S88 := by rw [eS88, hS82.1]; exact hS86.pr rfl (by decide)
  exact hS88
theorem zi_13 {S : MS} (h : StC 45 36 5 3460 S) : zX5_init S 44 (fun u => StC 52 29 4 3680 u) := by
  unfold zX5_init
  refine ⟨(by rw [h.1, h.2.1]; decide), fun S4 eS4 _ => ?_⟩
  have hS4 : StC 46 36 5 3484 S4 := by rw [eS4]; exact h.nw rfl rfl rfl
  intro S6 eS6 _ wS6
  have hS6 : StC 46 35 5 3484 S6 := by rw [eS6, h.1]; exact hS4.pr rfl (by decide)
  refine ⟨(by rw [hS6.1, hS6.2.1]; decide), fun S10 eS10 _ => ?_⟩
  have hS10 : StC 47 35 5 3484 S10 := by rw [eS10]; exact hS6.nw rfl rfl rfl
  intro S12 eS12 _ wS12
  have hS12 : StC 47 34 5 3484 S12 := by rw [eS12, hS6.1]; exact hS10.pr rfl (by decide)
  refine ⟨(by rw [hS12.1, hS12.2.1]; decide), fun S16 eS16 _ => ?_⟩
  have hS16 : StC 48 34 5 3492 S16 := by rw [eS16]; exact hS12.nw rfl rfl rfl
  intro S18 eS18 _ wS18
  have hS18 : StC 48 33 5 3492 S18 := by rw [eS18, hS12.1]; exact hS16.pr rfl (by decide)
  refine ⟨(by rw [hS18.1, hS18.2.1]; decide), fun S22 eS22 _ => ?_⟩
  have hS22 : StC 49 33 5 3500 S22 := by rw [eS22]; exact hS18.nw rfl rfl rfl
  intro S24 eS24 _ wS24
  have hS24 : StC 49 32 5 3500 S24 := by rw [eS24, hS18.1]; exact hS22.pr rfl (by decide)
  refine ⟨(by rw [hS24.1, hS24.2.1]; decide), fun S28 eS28 _ => ?_⟩
  have hS28 : StC 50 32 5 3500 S28 := by rw [eS28]; exact hS24.nw rfl rfl rfl
  intro S30 eS30 _ wS30
  have hS30 : StC 50 31 5 3500 S30 := by rw [eS30, hS24.1]; exact hS28.pr rfl (by decide)
  refine ⟨(by rw [hS30.1, hS30.2.1]; decide), fun S34 eS34 _ => ?_⟩
  have hS34 : StC 51 31 5 3500 S34 := by rw [eS34]; exact hS30.nw rfl rfl rfl
  intro S36 eS36 _ wS36
  have hS36 : StC 51 30 5 3500 S36 := by rw [eS36, hS30.1]; exact hS34.pr rfl (by decide)
  refine ⟨(by rw [hS36.1, hS36.2.1]; decide), fun S40 eS40 _ => ?_⟩
  have hS40 : StC 52 30 5 3680 S40 := by rw [eS40]; exact hS36.nw rfl rfl rfl
  intro S42 eS42 _ wS42
  have hS42 : StC 52 29 5 3680 S42 := by rw [eS42, hS36.1]; exact hS40.pr rfl (by decide)
  intro S43 eS43 _ wS43
  have hS43 : StC 52 29 4 3680 S43 := by rw [eS43]; exact hS42.pi rfl (by decide)
  exact hS43
theorem zi_14 {S : MS} (h : StC 53 28 4 3696 S) : zX3_init S 52 (fun u => StC 66 15 4 3712 u) := by
  unfold zX3_init
  refine ⟨(by rw [h.1, h.2.1]; decide), fun S4 eS4 _ => ?_⟩
  have hS4 : StC 54 28 4 3696 S4 := by rw [eS4]; exact h.nw rfl rfl rfl
  intro S6 eS6 _ wS6
  have hS6 : StC 54 27 4 3696 S6 := by rw [eS6, h.1]; exact hS4.pr rfl (by decide)
  refine ⟨(by rw [hS6.1, hS6.2.1]; decide), fun S10 eS10 _ => ?_⟩
  have hS10 : StC 55 27 4 3696 S10 := by rw [eS10]; exact hS6.nw rfl rfl rfl
  intro S12 eS12 _ wS12
  have hS12 : StC 55 26 4 3696 S12 := by rw [eS12, hS6.1]; exact hS10.pr rfl (by decide)
  refine ⟨(by rw [hS12.1, hS12.2.1]; decide), fun S16 eS16 _ => ?_⟩
  have hS16 : StC 56 26 4 3696 S16 := by rw [eS16]; exact hS12.nw rfl rfl rfl
  intro S18 eS18 _ wS18
  have hS18 : StC 56 25 4 3696 S18 := by rw [eS18, hS12.1]; exact hS16.pr rfl (by decide)
  refine ⟨(by rw [hS18.1, hS18.2.1]; decide), fun S22 eS22 _ => ?_⟩
  have hS22 : StC 57 25 4 3712 S22 := by rw [eS22]; exact hS18.nw rfl rfl rfl
  intro S24 eS24 _ wS24
  have hS24 : StC 57 24 4 3712 S24 := by rw [eS24, hS18.1]; exact hS22.pr rfl (by decide)
  refine ⟨(by rw [hS24.1, hS24.2.1]; decide), fun S28 eS28 _ => ?_⟩
  have hS28 : StC 58 24 4 3712 S28 := by rw [eS28]; exact hS24.nw rfl rfl rfl
  intro S30 eS30 _ wS30
  have hS30 : StC 58 23 4 3712 S30 := by rw [eS30, hS24.1]; exact hS28.pr rfl (by decide)
  refine ⟨(by rw [hS30.1, hS30.2.1]; decide), fun S34 eS34 _ => ?_⟩
  have hS34 : StC 59 23 4 3712 S34 := by rw [eS34]; exact hS30.nw rfl rfl rfl
  intro S36 eS36 _ wS36
  have hS36 : StC 59 22 4 3712 S36 := by rw [eS36, hS30.1]; exact hS34.pr rfl (by decide)
  refine ⟨(by rw [hS36.1, hS36.2.1]; decide), fun S40 eS40 _ => ?_⟩
  have hS40 : StC 60 22 4 3712 S40 := by rw [eS40]; exact hS36.nw rfl rfl rfl
  intro S42 eS42 _ wS42
  have hS42 : StC 60 21 4 3712 S42 := by rw [eS42, hS36.1]; exact hS40.pr rfl (by decide)
  refine ⟨(by rw [hS42.1, hS42.2.1]; decide), fun S46 eS46 _ => ?_⟩
  have hS46 : StC 61 21 4 3712 S46 := by rw [eS46]; exact hS42.nw rfl rfl rfl
  intro S48 eS48 _ wS48
  have hS48 : StC 61 20 4 3712 S48 := by rw [eS48, hS42.1]; exact hS46.pr rfl (by decide)
  refine ⟨(by rw [hS48.1, hS48.2.1]; decide), fun S52 eS52 _ => ?_⟩
  have hS52 : StC 62 20 4 3712 S52 := by rw [eS52]; exact hS48.nw rfl rfl rfl
  intro S54 eS54 _ wS54
  have hS54 : StC 62 19 4 3712 S54 := by rw [eS54, hS48.1]; exact hS52.pr rfl (by decide)
  refine ⟨(by rw [hS54.1, hS54.2.1]; decide), fun S58 eS58 _ => ?_⟩
  have hS58 : StC 63 19 4 3712 S58 := by rw [eS58]; exact hS54.nw rfl rfl rfl
  intro S60 eS60 _ wS60
  have hS60 : StC 63 18 4 3712 S60 := by rw [eS60, hS54.1]; exact hS58.pr rfl (by decide)
  refine ⟨(by rw [hS60.1, hS60.2.1]; decide), fun S64 eS64 _ => ?_⟩
  have hS64 : StC 64 18 4 3712 S64 := by rw [eS64]; exact hS60.nw rfl rfl rfl
  intro S66 eS66 _ wS66
  have hS66 : StC 64 17 4 3712 S66 := by rw [eS66, hS60.1]; exact hS64.pr rfl (by decide)
  refine ⟨(by rw [hS66.1, hS66.2.1]; decide), fun S70 eS70 _ => ?_⟩
  have hS70 : StC 65 17 4 3712 S70 := by rw [eS70]; exact hS66.nw rfl rfl rfl
  intro S72 eS72 _ wS72
  have hS72 : StC 65 16 4 3712 S72 := by rw [eS72, hS66.1]; exact hS70.pr rfl (by decide)
  refine ⟨(by rw [hS72.1, hS72.2.1]; decide), fun S76 eS76 _ => ?_⟩
  have hS76 : StC 66 16 4 3712 S76 := by rw [eS76]; exact hS72.nw rfl rfl rfl
  intro S78 eS78 _ wS78
  have hS78 : StC 66 15 4 3712 S78 := by rw [eS78, hS72.1]; exact hS76.pr rfl (by decide)
  exact hS78
theorem zi_16 {S : MS} (h : StC 68 14 4 3733 S) : zX8_init S 67 (0 : Int32) (0 : Int32) (0 : Int32) (fun u => StC 75 7 4 3733 u) := by
  unfold zX8_init
  refine ⟨⟨by decide, (by rw [h.1, h.2.1]; decide)⟩, fun S4 eS4 _ => ?_⟩
  have hS4 : StC 69 14 4 3733 S4 := by rw [eS4]; exact h.nw rfl rfl rfl
  refine ⟨by have := h.1; omega, ?_⟩
  intro S7 eS7 _ wS7
  have hS7 : StC 69 13 4 3733 S7 := by rw [eS7, h.1]; exact hS4.pr rfl (by decide)
  refine ⟨⟨by decide, (by rw [hS7.1, hS7.2.1]; decide)⟩, fun S11 eS11 _ => ?_⟩
  have hS11 : StC 70 13 4 3733 S11 := by rw [eS11]; exact hS7.nw rfl rfl rfl
  refine ⟨by have := hS7.1; omega, ?_⟩
  intro S14 eS14 _ wS14
  have hS14 : StC 70 12 4 3733 S14 := by rw [eS14, hS7.1]; exact hS11.pr rfl (by decide)
  refine ⟨⟨by decide, (by rw [hS14.1, hS14.2.1]; decide)⟩, fun S18 eS18 _ => ?_⟩
  have hS18 : StC 71 12 4 3733 S18 := by rw [eS18]; exact hS14.nw rfl rfl rfl
  refine ⟨by have := hS14.1; omega, ?_⟩
  intro S21 eS21 _ wS21
  have hS21 : StC 71 11 4 3733 S21 := by rw [eS21, hS14.1]; exact hS18.pr rfl (by decide)
  refine ⟨⟨by decide, (by rw [hS21.1, hS21.2.1]; decide)⟩, fun S25 eS25 _ => ?_⟩
  have hS25 : StC 72 11 4 3733 S25 := by rw [eS25]; exact hS21.nw rfl rfl rfl
  refine ⟨by have := hS21.1; omega, ?_⟩
  intro S28 eS28 _ wS28
  have hS28 : StC 72 10 4 3733 S28 := by rw [eS28, hS21.1]; exact hS25.pr rfl (by decide)
  refine ⟨⟨by decide, (by rw [hS28.1, hS28.2.1]; decide)⟩, fun S32 eS32 _ => ?_⟩
  have hS32 : StC 73 10 4 3733 S32 := by rw [eS32]; exact hS28.nw rfl rfl rfl
  refine ⟨by have := hS28.1; omega, ?_⟩
  intro S35 eS35 _ wS35
  have hS35 : StC 73 9 4 3733 S35 := by rw [eS35, hS28.1]; exact hS32.pr rfl (by decide)
  refine ⟨⟨by decide, (by rw [hS35.1, hS35.2.1]; decide)⟩, fun S39 eS39 _ => ?_⟩
  have hS39 : StC 74 9 4 3733 S39 := by rw [eS39]; exact hS35.nw rfl rfl rfl
  refine ⟨by have := hS35.1; omega, ?_⟩
  intro S42 eS42 _ wS42
  have hS42 : StC 74 8 4 3733 S42 := by rw [eS42, hS35.1]; exact hS39.pr rfl (by decide)
  refine ⟨⟨by decide, (by rw [hS42.1, hS42.2.1]; decide)⟩, fun S46 eS46 _ => ?_⟩
  have hS46 : StC 75 8 4 3733 S46 := by rw [eS46]; exact hS42.nw rfl rfl rfl
  refine ⟨by have := hS42.1; omega, ?_⟩
  intro S49 eS49 _ wS49
  have hS49 : StC 75 7 4 3733 S49 := by rw [eS49, hS42.1]; exact hS46.pr rfl (by decide)
  exact hS49
theorem zi_15 {S : MS} (h : StC 67 14 4 3718 S) : zX9_init S 66 (fun u => StC 80 1 4 3745 u) := by
  unfold zX9_init
  refine ⟨(by rw [h.1, h.2.1]; decide), fun S4 eS4 _ => ?_⟩
  have hS4 : StC 68 14 4 3733 S4 := by rw [eS4]; exact h.nw rfl rfl rfl
  intro _
  refine ⟨fun u => StC 75 7 4 3733 u, (by rw [h.1]; exact zi_16 hS4), fun S7 hS7 _ _ => ?_⟩
  intro S10 eS10 _ wS10
  have hS10 : StC 75 6 4 3733 S10 := by rw [eS10, h.1]; exact hS7.pr rfl (by decide)
  refine ⟨(by rw [hS10.1, hS10.2.1]; decide), fun S14 eS14 _ => ?_⟩
  have hS14 : StC 76 6 4 3745 S14 := by rw [eS14]; exact hS10.nw rfl rfl rfl
  intro S16 eS16 _ wS16
  have hS16 : StC 76 5 4 3745 S16 := by rw [eS16, hS10.1]; exact hS14.pr rfl (by decide)
  refine ⟨(by rw [hS16.1, hS16.2.1]; decide), fun S20 eS20 _ => ?_⟩
  have hS20 : StC 77 5 4 3745 S20 := by rw [eS20]; exact hS16.nw rfl rfl rfl
  intro S22 eS22 _ wS22
  have hS22 : StC 77 4 4 3745 S22 := by rw [eS22, hS16.1]; exact hS20.pr rfl (by decide)
  refine ⟨(by rw [hS22.1, hS22.2.1]; decide), fun S26 eS26 _ => ?_⟩
  have hS26 : StC 78 4 4 3745 S26 := by rw [eS26]; exact hS22.nw rfl rfl rfl
  intro S28 eS28 _ wS28
  have hS28 : StC 78 3 4 3745 S28 := by rw [eS28, hS22.1]; exact hS26.pr rfl (by decide)
  refine ⟨(by rw [hS28.1, hS28.2.1]; decide), fun S32 eS32 _ => ?_⟩
  have hS32 : StC 79 3 4 3745 S32 := by rw [eS32]; exact hS28.nw rfl rfl rfl
  intro S34 eS34 _ wS34
  have hS34 : StC 79 2 4 3745 S34 := by rw [eS34, hS28.1]; exact hS32.pr rfl (by decide)
  refine ⟨(by rw [hS34.1, hS34.2.1]; decide), fun S38 eS38 _ => ?_⟩
  have hS38 : StC 80 2 4 3745 S38 := by rw [eS38]; exact hS34.nw rfl rfl rfl
  intro S40 eS40 _ wS40
  have hS40 : StC 80 1 4 3745 S40 := by rw [eS40, hS34.1]; exact hS38.pr rfl (by decide)
  exact hS40
theorem zi_new {S : MS} (h : StC 1 79 6 18 S) : zX12_init S 0 (fun u => wfCZ u ∧ StC 80 0 0 3745 u) := by
  unfold zX12_init
  refine ⟨(by rw [h.1, h.2.1]; decide), fun S4 eS4 _ => ?_⟩
  have hS4 : StC 2 79 6 20 S4 := by rw [eS4]; exact h.nw rfl rfl rfl
  intro _
  refine ⟨fun u => StC 3 78 6 84 u, (by rw [h.1]; exact zi_1 hS4), fun S7 hS7 _ _ => ?_⟩
  intro S10 eS10 _ wS10
  have hS10 : StC 3 77 6 84 S10 := by rw [eS10, h.1]; exact hS7.pr rfl (by decide)
  refine ⟨(by rw [hS10.1, hS10.2.1]; decide), fun S14 eS14 _ => ?_⟩
  have hS14 : StC 4 77 6 86 S14 := by rw [eS14]; exact hS10.nw rfl rfl rfl
  intro _
  refine ⟨fun u => StC 5 76 6 150 u, (by rw [hS10.1]; exact zi_2 hS14), fun S17 hS17 _ _ => ?_⟩
  intro S20 eS20 _ wS20
  have hS20 : StC 5 75 6 150 S20 := by rw [eS20, hS10.1]; exact hS17.pr rfl (by decide)
  refine ⟨(by rw [hS20.1, hS20.2.1]; decide), fun S24 eS24 _ => ?_⟩
  have hS24 : StC 6 75 6 152 S24 := by rw [eS24]; exact hS20.nw rfl rfl rfl
  intro _
  refine ⟨fun u => StC 7 74 6 216 u, (by rw [hS20.1]; exact zi_3 hS24), fun S27 hS27 _ _ => ?_⟩
  intro S30 eS30 _ wS30
  have hS30 : StC 7 73 6 216 S30 := by rw [eS30, hS20.1]; exact hS27.pr rfl (by decide)
  refine ⟨(by rw [hS30.1, hS30.2.1]; decide), fun S34 eS34 _ => ?_⟩
  have hS34 : StC 8 73 6 228 S34 := by rw [eS34]; exact hS30.nw rfl rfl rfl
  intro S36 eS36 _ wS36
  have hS36 : StC 8 72 6 228 S36 := by rw [eS36, hS30.1]; exact hS34.pr rfl (by decide)
  refine ⟨(by rw [hS36.1, hS36.2.1]; decide), fun S40 eS40 _ => ?_⟩
  have hS40 : StC 9 72 6 240 S40 := by rw [eS40]; exact hS36.nw rfl rfl rfl
  intro _
  refine ⟨fun u => StC 16 65 5 2054 u, (by rw [hS36.1]; exact zi_4 hS40), fun S43 hS43 _ _ => ?_⟩
  intro S46 eS46 _ wS46
  have hS46 : StC 16 64 5 2054 S46 := by rw [eS46, hS36.1]; exact hS43.pr rfl (by decide)
  refine ⟨(by rw [hS46.1, hS46.2.1]; decide), fun S50 eS50 _ => ?_⟩
  have hS50 : StC 17 64 5 2064 S50 := by rw [eS50]; exact hS46.nw rfl rfl rfl
  intro _
  refine ⟨fun u => StC 25 56 5 2120 u, (by rw [hS46.1]; exact zi_6 hS50), fun S53 hS53 _ _ => ?_⟩
  intro S56 eS56 _ wS56
  have hS56 : StC 25 55 5 2120 S56 := by rw [eS56, hS46.1]; exact hS53.pr rfl (by decide)
  refine ⟨(by rw [hS56.1, hS56.2.1]; decide), fun S60 eS60 _ => ?_⟩
  have hS60 : StC 26 55 5 2138 S60 := by rw [eS60]; exact hS56.nw rfl rfl rfl
  intro _
  refine ⟨fun u => StC 44 37 5 3440 u, (by rw [hS56.1]; exact zi_8 hS60), fun S63 hS63 _ _ => ?_⟩
  intro S66 eS66 _ wS66
  have hS66 : StC 44 36 5 3440 S66 := by rw [eS66, hS56.1]; exact hS63.pr rfl (by decide)
  refine ⟨(by rw [hS66.1, hS66.2.1]; decide), fun S70 eS70 _ => ?_⟩
  have hS70 : StC 45 36 5 3460 S70 := by rw [eS70]; exact hS66.nw rfl rfl rfl
  intro _
  refine ⟨fun u => StC 52 29 4 3680 u, (by rw [hS66.1]; exact zi_13 hS70), fun S73 hS73 _ _ => ?_⟩
  intro S76 eS76 _ wS76
  have hS76 : StC 52 28 4 3680 S76 := by rw [eS76, hS66.1]; exact hS73.pr rfl (by decide)
  refine ⟨(by rw [hS76.1, hS76.2.1]; decide), fun S80 eS80 _ => ?_⟩
  have hS80 : StC 53 28 4 3696 S80 := by rw [eS80]; exact hS76.nw rfl rfl rfl
  intro _
  refine ⟨fun u => StC 66 15 4 3712 u, (by rw [hS76.1]; exact zi_14 hS80), fun S83 hS83 _ _ => ?_⟩
  intro S86 eS86 _ wS86
  have hS86 : StC 66 14 4 3712 S86 := by rw [eS86, hS76.1]; exact hS83.pr rfl (by decide)
  refine ⟨(by rw [hS86.1, hS86.2.1]; decide), fun S90 eS90 _ => ?_⟩
  have hS90 : StC 67 14 4 3718 S90 := by rw [eS90]; exact hS86.nw rfl rfl rfl
  intro _
  refine ⟨fun u => StC 80 1 4 3745 u, (by rw [hS86.1]; exact zi_15 hS90), fun S93 hS93 _ _ => ?_⟩
  intro S96 eS96 _ wS96
  have hS96 : StC 80 0 4 3745 S96 := by rw [eS96, hS86.1]; exact hS93.pr rfl (by decide)
  intro S97 eS97 _ wS97
  have hS97 : StC 80 0 3 3745 S97 := by rw [eS97]; exact hS96.pi rfl (by decide)
  intro S98 eS98 _ wS98
  have hS98 : StC 80 0 2 3745 S98 := by rw [eS98]; exact hS97.pi rfl (by decide)
  intro S99 eS99 _ wS99
  have hS99 : StC 80 0 1 3745 S99 := by rw [eS99]; exact hS98.pi rfl (by decide)
  intro S100 eS100 _ wS100
  have hS100 : StC 80 0 0 3745 S100 := by rw [eS100]; exact hS99.pi rfl (by decide)
  exact ⟨wS100, hS100⟩
/-! the fresh state has the invariant (laid by gz2.py) -/
section ZFA
variable {A S u : MS}
theorem zf_wfC (w : wfCZ u) (h : StC 80 0 0 3745 u) : wfC u := by
  have F : ∀ q ∈ finC, q.1 < 80 ∧ q.2.2.1 < 80 ∧ lkR RFc q.1 q.2.1 = some q.2.2.1 ∧ TFc.getD q.2.2.1 0 = q.2.2.2.1 ∧ NFc.getD q.2.2.1 0 = q.2.2.2.2 := by decide +kernel
  have P : ∀ p ∈ ptrC, p.1 < 80 ∧ lkR RFc p.1 p.2 ≠ none := by decide +kernel
  obtain ⟨a1, _, a3, a4, a5, a6, a7, a8, a9, a10, a11, _⟩ := w
  refine ⟨a1, fun q hq => ⟨h.R (F q hq).1 (F q hq).2.2.1, h.T (F q hq).2.1 (F q hq).2.2.2.1, h.N (F q hq).2.1 (F q hq).2.2.2.2⟩, a3, a4, a5, a6, a7, a8, a9, a10, a11, fun p hp => ?_⟩
  rw [(h.2.2.2.1 p.1 p.2 (P p hp).1).1]
  exact (P p hp).2
theorem zf_CI (w : wfC u) (h : StC 80 0 0 3745 u) : CI u u := by
  have r_67_0 : qR u 67 0 = some 68 := h.R (by decide) (by decide +kernel)
  have o_67_0 : qO u 67 0 = 68 := qO_of r_67_0
  have r_67_1 : qR u 67 1 = some 69 := h.R (by decide) (by decide +kernel)
  have o_67_1 : qO u 67 1 = 69 := qO_of r_67_1
  have r_67_3 : qR u 67 3 = some 70 := h.R (by decide) (by decide +kernel)
  have o_67_3 : qO u 67 3 = 70 := qO_of r_67_3
  have r_67_5 : qR u 67 5 = some 71 := h.R (by decide) (by decide +kernel)
  have o_67_5 : qO u 67 5 = 71 := qO_of r_67_5
  have r_67_6 : qR u 67 6 = some 72 := h.R (by decide) (by decide +kernel)
  have o_67_6 : qO u 67 6 = 72 := qO_of r_67_6
  have r_67_7 : qR u 67 7 = some 73 := h.R (by decide) (by decide +kernel)
  have o_67_7 : qO u 67 7 = 73 := qO_of r_67_7
  have r_67_8 : qR u 67 8 = some 74 := h.R (by decide) (by decide +kernel)
  have o_67_8 : qO u 67 8 = 74 := qO_of r_67_8
  have r_17_0 : qR u 17 0 = some 18 := h.R (by decide) (by decide +kernel)
  have o_17_0 : qO u 17 0 = 18 := qO_of r_17_0
  have r_17_1 : qR u 17 1 = some 19 := h.R (by decide) (by decide +kernel)
  have o_17_1 : qO u 17 1 = 19 := qO_of r_17_1
  have r_17_2 : qR u 17 2 = some 20 := h.R (by decide) (by decide +kernel)
  have o_17_2 : qO u 17 2 = 20 := qO_of r_17_2
  have r_38_0 : qR u 38 0 = some 39 := h.R (by decide) (by decide +kernel)
  have o_38_0 : qO u 38 0 = 39 := qO_of r_38_0
  have r_38_1 : qR u 38 1 = some 40 := h.R (by decide) (by decide +kernel)
  have o_38_1 : qO u 38 1 = 40 := qO_of r_38_1
  have r_38_2 : qR u 38 2 = some 41 := h.R (by decide) (by decide +kernel)
  have o_38_2 : qO u 38 2 = 41 := qO_of r_38_2
  have r_16_1 : qR u 16 1 = some 21 := h.R (by decide) (by decide +kernel)
  have o_16_1 : qO u 16 1 = 21 := qO_of r_16_1
  have r_16_2 : qR u 16 2 = some 22 := h.R (by decide) (by decide +kernel)
  have o_16_2 : qO u 16 2 = 22 := qO_of r_16_2
  have r_16_3 : qR u 16 3 = some 23 := h.R (by decide) (by decide +kernel)
  have o_16_3 : qO u 16 3 = 23 := qO_of r_16_3
  have r_25_16 : qR u 25 16 = some 42 := h.R (by decide) (by decide +kernel)
  have o_25_16 : qO u 25 16 = 42 := qO_of r_25_16
  have r_25_17 : qR u 25 17 = some 43 := h.R (by decide) (by decide +kernel)
  have o_25_17 : qO u 25 17 = 43 := qO_of r_25_17
  have r_66_0 : qR u 66 0 = some 67 := h.R (by decide) (by decide +kernel)
  have o_66_0 : qO u 66 0 = 67 := qO_of r_66_0
  have r_66_2 : qR u 66 2 = some 76 := h.R (by decide) (by decide +kernel)
  have o_66_2 : qO u 66 2 = 76 := qO_of r_66_2
  have r_66_3 : qR u 66 3 = some 77 := h.R (by decide) (by decide +kernel)
  have o_66_3 : qO u 66 3 = 77 := qO_of r_66_3
  have r_66_4 : qR u 66 4 = some 78 := h.R (by decide) (by decide +kernel)
  have o_66_4 : qO u 66 4 = 78 := qO_of r_66_4
  have r_66_5 : qR u 66 5 = some 79 := h.R (by decide) (by decide +kernel)
  have o_66_5 : qO u 66 5 = 79 := qO_of r_66_5
  have r_1_0 : qR u 1 0 = some 2 := h.R (by decide) (by decide +kernel)
  have o_1_0 : qO u 1 0 = 2 := qO_of r_1_0
  have r_3_0 : qR u 3 0 = some 4 := h.R (by decide) (by decide +kernel)
  have o_3_0 : qO u 3 0 = 4 := qO_of r_3_0
  have r_5_0 : qR u 5 0 = some 6 := h.R (by decide) (by decide +kernel)
  have o_5_0 : qO u 5 0 = 6 := qO_of r_5_0
  have r_26_0 : qR u 26 0 = some 27 := h.R (by decide) (by decide +kernel)
  have o_26_0 : qO u 26 0 = 27 := qO_of r_26_0
  have r_28_0 : qR u 28 0 = some 29 := h.R (by decide) (by decide +kernel)
  have o_28_0 : qO u 28 0 = 29 := qO_of r_28_0
  have r_30_0 : qR u 30 0 = some 31 := h.R (by decide) (by decide +kernel)
  have o_30_0 : qO u 30 0 = 31 := qO_of r_30_0
  have r_44_2 : qR u 44 2 = some 46 := h.R (by decide) (by decide +kernel)
  have o_44_2 : qO u 44 2 = 46 := qO_of r_44_2
  have r_44_4 : qR u 44 4 = some 47 := h.R (by decide) (by decide +kernel)
  have o_44_4 : qO u 44 4 = 47 := qO_of r_44_4
  have r_44_8 : qR u 44 8 = some 49 := h.R (by decide) (by decide +kernel)
  have o_44_8 : qO u 44 8 = 49 := qO_of r_44_8
  have r_44_9 : qR u 44 9 = some 50 := h.R (by decide) (by decide +kernel)
  have o_44_9 : qO u 44 9 = 50 := qO_of r_44_9
  have r_52_2 : qR u 52 2 = some 53 := h.R (by decide) (by decide +kernel)
  have o_52_2 : qO u 52 2 = 53 := qO_of r_52_2
  have r_52_3 : qR u 52 3 = some 54 := h.R (by decide) (by decide +kernel)
  have o_52_3 : qO u 52 3 = 54 := qO_of r_52_3
  have r_52_4 : qR u 52 4 = some 55 := h.R (by decide) (by decide +kernel)
  have o_52_4 : qO u 52 4 = 55 := qO_of r_52_4
  have r_52_5 : qR u 52 5 = some 56 := h.R (by decide) (by decide +kernel)
  have o_52_5 : qO u 52 5 = 56 := qO_of r_52_5
  have r_52_6 : qR u 52 6 = some 57 := h.R (by decide) (by decide +kernel)
  have o_52_6 : qO u 52 6 = 57 := qO_of r_52_6
  have r_52_7 : qR u 52 7 = some 58 := h.R (by decide) (by decide +kernel)
  have o_52_7 : qO u 52 7 = 58 := qO_of r_52_7
  have r_52_8 : qR u 52 8 = some 59 := h.R (by decide) (by decide +kernel)
  have o_52_8 : qO u 52 8 = 59 := qO_of r_52_8
  have r_52_9 : qR u 52 9 = some 60 := h.R (by decide) (by decide +kernel)
  have o_52_9 : qO u 52 9 = 60 := qO_of r_52_9
  have r_52_11 : qR u 52 11 = some 61 := h.R (by decide) (by decide +kernel)
  have o_52_11 : qO u 52 11 = 61 := qO_of r_52_11
  have r_52_12 : qR u 52 12 = some 62 := h.R (by decide) (by decide +kernel)
  have o_52_12 : qO u 52 12 = 62 := qO_of r_52_12
  have r_52_13 : qR u 52 13 = some 63 := h.R (by decide) (by decide +kernel)
  have o_52_13 : qO u 52 13 = 63 := qO_of r_52_13
  have r_52_14 : qR u 52 14 = some 64 := h.R (by decide) (by decide +kernel)
  have o_52_14 : qO u 52 14 = 64 := qO_of r_52_14
  have r_52_15 : qR u 52 15 = some 65 := h.R (by decide) (by decide +kernel)
  have o_52_15 : qO u 52 15 = 65 := qO_of r_52_15
  have n_2 : qN u 2 = 64 := h.N (by decide) (by decide +kernel)
  have n_4 : qN u 4 = 64 := h.N (by decide) (by decide +kernel)
  have n_6 : qN u 6 = 64 := h.N (by decide) (by decide +kernel)
  have n_18 : qN u 18 = 0 := h.N (by decide) (by decide +kernel)
  have n_19 : qN u 19 = 0 := h.N (by decide) (by decide +kernel)
  have n_20 : qN u 20 = 0 := h.N (by decide) (by decide +kernel)
  have n_21 : qN u 21 = 0 := h.N (by decide) (by decide +kernel)
  have n_22 : qN u 22 = 0 := h.N (by decide) (by decide +kernel)
  have n_23 : qN u 23 = 0 := h.N (by decide) (by decide +kernel)
  have n_27 : qN u 27 = 64 := h.N (by decide) (by decide +kernel)
  have n_29 : qN u 29 = 64 := h.N (by decide) (by decide +kernel)
  have n_31 : qN u 31 = 64 := h.N (by decide) (by decide +kernel)
  have n_39 : qN u 39 = 0 := h.N (by decide) (by decide +kernel)
  have n_40 : qN u 40 = 0 := h.N (by decide) (by decide +kernel)
  have n_41 : qN u 41 = 0 := h.N (by decide) (by decide +kernel)
  have n_42 : qN u 42 = 0 := h.N (by decide) (by decide +kernel)
  have n_43 : qN u 43 = 0 := h.N (by decide) (by decide +kernel)
  have n_46 : qN u 46 = 0 := h.N (by decide) (by decide +kernel)
  have n_47 : qN u 47 = 8 := h.N (by decide) (by decide +kernel)
  have n_49 : qN u 49 = 0 := h.N (by decide) (by decide +kernel)
  have n_50 : qN u 50 = 0 := h.N (by decide) (by decide +kernel)
  have n_53 : qN u 53 = 0 := h.N (by decide) (by decide +kernel)
  have n_54 : qN u 54 = 0 := h.N (by decide) (by decide +kernel)
  have n_55 : qN u 55 = 0 := h.N (by decide) (by decide +kernel)
  have n_56 : qN u 56 = 16 := h.N (by decide) (by decide +kernel)
  have n_57 : qN u 57 = 0 := h.N (by decide) (by decide +kernel)
  have n_58 : qN u 58 = 0 := h.N (by decide) (by decide +kernel)
  have n_59 : qN u 59 = 0 := h.N (by decide) (by decide +kernel)
  have n_60 : qN u 60 = 0 := h.N (by decide) (by decide +kernel)
  have n_61 : qN u 61 = 0 := h.N (by decide) (by decide +kernel)
  have n_62 : qN u 62 = 0 := h.N (by decide) (by decide +kernel)
  have n_63 : qN u 63 = 0 := h.N (by decide) (by decide +kernel)
  have n_64 : qN u 64 = 0 := h.N (by decide) (by decide +kernel)
  have n_65 : qN u 65 = 0 := h.N (by decide) (by decide +kernel)
  have n_67 : qN u 67 = 0 := h.N (by decide) (by decide +kernel)
  have n_68 : qN u 68 = 0 := h.N (by decide) (by decide +kernel)
  have n_69 : qN u 69 = 0 := h.N (by decide) (by decide +kernel)
  have n_70 : qN u 70 = 0 := h.N (by decide) (by decide +kernel)
  have n_71 : qN u 71 = 0 := h.N (by decide) (by decide +kernel)
  have n_72 : qN u 72 = 0 := h.N (by decide) (by decide +kernel)
  have n_73 : qN u 73 = 0 := h.N (by decide) (by decide +kernel)
  have n_74 : qN u 74 = 0 := h.N (by decide) (by decide +kernel)
  have n_76 : qN u 76 = 0 := h.N (by decide) (by decide +kernel)
  have n_77 : qN u 77 = 0 := h.N (by decide) (by decide +kernel)
  have n_78 : qN u 78 = 0 := h.N (by decide) (by decide +kernel)
  have n_79 : qN u 79 = 0 := h.N (by decide) (by decide +kernel)
  have i_67_2 : qI u 67 2 = 0 := h.I (by decide) (by decide +kernel)
  have i_67_4 : qI u 67 4 = 0 := h.I (by decide) (by decide +kernel)
  have i_67_9 : qI u 67 9 = 0 := h.I (by decide) (by decide +kernel)
  have i_52_1 : qI u 52 1 = 0 := h.I (by decide) (by decide +kernel)
  have i_44_5 : qI u 44 5 = 0 := h.I (by decide) (by decide +kernel)
  have i_44_3 : qI u 44 3 = 0 := h.I (by decide) (by decide +kernel)
  have i_44_7 : qI u 44 7 = 0 := h.I (by decide) (by decide +kernel)
  have i_1_1 : qI u 1 1 = 0 := h.I (by decide) (by decide +kernel)
  have i_3_1 : qI u 3 1 = 0 := h.I (by decide) (by decide +kernel)
  have i_5_1 : qI u 5 1 = 0 := h.I (by decide) (by decide +kernel)
  have i_26_1 : qI u 26 1 = 0 := h.I (by decide) (by decide +kernel)
  have i_28_1 : qI u 28 1 = 0 := h.I (by decide) (by decide +kernel)
  have i_30_1 : qI u 30 1 = 0 := h.I (by decide) (by decide +kernel)
  have i_0_11 : qI u 0 11 = 0 := h.I (by decide) (by decide +kernel)
  have kd : ∀ p t : Nat, t ≠ 0 → t ≠ 12 → t ≠ 22 → qT u p = t → p < 80 ∧ TFc.getD p 0 = t := fun p t t0 t12 t22 k => by
    have lt := w.lt k t0 t12 t22
    rw [h.1] at lt
    exact ⟨lt, by rw [← (h.2.2.1 p lt).1]; exact k⟩
  have D47 : ∀ p, p < 80 → TFc.getD p 0 = 47 → p = 67 := by decide +kernel
  have D49 : ∀ p, p < 80 → TFc.getD p 0 = 49 → False := by decide +kernel
  have D44 : ∀ p, p < 80 → TFc.getD p 0 = 44 → p = 17 ∨ p = 38 := by decide +kernel
  have D0 : ∀ p, p < 80 → TFc.getD p 0 ≠ 0 := by decide +kernel
  have z := li_0k
  have hp : hp2 u = 0 := by unfold hp2; rw [o_44_2, n_46]; rfl
  have g1 : ∀ p, qT u p = 47 → RwK u p := fun p k => by
    obtain ⟨a, b⟩ := kd p 47 (by decide) (by decide) (by decide) k
    rw [D47 p a b]
    refine ⟨⟨by rw [o_67_0]; exact r_67_0, by rw [o_67_1]; exact r_67_1, by rw [o_67_3]; exact r_67_3, by rw [o_67_5]; exact r_67_5, by rw [o_67_6]; exact r_67_6, by rw [o_67_7]; exact r_67_7, by rw [o_67_8]; exact r_67_8⟩, ?_⟩
    rw [o_67_0, o_67_1, o_67_3, o_67_5, o_67_6, o_67_7, o_67_8, n_68, n_69, n_70, n_71, n_72, n_73, n_74, i_67_2, i_67_4, i_67_9, z]
    decide
  have g3 : ∀ p, qT u p = 44 → HtK u p := fun p k => by
    obtain ⟨a, b⟩ := kd p 44 (by decide) (by decide) (by decide) k
    rcases D44 p a b with e | e
    · rw [e]
      refine ⟨⟨by rw [o_17_0]; exact r_17_0, by rw [o_17_1]; exact r_17_1, by rw [o_17_2]; exact r_17_2⟩, ?_⟩
      rw [o_17_0, o_17_1, o_17_2, n_18, n_19, n_20]
      decide
    · rw [e]
      refine ⟨⟨by rw [o_38_0]; exact r_38_0, by rw [o_38_1]; exact r_38_1, by rw [o_38_2]; exact r_38_2⟩, ?_⟩
      rw [o_38_0, o_38_1, o_38_2, n_39, n_40, n_41]
      decide
  have B0 : Nat × Nat := (1085600, 8000000)
  have G : ShC (1085600, 8000000) u := by
    refine ⟨g1, fun p k => ?_, g3, ?_, ?_, ?_, ?_, ?_, ?_⟩
    · obtain ⟨a, b⟩ := kd p 49 (by decide) (by decide) (by decide) k
      exact (D49 p a b).elim
    · unfold ChKk; rw [o_16_3, o_16_2, o_16_1, n_23, n_22, n_21]; decide
    · unfold WrK; rw [o_25_16, o_25_17, n_42, n_43]
    · unfold SmK; rw [o_66_0, o_67_0, o_66_2, o_66_3, o_66_4, o_66_5, n_68, n_76, n_77, n_78, n_79]; decide
    · intro a ha
      rw [h.1] at ha
      rw [(h.2.2.1 a ha).1]
      exact D0 a ha
    · unfold CpK; rw [o_1_0, o_3_0, o_5_0, o_26_0, o_28_0, o_30_0, o_17_0, o_38_0, o_16_2, o_25_17, o_52_3, o_52_13, o_52_9, o_52_5, o_52_7, o_44_2, o_44_4, o_44_8, o_44_9, o_66_2, n_2, n_4, n_6, n_27, n_29, n_31, n_18, n_39, n_22, n_43, n_54, n_63, n_60, n_56, n_58, n_46, n_47, n_49, n_50, n_76]; decide
    · unfold RmK PSc PNc; rw [o_1_0, o_3_0, o_5_0, o_26_0, o_28_0, o_30_0, o_17_0, o_38_0, o_16_2, o_25_17, o_52_3, o_52_13, o_52_9, o_52_5, o_52_7, o_44_2, o_44_4, o_44_8, o_44_9, o_66_2, n_2, n_4, n_6, n_27, n_29, n_31, n_18, n_39, n_22, n_43, n_54, n_63, n_60, n_56, n_58, n_46, n_47, n_49, n_50, n_76, hp, h.1, h.2.1]
      exact ⟨by decide, by decide, by decide, by decide⟩
  have GL : GrL u := by unfold GrL; rw [o_52_2, o_52_3, o_52_8, o_52_13, o_52_11, o_52_12, o_52_14, o_52_15, o_52_6, o_52_4, o_52_5, o_52_7, n_53, n_54, n_59, n_63, n_61, n_62, n_64, n_65, n_57, n_55, n_56, n_58]; decide
  have g0 : qR u 52 0 = none := h.R0 (by decide) (by decide +kernel)
  have s0 : qR u 44 0 = none := h.R0 (by decide) (by decide +kernel)
  refine ⟨(1085600, 8000000), ⟨?_, ?_⟩, ⟨⟨G, GL, Or.inl ⟨g0, by rw [i_52_1]; rfl, by rw [o_52_3, n_54]⟩⟩, fun r e => ?_, fun r e => ?_⟩, ⟨by rw [i_0_11, z]; decide, fun f hf => ?_, fun p e => ?_, shx.rf⟩, ?_, ⟨?_, by rw [i_44_7, z]; decide, Or.inl ⟨by rw [o_44_8, n_49], by rw [o_44_9, n_50]⟩⟩, ⟨?_, ?_, ?_⟩, ⟨⟨?_, ?_, ?_⟩, ?_, ?_⟩, by rw [i_1_1, z]; decide⟩
  · rw [i_0_11]; show 1085600 + 86400 * 0 + 0 ≤ 1085600 + 209606 * 0; decide
  · rw [i_0_11]; show 8000000 + 4608 * 0 ≤ 8000000 + 17536 * 0; decide
  · rw [g0] at e; cases e
  · rw [g0] at e; cases e
  · rw [i_0_11, z] at hf; omega
  · rw [s0] at e; cases e
  · unfold SmT; rw [o_66_0, o_67_0, n_68]; intro y; exact absurd y (by decide)
  · unfold MaI; rw [i_44_5, i_44_3, o_44_4, n_47, z]; decide
  · exact ⟨by rw [o_1_0]; exact r_1_0, by rw [i_1_1, o_1_0, n_2, z]; decide, by rw [o_1_0, n_2]; decide, by rw [o_1_0, n_2]; decide⟩
  · exact ⟨by rw [o_3_0]; exact r_3_0, by rw [i_3_1, o_3_0, n_4, z]; decide, by rw [o_3_0, n_4]; decide, by rw [o_3_0, n_4]; decide⟩
  · exact ⟨by rw [o_5_0]; exact r_5_0, by rw [i_5_1, o_5_0, n_6, z]; decide, by rw [o_5_0, n_6]; decide, by rw [o_5_0, n_6]; decide⟩
  · exact ⟨by rw [o_26_0]; exact r_26_0, by rw [i_26_1, o_26_0, n_27, z]; decide, by rw [o_26_0, n_27]; decide, by rw [o_26_0, n_27]; decide⟩
  · exact ⟨by rw [o_28_0]; exact r_28_0, by rw [i_28_1, o_28_0, n_29, z]; decide, by rw [o_28_0, n_29]; decide, by rw [o_28_0, n_29]; decide⟩
  · exact ⟨by rw [o_30_0]; exact r_30_0, by rw [i_30_1, o_30_0, n_31, z]; decide, by rw [o_30_0, n_31]; decide, by rw [o_30_0, n_31]; decide⟩
  · rw [o_26_0, o_30_0]; decide
  · rw [o_26_0, o_28_0]; decide
theorem zf_new (h : StC 1 79 6 18 S) : zX12_init S 0 (fun u => wfCZ u ∧ StC 80 0 0 3745 u) := zi_new h
theorem zf_a7 (h : StC 80 0 0 3745 u) : qI u 44 7 = 0 := h.I (by decide) (by decide +kernel)
end ZFA
/-! every call, for the law: the invariant and the count of arguments -/
section CQA
variable {A S : MS} {x1 x2 x3 x4 x5 : Int32}
theorem cl_field (w : wfC S) (h : CI A S) : d_X12_field S x1 := by
  obtain ⟨B, h⟩ := h
  exact ci_field w h
theorem cl_byteAt (h : CI A S) : d_X12_byteAt S x1 := by
  obtain ⟨B, h⟩ := h
  exact ci_byteAt h
end CQA
/-! bits in a number, sums -/
theorem i32nk {x : Int32} (h0 : 0 ≤ x.toInt) : x = Int32.ofNat x.toInt.toNat := by
  apply Int32.toInt_inj.mp
  have h1 : x.toInt < 2147483648 := by have := Int32.toInt_lt x; omega
  rw [Int32.toInt_ofNat_of_lt (by omega)]
  omega
def btk (v : Int32) (k : Nat) : Bool := v.toBitVec.getLsbD k
theorem sm32k : ∀ k : Fin 32, ((Int32.ofNat k.val &&& 31).toBitVec.smod 32).toNat = k.val := by decide
theorem sm_hk {h : Int32} (h0 : 0 ≤ h.toInt) (h1 : h.toInt ≤ 31) : ((h &&& 31).toBitVec.smod 32).toNat = h.toInt.toNat := by
  have k := sm32k ⟨h.toInt.toNat, by omega⟩
  rw [← i32nk h0] at k
  exact k
theorem bt_testk {v h : Int32} (h0 : 0 ≤ h.toInt) (h1 : h.toInt ≤ 31) : (((v >>> (h &&& 31)) &&& (1 : Int32)).toInt = 1 ↔ btk v h.toInt.toNat = true) := by
  have e := sm_hk h0 h1
  have e1 : ((v >>> (h &&& 31)) &&& (1 : Int32)).toInt = 1 ↔ (v >>> (h &&& 31)).toBitVec.getLsbD 0 = true := by
    have a : ((v >>> (h &&& 31)) &&& (1 : Int32)).toInt = 1 ↔ ((v >>> (h &&& 31)) &&& (1 : Int32)) = 1 := by
      constructor
      · intro q; exact Int32.toInt_inj.mp q
      · intro q; rw [q]; rfl
    rw [a]
    constructor
    · intro q
      have := congrArg (fun z : Int32 => z.toBitVec.getLsbD 0) q
      simpa using this
    · intro q
      apply Int32.toBitVec_inj.mp
      apply BitVec.eq_of_getLsbD_eq
      intro i hi
      rw [Int32.toBitVec_and, BitVec.getLsbD_and]
      by_cases z : i = 0
      · subst z
        rw [q]
        decide
      · rw [show (1 : Int32).toBitVec = 1#32 from rfl, BitVec.getLsbD_one]
        simp [z]
  rw [e1, Int32.toBitVec_shiftRight]
  unfold btk
  rw [BitVec.sshiftRight_eq', BitVec.getLsbD_sshiftRight, e, if_pos (by omega)]
  simp only [Nat.add_zero, Bool.and_eq_true, Bool.not_eq_true', decide_eq_false_iff_not]
  constructor
  · intro q; exact q.2
  · intro q; exact ⟨by omega, q⟩
theorem bt_ork {v h : Int32} (h0 : 0 ≤ h.toInt) (h1 : h.toInt ≤ 31) {k : Nat} (hk : k < 32) : btk (v ||| ((1 : Int32) <<< (h &&& 31))) k = (btk v k || decide (k = h.toInt.toNat)) := by
  have e := sm_hk h0 h1
  unfold btk
  rw [Int32.toBitVec_or, BitVec.getLsbD_or, Int32.toBitVec_shiftLeft, BitVec.shiftLeft_eq', BitVec.getLsbD_shiftLeft, e]
  congr 1
  rw [show (1 : Int32).toBitVec = 1#32 from rfl, BitVec.getLsbD_one]
  by_cases z : k = h.toInt.toNat
  · rw [← z]; simp [hk]
  · by_cases y : k < h.toInt.toNat
    · simp only [z, y, decide_true, decide_false, Bool.not_true, Bool.and_false, Bool.false_and]
    · have : ¬ (k - h.toInt.toNat = 0) := by omega
      simp only [z, this, decide_false, Bool.and_false]
def cnt0k (v : Int32) : Nat → Nat
  | 0 => 0
  | n + 1 => cnt0k v n + if btk v n then 0 else 1
theorem cnt0_lek {v w : Int32} (h : ∀ k : Nat, btk v k = true → btk w k = true) : ∀ n : Nat, cnt0k w n ≤ cnt0k v n := by
  intro n
  induction n with
  | zero => exact Nat.le_refl _
  | succ n ih =>
    unfold cnt0k
    have := h n
    by_cases a : btk v n = true
    · rw [if_pos a, if_pos (this a)]; omega
    · rw [if_neg a]; split <;> omega
theorem cnt0_ltk {v w : Int32} (h : ∀ k : Nat, btk v k = true → btk w k = true) {j : Nat} (h1 : btk w j = true) (h2 : ¬ btk v j = true) : ∀ n : Nat, j < n → cnt0k w n < cnt0k v n := by
  intro n
  induction n with
  | zero => intro q; exact absurd q (Nat.not_lt_zero _)
  | succ n ih =>
    intro q
    unfold cnt0k
    by_cases z : j = n
    · subst z
      rw [if_pos h1, if_neg h2]
      have := cnt0_lek h j
      omega
    · have := ih (by omega)
      have hn := h n
      by_cases a : btk v n = true
      · rw [if_pos a, if_pos (hn a)]; omega
      · rw [if_neg a]; split <;> omega
theorem bt_extk {v w : Int32} (h : ∀ k : Nat, k < 32 → btk v k = btk w k) : v = w := by
  apply Int32.toBitVec_inj.mp
  apply BitVec.eq_of_getLsbD_eq
  intro i hi
  exact h i hi
theorem bt_hik {v : Int32} {k : Nat} (h : 32 ≤ k) : btk v k = false := by
  unfold btk
  exact BitVec.getLsbD_of_ge _ _ h
def sumNk (g : Nat → Nat) : Nat → Nat
  | 0 => 0
  | n + 1 => sumNk g n + g n
theorem sumN_eqk {g g' : Nat → Nat} : ∀ n : Nat, (∀ j : Nat, j < n → g' j = g j) → sumNk g' n = sumNk g n := by
  intro n
  induction n with
  | zero => intro _; rfl
  | succ n ih => intro h; unfold sumNk; rw [ih (fun j hj => h j (by omega)), h n (by omega)]
theorem sumN_updk {g g' : Nat → Nat} {i : Nat} (h : ∀ j : Nat, j ≠ i → g' j = g j) : ∀ n : Nat, i < n → sumNk g' n + g i = sumNk g n + g' i := by
  intro n
  induction n with
  | zero => intro q; exact absurd q (Nat.not_lt_zero _)
  | succ n ih =>
    intro q
    unfold sumNk
    by_cases z : i = n
    · subst z
      rw [sumN_eqk (g := g) (g' := g') i (fun j hj => h j (by omega))]
      omega
    · have := ih (by omega)
      rw [h n (by omega)]
      omega
theorem bt_test0k {v h : Int32} (h0 : 0 ≤ h.toInt) (h1 : h.toInt ≤ 31) : (((v >>> (h &&& 31)) &&& (1 : Int32)).toInt = 0 ↔ ¬ btk v h.toInt.toNat = true) := by
  have k := c_andk (z := (v >>> (h &&& 31)) &&& (1 : Int32)) (k := 1) (b := 2) rfl (by decide) (by decide) rfl
  have e := bt_testk (v := v) h0 h1
  constructor
  · intro q z
    have := e.mpr z
    omega
  · intro q
    by_cases z : ((v >>> (h &&& 31)) &&& (1 : Int32)).toInt = 1
    · exact absurd (e.mp z) q
    · omega
theorem bt_nzk {v : Int32} {k : Nat} (h : btk v k = true) : ¬ v.toInt = 0 := fun q => by
  have : v = 0 := Int32.toInt_inj.mp q
  rw [this] at h
  unfold btk at h
  rw [show (0 : Int32).toBitVec = 0#32 from rfl, BitVec.getLsbD_zero] at h
  exact absurd h (by decide)
theorem bt_0 {k : Nat} : btk 0 k = false := by
  unfold btk
  rw [show (0 : Int32).toBitVec = 0#32 from rfl, BitVec.getLsbD_zero]
theorem cnt0_top {v : Int32} : ∀ n : Nat, cnt0k v n ≤ n := by
  intro n
  induction n with
  | zero => exact Nat.le_refl _
  | succ n ih => unfold cnt0k; split <;> omega
theorem sumN_top {g : Nat → Nat} {c : Nat} (h : ∀ j, g j ≤ c) : ∀ n : Nat, sumNk g n ≤ c * n := by
  intro n
  induction n with
  | zero => exact Nat.zero_le _
  | succ n ih => unfold sumNk; have := h n; rw [Nat.mul_succ]; omega
/-- what is shifted out -/
theorem bt_ush {v h : Int32} (h0 : 0 ≤ h.toInt) (h1 : h.toInt ≤ 31) (hv : btk v 31 = false) (hz : ((v.toUInt32 >>> (h.toUInt32 &&& Int32.toUInt32 31)).toInt32).toInt ≤ 0) {k : Nat} (hk : h.toInt.toNat ≤ k) : btk v k = false := by
  have e := sm_hk h0 h1
  have eh : (h.toUInt32 &&& Int32.toUInt32 31).toNat % 32 = h.toInt.toNat := by
    have a : (h.toUInt32 &&& Int32.toUInt32 31) = (h &&& 31).toUInt32 := rfl
    have b := sm32k ⟨h.toInt.toNat, by omega⟩
    rw [i32nk h0]
    have c : ∀ k : Fin 32, ((Int32.ofNat k.val).toUInt32 &&& Int32.toUInt32 31).toNat % 32 = (Int32.ofNat k.val).toInt.toNat := by decide
    exact c ⟨h.toInt.toNat, by omega⟩
  have es : (v.toUInt32 >>> (h.toUInt32 &&& Int32.toUInt32 31)).toBitVec = v.toBitVec >>> h.toInt.toNat := by
    rw [UInt32.toBitVec_shiftRight]
    show v.toBitVec >>> ((h.toUInt32 &&& Int32.toUInt32 31).toBitVec % 32) = _
    rw [BitVec.ushiftRight_eq']
    congr 1
  have eb : ∀ j : Nat, btk ((v.toUInt32 >>> (h.toUInt32 &&& Int32.toUInt32 31)).toInt32) j = btk v (h.toInt.toNat + j) := fun j => by
    unfold btk
    show ((v.toUInt32 >>> (h.toUInt32 &&& Int32.toUInt32 31)).toBitVec).getLsbD j = _
    rw [es, BitVec.getLsbD_ushiftRight]
  have hm : btk ((v.toUInt32 >>> (h.toUInt32 &&& Int32.toUInt32 31)).toInt32) 31 = false := by
    rw [eb]
    by_cases z : h.toInt.toNat = 0
    · rw [z]; exact hv
    · exact bt_hik (by omega)
  have nn : 0 ≤ ((v.toUInt32 >>> (h.toUInt32 &&& Int32.toUInt32 31)).toInt32).toInt := by
    rw [← Int32.toInt_toBitVec, BitVec.toInt_eq_msb_cond, BitVec.msb_eq_getLsbD_last]
    have : ((v.toUInt32 >>> (h.toUInt32 &&& Int32.toUInt32 31)).toInt32).toBitVec.getLsbD 31 = false := hm
    rw [show 32 - 1 = 31 from rfl, this, if_neg (by decide)]
    exact Int.natCast_nonneg _
  by_cases z : btk v k = true
  · have := eb (k - h.toInt.toNat)
    rw [show h.toInt.toNat + (k - h.toInt.toNat) = k by omega, z] at this
    exact absurd (by omega) (bt_nzk this)
  · exact Bool.eq_false_iff.mpr z
/-! Heights: what comes to an instruction -/
def hC (S : MS) (p i : Nat) : Int32 := qI S (qO S p 0) i
def hW (S : MS) (p i : Nat) : Int32 := qI S (qO S p 1) i
def hX (S : MS) (p i : Nat) : Int32 := qI S (qO S p 2) i
/-- how much can still come -/
def MhC (S : MS) (p : Nat) : Nat := sumNk (fun i => cnt0k (hC S p i) 32) (nR S (qO S p 4)).toNat
/-- heights come on, and what is new waits -/
def HtR (p : Nat) (S u : MS) : Prop := cfr [213, 214, 304] [(44, 6), (44, 7)] S u ∧ (∀ i k : Nat, btk (hC S p i) k = true → btk (hC u p i) k = true) ∧ (∀ i k : Nat, btk (hW S p i) k = true → btk (hW u p i) k = true) ∧ (∀ i k : Nat, btk (hC u p i) k = true → btk (hC S p i) k = true ∨ k ≤ 30 ∧ btk (hW u p i) k = true) ∧ (∀ i k : Nat, btk (hW u p i) k = true → btk (hW S p i) k = true ∨ k ≤ 30) ∧ (∀ i : Nat, ¬ (hX S p i).toInt = 0 → ¬ (hX u p i).toInt = 0) ∧ ((qI u p 6).toInt = 0 → (qI S p 6).toInt = 0 ∧ ∀ i, hW u p i = hW S p i) ∧ MhC u p ≤ MhC S p ∧ ((qI S p 6).toInt = 0 → ¬ (qI u p 6).toInt = 0 → MhC u p < MhC S p)
section HS
variable {B : Nat × Nat} {K : List Nat} {F : List (Nat × Nat)} {S u v U V A : MS} {p q r i j : Nat} {x y : Int32}
theorem HtR.rf : HtR p S S := ⟨cfr.rf, fun _ _ h => h, fun _ _ h => h, fun _ _ h => Or.inl h, fun _ _ h => Or.inl h, fun _ h => h, fun h => ⟨h, fun _ => rfl⟩, Nat.le_refl _, fun a b => absurd a b⟩
theorem HtR.tr (h : HtR p S u) (k : HtR p u v) : HtR p S v := by
  obtain ⟨a1, a2, a3, a4, a5, a6, a7, a8, a9⟩ := h
  obtain ⟨b1, b2, b3, b4, b5, b6, b7, b8, b9⟩ := k
  refine ⟨a1.tr b1, fun i k q => b2 i k (a2 i k q), fun i k q => b3 i k (a3 i k q), fun i k q => ?_, fun i k q => ?_, fun i q => b6 i (a6 i q), fun q => ?_, by omega, fun c d => ?_⟩
  · rcases b4 i k q with z | z
    · rcases a4 i k z with y | y
      · exact Or.inl y
      · exact Or.inr ⟨y.1, b3 i k y.2⟩
    · exact Or.inr z
  · rcases b5 i k q with z | z
    · exact a5 i k z
    · exact Or.inr z
  · have z := b7 q
    have y := a7 z.1
    exact ⟨y.1, fun i => (z.2 i).trans (y.2 i)⟩
  · by_cases z : (qI u p 6).toInt = 0
    · have := b9 z d; omega
    · have := a9 c z; omega
theorem ct_hcome {Q : MS → Prop} (w : wfC S) (k : qT S p = 44) (H : HtK S p) (h : wX4_comeTo S p x y Q) : wX4_comeTo S p x y (fun u => Q u ∧ HtR p S u ∧ (0 ≤ x.toInt → x.toInt < nR S (qO S p 4) → x.toInt < (qN S (qO S p 0) : Int) → 0 ≤ y.toInt → y.toInt ≤ 30 → btk (hC u p x.toInt.toNat) y.toInt.toNat = true)) := by
  unfold wX4_comeTo at h ⊢
  refine ⟨fun c => ⟨h.1 c, HtR.rf, fun a => absurd c (by omega)⟩, fun c => ?_⟩
  obtain ⟨e4, h1, h2⟩ := h.2 c
  refine ⟨e4, fun d => ⟨h1 d, HtR.rf, fun _ b => by unfold nR at b; omega⟩, fun d => ?_⟩
  obtain ⟨e0, h1, h2⟩ := h2 d
  refine ⟨e0, fun e => ⟨h1 e, HtR.rf, fun _ _ b => by omega⟩, fun e => ?_⟩
  obtain ⟨h1, h2⟩ := h2 e
  refine ⟨fun f => ⟨h1 f, HtR.rf, fun _ _ _ b => by omega⟩, fun f => ?_⟩
  obtain ⟨h1, h2⟩ := h2 f
  refine ⟨fun g => ⟨h1 g, HtR.rf, fun _ _ _ _ b => by omega⟩, fun g => ?_⟩
  obtain ⟨e0', b0, h1, h2⟩ := h2 g
  have T := bt_test0k (v := qI S (qO S p 0) x.toInt.toNat) (h := y) (by omega) (by omega)
  refine ⟨e0', b0, fun z => ?_, fun z => ⟨h2 z, HtR.rf, fun _ _ _ _ _ => ?_⟩⟩
  · obtain ⟨e1, b1, b2, h3⟩ := h1 z
    refine ⟨e1, b1, b2, fun S25 e25 k25 w25 => ?_⟩
    obtain ⟨e2, b3, b4, h4⟩ := h3 S25 e25 k25 w25
    refine ⟨e2, b3, b4, fun S33 e33 k33 w33 S34 e34 k34 w34 => ⟨h4 S33 e33 k33 w33 S34 e34 k34 w34, ?_⟩⟩
    have nb := T.mp z
    have o0 : qO S34 p 0 = qO S p 0 := by rw [e34, e33, e25]; rfl
    have o1 : qO S34 p 1 = qO S p 1 := by rw [e34, e33, e25]; rfl
    have o2 : qO S34 p 2 = qO S p 2 := by rw [e34, e33, e25]; rfl
    have o4 : qO S34 p 4 = qO S p 4 := by rw [e34, e33, e25]; rfl
    have o25 : qO S25 p 1 = qO S p 1 := by rw [e25]; rfl
    rw [o25] at e33 k33
    have kb : qT S (qO S p 1) = 214 := by rw [← k33, e25]; rfl
    have kx : qT S (qO S p 2) = 304 := w.ref H.1.2.2 k
    have k4 : qT S (qO S p 4) = 47 := w.ref e4 k
    have ab : qO S p 0 ≠ qO S p 1 := fun t => by rw [t, kb] at k25; cases k25
    have ap : qO S p 0 ≠ p := fun t => by rw [t, k] at k25; cases k25
    have bp : qO S p 1 ≠ p := fun t => by rw [t, k] at kb; cases kb
    have xa : qO S p 2 ≠ qO S p 0 := fun t => by rw [t, k25] at kx; cases kx
    have xb : qO S p 2 ≠ qO S p 1 := fun t => by rw [t, kb] at kx; cases kx
    have xp : qO S p 2 ≠ p := fun t => by rw [t, k] at kx; cases kx
    have C : ∀ i, hC S34 p i = if i = x.toInt.toNat then (hC S p x.toInt.toNat ||| ((1 : Int32) <<< (y &&& 31))) else hC S p i := fun i => by
      unfold hC
      rw [o0, e34, qI_wI, if_neg (fun t => ap t.1), e33, qI_wI, if_neg (fun t => ab t.1), e25, qI_wI]
      by_cases t : i = x.toInt.toNat
      · rw [if_pos ⟨rfl, t⟩, if_pos t]
      · rw [if_neg (fun s => t s.2), if_neg t]
    have W : ∀ i, hW S34 p i = if i = x.toInt.toNat then (hW S p x.toInt.toNat ||| ((1 : Int32) <<< (y &&& 31))) else hW S p i := fun i => by
      unfold hW
      have eb : ∀ j, qI S25 (qO S p 1) j = qI S (qO S p 1) j := fun j => by rw [e25, qI_wI, if_neg (fun t => ab t.1.symm)]
      rw [o1, e34, qI_wI, if_neg (fun t => bp t.1), e33, qI_wI]
      by_cases t : i = x.toInt.toNat
      · rw [if_pos ⟨rfl, t⟩, if_pos t, eb]
      · rw [if_neg (fun s => t s.2), if_neg t, eb]
    have X : ∀ i, hX S34 p i = hX S p i := fun i => by
      unfold hX
      rw [o2, e34, qI_wI, if_neg (fun t => xp t.1), e33, qI_wI, if_neg (fun t => xb t.1), e25, qI_wI, if_neg (fun t => xa t.1)]
    have E6 : qI S34 p 6 = 1 := by rw [e34, qI_wI, if_pos ⟨rfl, rfl⟩]
    have f1 : cfr [213, 214, 304] [(44, 6), (44, 7)] S S25 := by rw [e25]; exact cfr.aI k25 rfl
    have f2 : cfr [213, 214, 304] [(44, 6), (44, 7)] S25 S33 := by rw [e33]; exact cfr.aI k33 rfl
    have f3 : cfr [213, 214, 304] [(44, 6), (44, 7)] S33 S34 := by rw [e34]; exact cfr.oI k34 rfl
    have f := (f1.tr f2).tr f3
    have grow : ∀ (a : Int32) (k : Nat), btk a k = true → btk (a ||| ((1 : Int32) <<< (y &&& 31))) k = true := fun a k t => by
      by_cases s : k < 32
      · rw [bt_ork (by omega) (by omega) s, t]; rfl
      · rw [bt_hik (by omega)] at t; exact absurd t (by decide)
    have only : ∀ (a : Int32) (k : Nat), btk (a ||| ((1 : Int32) <<< (y &&& 31))) k = true → btk a k = true ∨ k = y.toInt.toNat := fun a k t => by
      by_cases s : k < 32
      · rw [bt_ork (by omega) (by omega) s, Bool.or_eq_true, decide_eq_true_eq] at t
        exact t
      · rw [bt_hik (by omega)] at t; exact absurd t (by decide)
    have self : ∀ a : Int32, btk (a ||| ((1 : Int32) <<< (y &&& 31))) y.toInt.toNat = true := fun a => by
      rw [bt_ork (by omega) (by omega) (by omega)]
      simp
    have nn : nR S34 (qO S34 p 4) = nR S (qO S p 4) := by
      unfold nR
      rw [o4, f.kI k4 (by decide) rfl]
    have up := sumN_updk (g := fun i => cnt0k (hC S p i) 32) (g' := fun i => cnt0k (hC S34 p i) 32) (i := x.toInt.toNat) (fun j hj => by show cnt0k (hC S34 p j) 32 = _; rw [C, if_neg hj]) (nR S (qO S p 4)).toNat (by unfold nR; omega)
    have lt : cnt0k (hC S34 p x.toInt.toNat) 32 < cnt0k (hC S p x.toInt.toNat) 32 := by
      rw [C, if_pos rfl]
      exact cnt0_ltk (fun k t => grow _ k t) (self _) nb 32 (by omega)
    have M : MhC S34 p < MhC S p := by
      unfold MhC
      rw [nn]
      omega
    refine ⟨⟨f, fun i k t => ?_, fun i k t => ?_, fun i k t => ?_, fun i k t => ?_, fun i t => by rw [X]; exact t, fun t => ?_, by omega, fun _ _ => M⟩, fun _ _ _ _ _ => by rw [C, if_pos rfl]; exact self _⟩
    · rw [C]
      by_cases s : i = x.toInt.toNat
      · rw [if_pos s]; rw [s] at t; exact grow _ k t
      · rw [if_neg s]; exact t
    · rw [W]
      by_cases s : i = x.toInt.toNat
      · rw [if_pos s]; rw [s] at t; exact grow _ k t
      · rw [if_neg s]; exact t
    · rw [C] at t
      by_cases s : i = x.toInt.toNat
      · rw [if_pos s] at t
        rcases only _ k t with m | m
        · rw [s]; exact Or.inl m
        · refine Or.inr ⟨by omega, ?_⟩
          rw [W, if_pos s, m]
          exact self _
      · rw [if_neg s] at t; exact Or.inl t
    · rw [W] at t
      by_cases s : i = x.toInt.toNat
      · rw [if_pos s] at t
        rcases only _ k t with m | m
        · rw [s]; exact Or.inl m
        · exact Or.inr (by omega)
      · rw [if_neg s] at t; exact Or.inl t
    · rw [E6] at t
      exact absurd t (by decide)
  · by_cases m : btk (qI S (qO S p 0) x.toInt.toNat) y.toInt.toNat = true
    · exact m
    · exact absurd (T.mpr m) z
end HS
/-! Heights: what an instruction sends on -/
theorem c_lo4 {x : Int32} (h : 0 ≤ x.toInt) : (x &&& (15 : Int32)).toInt = x.toInt % 16 := by
  have r := rgI x
  have ex : x = nI x.toInt.toNat := by
    apply Int32.toInt_inj.mp
    rw [nI_toInt (by omega)]
    omega
  have e := pk_andN (n := x.toInt.toNat) (by omega) (m := 15) 4 (by decide)
  rw [← ex] at e
  rw [e, nI_toInt (by omega)]
  omega
/-- how many places kinds are -/
def plA : Nat → Int → Int
  | 0, _ => 0
  | n + 1, v => if v ≤ 0 then 0 else (if v % 16 = 2 then 2 else 1) + plA n (v / 16)
def plK (x : Int32) : Int := plA 8 x.toInt
theorem plA_b : ∀ (n : Nat) (v : Int), 0 ≤ plA n v ∧ plA n v ≤ 2 * n := by
  intro n
  induction n with
  | zero => intro v; unfold plA; omega
  | succ n ih =>
    intro v
    have z := ih (v / 16)
    unfold plA
    split
    · omega
    · split <;> omega
theorem plK_b (x : Int32) : 0 ≤ plK x ∧ plK x ≤ 16 := by
  have z := plA_b 8 x.toInt
  unfold plK
  omega
theorem ct_plL {Q : Int32 → MS → Prop} {U : MS} : ∀ (n k : Nat) (a r : Int32), r.toInt < (16 : Int) ^ k → 0 ≤ a.toInt → a.toInt + 2 * k ≤ 1000 → w_X6_placesOf_L4 Q n U a r → w_X6_placesOf_L4 (fun z u => Q z u ∧ u = U ∧ z.toInt = a.toInt + plA k r.toInt) n U a r := by
  intro n
  induction n with
  | zero => intro k a r _ _ _ h; exact h
  | succ n ih =>
    intro k a r hr a0 a1 h
    unfold w_X6_placesOf_L4 at h ⊢
    intro w
    obtain ⟨h1, h2⟩ := h w
    refine ⟨fun c => ⟨h1 c, rfl, ?_⟩, fun c => ?_⟩
    · cases k with
      | zero => unfold plA; omega
      | succ k => unfold plA; rw [if_pos c]; omega
    · cases k with
      | zero => exact absurd hr (by rw [Int.pow_zero]; omega)
      | succ k =>
        obtain ⟨h3, h4⟩ := h2 c
        have lo := c_lo4 (x := r) (by omega)
        have hs : (r >>> ((4 : Int32) &&& 31)).toInt = r.toInt / 16 := c_shr4
        have hd : (r >>> ((4 : Int32) &&& 31)).toInt < (16 : Int) ^ k := by
          rw [hs]
          rw [Int.pow_succ] at hr
          omega
        have go : ∀ t : Int32, t.toInt = (if r.toInt % 16 = 2 then 2 else 1) → w_X6_placesOf_J22 Q (w_X6_placesOf_L4 Q n) U t a r → w_X6_placesOf_J22 (fun z u => Q z u ∧ u = U ∧ z.toInt = a.toInt + plA (k + 1) r.toInt) (w_X6_placesOf_L4 (fun z u => Q z u ∧ u = U ∧ z.toInt = a.toInt + plA (k + 1) r.toInt) n) U t a r := fun t et hj => by
          have tb : 1 ≤ t.toInt ∧ t.toInt ≤ 2 := by rw [et]; split <;> omega
          unfold w_X6_placesOf_J22 at hj ⊢
          intro w2 a4 e4 a6 e6
          have h9 := hj w2 a4 e4 a6 e6
          subst e6
          have ea : a4.toInt = a.toInt + t.toInt := by rw [e4, t_addk (by omega)]
          have z := ih k a4 _ hd (by omega) (by omega) h9
          have eq : a4.toInt + plA k (r >>> ((4 : Int32) &&& 31)).toInt = a.toInt + plA (k + 1) r.toInt := by
            show _ = a.toInt + (if r.toInt ≤ 0 then 0 else (if r.toInt % 16 = 2 then 2 else 1) + plA k (r.toInt / 16))
            rw [if_neg c, hs, ea, et]
            omega
          rw [eq] at z
          exact z
        exact ⟨fun d => go 2 (by rw [if_pos (by omega)]; rfl) (h3 d), fun d => go 1 (by rw [if_neg (by omega)]; rfl) (h4 d)⟩
theorem ct_places {S : MS} {x : Int32} {Q : Int32 → MS → Prop} (h : wX6_placesOf S x Q) : wX6_placesOf S x (fun z u => Q z u ∧ u = S ∧ z.toInt = plK x) := by
  obtain ⟨n, h⟩ := h
  have rx := rgI x
  have p16 : (16 : Int) ^ 8 = 4294967296 := by decide
  have z := ct_plL n 8 0 x (by rw [p16]; omega) (by rw [li_0k]; omega) (by rw [li_0k]; omega) h
  have e : (0 : Int32).toInt + plA 8 x.toInt = plK x := by rw [li_0k]; unfold plK; omega
  rw [e] at z
  exact ⟨n, z⟩
/-- how many places an instruction gives -/
def pgV (S : MS) (q r : Nat) (x : Int32) : Int := if (fX8_opAt S r x).toInt = 89 ∨ (fX8_opAt S r x).toInt = 95 then 2 else if (fX8_opAt S r x).toInt = 90 then 3 else if (fX8_opAt S r x).toInt = 92 then 4 else plK (fX10_gives S q r x)
theorem pgV_b {S : MS} {q r : Nat} {x : Int32} : 0 ≤ pgV S q r x ∧ pgV S q r x ≤ 16 := by
  have z := plK_b (fX10_gives S q r x)
  unfold pgV
  repeat' split
  all_goals omega
theorem ct_pgiven {S : MS} {q r : Nat} {x : Int32} {Q : Int32 → MS → Prop} (h : wX10_placesGiven S q r x Q) : wX10_placesGiven S q r x (fun z u => Q z u ∧ u = S ∧ z.toInt = pgV S q r x) := by
  have l2 : (2 : Int32).toInt = 2 := by decide
  have l3 : (3 : Int32).toInt = 3 := by decide
  have l4 : (4 : Int32).toInt = 4 := by decide
  unfold wX10_placesGiven at h ⊢
  obtain ⟨d, h⟩ := h
  refine ⟨d, fun a e => ?_⟩
  obtain ⟨h1, h2⟩ := h a e
  subst e
  have J : ¬ (fX8_opAt S r x).toInt = 89 → ¬ (fX8_opAt S r x).toInt = 95 → ¬ (fX8_opAt S r x).toInt = 90 → ¬ (fX8_opAt S r x).toInt = 92 → w_X10_placesGiven_J54 Q S q r x → w_X10_placesGiven_J54 (fun z u => Q z u ∧ u = S ∧ z.toInt = pgV S q r x) S q r x := fun n1 n2 n3 n4 hj => by
    unfold w_X10_placesGiven_J54 at hj ⊢
    intro w k1 k2
    obtain ⟨d2, hj⟩ := hj w k1 k2
    refine ⟨d2, fun a8 e8 => ?_⟩
    obtain ⟨Q9, p9, h9⟩ := hj a8 e8
    refine ⟨_, ct_places p9, fun z u g wu sy => ⟨h9 z u g.1 wu sy, g.2.1, ?_⟩⟩
    rw [g.2.2, e8]
    unfold pgV
    rw [if_neg (by omega), if_neg n3, if_neg n4]
  refine ⟨fun c => ⟨h1 c, rfl, by unfold pgV; rw [if_pos (Or.inl c)]; exact l2⟩, fun c => ?_⟩
  obtain ⟨h1, h2⟩ := h2 c
  refine ⟨fun c2 => ⟨h1 c2, rfl, by unfold pgV; rw [if_neg (by omega), if_pos c2]; exact l3⟩, fun c2 => ?_⟩
  obtain ⟨h1, h2⟩ := h2 c2
  refine ⟨fun c3 => J c (by omega) c2 (by omega) (h1 c3), fun c3 => ?_⟩
  obtain ⟨h1, h2⟩ := h2 c3
  refine ⟨fun c4 => ⟨h1 c4, rfl, by unfold pgV; rw [if_neg (by omega), if_neg c2, if_pos c4]; exact l4⟩, fun c4 => ?_⟩
  obtain ⟨h1, h2⟩ := h2 c4
  refine ⟨fun c5 => J c (by omega) c2 c4 (h1 c5), fun c5 => ?_⟩
  obtain ⟨h1, h2⟩ := h2 c5
  refine ⟨fun c6 => J c (by omega) c2 c4 (h1 c6), fun c6 => ?_⟩
  obtain ⟨h1, h2⟩ := h2 c6
  exact ⟨fun c7 => ⟨h1 c7, rfl, by unfold pgV; rw [if_pos (Or.inr c7)]; exact l2⟩, fun c7 => J c c7 c2 c4 (h2 c7)⟩
theorem ct_caL {S : MS} {r : Nat} {x : Int32} {Q : Int32 → MS → Prop} (hn : (qI S r 9).toInt ≤ 1000) : ∀ (n : Nat) (c : Int32), 0 ≤ c.toInt → (∀ d : Int32, 0 ≤ d.toInt → d.toInt < c.toInt → (fX8_catchHas S r d x).toInt = 0) → w_X8_isCaught_L2 Q n S r x c → w_X8_isCaught_L2 (fun z u => Q z u ∧ u = S ∧ (z.toInt = 0 → ∀ d : Int32, 0 ≤ d.toInt → d.toInt < (qI S r 9).toInt → (fX8_catchHas S r d x).toInt = 0)) n S r x c := by
  intro n
  induction n with
  | zero => intro c _ _ h; exact h
  | succ n ih =>
    intro c c0 hc h
    unfold w_X8_isCaught_L2 at h ⊢
    intro w k
    obtain ⟨h1, h2⟩ := h w k
    refine ⟨fun z => ⟨h1 z, rfl, fun _ d d0 d1 => hc d d0 (by omega)⟩, fun z => ?_⟩
    obtain ⟨e, h3, h4⟩ := h2 z
    refine ⟨e, fun y a ea => ?_, fun y => ⟨h4 y, rfl, fun q => absurd q (by decide)⟩⟩
    have h9 := h3 y a ea
    have ec : a.toInt = c.toInt + 1 := by rw [ea, t_addk (by rw [lo_1k]; omega), lo_1k]
    refine ih a (by omega) (fun d d0 d1 => ?_) h9
    by_cases q : d.toInt < c.toInt
    · exact hc d d0 q
    · have : d = c := Int32.toInt_inj.mp (by omega)
      rw [this]; exact y
theorem ct_caught {S : MS} {r : Nat} {x : Int32} {Q : Int32 → MS → Prop} (hn : (qI S r 9).toInt ≤ 1000) (h : wX8_isCaught S r x Q) : wX8_isCaught S r x (fun z u => Q z u ∧ u = S ∧ (z.toInt = 0 → ∀ d : Int32, 0 ≤ d.toInt → d.toInt < (qI S r 9).toInt → (fX8_catchHas S r d x).toInt = 0)) := by
  obtain ⟨n, h⟩ := h
  exact ⟨n, ct_caL hn n 0 (by rw [li_0k]; omega) (fun d d0 d1 => by rw [li_0k] at d1; omega) h⟩
/-- the kinds of Unit q as they were -/
def uC (S u : MS) (q : Nat) : Prop := (qO u q 7 = qO S q 7 ∧ qO u q 11 = qO S q 11 ∧ qO u q 12 = qO S q 12) ∧ (qI u (qO S q 7) = qI S (qO S q 7) ∧ qI u (qO S q 11) = qI S (qO S q 11) ∧ qI u (qO S q 12) = qI S (qO S q 12)) ∧ qN u (qO S q 7) = qN S (qO S q 7) ∧ qN u (qO S q 11) = qN S (qO S q 11) ∧ qN u (qO S q 12) = qN S (qO S q 12)
section SPR
variable {B : Nat × Nat} {K : List Nat} {F : List (Nat × Nat)} {S u v U V A : MS} {p q r i j : Nat} {x y : Int32} {lim : Int}
theorem uC.rf : uC S S q := ⟨⟨rfl, rfl, rfl⟩, ⟨rfl, rfl, rfl⟩, rfl, rfl, rfl⟩
theorem uC.tr (h : uC S u q) (k : uC u v q) : uC S v q := by
  obtain ⟨⟨a1, a2, a3⟩, ⟨b1, b2, b3⟩, c1, c2, c3⟩ := h
  obtain ⟨⟨d1, d2, d3⟩, ⟨e1, e2, e3⟩, f1, f2, f3⟩ := k
  rw [a1] at e1 f1
  rw [a2] at e2 f2
  rw [a3] at e3 f3
  exact ⟨⟨d1.trans a1, d2.trans a2, d3.trans a3⟩, ⟨e1.trans b1, e2.trans b2, e3.trans b3⟩, f1.trans c1, f2.trans c2, f3.trans c3⟩
theorem uC.fk (h : uC S u q) : fX10_kindOfField u q x = fX10_kindOfField S q x ∧ fX10_takesOfMethod u q x = fX10_takesOfMethod S q x ∧ fX10_givesOfMethod u q x = fX10_givesOfMethod S q x := by
  obtain ⟨⟨a1, a2, a3⟩, ⟨b1, b2, b3⟩, c1, c2, c3⟩ := h
  unfold fX10_kindOfField fX10_takesOfMethod fX10_givesOfMethod
  rw [a1, a2, a3, b1, b2, b3, c1, c2, c3]
  exact ⟨rfl, rfl, rfl⟩
theorem rC.ar (h : rC S u r) : fX8_argAt u r x = fX8_argAt S r x := by
  have s := h.1
  unfold fX8_argAt
  rw [s.1.1, s.2.1.2.1, s.2.2.2.1]
  rfl
theorem uC.tk (h : uC S u q) (k : rC S u r) : fX10_takes u q r x = fX10_takes S q r x ∧ fX10_gives u q r x = fX10_gives S q r x := by
  unfold fX10_takes fX10_gives
  rw [k.op, k.ar, h.fk.1, h.fk.2.1, h.fk.2.2]
  exact ⟨rfl, rfl⟩
/-- lists that leave Rows and Units alone -/
def LRU : List Nat := [47, 49, 222, 406, 223, 224, 225, 226, 227, 233, 236, 237]
def okRU (K : List Nat) (F : List (Nat × Nat)) : Bool := K.all (fun x => !LRU.contains x) && F.all (fun x => !(x.1 == 47) && !(x.1 == 49) && Nat.ble x.1 99)
theorem okRU_k {t : Nat} (h : okRU K F = true) (m : LRU.contains t = true) : K.contains t = false := by
  unfold okRU at h
  rw [Bool.and_eq_true] at h
  cases e : K.contains t with
  | false => rfl
  | true =>
    have := List.all_eq_true.mp h.1 _ (List.contains_iff_mem.mp e)
    rw [m] at this
    cases this
theorem okRU_f {t : Nat} (h : okRU K F = true) (m : t = 47 ∨ t = 49 ∨ 100 ≤ t) : F.contains (t, j) = false := by
  unfold okRU at h
  rw [Bool.and_eq_true] at h
  cases e : F.contains (t, j) with
  | false => rfl
  | true =>
    have z := List.all_eq_true.mp h.2 _ (List.contains_iff_mem.mp e)
    rw [Bool.and_eq_true, Bool.and_eq_true] at z
    have z3 := Nat.le_of_ble_eq_true z.2
    have z1 := z.1.1
    have z2 := z.1.2
    simp only at z1 z2 z3
    rcases m with m | m | m
    · rw [m] at z1; cases z1
    · rw [m] at z2; cases z2
    · omega
theorem rC.fx (w : wfC S) (k : qT S r = 47) (R : RwK S r) (f : cfr K F S u) (h : okRU K F = true) : rC S u r ∧ qT u r = 47 ∧ RwK u r := by
  have g : ∀ j, qI u r j = qI S r j ∧ qR u r j = qR S r j := fun j => by
    have := f.2.2 r j (by rw [k]; decide) (by rw [k]; exact okRU_k h (by decide)) (by rw [k]; exact okRU_f h (Or.inl rfl))
    exact ⟨this.1, this.2.2⟩
  have a : ∀ {b t : Nat}, qT S b = t → 100 ≤ t → LRU.contains t = true → qI u b = qI S b ∧ qJ u b = qJ S b := fun {b t} e h1 m => by
    exact ⟨funext fun j => (f.2.2 b j (by rw [e]; omega) (by rw [e]; exact okRU_k h m) (by rw [e]; exact okRU_f h (Or.inr (Or.inr h1)))).1, funext fun j => (f.2.2 b j (by rw [e]; omega) (by rw [e]; exact okRU_k h m) (by rw [e]; exact okRU_f h (Or.inr (Or.inr h1)))).2.1⟩
  obtain ⟨e0, e1, e3, e5, e6, e7, e8⟩ := R.1
  refine ⟨⟨⟨⟨(g 2).1, (g 4).1⟩, ⟨qO_eq (g 0).2, qO_eq (g 1).2, qO_eq (g 3).2⟩, ?_, ?_, ?_⟩, (g 9).1, ⟨qO_eq (g 5).2, qO_eq (g 6).2, qO_eq (g 7).2⟩, ?_, ?_, ?_⟩, f.1.T k (by decide), R.mv w f.1 (fun j _ => (g j).1) (fun j _ => (g j).2)⟩
  · exact (a (w.ref e0 k : qT S (qO S r 0) = 222) (by decide) (by decide)).1
  · exact (a (w.ref e1 k : qT S (qO S r 1) = 406) (by decide) (by decide)).2
  · exact (a (w.ref e3 k : qT S (qO S r 3) = 223) (by decide) (by decide)).1
  · exact (a (w.ref e5 k : qT S (qO S r 5) = 224) (by decide) (by decide)).1
  · exact (a (w.ref e6 k : qT S (qO S r 6) = 225) (by decide) (by decide)).1
  · exact (a (w.ref e7 k : qT S (qO S r 7) = 226) (by decide) (by decide)).1
theorem uC.fr (w : wfC S) (k : qT S q = 49) (R : UnK S q) (f : cfr K F S u) (h : okRU K F = true) : uC S u q ∧ qT u q = 49 ∧ UnK u q := by
  have g : ∀ j, qI u q j = qI S q j ∧ qR u q j = qR S q j := fun j => by
    have := f.2.2 q j (by rw [k]; decide) (by rw [k]; exact okRU_k h (by decide)) (by rw [k]; exact okRU_f h (Or.inr (Or.inl rfl)))
    exact ⟨this.1, this.2.2⟩
  have a : ∀ {b t : Nat}, qT S b = t → 100 ≤ t → LRU.contains t = true → qI u b = qI S b ∧ qN u b = qN S b := fun {b t} e h1 m => by
    exact ⟨funext fun j => (f.2.2 b j (by rw [e]; omega) (by rw [e]; exact okRU_k h m) (by rw [e]; exact okRU_f h (Or.inr (Or.inr h1)))).1, (f.1.1 b (by rw [e]; omega)).2⟩
  have t7 : qT S (qO S q 7) = 233 := w.ref R.1.2.2.2.1 k
  have t11 : qT S (qO S q 11) = 236 := w.ref R.1.2.2.2.2.2.2.1 k
  have t12 : qT S (qO S q 12) = 237 := w.ref R.1.2.2.2.2.2.2.2.1 k
  have a7 := a t7 (by decide) (by decide)
  have a11 := a t11 (by decide) (by decide)
  have a12 := a t12 (by decide) (by decide)
  exact ⟨⟨⟨qO_eq (g 7).2, qO_eq (g 11).2, qO_eq (g 12).2⟩, ⟨a7.1, a11.1, a12.1⟩, a7.2, a11.2, a12.2⟩, f.1.T k (by decide), R.mv w f.1 (fun j _ => (g j).1) (fun j _ => (g j).2)⟩
/-- Heights at work on Row r of Unit q, as they were in S -/
def HsB (S U : MS) (p q r : Nat) (lim : Int) : Prop := (qT U p = 44 ∧ HtK U p) ∧ (qR U p 3 = some q ∧ qR U p 4 = some r ∧ (qI U p 5).toInt = lim) ∧ (rC S U r ∧ qT U r = 47 ∧ RwK U r) ∧ (uC S U q ∧ qT U q = 49 ∧ UnK U q) ∧ nR S r ≤ (qN U (qO U p 0) : Int)
theorem HsB.fr (b : HsB S U p q r lim) (w : wfC U) (f : cfr [213, 214, 304] [(44, 6), (44, 7)] U u) : HsB S u p q r lim := by
  obtain ⟨⟨k, H⟩, ⟨e3, e4, e5⟩, ⟨c, kr, R⟩, ⟨d, kq, UK⟩, n⟩ := b
  have g : ∀ j, j ≠ 6 → j ≠ 7 → qI u p j = qI U p j ∧ qR u p j = qR U p j := fun j h6 h7 => by
    have hF : ([(44, 6), (44, 7)] : List (Nat × Nat)).contains (44, j) = false := by
      rw [Bool.eq_false_iff]
      intro z
      have := List.contains_iff_mem.mp z
      simp at this
      omega
    have := f.2.2 p j (by rw [k]; decide) (by rw [k]; decide) (by rw [k]; exact hF)
    exact ⟨this.1, this.2.2⟩
  have o0 := qO_eq (g 0 (by decide) (by decide)).2
  have o1 := qO_eq (g 1 (by decide) (by decide)).2
  have o2 := qO_eq (g 2 (by decide) (by decide)).2
  have l0 : qN u (qO U p 0) = qN U (qO U p 0) := (f.1.1 _ (by rw [(w.ref H.1.1 k : qT U (qO U p 0) = 213)]; decide)).2
  have l1 : qN u (qO U p 1) = qN U (qO U p 1) := (f.1.1 _ (by rw [(w.ref H.1.2.1 k : qT U (qO U p 1) = 214)]; decide)).2
  have l2 : qN u (qO U p 2) = qN U (qO U p 2) := (f.1.1 _ (by rw [(w.ref H.1.2.2 k : qT U (qO U p 2) = 304)]; decide)).2
  have rr := rC.fx w kr R f (by decide)
  have uu := uC.fr w kq UK f (by decide)
  refine ⟨⟨f.1.T k (by decide), ⟨?_, ?_, ?_⟩, ?_, ?_⟩, ⟨by rw [(g 3 (by decide) (by decide)).2]; exact e3, by rw [(g 4 (by decide) (by decide)).2]; exact e4, by rw [(g 5 (by decide) (by decide)).1]; exact e5⟩, ⟨c.tr rr.1, rr.2⟩, ⟨d.tr uu.1, uu.2⟩, by rw [o0, l0]; exact n⟩
  · rw [o0, (g 0 (by decide) (by decide)).2]; exact H.1.1
  · rw [o1, (g 1 (by decide) (by decide)).2]; exact H.1.2.1
  · rw [o2, (g 2 (by decide) (by decide)).2]; exact H.1.2.2
  · rw [o0, o1, l0, l1]; exact H.2.1
  · rw [o0, o2, l0, l2]; exact H.2.2
theorem HsB.ht (b : HsB S U p q r lim) (w : wfC U) (h : HtR p U u) : HsB S u p q r lim := b.fr w h.1
theorem HsB.o (b : HsB S U p q r lim) : qO U p 3 = q ∧ qO U p 4 = r := by
  unfold qO
  rw [b.2.1.1, b.2.1.2.1]
  exact ⟨rfl, rfl⟩
def ndW (S : MS) (q r : Nat) (x : Int32) : Int := plK (fX10_takes S q r x)
def lfV (S : MS) (q r : Nat) (x : Int32) (h : Int) : Int := h - ndW S q r x + pgV S q r x
def ClG (S u : MS) (p q r : Nat) (x : Int32) (h : Int) : Prop := ¬ (fX6_goesOn S (fX8_opAt S r x)).toInt = 0 → (x + 1).toInt < nR S r ∧ btk (hC u p (x + 1).toInt.toNat) (lfV S q r x h).toNat = true
def ClTk (S u : MS) (p q r : Nat) (x : Int32) (h m : Int) : Prop := ∀ j : Int32, 0 ≤ j.toInt → j.toInt < m → 0 ≤ (fX8_targetAt S r x j).toInt → (fX8_targetAt S r x j).toInt < nR S r → btk (hC u p (fX8_targetAt S r x j).toInt.toNat) (lfV S q r x h).toNat = true
def ClK (S u : MS) (p r : Nat) (x : Int32) (m : Int) : Prop := ∀ c : Int32, 0 ≤ c.toInt → c.toInt < m → c.toInt < (qI S r 9).toInt → ¬ (fX8_catchHas S r c x).toInt = 0 → 0 ≤ (qI S (qO S r 7) c.toInt.toNat).toInt → (qI S (qO S r 7) c.toInt.toNat).toInt < nR S r → btk (hC u p (qI S (qO S r 7) c.toInt.toNat).toInt.toNat) 1 = true
/-- what comes from instruction x at height h has come on -/
def ClS (S u : MS) (p q r : Nat) (lim : Int) (x : Int32) (h : Int) : Prop := (ndW S q r x ≤ h ∧ lfV S q r x h ≤ lim) ∧ ClG S u p q r x h ∧ ClTk S u p q r x h (fX8_targetCount S r x).toInt ∧ ClK S u p r x (qI S r 9).toInt
theorem ClG.mo {h : Int} (g : ClG S U p q r x h) (m : ∀ i k : Nat, btk (hC U p i) k = true → btk (hC u p i) k = true) : ClG S u p q r x h := fun a => ⟨(g a).1, m _ _ (g a).2⟩
theorem ClTk.mo {h n : Int} (g : ClTk S U p q r x h n) (m : ∀ i k : Nat, btk (hC U p i) k = true → btk (hC u p i) k = true) : ClTk S u p q r x h n := fun j a b c d => m _ _ (g j a b c d)
theorem ClK.mo {n : Int} (g : ClK S U p r x n) (m : ∀ i k : Nat, btk (hC U p i) k = true → btk (hC u p i) k = true) : ClK S u p r x n := fun j a b c d e f => m _ _ (g j a b c d e f)
theorem ClS.mo {h : Int} (g : ClS S U p q r lim x h) (m : ∀ i k : Nat, btk (hC U p i) k = true → btk (hC u p i) k = true) : ClS S u p q r lim x h := ⟨g.1, g.2.1.mo m, g.2.2.1.mo m, g.2.2.2.mo m⟩
end SPR
/-! Heights: spread -/
section SPQ
variable {S u v U V A : MS} {p q r i j : Nat} {x y : Int32} {lim : Int} {Q : MS → Prop}
theorem HtR.qt (b : HsB S U p q r lim) (w : wfC U) (f : cfr [] [(44, 7)] U u) : HtR p U u := by
  have o4 := b.o.2
  obtain ⟨⟨k, H⟩, -, ⟨-, kr, -⟩, -, -⟩ := b
  have o0 : qO u p 0 = qO U p 0 := qO_eq (f.kO k (by decide) (by decide))
  have o1 : qO u p 1 = qO U p 1 := qO_eq (f.kO k (by decide) (by decide))
  have o2 : qO u p 2 = qO U p 2 := qO_eq (f.kO k (by decide) (by decide))
  have o5 : qO u p 4 = qO U p 4 := qO_eq (f.kO k (by decide) (by decide))
  have c : ∀ i, hC u p i = hC U p i := fun i => by unfold hC; rw [o0]; exact f.kI (w.ref H.1.1 k : qT U (qO U p 0) = 213) (by decide) rfl
  have d : ∀ i, hW u p i = hW U p i := fun i => by unfold hW; rw [o1]; exact f.kI (w.ref H.1.2.1 k : qT U (qO U p 1) = 214) (by decide) rfl
  have e : ∀ i, hX u p i = hX U p i := fun i => by unfold hX; rw [o2]; exact f.kI (w.ref H.1.2.2 k : qT U (qO U p 2) = 304) (by decide) rfl
  have e6 : qI u p 6 = qI U p 6 := f.kI k (by decide) rfl
  have m : MhC u p = MhC U p := by
    unfold MhC nR
    rw [o5, o4, f.kI kr (by decide) rfl]
    exact sumN_eqk _ (fun j _ => by show cnt0k (hC u p j) 32 = _; rw [c])
  refine ⟨f.mo rfl rfl, fun i k h => by rw [c]; exact h, fun i k h => by rw [d]; exact h, fun i k h => by rw [c] at h; exact Or.inl h, fun i k h => by rw [d] at h; exact Or.inl h, fun i h => by rw [e]; exact h, fun h => by rw [e6] at h; exact ⟨h, d⟩, by omega, fun h1 h2 => by rw [e6] at h2; exact absurd h1 h2⟩
theorem HtR.wx {a : Int32} (b : HsB S U p q r lim) (w : wfC U) (e : u = wI U (qO U p 2) i a) (ha : ¬ a.toInt = 0) : HtR p U u ∧ ¬ (hX u p i).toInt = 0 := by
  have o4 := b.o.2
  obtain ⟨⟨k, H⟩, -, ⟨-, kr, -⟩, -, -⟩ := b
  have k0 : qT U (qO U p 0) = 213 := w.ref H.1.1 k
  have k1 : qT U (qO U p 1) = 214 := w.ref H.1.2.1 k
  have k2 : qT U (qO U p 2) = 304 := w.ref H.1.2.2 k
  have f : cfr [304] [] U u := by rw [e]; exact cfr.aI k2 rfl
  have o : ∀ j, qO u p j = qO U p j := fun j => by rw [e]; rfl
  have c : ∀ i, hC u p i = hC U p i := fun i => by unfold hC; rw [o]; exact f.kI k0 (by decide) rfl
  have d : ∀ i, hW u p i = hW U p i := fun i => by unfold hW; rw [o]; exact f.kI k1 (by decide) rfl
  have z : ∀ j, hX u p j = if j = i then a else hX U p j := fun j => by
    unfold hX
    rw [o, e, qI_wI]
    by_cases t : j = i
    · rw [if_pos ⟨rfl, t⟩, if_pos t]
    · rw [if_neg (fun s => t s.2), if_neg t]
  have e6 : qI u p 6 = qI U p 6 := f.kI k (by decide) rfl
  have m : MhC u p = MhC U p := by
    unfold MhC nR
    rw [o, o4, f.kI kr (by decide) rfl]
    exact sumN_eqk _ (fun j _ => by show cnt0k (hC u p j) 32 = _; rw [c])
  refine ⟨⟨f.mo rfl rfl, fun i k h => by rw [c]; exact h, fun i k h => by rw [d]; exact h, fun i k h => by rw [c] at h; exact Or.inl h, fun i k h => by rw [d] at h; exact Or.inl h, fun j h => ?_, fun h => by rw [e6] at h; exact ⟨h, d⟩, by omega, fun h1 h2 => by rw [e6] at h2; exact absurd h1 h2⟩, by rw [z, if_pos rfl]; exact ha⟩
  rw [z]
  by_cases t : j = i
  · rw [if_pos t]; exact ha
  · rw [if_neg t]; exact h
/-- what spread leaves -/
def SpQ (S A : MS) (p q r : Nat) (lim : Int) (x : Int32) (h : Int) (u : MS) : Prop := HtR p A u ∧ (¬ (hX u p x.toInt.toNat).toInt = 0 ∨ ClS S u p q r lim x h)
theorem ct_sp195 {h : Int} (hn : ndW S q r x ≤ h ∧ lfV S q r x h ≤ lim) {v5 : Int32} (hno : v5.toInt = 0 → ∀ d : Int32, 0 ≤ d.toInt → d.toInt < (qI S r 9).toInt → (fX8_catchHas S r d x).toInt = 0) : ∀ (n : Nat) {U : MS} {v8 : Int32}, HsB S U p q r lim → HtR p A U → ClG S U p q r x h → ClTk S U p q r x h (fX8_targetCount S r x).toInt → ClK S U p r x v8.toInt → 0 ≤ v8.toInt → w_X4_spread_L195 Q n U p x v5 v8 → w_X4_spread_L195 (fun u => Q u ∧ SpQ S A p q r lim x h u) n U p x v5 v8 := by
  intro n
  induction n with
  | zero => intro U v8 _ _ _ _ _ _ h; exact h
  | succ n ih =>
    intro U v8 b ht g t kc v0 hh
    have o4 := b.o.2
    have c := b.2.2.1.1
    have R := b.2.2.1.2.2
    unfold w_X4_spread_L195 at hh ⊢
    intro w k hv
    obtain ⟨h1, h2⟩ := hh w k hv
    rw [o4] at h2 ⊢
    refine ⟨fun z => ⟨h1 z, ht, Or.inr ⟨hn, g, t, fun d a _ e f => absurd (hno z d a e) f⟩⟩, fun z => ?_⟩
    obtain ⟨e4, h3, h4⟩ := h2 z
    have e9 : qI U r 9 = qI S r 9 := c.2.1
    refine ⟨e4, fun d => ⟨h3 d, ht, Or.inr ⟨hn, g, t, fun d' a b' e f => kc d' a (by rw [e9] at d; omega) e f⟩⟩, fun d => ?_⟩
    obtain ⟨e4', dh, h5⟩ := h4 d
    refine ⟨e4', dh, fun a65 e65 => ?_⟩
    obtain ⟨h6, h7⟩ := h5 a65 e65
    have eh : fX8_catchHas U r v8 x = fX8_catchHas S r v8 x := c.ch
    have r9 : (qI U r 9).toInt ≤ 16 := by have := R.2; omega
    have J : ∀ V : MS, HsB S V p q r lim → HtR p A V → ClG S V p q r x h → ClTk S V p q r x h (fX8_targetCount S r x).toInt → ClK S V p r x (v8.toInt + 1) → w_X4_spread_J240 Q (w_X4_spread_L195 Q n) V p x v5 v8 → w_X4_spread_J240 (fun u => Q u ∧ SpQ S A p q r lim x h u) (w_X4_spread_L195 (fun u => Q u ∧ SpQ S A p q r lim x h u) n) V p x v5 v8 := fun V bV hV gV tV kV hj => by
      unfold w_X4_spread_J240 at hj ⊢
      intro w k hv a66 e66
      have ea : a66.toInt = v8.toInt + 1 := by rw [e66, t_addk (by rw [lo_1k]; omega), lo_1k]
      exact ih bV hV gV tV (by rw [ea]; exact kV) (by omega) (hj w k hv a66 e66)
    have old : ∀ V : MS, (∀ i k : Nat, btk (hC U p i) k = true → btk (hC V p i) k = true) → (¬ (fX8_catchHas S r v8 x).toInt = 0 → 0 ≤ (qI S (qO S r 7) v8.toInt.toNat).toInt → (qI S (qO S r 7) v8.toInt.toNat).toInt < nR S r → btk (hC V p (qI S (qO S r 7) v8.toInt.toNat).toInt.toNat) 1 = true) → ClK S V p r x (v8.toInt + 1) := fun V m hz d a b' e f g' l => by
      by_cases s : d.toInt < v8.toInt
      · exact m _ _ (kc d a s e f g' l)
      · have : d = v8 := Int32.toInt_inj.mp (by omega)
        subst this
        exact hz f g' l
    refine ⟨fun z => J U b ht g t (old U (fun _ _ h => h) (fun f => absurd (by rw [← eh, ← e65]; exact z) f)) (h6 z), fun z => ?_⟩
    obtain ⟨f4, f7, fb, h8⟩ := h7 z
    refine ⟨f4, f7, fb, fun kk => ?_⟩
    obtain ⟨Q74, p74, h74⟩ := h8 kk
    refine ⟨_, ct_hcome w k b.1.2 p74, ?_⟩
    rintro u ⟨gq, hu, hbit⟩ wu su
    refine J u (b.ht w hu) (ht.tr hu) (g.mo hu.2.1) (t.mo hu.2.1) (old u hu.2.1 (fun _ f g' => ?_)) (h74 u gq wu su)
    have e7 : qI U (qO U r 7) v8.toInt.toNat = qI S (qO S r 7) v8.toInt.toNat := by rw [c.2.2.1.2.2, c.2.2.2.2.2]
    rw [e7, o4, c.nE] at hbit
    have l1 : (1 : Int32).toInt = 1 := by decide
    have := hbit f g' (by have := b.2.2.2.2; omega) (by decide) (by decide)
    rw [l1] at this
    exact this
theorem ct_sp163 {h : Int} (hn : ndW S q r x ≤ h ∧ lfV S q r x h ≤ lim) (hl : lim ≤ 30) {v4 v5 v7 : Int32} (e4 : v4.toInt = lfV S q r x h) (e7 : v7 = fX8_targetCount S r x) (l0 : 0 ≤ lfV S q r x h) (hc7 : v7.toInt ≤ 100000) (hno : v5.toInt = 0 → ∀ d : Int32, 0 ≤ d.toInt → d.toInt < (qI S r 9).toInt → (fX8_catchHas S r d x).toInt = 0) : ∀ (n : Nat) {U : MS} {v8 : Int32}, HsB S U p q r lim → HtR p A U → ClG S U p q r x h → ClTk S U p q r x h v8.toInt → 0 ≤ v8.toInt → w_X4_spread_L163 Q n U p x v4 v5 v7 v8 → w_X4_spread_L163 (fun u => Q u ∧ SpQ S A p q r lim x h u) n U p x v4 v5 v7 v8 := by
  intro n
  induction n with
  | zero => intro U v8 _ _ _ _ _ h; exact h
  | succ n ih =>
    intro U v8 b ht g t v0 hh
    have o4 := b.o.2
    have c := b.2.2.1.1
    unfold w_X4_spread_L163 at hh ⊢
    intro w k hv
    obtain ⟨h1, h2⟩ := hh w k hv
    refine ⟨fun z => ?_, fun z => ?_⟩
    · obtain ⟨m, hm⟩ := h1 z
      refine ⟨m, ct_sp195 hn hno m b ht g (fun d a b' => t d a (by rw [e7] at z; omega)) (fun d a b' => by rw [li_0k] at b'; omega) (by rw [li_0k]; omega) hm⟩
    · rw [o4] at h2 ⊢
      obtain ⟨f4, dt, h3⟩ := h2 z
      refine ⟨f4, dt, fun a82 e82 kk => ?_⟩
      obtain ⟨Q83, p83, h83⟩ := h3 a82 e82 kk
      have ea : a82 = fX8_targetAt S r x v8 := by rw [e82, c.ta]
      refine ⟨_, ct_hcome w k b.1.2 p83, ?_⟩
      rintro u ⟨gq, hu, hbit⟩ wu su
      refine fun a86 e86 => ?_
      have e1 : a86.toInt = v8.toInt + 1 := by rw [e86, t_addk (by rw [lo_1k]; omega), lo_1k]
      refine ih (b.ht w hu) (ht.tr hu) (g.mo hu.2.1) (fun d a b' f g' => ?_) (by omega) (h83 u gq wu su a86 e86)
      by_cases s : d.toInt < v8.toInt
      · exact hu.2.1 _ _ (t d a s f g')
      · have : d = v8 := Int32.toInt_inj.mp (by omega)
        subst this
        rw [ea, o4, c.nE, e4] at hbit
        exact hbit f g' (by have := b.2.2.2.2; omega) l0 (by omega)
theorem ct_sp150 {h : Int} (hn : ndW S q r x ≤ h ∧ lfV S q r x h ≤ lim) (hl : lim ≤ 30) {v4 v5 : Int32} (e4 : v4.toInt = lfV S q r x h) (l0 : 0 ≤ lfV S q r x h) (hc7 : (fX8_targetCount S r x).toInt ≤ 100000) (hno : v5.toInt = 0 → ∀ d : Int32, 0 ≤ d.toInt → d.toInt < (qI S r 9).toInt → (fX8_catchHas S r d x).toInt = 0) (b : HsB S U p q r lim) (ht : HtR p A U) (g : ClG S U p q r x h) (hh : w_X4_spread_J150 Q U p x v4 v5) : w_X4_spread_J150 (fun u => Q u ∧ SpQ S A p q r lim x h u) U p x v4 v5 := by
  have o4 := b.o.2
  have c := b.2.2.1.1
  unfold w_X4_spread_J150 at hh ⊢
  intro w k hv
  obtain ⟨f4, d, h1⟩ := hh w k hv
  refine ⟨f4, d, fun a54 e54 => ?_⟩
  obtain ⟨n, hm⟩ := h1 a54 e54
  have ea : a54 = fX8_targetCount S r x := by rw [e54, o4, c.tc]
  exact ⟨n, ct_sp163 hn hl e4 ea l0 (by rw [ea]; exact hc7) hno n b ht g (fun d a b' => by rw [li_0k] at b'; omega) (by rw [li_0k]; omega) hm⟩
theorem ct_sp127 {h : Int} (hn : ndW S q r x ≤ h ∧ lfV S q r x h ≤ lim) (hl : lim ≤ 30) (hx : 0 ≤ x.toInt ∧ x.toInt < nR S r) (hN : nR S r ≤ 1296) {t0 t1 t2 v4 v5 v6 : Int32} (e4 : v4.toInt = lfV S q r x h) (e6 : v6 = fX6_goesOn S (fX8_opAt S r x)) (l0 : 0 ≤ lfV S q r x h) (hg : ¬ v6.toInt = 0 → (x + 1).toInt < nR S r) (hc7 : (fX8_targetCount S r x).toInt ≤ 100000) (hno : v5.toInt = 0 → ∀ d : Int32, 0 ≤ d.toInt → d.toInt < (qI S r 9).toInt → (fX8_catchHas S r d x).toInt = 0) (b : HsB S U p q r lim) (ht : HtR p A U) (hh : w_X4_spread_J127 Q U t0 t1 t2 p p x v4 v5 v6) : w_X4_spread_J127 (fun u => Q u ∧ SpQ S A p q r lim x h u) U t0 t1 t2 p p x v4 v5 v6 := by
  unfold w_X4_spread_J127 at hh ⊢
  intro w k k' z0 z5 z6 S48 e48 k48 w48
  obtain ⟨h1, h2⟩ := hh w k k' z0 z5 z6 S48 e48 k48 w48
  have f : cfr [] [(44, 7)] U S48 := by rw [e48]; exact cfr.oI k48 rfl
  have h48 := HtR.qt b w f
  have b48 := b.ht w h48
  have ht48 := ht.tr h48
  refine ⟨fun c => ct_sp150 hn hl e4 l0 hc7 hno b48 ht48 (fun d => absurd (by rw [← e6]; exact c) d) (h1 c), fun c kk => ?_⟩
  obtain ⟨Q89, p89, h89⟩ := h2 c kk
  refine ⟨_, ct_hcome w48 kk b48.1.2 p89, ?_⟩
  rintro u ⟨gq, hu, hbit⟩ wu su
  refine ct_sp150 hn hl e4 l0 hc7 hno (b48.ht w48 hu) (ht48.tr hu) (fun _ => ⟨hg c, ?_⟩) (h89 u gq wu su)
  rw [b48.o.2, b48.2.2.1.1.nE, e4] at hbit
  have l1 : (1 : Int32).toInt = 1 := by decide
  have ex : (x + 1).toInt = x.toInt + 1 := by rw [t_addk (by rw [l1]; omega), l1]
  exact hbit (by omega) (hg c) (by have := b48.2.2.2.2; have := hg c; omega) l0 (by omega)
theorem ct_spread (b : HsB S U p q r lim) (w : wfC U) (hl : lim ≤ 30) (hx : 0 ≤ x.toInt ∧ x.toInt < nR S r) (hy : 0 ≤ y.toInt ∧ y.toInt ≤ 30) (hc7 : (fX8_targetCount S r x).toInt ≤ 100000) (h : wX4_spread U p x y Q) : wX4_spread U p x y (fun u => Q u ∧ SpQ S U p q r lim x y.toInt u) := by
  have o3 := b.o.1
  have o4 := b.o.2
  have c := b.2.2.1.1
  have R := b.2.2.1.2.2
  have uc := b.2.2.2.1.1
  have e9 : qI U r 9 = qI S r 9 := c.2.1
  have hN : nR S r ≤ 1296 := by rw [← c.nE]; unfold nR; have := R.2; omega
  unfold wX4_spread at h ⊢
  obtain ⟨f3, f4, d, h⟩ := h
  refine ⟨f3, f4, d, fun a8 e8 => ?_⟩
  obtain ⟨Q9, p9, h9⟩ := h a8 e8
  refine ⟨_, ct_places p9, ?_⟩
  rintro n10 S11 ⟨g10, e11, en⟩ w11 s11
  have h9 := h9 n10 S11 g10 w11 s11
  rw [e11] at h9 ⊢
  obtain ⟨_, _, h9⟩ := h9
  refine ⟨f3, f4, fun t1 t2 => ?_⟩
  obtain ⟨Q18, p18, h18⟩ := h9 t1 t2
  refine ⟨_, ct_pgiven p18, ?_⟩
  rintro n19 S20 ⟨g19, e20, en2⟩ w20 s20
  have h18 := h18 n19 S20 g19 w20 s20
  rw [e20] at h18 ⊢
  refine fun a23 e23 => ?_
  obtain ⟨_, h18⟩ := h18 a23 e23
  refine ⟨f4, fun t3 => ?_⟩
  obtain ⟨Q26, p26, h26⟩ := h18 t3
  refine ⟨_, ct_caught (by rw [o4]; have := R.2; omega) p26, ?_⟩
  rintro n27 S28 ⟨g27, e28, en3⟩ w28 s28
  have h26 := h26 n27 S28 g27 w28 s28
  rw [e28] at h26 ⊢
  obtain ⟨_, d2, h26⟩ := h26
  refine ⟨f4, d2, fun a35 e35 => ?_⟩
  obtain ⟨d3, h26⟩ := h26 a35 e35
  refine ⟨d3, fun a39 e39 => ?_⟩
  obtain ⟨h1, h2⟩ := h26 a39 e39
  have en' : n10.toInt = ndW S q r x := by rw [en, e8, o3, o4, (uc.tk c).1]; rfl
  have eg' : n19.toInt = pgV S q r x := by
    rw [en2, o3, o4]
    unfold pgV
    rw [c.op, (uc.tk c).2]
  have nb := plK_b (fX10_takes S q r x)
  have gb := pgV_b (S := S) (q := q) (r := r) (x := x)
  have nb' : 0 ≤ ndW S q r x ∧ ndW S q r x ≤ 16 := nb
  have e23' : a23.toInt = lfV S q r x y.toInt := by
    unfold lfV
    have s1 : (y - n10).toInt = y.toInt - n10.toInt := t_subk (by omega)
    rw [e23, t_addk (by rw [s1]; omega), s1, en', eg']
  have e39' : a39 = fX6_goesOn S (fX8_opAt S r x) := by rw [e39, e35, o4, c.op]; rfl
  have hno : n27.toInt = 0 → ∀ d : Int32, 0 ≤ d.toInt → d.toInt < (qI S r 9).toInt → (fX8_catchHas S r d x).toInt = 0 := fun z d a e => by
    have := en3 z d a (by rw [o4, e9]; exact e)
    rw [o4, c.ch] at this
    exact this
  have wrong : w_X4_spread_J102 Q U p x → w_X4_spread_J102 (fun u => Q u ∧ SpQ S U p q r lim x y.toInt u) U p x := fun hj => by
    unfold w_X4_spread_J102 at hj ⊢
    intro w k
    obtain ⟨f2, bb, hj⟩ := hj w k
    refine ⟨f2, bb, fun S43 e43 k43 w43 => ⟨hj S43 e43 k43 w43, ?_⟩⟩
    have z := HtR.wx b w e43 (by decide)
    exact ⟨z.1, Or.inl z.2⟩
  have go : ¬ y.toInt < n10.toInt → ¬ (qI U p 5).toInt < a23.toInt → w_X4_spread_J84 Q U p x a23 n27 a39 → w_X4_spread_J84 (fun u => Q u ∧ SpQ S U p q r lim x y.toInt u) U p x a23 n27 a39 := fun c1 c2 hj => by
    rw [b.2.1.2.2] at c2
    have hn : ndW S q r x ≤ y.toInt ∧ lfV S q r x y.toInt ≤ lim := ⟨by omega, by omega⟩
    have l0 : 0 ≤ lfV S q r x y.toInt := by unfold lfV; omega
    have J : (¬ a39.toInt = 0 → (x + 1).toInt < nR S r) → w_X4_spread_J110 Q U p x a23 n27 a39 → w_X4_spread_J110 (fun u => Q u ∧ SpQ S U p q r lim x y.toInt u) U p x a23 n27 a39 := fun hg hj => by
      unfold w_X4_spread_J110 at hj ⊢
      intro w k z5 z6
      obtain ⟨h1, h2⟩ := hj w k z5 z6
      exact ⟨fun z => ct_sp127 hn hl hx hN e23' e39' l0 hg hc7 hno b HtR.rf (h1 z), fun z => ct_sp127 hn hl hx hN e23' e39' l0 hg hc7 hno b HtR.rf (h2 z)⟩
    unfold w_X4_spread_J84 at hj ⊢
    intro w k z5 z6
    obtain ⟨h1, h2⟩ := hj w k z5 z6
    refine ⟨fun z => J (fun q => absurd z q) (h1 z), fun z => ?_⟩
    obtain ⟨g4, h3, h4⟩ := h2 z
    refine ⟨g4, fun s => J (fun _ => ?_) (h3 s), fun s => wrong (h4 s)⟩
    rw [o4] at s
    rw [← c.nE]
    exact s
  refine ⟨fun z => wrong (h1 z), fun z => ?_⟩
  obtain ⟨h1, h2⟩ := h2 z
  refine ⟨fun z2 => wrong (h1 z2), fun z2 => ?_⟩
  obtain ⟨h1, h2⟩ := h2 z2
  refine ⟨fun z3 => go z z2 (h1 z3), fun z3 => ?_⟩
  obtain ⟨h1, h2⟩ := h2 z3
  exact ⟨fun z4 => wrong (h1 z4), fun z4 => go z z2 (h2 z4)⟩
end SPQ
