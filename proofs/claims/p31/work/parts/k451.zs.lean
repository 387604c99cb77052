def TFr : List Nat := [10, 6, 1, 14, 2, 2, 2, 2, 4, 2, 2, 2, 2, 2, 2, 2, 2, 2, 2, 2, 2, 2, 2, 1, 3, 1, 1, 2, 2, 2, 2, 2, 4, 5, 1, 1, 2, 4, 2, 2, 2, 4, 2, 2, 2, 4, 4, 1, 1, 2, 2, 2, 2, 3, 2, 2, 3, 2, 3, 2, 11, 5, 5, 5, 5, 5, 5, 5, 2, 2, 2, 2, 2, 2, 2, 2, 2, 2, 2, 2, 2, 3, 2, 2, 2, 2, 3, 3, 3, 2, 2, 2, 2]
def NFr : List Nat := [0, 12, 16000, 0, 502, 502, 502, 502, 502, 48, 3000, 3000, 24, 24, 24, 24, 24, 24, 1201, 86400, 40000, 1536, 9600, 57600, 1200, 24, 28, 115200, 700, 700, 700, 700, 700, 700, 131072, 131072, 1297, 24, 20000, 401, 401, 8, 60, 60, 60, 1440, 1440, 1440, 1440, 1201, 1201, 1202, 24000, 1200, 45600, 1200, 1200, 1200, 1200, 1200, 0, 24, 24, 24, 24, 24, 24, 24, 24, 24, 24, 24, 24, 24, 87000, 40000, 1536, 12, 1200, 1200, 1200, 1200, 16, 16, 16, 16, 16, 1201, 1200, 1200, 1200, 1201, 1200]
def RFr : List (Nat × Nat × Nat) := [(0, 142, 92), (0, 141, 91), (0, 140, 90), (0, 138, 89), (0, 137, 88), (0, 136, 87), (0, 134, 86), (0, 133, 85), (0, 132, 84), (0, 131, 83), (0, 130, 82), (0, 128, 81), (0, 127, 80), (0, 126, 79), (0, 125, 78), (0, 124, 77), (0, 121, 76), (0, 120, 75), (0, 119, 74), (0, 118, 60), (60, 17, 73), (60, 16, 72), (60, 15, 71), (60, 14, 70), (60, 13, 69), (60, 12, 68), (60, 11, 67), (60, 10, 66), (60, 9, 65), (60, 8, 64), (60, 7, 63), (60, 6, 62), (60, 5, 61), (0, 117, 59), (0, 116, 58), (0, 115, 57), (0, 114, 56), (0, 113, 55), (0, 112, 54), (0, 111, 53), (0, 109, 52), (0, 108, 51), (0, 104, 50), (0, 103, 49), (0, 95, 48), (0, 94, 47), (0, 93, 46), (0, 92, 45), (0, 91, 44), (0, 90, 43), (0, 89, 42), (0, 87, 41), (0, 84, 40), (0, 83, 39), (0, 82, 38), (0, 81, 37), (0, 79, 36), (0, 76, 35), (0, 75, 34), (0, 72, 33), (0, 71, 32), (0, 70, 31), (0, 69, 30), (0, 68, 29), (0, 67, 28), (0, 66, 27), (0, 61, 26), (0, 60, 25), (0, 59, 24), (0, 58, 23), (0, 55, 22), (0, 44, 21), (0, 42, 20), (0, 40, 19), (0, 38, 18), (0, 34, 17), (0, 33, 16), (0, 32, 15), (0, 31, 14), (0, 30, 13), (0, 29, 12), (0, 27, 11), (0, 26, 10), (0, 24, 9), (0, 19, 8), (0, 18, 7), (0, 17, 6), (0, 16, 5), (0, 15, 4), (0, 6, 3), (0, 3, 2), (0, 0, 1)]
def IFr : List (Nat × Nat × Int32) := [(0, 106, (-1)), (0, 102, (-1)), (0, 65, (-1)), (0, 64, (-1)), (0, 10, (-1))]
def lRr : List (Nat × Nat × Nat) → Nat → Nat → Option Nat
  | [], _, _ => none
  | x :: L, a, j => if a = x.1 ∧ j = x.2.1 then some x.2.2 else lRr L a j
def lIr : List (Nat × Nat × Int32) → Nat → Nat → Int32
  | [], _, _ => 0
  | x :: L, a, j => if a = x.1 ∧ j = x.2.1 then x.2.2 else lIr L a j
/-- m cells; what was written so far; k slots -/
def StR (m q i k : Nat) (S : MS) : Prop := qn S = m ∧ qu S = k ∧ (∀ a, a < m → qT S a = TFr.getD a 0 ∧ qN S a = NFr.getD a 0) ∧ (∀ a j, a < m → qR S a j = lRr (RFr.drop q) a j ∧ qI S a j = lIr (IFr.drop i) a j) ∧ (∀ x ∈ RFr.drop q, x.1 < m) ∧ ∀ x ∈ IFr.drop i, x.1 < m
section STR
variable {S u : MS} {m q q' i i' k k' a b j t n c : Nat} {v : Int32}
theorem lRr_no : ∀ (L : List (Nat × Nat × Nat)), (∀ x ∈ L, x.1 < m) → lRr L m j = none := by
  intro L
  induction L with
  | nil => intro _; rfl
  | cons x L ih =>
    intro h
    have h0 := h x List.mem_cons_self
    show (if m = x.1 ∧ j = x.2.1 then some x.2.2 else lRr L m j) = none
    rw [if_neg (fun z => by omega)]
    exact ih (fun y hy => h y (List.mem_cons_of_mem _ hy))
theorem lIr_no : ∀ (L : List (Nat × Nat × Int32)), (∀ x ∈ L, x.1 < m) → lIr L m j = 0 := by
  intro L
  induction L with
  | nil => intro _; rfl
  | cons x L ih =>
    intro h
    have h0 := h x List.mem_cons_self
    show (if m = x.1 ∧ j = x.2.1 then x.2.2 else lIr L m j) = 0
    rw [if_neg (fun z => by omega)]
    exact ih (fun y hy => h y (List.mem_cons_of_mem _ hy))
theorem StR.nw (h : StR m q i k S) (ht : TFr.getD m 0 = t) (hn : NFr.getD m 0 = n) (hk : k + c = k') : StR (m + 1) q i k' (wN S t n c) := by
  obtain ⟨h1, h2, h3, h4, h5, h6⟩ := h
  refine ⟨by show qn S + 1 = m + 1; rw [h1], by show qu S + c = k'; rw [h2, hk], fun a ha => ?_, fun a j ha => ?_, fun x hx => by have := h5 x hx; omega, fun x hx => by have := h6 x hx; omega⟩
  · by_cases e : a = m
    · subst e
      refine ⟨?_, ?_⟩
      · show (if a = qn S then t else qT S a) = _
        rw [if_pos h1.symm, ht]
      · show (if a = qn S then n else qN S a) = _
        rw [if_pos h1.symm, hn]
    · have := h3 a (by omega)
      refine ⟨?_, ?_⟩
      · show (if a = qn S then t else qT S a) = _
        rw [if_neg (by omega)]; exact this.1
      · show (if a = qn S then n else qN S a) = _
        rw [if_neg (by omega)]; exact this.2
  · by_cases e : a = m
    · subst e
      refine ⟨?_, ?_⟩
      · show (if a = qn S then fun _ => none else qR S a) j = _
        rw [if_pos h1.symm, lRr_no _ h5]
      · show (if a = qn S then fun _ => 0 else qI S a) j = _
        rw [if_pos h1.symm, lIr_no _ h6]
    · have := h4 a j (by omega)
      refine ⟨?_, ?_⟩
      · show (if a = qn S then fun _ => none else qR S a) j = _
        rw [if_neg (by omega)]; exact this.1
      · show (if a = qn S then fun _ => 0 else qI S a) j = _
        rw [if_neg (by omega)]; exact this.2
theorem StR.pr (h : StR m q i k S) (hd : RFr.drop q' = (a, j, b) :: RFr.drop q) (ha : a < m) : StR m q' i k (wR S a j (some b)) := by
  obtain ⟨h1, h2, h3, h4, h5, h6⟩ := h
  refine ⟨h1, h2, h3, fun a' j' ha' => ⟨?_, (h4 a' j' ha').2⟩, fun x hx => ?_, h6⟩
  · rw [qR_wR, hd]
    show _ = if a' = a ∧ j' = j then some b else lRr (RFr.drop q) a' j'
    rw [(h4 a' j' ha').1]
  · rw [hd] at hx
    rcases List.mem_cons.mp hx with e | e
    · rw [e]; exact ha
    · exact h5 x e
theorem StR.pi (h : StR m q i k S) (hd : IFr.drop i' = (a, j, v) :: IFr.drop i) (ha : a < m) : StR m q i' k (wI S a j v) := by
  obtain ⟨h1, h2, h3, h4, h5, h6⟩ := h
  refine ⟨h1, h2, h3, fun a' j' ha' => ⟨(h4 a' j' ha').1, ?_⟩, h5, fun x hx => ?_⟩
  · rw [qI_wI, hd]
    show _ = if a' = a ∧ j' = j then v else lIr (IFr.drop i) a' j'
    rw [(h4 a' j' ha').2]
  · rw [hd] at hx
    rcases List.mem_cons.mp hx with e | e
    · rw [e]; exact ha
    · exact h6 x e
theorem StR.R (h : StR m 0 0 k u) (ha : a < m) (e : lRr RFr a j = some b) : qR u a j = some b := (h.2.2.2.1 a j ha).1.trans e
theorem StR.R0 (h : StR m 0 0 k u) (ha : a < m) (e : lRr RFr a j = none) : qR u a j = none := (h.2.2.2.1 a j ha).1.trans e
theorem StR.I (h : StR m 0 0 k u) (ha : a < m) (e : lIr IFr a j = v) : qI u a j = v := (h.2.2.2.1 a j ha).2.trans e
theorem StR.T (h : StR m 0 0 k u) (ha : a < m) (e : TFr.getD a 0 = t) : qT u a = t := (h.2.2.1 a ha).1.trans e
theorem StR.N (h : StR m 0 0 k u) (ha : a < m) (e : NFr.getD a 0 = n) : qN u a = n := (h.2.2.1 a ha).2.trans e
theorem StR.O (h : StR m 0 0 k u) (ha : a < m) (e : lRr RFr a j = some b) : qO u a j = b := qO_s (h.R ha e)
end STR
set_option maxRecDepth 100000 in
theorem zr_1 {S : MS} (h : StR 61 33 0 712494 S) : w_init S 60 (fun u => StR 74 20 0 712806 u) := by
  unfold w_init
  refine ⟨(by rw [h.1, h.2.1]; decide), fun S4 eS4 => ?_⟩
  have hS4 : StR 62 33 0 712518 S4 := by rw [eS4]; exact h.nw rfl rfl rfl
  intro S6 eS6
  have hS6 : StR 62 32 0 712518 S6 := by rw [eS6, h.1]; exact hS4.pr rfl (by decide)
  refine ⟨(by rw [hS6.1, hS6.2.1]; decide), fun S10 eS10 => ?_⟩
  have hS10 : StR 63 32 0 712542 S10 := by rw [eS10]; exact hS6.nw rfl rfl rfl
  intro S12 eS12
  have hS12 : StR 63 31 0 712542 S12 := by rw [eS12, hS6.1]; exact hS10.pr rfl (by decide)
  refine ⟨(by rw [hS12.1, hS12.2.1]; decide), fun S16 eS16 => ?_⟩
  have hS16 : StR 64 31 0 712566 S16 := by rw [eS16]; exact hS12.nw rfl rfl rfl
  intro S18 eS18
  have hS18 : StR 64 30 0 712566 S18 := by rw [eS18, hS12.1]; exact hS16.pr rfl (by decide)
  refine ⟨(by rw [hS18.1, hS18.2.1]; decide), fun S22 eS22 => ?_⟩
  have hS22 : StR 65 30 0 712590 S22 := by rw [eS22]; exact hS18.nw rfl rfl rfl
  intro S24 eS24
  have hS24 : StR 65 29 0 712590 S24 := by rw [eS24, hS18.1]; exact hS22.pr rfl (by decide)
  refine ⟨(by rw [hS24.1, hS24.2.1]; decide), fun S28 eS28 => ?_⟩
  have hS28 : StR 66 29 0 712614 S28 := by rw [eS28]; exact hS24.nw rfl rfl rfl
  intro S30 eS30
  have hS30 : StR 66 28 0 712614 S30 := by rw [eS30, hS24.1]; exact hS28.pr rfl (by decide)
  refine ⟨(by rw [hS30.1, hS30.2.1]; decide), fun S34 eS34 => ?_⟩
  have hS34 : StR 67 28 0 712638 S34 := by rw [eS34]; exact hS30.nw rfl rfl rfl
  intro S36 eS36
  have hS36 : StR 67 27 0 712638 S36 := by rw [eS36, hS30.1]; exact hS34.pr rfl (by decide)
  refine ⟨(by rw [hS36.1, hS36.2.1]; decide), fun S40 eS40 => ?_⟩
  have hS40 : StR 68 27 0 712662 S40 := by rw [eS40]; exact hS36.nw rfl rfl rfl
  intro S42 eS42
  have hS42 : StR 68 26 0 712662 S42 := by rw [eS42, hS36.1]; exact hS40.pr rfl (by decide)
  refine ⟨(by rw [hS42.1, hS42.2.1]; decide), fun S46 eS46 => ?_⟩
  have hS46 : StR 69 26 0 712686 S46 := by rw [eS46]; exact hS42.nw rfl rfl rfl
  intro S48 eS48
  have hS48 : StR 69 25 0 712686 S48 := by rw [eS48, hS42.1]; exact hS46.pr rfl (by decide)
  refine ⟨(by rw [hS48.1, hS48.2.1]; decide), fun S52 eS52 => ?_⟩
  have hS52 : StR 70 25 0 712710 S52 := by rw [eS52]; exact hS48.nw rfl rfl rfl
  intro S54 eS54
  have hS54 : StR 70 24 0 712710 S54 := by rw [eS54, hS48.1]; exact hS52.pr rfl (by decide)
  refine ⟨(by rw [hS54.1, hS54.2.1]; decide), fun S58 eS58 => ?_⟩
  have hS58 : StR 71 24 0 712734 S58 := by rw [eS58]; exact hS54.nw rfl rfl rfl
  intro S60 eS60
  have hS60 : StR 71 23 0 712734 S60 := by rw [eS60, hS54.1]; exact hS58.pr rfl (by decide)
  refine ⟨(by rw [hS60.1, hS60.2.1]; decide), fun S64 eS64 => ?_⟩
  have hS64 : StR 72 23 0 712758 S64 := by rw [eS64]; exact hS60.nw rfl rfl rfl
  intro S66 eS66
  have hS66 : StR 72 22 0 712758 S66 := by rw [eS66, hS60.1]; exact hS64.pr rfl (by decide)
  refine ⟨(by rw [hS66.1, hS66.2.1]; decide), fun S70 eS70 => ?_⟩
  have hS70 : StR 73 22 0 712782 S70 := by rw [eS70]; exact hS66.nw rfl rfl rfl
  intro S72 eS72
  have hS72 : StR 73 21 0 712782 S72 := by rw [eS72, hS66.1]; exact hS70.pr rfl (by decide)
  refine ⟨(by rw [hS72.1, hS72.2.1]; decide), fun S76 eS76 => ?_⟩
  have hS76 : StR 74 21 0 712806 S76 := by rw [eS76]; exact hS72.nw rfl rfl rfl
  intro S78 eS78
  have hS78 : StR 74 20 0 712806 S78 := by rw [eS78, hS72.1]; exact hS76.pr rfl (by decide)
  exact hS78
set_option maxRecDepth 100000 in
theorem zr_new {S : MS} (h : StR 1 92 5 143 S) : w_new S (fun u => StR 93 0 0 853436 u) := by
  unfold w_new
  refine ⟨(by rw [h.1, h.2.1]; decide), fun S4 eS4 => ?_⟩
  have hS4 : StR 2 92 5 155 S4 := by rw [eS4]; exact h.nw rfl rfl rfl
  intro S6 eS6
  have hS6 : StR 2 91 5 155 S6 := by rw [eS6, h.1]; exact hS4.pr rfl (by decide)
  refine ⟨(by rw [hS6.1, hS6.2.1]; decide), fun S10 eS10 => ?_⟩
  have hS10 : StR 3 91 5 16155 S10 := by rw [eS10]; exact hS6.nw rfl rfl rfl
  intro S12 eS12
  have hS12 : StR 3 90 5 16155 S12 := by rw [eS12, hS6.1]; exact hS10.pr rfl (by decide)
  refine ⟨(by rw [hS12.1, hS12.2.1]; decide), fun S16 eS16 => ?_⟩
  have hS16 : StR 4 90 5 16161 S16 := by rw [eS16]; exact hS12.nw rfl rfl rfl
  intro S18 eS18
  have hS18 : StR 4 89 5 16161 S18 := by rw [eS18, hS12.1]; exact hS16.pr rfl (by decide)
  intro S19 eS19
  have hS19 : StR 4 89 4 16161 S19 := by rw [eS19]; exact hS18.pi rfl (by decide)
  refine ⟨(by rw [hS19.1, hS19.2.1]; decide), fun S23 eS23 => ?_⟩
  have hS23 : StR 5 89 4 16663 S23 := by rw [eS23]; exact hS19.nw rfl rfl rfl
  intro S25 eS25
  have hS25 : StR 5 88 4 16663 S25 := by rw [eS25, hS19.1]; exact hS23.pr rfl (by decide)
  refine ⟨(by rw [hS25.1, hS25.2.1]; decide), fun S29 eS29 => ?_⟩
  have hS29 : StR 6 88 4 17165 S29 := by rw [eS29]; exact hS25.nw rfl rfl rfl
  intro S31 eS31
  have hS31 : StR 6 87 4 17165 S31 := by rw [eS31, hS25.1]; exact hS29.pr rfl (by decide)
  refine ⟨(by rw [hS31.1, hS31.2.1]; decide), fun S35 eS35 => ?_⟩
  have hS35 : StR 7 87 4 17667 S35 := by rw [eS35]; exact hS31.nw rfl rfl rfl
  intro S37 eS37
  have hS37 : StR 7 86 4 17667 S37 := by rw [eS37, hS31.1]; exact hS35.pr rfl (by decide)
  refine ⟨(by rw [hS37.1, hS37.2.1]; decide), fun S41 eS41 => ?_⟩
  have hS41 : StR 8 86 4 18169 S41 := by rw [eS41]; exact hS37.nw rfl rfl rfl
  intro S43 eS43
  have hS43 : StR 8 85 4 18169 S43 := by rw [eS43, hS37.1]; exact hS41.pr rfl (by decide)
  refine ⟨(by rw [hS43.1, hS43.2.1]; decide), fun S47 eS47 => ?_⟩
  have hS47 : StR 9 85 4 18671 S47 := by rw [eS47]; exact hS43.nw rfl rfl rfl
  intro S49 eS49
  have hS49 : StR 9 84 4 18671 S49 := by rw [eS49, hS43.1]; exact hS47.pr rfl (by decide)
  refine ⟨(by rw [hS49.1, hS49.2.1]; decide), fun S53 eS53 => ?_⟩
  have hS53 : StR 10 84 4 18719 S53 := by rw [eS53]; exact hS49.nw rfl rfl rfl
  intro S55 eS55
  have hS55 : StR 10 83 4 18719 S55 := by rw [eS55, hS49.1]; exact hS53.pr rfl (by decide)
  refine ⟨(by rw [hS55.1, hS55.2.1]; decide), fun S59 eS59 => ?_⟩
  have hS59 : StR 11 83 4 21719 S59 := by rw [eS59]; exact hS55.nw rfl rfl rfl
  intro S61 eS61
  have hS61 : StR 11 82 4 21719 S61 := by rw [eS61, hS55.1]; exact hS59.pr rfl (by decide)
  refine ⟨(by rw [hS61.1, hS61.2.1]; decide), fun S65 eS65 => ?_⟩
  have hS65 : StR 12 82 4 24719 S65 := by rw [eS65]; exact hS61.nw rfl rfl rfl
  intro S67 eS67
  have hS67 : StR 12 81 4 24719 S67 := by rw [eS67, hS61.1]; exact hS65.pr rfl (by decide)
  refine ⟨(by rw [hS67.1, hS67.2.1]; decide), fun S71 eS71 => ?_⟩
  have hS71 : StR 13 81 4 24743 S71 := by rw [eS71]; exact hS67.nw rfl rfl rfl
  intro S73 eS73
  have hS73 : StR 13 80 4 24743 S73 := by rw [eS73, hS67.1]; exact hS71.pr rfl (by decide)
  refine ⟨(by rw [hS73.1, hS73.2.1]; decide), fun S77 eS77 => ?_⟩
  have hS77 : StR 14 80 4 24767 S77 := by rw [eS77]; exact hS73.nw rfl rfl rfl
  intro S79 eS79
  have hS79 : StR 14 79 4 24767 S79 := by rw [eS79, hS73.1]; exact hS77.pr rfl (by decide)
  refine ⟨(by rw [hS79.1, hS79.2.1]; decide), fun S83 eS83 => ?_⟩
  have hS83 : StR 15 79 4 24791 S83 := by rw [eS83]; exact hS79.nw rfl rfl rfl
  intro S85 eS85
  have hS85 : StR 15 78 4 24791 S85 := by rw [eS85, hS79.1]; exact hS83.pr rfl (by decide)
  refine ⟨(by rw [hS85.1, hS85.2.1]; decide), fun S89 eS89 => ?_⟩
  have hS89 : StR 16 78 4 24815 S89 := by rw [eS89]; exact hS85.nw rfl rfl rfl
  intro S91 eS91
  have hS91 : StR 16 77 4 24815 S91 := by rw [eS91, hS85.1]; exact hS89.pr rfl (by decide)
  refine ⟨(by rw [hS91.1, hS91.2.1]; decide), fun S95 eS95 => ?_⟩
  have hS95 : StR 17 77 4 24839 S95 := by rw [eS95]; exact hS91.nw rfl rfl rfl
  intro S97 eS97
  have hS97 : StR 17 76 4 24839 S97 := by rw [eS97, hS91.1]; exact hS95.pr rfl (by decide)
  refine ⟨(by rw [hS97.1, hS97.2.1]; decide), fun S101 eS101 => ?_⟩
  have hS101 : StR 18 76 4 24863 S101 := by rw [eS101]; exact hS97.nw rfl rfl rfl
  intro S103 eS103
  have hS103 : StR 18 75 4 24863 S103 := by rw [eS103, hS97.1]; exact hS101.pr rfl (by decide)
  refine ⟨(by rw [hS103.1, hS103.2.1]; decide), fun S107 eS107 => ?_⟩
  have hS107 : StR 19 75 4 26064 S107 := by rw [eS107]; exact hS103.nw rfl rfl rfl
  intro S109 eS109
  have hS109 : StR 19 74 4 26064 S109 := by rw [eS109, hS103.1]; exact hS107.pr rfl (by decide)
  refine ⟨(by rw [hS109.1, hS109.2.1]; decide), fun S113 eS113 => ?_⟩
  have hS113 : StR 20 74 4 112464 S113 := by rw [eS113]; exact hS109.nw rfl rfl rfl
  intro S115 eS115
  have hS115 : StR 20 73 4 112464 S115 := by rw [eS115, hS109.1]; exact hS113.pr rfl (by decide)
  refine ⟨(by rw [hS115.1, hS115.2.1]; decide), fun S119 eS119 => ?_⟩
  have hS119 : StR 21 73 4 152464 S119 := by rw [eS119]; exact hS115.nw rfl rfl rfl
  intro S121 eS121
  have hS121 : StR 21 72 4 152464 S121 := by rw [eS121, hS115.1]; exact hS119.pr rfl (by decide)
  refine ⟨(by rw [hS121.1, hS121.2.1]; decide), fun S125 eS125 => ?_⟩
  have hS125 : StR 22 72 4 154000 S125 := by rw [eS125]; exact hS121.nw rfl rfl rfl
  intro S127 eS127
  have hS127 : StR 22 71 4 154000 S127 := by rw [eS127, hS121.1]; exact hS125.pr rfl (by decide)
  refine ⟨(by rw [hS127.1, hS127.2.1]; decide), fun S131 eS131 => ?_⟩
  have hS131 : StR 23 71 4 163600 S131 := by rw [eS131]; exact hS127.nw rfl rfl rfl
  intro S133 eS133
  have hS133 : StR 23 70 4 163600 S133 := by rw [eS133, hS127.1]; exact hS131.pr rfl (by decide)
  refine ⟨(by rw [hS133.1, hS133.2.1]; decide), fun S137 eS137 => ?_⟩
  have hS137 : StR 24 70 4 221200 S137 := by rw [eS137]; exact hS133.nw rfl rfl rfl
  intro S139 eS139
  have hS139 : StR 24 69 4 221200 S139 := by rw [eS139, hS133.1]; exact hS137.pr rfl (by decide)
  refine ⟨(by rw [hS139.1, hS139.2.1]; decide), fun S143 eS143 => ?_⟩
  have hS143 : StR 25 69 4 222400 S143 := by rw [eS143]; exact hS139.nw rfl rfl rfl
  intro S145 eS145
  have hS145 : StR 25 68 4 222400 S145 := by rw [eS145, hS139.1]; exact hS143.pr rfl (by decide)
  refine ⟨(by rw [hS145.1, hS145.2.1]; decide), fun S149 eS149 => ?_⟩
  have hS149 : StR 26 68 4 222424 S149 := by rw [eS149]; exact hS145.nw rfl rfl rfl
  intro S151 eS151
  have hS151 : StR 26 67 4 222424 S151 := by rw [eS151, hS145.1]; exact hS149.pr rfl (by decide)
  refine ⟨(by rw [hS151.1, hS151.2.1]; decide), fun S155 eS155 => ?_⟩
  have hS155 : StR 27 67 4 222452 S155 := by rw [eS155]; exact hS151.nw rfl rfl rfl
  intro S157 eS157
  have hS157 : StR 27 66 4 222452 S157 := by rw [eS157, hS151.1]; exact hS155.pr rfl (by decide)
  intro S158 eS158
  have hS158 : StR 27 66 3 222452 S158 := by rw [eS158]; exact hS157.pi rfl (by decide)
  intro S159 eS159
  have hS159 : StR 27 66 2 222452 S159 := by rw [eS159]; exact hS158.pi rfl (by decide)
  refine ⟨(by rw [hS159.1, hS159.2.1]; decide), fun S163 eS163 => ?_⟩
  have hS163 : StR 28 66 2 337652 S163 := by rw [eS163]; exact hS159.nw rfl rfl rfl
  intro S165 eS165
  have hS165 : StR 28 65 2 337652 S165 := by rw [eS165, hS159.1]; exact hS163.pr rfl (by decide)
  refine ⟨(by rw [hS165.1, hS165.2.1]; decide), fun S169 eS169 => ?_⟩
  have hS169 : StR 29 65 2 338352 S169 := by rw [eS169]; exact hS165.nw rfl rfl rfl
  intro S171 eS171
  have hS171 : StR 29 64 2 338352 S171 := by rw [eS171, hS165.1]; exact hS169.pr rfl (by decide)
  refine ⟨(by rw [hS171.1, hS171.2.1]; decide), fun S175 eS175 => ?_⟩
  have hS175 : StR 30 64 2 339052 S175 := by rw [eS175]; exact hS171.nw rfl rfl rfl
  intro S177 eS177
  have hS177 : StR 30 63 2 339052 S177 := by rw [eS177, hS171.1]; exact hS175.pr rfl (by decide)
  refine ⟨(by rw [hS177.1, hS177.2.1]; decide), fun S181 eS181 => ?_⟩
  have hS181 : StR 31 63 2 339752 S181 := by rw [eS181]; exact hS177.nw rfl rfl rfl
  intro S183 eS183
  have hS183 : StR 31 62 2 339752 S183 := by rw [eS183, hS177.1]; exact hS181.pr rfl (by decide)
  refine ⟨(by rw [hS183.1, hS183.2.1]; decide), fun S187 eS187 => ?_⟩
  have hS187 : StR 32 62 2 340452 S187 := by rw [eS187]; exact hS183.nw rfl rfl rfl
  intro S189 eS189
  have hS189 : StR 32 61 2 340452 S189 := by rw [eS189, hS183.1]; exact hS187.pr rfl (by decide)
  refine ⟨(by rw [hS189.1, hS189.2.1]; decide), fun S193 eS193 => ?_⟩
  have hS193 : StR 33 61 2 341152 S193 := by rw [eS193]; exact hS189.nw rfl rfl rfl
  intro S195 eS195
  have hS195 : StR 33 60 2 341152 S195 := by rw [eS195, hS189.1]; exact hS193.pr rfl (by decide)
  refine ⟨(by rw [hS195.1, hS195.2.1]; decide), fun S199 eS199 => ?_⟩
  have hS199 : StR 34 60 2 341852 S199 := by rw [eS199]; exact hS195.nw rfl rfl rfl
  intro S201 eS201
  have hS201 : StR 34 59 2 341852 S201 := by rw [eS201, hS195.1]; exact hS199.pr rfl (by decide)
  refine ⟨(by rw [hS201.1, hS201.2.1]; decide), fun S205 eS205 => ?_⟩
  have hS205 : StR 35 59 2 472924 S205 := by rw [eS205]; exact hS201.nw rfl rfl rfl
  intro S207 eS207
  have hS207 : StR 35 58 2 472924 S207 := by rw [eS207, hS201.1]; exact hS205.pr rfl (by decide)
  refine ⟨(by rw [hS207.1, hS207.2.1]; decide), fun S211 eS211 => ?_⟩
  have hS211 : StR 36 58 2 603996 S211 := by rw [eS211]; exact hS207.nw rfl rfl rfl
  intro S213 eS213
  have hS213 : StR 36 57 2 603996 S213 := by rw [eS213, hS207.1]; exact hS211.pr rfl (by decide)
  refine ⟨(by rw [hS213.1, hS213.2.1]; decide), fun S217 eS217 => ?_⟩
  have hS217 : StR 37 57 2 605293 S217 := by rw [eS217]; exact hS213.nw rfl rfl rfl
  intro S219 eS219
  have hS219 : StR 37 56 2 605293 S219 := by rw [eS219, hS213.1]; exact hS217.pr rfl (by decide)
  refine ⟨(by rw [hS219.1, hS219.2.1]; decide), fun S223 eS223 => ?_⟩
  have hS223 : StR 38 56 2 605317 S223 := by rw [eS223]; exact hS219.nw rfl rfl rfl
  intro S225 eS225
  have hS225 : StR 38 55 2 605317 S225 := by rw [eS225, hS219.1]; exact hS223.pr rfl (by decide)
  refine ⟨(by rw [hS225.1, hS225.2.1]; decide), fun S229 eS229 => ?_⟩
  have hS229 : StR 39 55 2 625317 S229 := by rw [eS229]; exact hS225.nw rfl rfl rfl
  intro S231 eS231
  have hS231 : StR 39 54 2 625317 S231 := by rw [eS231, hS225.1]; exact hS229.pr rfl (by decide)
  refine ⟨(by rw [hS231.1, hS231.2.1]; decide), fun S235 eS235 => ?_⟩
  have hS235 : StR 40 54 2 625718 S235 := by rw [eS235]; exact hS231.nw rfl rfl rfl
  intro S237 eS237
  have hS237 : StR 40 53 2 625718 S237 := by rw [eS237, hS231.1]; exact hS235.pr rfl (by decide)
  refine ⟨(by rw [hS237.1, hS237.2.1]; decide), fun S241 eS241 => ?_⟩
  have hS241 : StR 41 53 2 626119 S241 := by rw [eS241]; exact hS237.nw rfl rfl rfl
  intro S243 eS243
  have hS243 : StR 41 52 2 626119 S243 := by rw [eS243, hS237.1]; exact hS241.pr rfl (by decide)
  refine ⟨(by rw [hS243.1, hS243.2.1]; decide), fun S247 eS247 => ?_⟩
  have hS247 : StR 42 52 2 626127 S247 := by rw [eS247]; exact hS243.nw rfl rfl rfl
  intro S249 eS249
  have hS249 : StR 42 51 2 626127 S249 := by rw [eS249, hS243.1]; exact hS247.pr rfl (by decide)
  refine ⟨(by rw [hS249.1, hS249.2.1]; decide), fun S253 eS253 => ?_⟩
  have hS253 : StR 43 51 2 626187 S253 := by rw [eS253]; exact hS249.nw rfl rfl rfl
  intro S255 eS255
  have hS255 : StR 43 50 2 626187 S255 := by rw [eS255, hS249.1]; exact hS253.pr rfl (by decide)
  refine ⟨(by rw [hS255.1, hS255.2.1]; decide), fun S259 eS259 => ?_⟩
  have hS259 : StR 44 50 2 626247 S259 := by rw [eS259]; exact hS255.nw rfl rfl rfl
  intro S261 eS261
  have hS261 : StR 44 49 2 626247 S261 := by rw [eS261, hS255.1]; exact hS259.pr rfl (by decide)
  refine ⟨(by rw [hS261.1, hS261.2.1]; decide), fun S265 eS265 => ?_⟩
  have hS265 : StR 45 49 2 626307 S265 := by rw [eS265]; exact hS261.nw rfl rfl rfl
  intro S267 eS267
  have hS267 : StR 45 48 2 626307 S267 := by rw [eS267, hS261.1]; exact hS265.pr rfl (by decide)
  refine ⟨(by rw [hS267.1, hS267.2.1]; decide), fun S271 eS271 => ?_⟩
  have hS271 : StR 46 48 2 627747 S271 := by rw [eS271]; exact hS267.nw rfl rfl rfl
  intro S273 eS273
  have hS273 : StR 46 47 2 627747 S273 := by rw [eS273, hS267.1]; exact hS271.pr rfl (by decide)
  refine ⟨(by rw [hS273.1, hS273.2.1]; decide), fun S277 eS277 => ?_⟩
  have hS277 : StR 47 47 2 629187 S277 := by rw [eS277]; exact hS273.nw rfl rfl rfl
  intro S279 eS279
  have hS279 : StR 47 46 2 629187 S279 := by rw [eS279, hS273.1]; exact hS277.pr rfl (by decide)
  refine ⟨(by rw [hS279.1, hS279.2.1]; decide), fun S283 eS283 => ?_⟩
  have hS283 : StR 48 46 2 630627 S283 := by rw [eS283]; exact hS279.nw rfl rfl rfl
  intro S285 eS285
  have hS285 : StR 48 45 2 630627 S285 := by rw [eS285, hS279.1]; exact hS283.pr rfl (by decide)
  refine ⟨(by rw [hS285.1, hS285.2.1]; decide), fun S289 eS289 => ?_⟩
  have hS289 : StR 49 45 2 632067 S289 := by rw [eS289]; exact hS285.nw rfl rfl rfl
  intro S291 eS291
  have hS291 : StR 49 44 2 632067 S291 := by rw [eS291, hS285.1]; exact hS289.pr rfl (by decide)
  intro S292 eS292
  have hS292 : StR 49 44 1 632067 S292 := by rw [eS292]; exact hS291.pi rfl (by decide)
  refine ⟨(by rw [hS292.1, hS292.2.1]; decide), fun S296 eS296 => ?_⟩
  have hS296 : StR 50 44 1 633268 S296 := by rw [eS296]; exact hS292.nw rfl rfl rfl
  intro S298 eS298
  have hS298 : StR 50 43 1 633268 S298 := by rw [eS298, hS292.1]; exact hS296.pr rfl (by decide)
  refine ⟨(by rw [hS298.1, hS298.2.1]; decide), fun S302 eS302 => ?_⟩
  have hS302 : StR 51 43 1 634469 S302 := by rw [eS302]; exact hS298.nw rfl rfl rfl
  intro S304 eS304
  have hS304 : StR 51 42 1 634469 S304 := by rw [eS304, hS298.1]; exact hS302.pr rfl (by decide)
  intro S305 eS305
  have hS305 : StR 51 42 0 634469 S305 := by rw [eS305]; exact hS304.pi rfl (by decide)
  refine ⟨(by rw [hS305.1, hS305.2.1]; decide), fun S309 eS309 => ?_⟩
  have hS309 : StR 52 42 0 635671 S309 := by rw [eS309]; exact hS305.nw rfl rfl rfl
  intro S311 eS311
  have hS311 : StR 52 41 0 635671 S311 := by rw [eS311, hS305.1]; exact hS309.pr rfl (by decide)
  refine ⟨(by rw [hS311.1, hS311.2.1]; decide), fun S315 eS315 => ?_⟩
  have hS315 : StR 53 41 0 659671 S315 := by rw [eS315]; exact hS311.nw rfl rfl rfl
  intro S317 eS317
  have hS317 : StR 53 40 0 659671 S317 := by rw [eS317, hS311.1]; exact hS315.pr rfl (by decide)
  refine ⟨(by rw [hS317.1, hS317.2.1]; decide), fun S321 eS321 => ?_⟩
  have hS321 : StR 54 40 0 660871 S321 := by rw [eS321]; exact hS317.nw rfl rfl rfl
  intro S323 eS323
  have hS323 : StR 54 39 0 660871 S323 := by rw [eS323, hS317.1]; exact hS321.pr rfl (by decide)
  refine ⟨(by rw [hS323.1, hS323.2.1]; decide), fun S327 eS327 => ?_⟩
  have hS327 : StR 55 39 0 706471 S327 := by rw [eS327]; exact hS323.nw rfl rfl rfl
  intro S329 eS329
  have hS329 : StR 55 38 0 706471 S329 := by rw [eS329, hS323.1]; exact hS327.pr rfl (by decide)
  refine ⟨(by rw [hS329.1, hS329.2.1]; decide), fun S333 eS333 => ?_⟩
  have hS333 : StR 56 38 0 707671 S333 := by rw [eS333]; exact hS329.nw rfl rfl rfl
  intro S335 eS335
  have hS335 : StR 56 37 0 707671 S335 := by rw [eS335, hS329.1]; exact hS333.pr rfl (by decide)
  refine ⟨(by rw [hS335.1, hS335.2.1]; decide), fun S339 eS339 => ?_⟩
  have hS339 : StR 57 37 0 708871 S339 := by rw [eS339]; exact hS335.nw rfl rfl rfl
  intro S341 eS341
  have hS341 : StR 57 36 0 708871 S341 := by rw [eS341, hS335.1]; exact hS339.pr rfl (by decide)
  refine ⟨(by rw [hS341.1, hS341.2.1]; decide), fun S345 eS345 => ?_⟩
  have hS345 : StR 58 36 0 710071 S345 := by rw [eS345]; exact hS341.nw rfl rfl rfl
  intro S347 eS347
  have hS347 : StR 58 35 0 710071 S347 := by rw [eS347, hS341.1]; exact hS345.pr rfl (by decide)
  refine ⟨(by rw [hS347.1, hS347.2.1]; decide), fun S351 eS351 => ?_⟩
  have hS351 : StR 59 35 0 711271 S351 := by rw [eS351]; exact hS347.nw rfl rfl rfl
  intro S353 eS353
  have hS353 : StR 59 34 0 711271 S353 := by rw [eS353, hS347.1]; exact hS351.pr rfl (by decide)
  refine ⟨(by rw [hS353.1, hS353.2.1]; decide), fun S357 eS357 => ?_⟩
  have hS357 : StR 60 34 0 712471 S357 := by rw [eS357]; exact hS353.nw rfl rfl rfl
  intro S359 eS359
  have hS359 : StR 60 33 0 712471 S359 := by rw [eS359, hS353.1]; exact hS357.pr rfl (by decide)
  refine ⟨(by rw [hS359.1, hS359.2.1]; decide), fun S363 eS363 => ?_⟩
  have hS363 : StR 61 33 0 712494 S363 := by rw [eS363]; exact hS359.nw rfl rfl rfl
  refine ⟨fun u => StR 74 20 0 712806 u, (by rw [hS359.1]; exact zr_1 hS363), fun S366 hS366 => ?_⟩
  intro S369 eS369
  have hS369 : StR 74 19 0 712806 S369 := by rw [eS369, hS359.1]; exact hS366.pr rfl (by decide)
  refine ⟨(by rw [hS369.1, hS369.2.1]; decide), fun S373 eS373 => ?_⟩
  have hS373 : StR 75 19 0 799806 S373 := by rw [eS373]; exact hS369.nw rfl rfl rfl
  intro S375 eS375
  have hS375 : StR 75 18 0 799806 S375 := by rw [eS375, hS369.1]; exact hS373.pr rfl (by decide)
  refine ⟨(by rw [hS375.1, hS375.2.1]; decide), fun S379 eS379 => ?_⟩
  have hS379 : StR 76 18 0 839806 S379 := by rw [eS379]; exact hS375.nw rfl rfl rfl
  intro S381 eS381
  have hS381 : StR 76 17 0 839806 S381 := by rw [eS381, hS375.1]; exact hS379.pr rfl (by decide)
  refine ⟨(by rw [hS381.1, hS381.2.1]; decide), fun S385 eS385 => ?_⟩
  have hS385 : StR 77 17 0 841342 S385 := by rw [eS385]; exact hS381.nw rfl rfl rfl
  intro S387 eS387
  have hS387 : StR 77 16 0 841342 S387 := by rw [eS387, hS381.1]; exact hS385.pr rfl (by decide)
  refine ⟨(by rw [hS387.1, hS387.2.1]; decide), fun S391 eS391 => ?_⟩
  have hS391 : StR 78 16 0 841354 S391 := by rw [eS391]; exact hS387.nw rfl rfl rfl
  intro S393 eS393
  have hS393 : StR 78 15 0 841354 S393 := by rw [eS393, hS387.1]; exact hS391.pr rfl (by decide)
  refine ⟨(by rw [hS393.1, hS393.2.1]; decide), fun S397 eS397 => ?_⟩
  have hS397 : StR 79 15 0 842554 S397 := by rw [eS397]; exact hS393.nw rfl rfl rfl
  intro S399 eS399
  have hS399 : StR 79 14 0 842554 S399 := by rw [eS399, hS393.1]; exact hS397.pr rfl (by decide)
  refine ⟨(by rw [hS399.1, hS399.2.1]; decide), fun S403 eS403 => ?_⟩
  have hS403 : StR 80 14 0 843754 S403 := by rw [eS403]; exact hS399.nw rfl rfl rfl
  intro S405 eS405
  have hS405 : StR 80 13 0 843754 S405 := by rw [eS405, hS399.1]; exact hS403.pr rfl (by decide)
  refine ⟨(by rw [hS405.1, hS405.2.1]; decide), fun S409 eS409 => ?_⟩
  have hS409 : StR 81 13 0 844954 S409 := by rw [eS409]; exact hS405.nw rfl rfl rfl
  intro S411 eS411
  have hS411 : StR 81 12 0 844954 S411 := by rw [eS411, hS405.1]; exact hS409.pr rfl (by decide)
  refine ⟨(by rw [hS411.1, hS411.2.1]; decide), fun S415 eS415 => ?_⟩
  have hS415 : StR 82 12 0 846154 S415 := by rw [eS415]; exact hS411.nw rfl rfl rfl
  intro S417 eS417
  have hS417 : StR 82 11 0 846154 S417 := by rw [eS417, hS411.1]; exact hS415.pr rfl (by decide)
  refine ⟨(by rw [hS417.1, hS417.2.1]; decide), fun S421 eS421 => ?_⟩
  have hS421 : StR 83 11 0 846170 S421 := by rw [eS421]; exact hS417.nw rfl rfl rfl
  intro S423 eS423
  have hS423 : StR 83 10 0 846170 S423 := by rw [eS423, hS417.1]; exact hS421.pr rfl (by decide)
  refine ⟨(by rw [hS423.1, hS423.2.1]; decide), fun S427 eS427 => ?_⟩
  have hS427 : StR 84 10 0 846186 S427 := by rw [eS427]; exact hS423.nw rfl rfl rfl
  intro S429 eS429
  have hS429 : StR 84 9 0 846186 S429 := by rw [eS429, hS423.1]; exact hS427.pr rfl (by decide)
  refine ⟨(by rw [hS429.1, hS429.2.1]; decide), fun S433 eS433 => ?_⟩
  have hS433 : StR 85 9 0 846202 S433 := by rw [eS433]; exact hS429.nw rfl rfl rfl
  intro S435 eS435
  have hS435 : StR 85 8 0 846202 S435 := by rw [eS435, hS429.1]; exact hS433.pr rfl (by decide)
  refine ⟨(by rw [hS435.1, hS435.2.1]; decide), fun S439 eS439 => ?_⟩
  have hS439 : StR 86 8 0 846218 S439 := by rw [eS439]; exact hS435.nw rfl rfl rfl
  intro S441 eS441
  have hS441 : StR 86 7 0 846218 S441 := by rw [eS441, hS435.1]; exact hS439.pr rfl (by decide)
  refine ⟨(by rw [hS441.1, hS441.2.1]; decide), fun S445 eS445 => ?_⟩
  have hS445 : StR 87 7 0 846234 S445 := by rw [eS445]; exact hS441.nw rfl rfl rfl
  intro S447 eS447
  have hS447 : StR 87 6 0 846234 S447 := by rw [eS447, hS441.1]; exact hS445.pr rfl (by decide)
  refine ⟨(by rw [hS447.1, hS447.2.1]; decide), fun S451 eS451 => ?_⟩
  have hS451 : StR 88 6 0 847435 S451 := by rw [eS451]; exact hS447.nw rfl rfl rfl
  intro S453 eS453
  have hS453 : StR 88 5 0 847435 S453 := by rw [eS453, hS447.1]; exact hS451.pr rfl (by decide)
  refine ⟨(by rw [hS453.1, hS453.2.1]; decide), fun S457 eS457 => ?_⟩
  have hS457 : StR 89 5 0 848635 S457 := by rw [eS457]; exact hS453.nw rfl rfl rfl
  intro S459 eS459
  have hS459 : StR 89 4 0 848635 S459 := by rw [eS459, hS453.1]; exact hS457.pr rfl (by decide)
  refine ⟨(by rw [hS459.1, hS459.2.1]; decide), fun S463 eS463 => ?_⟩
  have hS463 : StR 90 4 0 849835 S463 := by rw [eS463]; exact hS459.nw rfl rfl rfl
  intro S465 eS465
  have hS465 : StR 90 3 0 849835 S465 := by rw [eS465, hS459.1]; exact hS463.pr rfl (by decide)
  refine ⟨(by rw [hS465.1, hS465.2.1]; decide), fun S469 eS469 => ?_⟩
  have hS469 : StR 91 3 0 851035 S469 := by rw [eS469]; exact hS465.nw rfl rfl rfl
  intro S471 eS471
  have hS471 : StR 91 2 0 851035 S471 := by rw [eS471, hS465.1]; exact hS469.pr rfl (by decide)
  refine ⟨(by rw [hS471.1, hS471.2.1]; decide), fun S475 eS475 => ?_⟩
  have hS475 : StR 92 2 0 852236 S475 := by rw [eS475]; exact hS471.nw rfl rfl rfl
  intro S477 eS477
  have hS477 : StR 92 1 0 852236 S477 := by rw [eS477, hS471.1]; exact hS475.pr rfl (by decide)
  refine ⟨(by rw [hS477.1, hS477.2.1]; decide), fun S481 eS481 => ?_⟩
  have hS481 : StR 93 1 0 853436 S481 := by rw [eS481]; exact hS477.nw rfl rfl rfl
  intro S483 eS483
  have hS483 : StR 93 0 0 853436 S483 := by rw [eS483, hS477.1]; exact hS481.pr rfl (by decide)
  exact hS483
/-! the fresh state (behind GI) -/
def IniI (S : MS) : Prop := GxI S ∧ (qn S = 93 ∧ qu S ≤ 860000) ∧ (∀ a : Nat, qT S a ≠ 0 → a < 93 ∨ TXB ≤ a) ∧ (qR S 0 75 = some 34 ∧ qR S 0 76 = some 35) ∧ (qN S 34 = 131072 ∧ qN S 35 = 131072) ∧ (∀ i : Nat, qI S 34 i = 0 ∧ qI S 35 i = 0 ∧ qI S 2 i = 0) ∧ (∀ j : Nat, j = 1 ∨ j = 2 ∨ j = 4 ∨ j = 5 ∨ j = 78 ∨ j = 85 ∨ j = 86 ∨ j = 88 ∨ j = 96 → qI S 0 j = 0) ∧ (qI S 0 106).toInt < 0 ∧ qR S 0 80 = none
theorem IniI.gi {S : MS} (h : IniI S) : GI 0 S ∧ (qI S 0 88).toInt = 0 := by
  obtain ⟨h1, ⟨h2, h3⟩, h4, ⟨h5, h6⟩, h7, h8, h9, h10, h11⟩ := h
  have z : ∀ j : Nat, j = 1 ∨ j = 2 ∨ j = 4 ∨ j = 5 ∨ j = 78 ∨ j = 85 ∨ j = 86 ∨ j = 88 ∨ j = 96 → (qI S 0 j).toInt = 0 := fun j hj => by rw [h9 j hj]; rfl
  have z1 := z 1 (by omega)
  have z2 := z 2 (by omega)
  have z4 := z 4 (by omega)
  have z5 := z 5 (by omega)
  have z78 := z 78 (by omega)
  have z85 := z 85 (by omega)
  have z86 := z 86 (by omega)
  have z88 := z 88 (by omega)
  have o5 := qO_s h5
  have o6 := qO_s h6
  refine ⟨⟨⟨⟨⟨by omega, by omega⟩, fun i hi => by omega⟩, fun i f hi => by omega, ⟨by omega, by rw [h2]; decide, fun a ha => by rw [h2]; exact h4 a ha⟩⟩, h1, ⟨⟨⟨Or.inl ⟨o5, o6⟩, by rw [o5]; exact h5, by rw [o6]; exact h6⟩, h7, fun i => by rw [(h8 i).1]; exact fit0, fun i => by rw [(h8 i).2.1]; exact fit0⟩, by omega, fun i => by rw [(h8 i).2.2]; exact fit0⟩, ⟨by omega, by omega, by omega, by omega⟩, ⟨Or.inl h11, ⟨by omega, by omega, fun a a1 a2 => by omega⟩, h9 96 (by omega)⟩, Or.inl h10, ?_⟩, z88⟩
  unfold RmI
  rw [z1, z2, h2]
  show ((93 : Nat) : Int) ≤ 93 + 780 * 0 + ((0 : Nat) : Int) + 110 * 0 + 14 * ((0 : Nat) : Int) ∧ (qu S : Int) ≤ 860000 + 106400 * 0 + 115200 * ((0 : Nat) : Int) + 1103 * 0 + 335 * ((0 : Nat) : Int)
  omega
theorem zr_ini {S : MS} (h : StR 93 0 0 853436 S) (hk : ∀ a : Nat, qT S a ≠ 0 → a < 93 ∨ TXB ≤ a) (tx : TxI S) : IniI S := by
  have F : ∀ q ∈ finL, q.2.1 < 93 ∧ TFr.getD q.2.1 0 = q.2.2.1 ∧ NFr.getD q.2.1 0 = q.2.2.2 := by decide +kernel
  have D : ∀ i : Nat, i < 13 → lRr RFr 60 (5 + i) = some (61 + i) ∧ NFr.getD (61 + i) 0 = 24 ∧ TFr.getD (61 + i) 0 ≠ 0 ∧ TFr.getD (61 + i) 0 ≠ 11 := by decide +kernel
  have I0 : ∀ x ∈ IFr, x.1 = 0 := by decide +kernel
  have no : ∀ (L : List (Nat × Nat × Int32)) (a j : Nat), (∀ x ∈ L, x.1 = 0) → a ≠ 0 → lIr L a j = 0 := by
    intro L
    induction L with
    | nil => intro a j _ _; rfl
    | cons x L ih =>
      intro a j hx ha
      show (if a = x.1 ∧ j = x.2.1 then x.2.2 else lIr L a j) = 0
      rw [if_neg (fun z => ha (by rw [z.1]; exact hx x List.mem_cons_self))]
      exact ih a j (fun y hy => hx y (List.mem_cons_of_mem _ hy)) ha
  have Z : ∀ j : Nat, j = 1 ∨ j = 2 ∨ j = 4 ∨ j = 5 ∨ j = 78 ∨ j = 85 ∨ j = 86 ∨ j = 88 ∨ j = 96 → lIr IFr 0 j = 0 := by
    intro j hj
    rcases hj with rfl | rfl | rfl | rfl | rfl | rfl | rfl | rfl | rfl <;> decide +kernel
  refine ⟨⟨⟨h.T (by decide) (by decide +kernel), fun q hq => ⟨h.T (F q hq).1 (F q hq).2.1, h.N (F q hq).1 (F q hq).2.2⟩⟩, tx, fun i hi => ⟨h.R (by decide) (D i hi).1, h.N (by omega) (D i hi).2.1⟩, fun i hi => ?_, h.T (by decide) (by decide +kernel), h.T (by decide) (by decide +kernel), fun k => ?_⟩, ⟨h.1, by rw [h.2.1]; decide⟩, hk, ⟨h.R (by decide) (by decide +kernel), h.R (by decide) (by decide +kernel)⟩, ⟨h.N (by decide) (by decide +kernel), h.N (by decide) (by decide +kernel)⟩, fun i => ⟨?_, ?_, ?_⟩, fun j hj => h.I (by decide) (Z j hj), ?_, h.R0 (by decide) (by decide +kernel)⟩
  · rw [(h.2.2.1 (61 + i) (by omega)).1]
    exact (D i hi).2.2
  · have r0 : ∀ a : Nat, a ≠ 0 → a < 93 → tyG (qI S a k) := fun a a0 a1 => by rw [h.I a1 (no _ _ _ I0 a0)]; exact ty_0
    exact ⟨r0 25 (by decide) (by decide), r0 26 (by decide) (by decide), r0 23 (by decide) (by decide)⟩
  · exact h.I (by decide) (no _ _ _ I0 (by decide))
  · exact h.I (by decide) (no _ _ _ I0 (by decide))
  · exact h.I (by decide) (no _ _ _ I0 (by decide))
  · rw [h.I (by decide) (show lIr IFr 0 106 = -1 by decide +kernel)]
    decide
