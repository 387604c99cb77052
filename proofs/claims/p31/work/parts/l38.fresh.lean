/-! the two objects, fresh from new -/
def MSx (t0 sz nt : Nat) (sL : List Nat) (sB : List (List Int32)) : MS :=
  (fun a k => if TXB ≤ a ∧ (a - TXB) % 2 = 1 then (sB.getD ((a - TXB) / 2) []).getD k 0 else 0, fun _ _ => 0, fun _ _ => none, fun a => if a = 0 then t0 else if TXB ≤ a ∧ (a - TXB) / 2 < nt then (if (a - TXB) % 2 = 0 then 12 else 22) else 0, fun a => if TXB ≤ a ∧ (a - TXB) % 2 = 1 then sL.getD ((a - TXB) / 2) 0 else 0, 1, sz)
section MSX
variable {t0 sz nt a i k j b : Nat} {sL : List Nat} {sB : List (List Int32)}
theorem mx_T : qT (MSx t0 sz nt sL sB) a = if a = 0 then t0 else if TXB ≤ a ∧ (a - TXB) / 2 < nt then (if (a - TXB) % 2 = 0 then 12 else 22) else 0 := rfl
theorem mx_I : qI (MSx t0 sz nt sL sB) a k = if TXB ≤ a ∧ (a - TXB) % 2 = 1 then (sB.getD ((a - TXB) / 2) []).getD k 0 else 0 := rfl
theorem mx_N : qN (MSx t0 sz nt sL sB) a = if TXB ≤ a ∧ (a - TXB) % 2 = 1 then sL.getD ((a - TXB) / 2) 0 else 0 := rfl
theorem mx_k : qT (MSx t0 sz nt sL sB) b = 0 ∨ (b = 0 ∧ qT (MSx t0 sz nt sL sB) b = t0) ∨ (qT (MSx t0 sz nt sL sB) b = 12 ∧ ∃ i : Nat, i < nt ∧ b = TXB + 2 * i) ∨ (qT (MSx t0 sz nt sL sB) b = 22 ∧ ∃ i : Nat, i < nt ∧ b = TXB + 2 * i + 1) := by
  have z : TXB = 10000000 := rfl
  rw [mx_T]
  by_cases h0 : b = 0
  · right; left; rw [if_pos h0]; exact ⟨h0, rfl⟩
  · rw [if_neg h0]
    by_cases h1 : TXB ≤ b ∧ (b - TXB) / 2 < nt
    · rw [if_pos h1]
      by_cases h2 : (b - TXB) % 2 = 0
      · right; right; left; rw [if_pos h2]; exact ⟨rfl, (b - TXB) / 2, h1.2, by omega⟩
      · right; right; right; rw [if_neg h2]; exact ⟨rfl, (b - TXB) / 2, h1.2, by omega⟩
    · left; rw [if_neg h1]
theorem mx_tx (hi : i < nt) : qT (MSx t0 sz nt sL sB) (TXB + 2 * i) = 12 ∧ qT (MSx t0 sz nt sL sB) (TXB + 2 * i + 1) = 22 ∧ qN (MSx t0 sz nt sL sB) (TXB + 2 * i + 1) = sL.getD i 0 ∧ ∀ k : Nat, qI (MSx t0 sz nt sL sB) (TXB + 2 * i + 1) k = (sB.getD i []).getD k 0 := by
  have z : TXB = 10000000 := rfl
  have e1 : (TXB + 2 * i - TXB) / 2 = i := by omega
  have e2 : (TXB + 2 * i + 1 - TXB) / 2 = i := by omega
  refine ⟨?_, ?_, ?_, fun k => ?_⟩
  · rw [mx_T, if_neg (by omega), if_pos ⟨by omega, by rw [e1]; exact hi⟩, if_pos (by omega)]
  · rw [mx_T, if_neg (by omega), if_pos ⟨by omega, by rw [e2]; exact hi⟩, if_neg (by omega)]
  · rw [mx_N, if_pos ⟨by omega, by omega⟩, e2]
  · rw [mx_I, if_pos ⟨by omega, by omega⟩, e2]
end MSX
def Sc0 : MS := MSx 51 18 NTC sLc sBc
def Sr0 : MS := MSx 10 143 NTX sLr sBr
theorem sLc_le (i : Nat) : sLc.getD i 0 ≤ 8388608 := by
  by_cases h : i < 7
  · exact (show ∀ i, i < 7 → sLc.getD i 0 ≤ 8388608 by decide) i h
  · have e : sLc[i]? = none := List.getElem?_eq_none (Nat.not_lt.mp h)
    rw [List.getD_eq_getElem?_getD, e]; exact Nat.zero_le _
theorem wfc0 : wfCZ Sc0 := by
  have z : TXB = 10000000 := rfl
  refine ⟨rfl, fun q hq => absurd hq List.not_mem_nil, fun a j b e => ?_, fun b h1 h2 h3 => ?_, fun b h => ?_, fun i hi => mx_tx hi, by show 1 ≤ TXB; omega, fun b h => ?_, fun b i h => ?_, fun b j h => ?_, fun b h => ?_, fun p hp => absurd hp List.not_mem_nil⟩
  · exact absurd e (by show (none : Option Nat) ≠ some b; exact fun q => by cases q)
  · rcases mx_k (t0 := 51) (sz := 18) (nt := NTC) (sL := sLc) (sB := sBc) (b := b) with h | ⟨h, -⟩ | ⟨h, -⟩ | ⟨h, -⟩
    · exact absurd h h1
    · rw [h]; exact Nat.zero_lt_one
    · exact absurd h h2
    · exact absurd h h3
  · rcases mx_k (t0 := 51) (sz := 18) (nt := NTC) (sL := sLc) (sB := sBc) (b := b) with k | ⟨-, k⟩ | ⟨k, i, hi, e⟩ | ⟨k, -⟩
    · exact absurd (k.symm.trans h) (by decide)
    · exact absurd (k.symm.trans h) (by decide)
    · exact ⟨i, hi, e⟩
    · exact absurd (k.symm.trans h) (by decide)
  · rcases mx_k (t0 := 51) (sz := 18) (nt := NTC) (sL := sLc) (sB := sBc) (b := b) with k | ⟨-, k⟩ | ⟨k, -⟩ | ⟨k, i, hi, e⟩
    · exact absurd (k.symm.trans h) (by decide)
    · exact absurd (k.symm.trans h) (by decide)
    · exact absurd (k.symm.trans h) (by decide)
    · omega
  · rcases mx_k (t0 := 51) (sz := 18) (nt := NTC) (sL := sLc) (sB := sBc) (b := b) with k | ⟨-, k⟩ | ⟨k, -⟩ | ⟨k, -⟩ <;> (have k : qT Sc0 b = _ := k; rw [k] at h; exact absurd h (by decide))
  · rcases mx_k (t0 := 51) (sz := 18) (nt := NTC) (sL := sLc) (sB := sBc) (b := b) with k | ⟨e, k⟩ | ⟨k, -⟩ | ⟨k, -⟩
    · have k : qT Sc0 b = 0 := k
      rw [k] at h; exact absurd h (by show ¬ ztgC 0 j = true; unfold ztgC; simp)
    · left; show (if TXB ≤ b ∧ (b - TXB) % 2 = 1 then _ else (0 : Int32)) = 0; rw [if_neg (by omega)]
    · have k : qT Sc0 b = 12 := k
      rw [k] at h; exact absurd h (by show ¬ ztgC 12 j = true; unfold ztgC; simp)
    · have k : qT Sc0 b = 22 := k
      rw [k] at h; exact absurd h (by show ¬ ztgC 22 j = true; unfold ztgC; simp)
  · show (if TXB ≤ b ∧ (b - TXB) % 2 = 1 then sLc.getD ((b - TXB) / 2) 0 else 0) ≤ 8388608
    split
    · exact sLc_le _
    · exact Nat.zero_le _
theorem wfr0 : wfMZ Sr0 := by
  have z : TXB = 10000000 := rfl
  refine ⟨rfl, fun q hq => absurd hq List.not_mem_nil, fun a j b e => ?_, fun b h1 h2 h3 => ?_, fun b h => ?_, fun i hi => mx_tx hi, by show 1 ≤ TXB; omega, fun b h => ?_, fun b h => ?_⟩
  · exact absurd e (by show (none : Option Nat) ≠ some b; exact fun q => by cases q)
  · rcases mx_k (t0 := 10) (sz := 143) (nt := NTX) (sL := sLr) (sB := sBr) (b := b) with h | ⟨h, -⟩ | ⟨h, -⟩ | ⟨h, -⟩
    · exact absurd h h1
    · rw [h]; exact Nat.zero_lt_one
    · exact absurd h h2
    · exact absurd h h3
  · rcases mx_k (t0 := 10) (sz := 143) (nt := NTX) (sL := sLr) (sB := sBr) (b := b) with k | ⟨-, k⟩ | ⟨k, i, hi, e⟩ | ⟨k, -⟩
    · exact absurd (k.symm.trans h) (by decide)
    · exact absurd (k.symm.trans h) (by decide)
    · exact Or.inr ⟨i, hi, e⟩
    · exact absurd (k.symm.trans h) (by decide)
  · rcases mx_k (t0 := 10) (sz := 143) (nt := NTX) (sL := sLr) (sB := sBr) (b := b) with k | ⟨-, k⟩ | ⟨k, -⟩ | ⟨k, -⟩ <;> exact absurd (k.symm.trans h) (by decide)
  · rcases mx_k (t0 := 10) (sz := 143) (nt := NTX) (sL := sLr) (sB := sBr) (b := b) with k | ⟨-, k⟩ | ⟨k, -⟩ | ⟨k, i, hi, e⟩
    · exact absurd (k.symm.trans h) (by decide)
    · exact absurd (k.symm.trans h) (by decide)
    · exact absurd (k.symm.trans h) (by decide)
    · omega
theorem stc0 : StC 1 79 6 18 Sc0 := by
  have e1 : RFc.drop 79 = [] := by decide +kernel
  have e2 : IFc.drop 6 = [] := by decide +kernel
  refine ⟨rfl, rfl, fun a ha => ?_, fun a j ha => ?_, fun x hx => ?_, fun x hx => ?_⟩
  · obtain rfl : a = 0 := by omega
    exact ⟨rfl, rfl⟩
  · obtain rfl : a = 0 := by omega
    rw [e1, e2]
    exact ⟨rfl, rfl⟩
  · rw [e1] at hx; exact absurd hx List.not_mem_nil
  · rw [e2] at hx; exact absurd hx List.not_mem_nil
theorem str0 : StR 1 92 5 143 Sr0 := by
  have e1 : RFr.drop 92 = [] := by decide +kernel
  have e2 : IFr.drop 5 = [] := by decide +kernel
  refine ⟨rfl, rfl, fun a ha => ?_, fun a j ha => ?_, fun x hx => ?_, fun x hx => ?_⟩
  · obtain rfl : a = 0 := by omega
    exact ⟨rfl, rfl⟩
  · obtain rfl : a = 0 := by omega
    rw [e1, e2]
    exact ⟨rfl, rfl⟩
  · rw [e1] at hx; exact absurd hx List.not_mem_nil
  · rw [e2] at hx; exact absurd hx List.not_mem_nil
/-- behind the reference's constructor -/
theorem zr_wfM {u : MS} (w : wfMZ u) (h : StR 93 0 0 853436 u) : wfM u := by
  have F : ∀ q ∈ finL, q.2.1 < 93 ∧ lRr RFr 0 q.1 = some q.2.1 ∧ TFr.getD q.2.1 0 = q.2.2.1 ∧ NFr.getD q.2.1 0 = q.2.2.2 := by decide +kernel
  obtain ⟨h1, h2, h3, h4, h5, h6⟩ := h
  refine ⟨w.1, fun q hq => ?_, w.2.2⟩
  obtain ⟨f1, f2, f3, f4⟩ := F q hq
  exact ⟨(h4 0 q.1 (by omega)).1.trans f2, (h3 _ f1).1.trans f3, (h3 _ f1).2.trans f4⟩
theorem zr_gi {u : MS} (w : wfM u) (h : StR 93 0 0 853436 u) : GI 0 u ∧ (qI u 0 88).toInt = 0 := by
  refine (zr_ini h (fun a ha => ?_) (fun i hi => (w.2.2.2.2.2.1 i hi).2)).gi
  by_cases e12 : qT u a = 12
  · rcases w.2.2.2.2.1 a e12 with k | ⟨i, -, e⟩
    · left; have := h.1; omega
    · right; omega
  · by_cases e22 : qT u a = 22
    · right; exact w.2.2.2.2.2.2.2.2 a e22
    · left; have := w.2.2.2.1 a ha e12 e22; have := h.1; omega
