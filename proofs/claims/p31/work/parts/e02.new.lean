def KC : Nat := 300000
def KS : Nat := 3720000
theorem wfM.hd {S : MS} {b t : Nat} (h : wfM S) (e : qT S b = t) (h0 : t ≠ 0) (h22 : t ≠ 22) : b < qn S ∨ TXB ≤ b := by
  by_cases e12 : t = 12
  · rcases h.2.2.2.2.1 b (by omega) with ⟨h1, -⟩ | ⟨i, -, rfl⟩
    · exact Or.inl (by omega)
    · exact Or.inr (by omega)
  · exact Or.inl (h.lt e h0 e12 h22)
theorem ogR.ad {ad ad' : Nat → Nat} {A : Nat → Prop} {U : State} {H : Heap} {S : MS} (h : ogR ad A U H) (k : adk ad ad' S) : ogR ad' A U H := by
  refine ⟨h.1, fun i hi => ?_, fun x hx => ?_⟩
  · rw [k _ (Or.inr (by omega)), k _ (Or.inr (by omega))]
    exact h.2.1 i hi
  · rw [k _ (Or.inr (by omega))]
    exact h.2.2 x hx
/-- what was made since S -/
def lg (S U : MS) (dc ds : Nat) : Prop := dc = qn U - qn S ∧ ds = qu U - qu S ∧ qn S ≤ qn U ∧ qu S ≤ qu U ∧ dc ≤ KC - qn S ∧ ds ≤ KS - qu S
theorem lg.rf {S : MS} : lg S S 0 0 := ⟨by omega, by omega, Nat.le_refl _, Nat.le_refl _, Nat.zero_le _, Nat.zero_le _⟩
theorem lg.new {S U : MS} {dc ds t n k : Nat} (h : lg S U dc ds) (hc : qn U + 1 ≤ KC ∧ qu U + k ≤ KS) : lg S (wN U t n k) (dc + 1) (ds + k) := by
  obtain ⟨h1, h2, h3, h4, h5, h6⟩ := h
  have e1 : qn (wN U t n k) = qn U + 1 := rfl
  have e2 : qu (wN U t n k) = qu U + k := rfl
  refine ⟨by omega, by omega, by omega, by omega, by omega, by omega⟩
theorem lg.call {S U V : MS} {dc ds ec es : Nat} (h : lg S U dc ds) (k : lg U V ec es) : lg S V (dc + ec) (ds + es) := by
  obtain ⟨h1, h2, h3, h4, h5, h6⟩ := h
  obtain ⟨k1, k2, k3, k4, k5, k6⟩ := k
  refine ⟨by omega, by omega, by omega, by omega, by omega, by omega⟩
theorem lg.c {S U : MS} {dc ds : Nat} (h : lg S U dc ds) : dc + 0 ≤ KC - qn S := h.2.2.2.2.1
theorem lg.s {S U : MS} {dc ds : Nat} (h : lg S U dc ds) : ds + 0 ≤ KS - qu S := h.2.2.2.2.2
theorem lg.c1 {S U : MS} {dc ds : Nat} (h : lg S U dc ds) (hc : qn U + 1 ≤ KC) : dc + 1 ≤ KC - qn S := by
  obtain ⟨h1, h2, h3, h4, h5, h6⟩ := h
  omega
theorem lg.s1 {S U : MS} {dc ds k : Nat} (h : lg S U dc ds) (hc : qu U + k ≤ KS) : ds + k ≤ KS - qu S := by
  obtain ⟨h1, h2, h3, h4, h5, h6⟩ := h
  omega
theorem lg.cm {S U : MS} {dc ds : Nat} (h : lg S U dc ds) : dc + (KC - qn U) ≤ KC - qn S := by
  obtain ⟨h1, h2, h3, h4, h5, h6⟩ := h
  omega
theorem lg.sm {S U : MS} {dc ds : Nat} (h : lg S U dc ds) : ds + (KS - qu U) ≤ KS - qu S := by
  obtain ⟨h1, h2, h3, h4, h5, h6⟩ := h
  omega
def st_RH (g : Gr) (ad : Nat → Nat) (H0 : Heap) (S : MS) (U : State) : Prop := U.heap = H0 ∧ st_R g ad H0.size S U
theorem rblindH {av : List Value} {g : Gr} {ad : Nat → Nat} {H0 : Heap} {S : MS} : FrameBlind (va_Pc av (st_RH g ad H0 S)) := fun a U f mk q => ⟨(rblind a U f mk ⟨q.1, q.2.2⟩).1, q.2.1, (rblind a U f mk ⟨q.1, q.2.2⟩).2⟩
theorem rmkH {av : List Value} {g : Gr} {ad : Nat → Nat} {A : Nat → Prop} {s U : State} {S : MS} {H : Heap} {locs : List Loc} (hU : U.heap = H) (hW : s.WarmedH U.vm) (r : Rep g ad A s S H locs) (hex : ex s) (hE : ogR ad A s s.heap) (hF : ∀ q, va_A (Wd g ad S) H.size q → A q) : va_Pc av (st_RH g ad H S) av.toArray U := ⟨rfl, hU, (rmk (av := av) hU hW r hex hE hF).2⟩
def qEH (g : Gr) (A : Nat → Prop) (S : MS) (H0 : Heap) (u : MS × (Nat → Nat)) (t : State) : Prop := qE g u.2 A u.1 t ∧ ∃ dc ds : Nat, Led2 H0 t.heap dc ds ∧ lg S u.1 dc ds
theorem Rep.callH {g : Gr} {ad ad' : Nat → Nat} {A : Nat → Prop} {s t : State} {S u : MS} {H H1 : Heap} {locs locs1 : List Loc} (r : Rep g ad A s S H locs) (ht : t.heap = H1) (hB : qE g ad' (va_A (Wd g ad S) H.size) u t) (hw : wfM u) (hS : va_S A s.heap H1 locs1) (hF : ∀ q, va_A (Wd g ad S) H.size q → A q) : Rep g ad' A s u H1 locs1 :=
  ⟨r.K, by rw [← ht]; exact hB.1, hB.2.weaken (fun _ _ _ h => hF _ h), hS, hw⟩
theorem cls_new2 {g : Gr} {s : State} {cA cB : ClassId} {ty : FieldType} {k : Nat} (hK : va_K (rD g) cl2 (tyR g) s) (hK' : va_K (rD g) cl2 (tyR g ++ [(cA, ty)]) s) (hk : (tyR g)[k]? = some (cB, ty)) (hp : ∀ C, ty ≠ .object C) : cB = cA := by
  have h1 := (hK.2 k _ hk).2
  have h2 := (hK'.2 6 (cA, ty) rfl).2
  cases ty with
  | object C => exact absurd rfl (hp C)
  | _ => exact Option.some.inj (h1.symm.trans h2)
theorem cls_newR2 {g : Gr} {s : State} {cA cB : ClassId} {C : String} {k : Nat} (hK : va_K (rD g) cl2 (tyR g) s) (hK' : va_K (rD g) cl2 (tyR g ++ [(cA, .object C)]) s) (hk : (tyR g)[k]? = some (cB, .object C)) : cB = cA := by
  obtain ⟨_, _, _, _, _, h1⟩ := (hK.2 k _ hk).2
  obtain ⟨_, _, _, _, _, h2⟩ := (hK'.2 6 (cA, .object C) rfl).2
  exact Option.some.inj (h1.symm.trans h2)
/-- no kind at the next handle -/
theorem wfM.nx {S : MS} (h : wfM S) (hT : qn S < TXB) : qT S (qn S) = 0 := by
  by_cases e0 : qT S (qn S) = 0
  · exact e0
  · exfalso
    by_cases e12 : qT S (qn S) = 12
    · rcases h.2.2.2.2.1 _ e12 with ⟨h1, -⟩ | ⟨i, -, h1⟩ <;> omega
    · by_cases e22 : qT S (qn S) = 22
      · have := h.2.2.2.2.2.2.2.2 _ e22; omega
      · exact absurd (h.2.2.2.1 _ e0 e12 e22) (Nat.lt_irrefl _)
theorem fin_ok : ∀ q ∈ finL, q.2.2.1 ≠ 0 ∧ q.2.2.1 ≠ 12 ∧ q.2.2.1 ≠ 22 := by decide
theorem wfM.new {S : MS} {t n k : Nat} (h : wfM S) (hT : qn S < TXB) (ht : t ≠ 0 ∧ t ≠ 12 ∧ t ≠ 22) (h21 : t = 21 → n < 2147483648) : wfM (wN S t n k) := by
  have z := h.nx hT
  have eT : ∀ a, a ≠ qn S → qT (wN S t n k) a = qT S a := fun a ha => if_neg ha
  have eN : ∀ a, a ≠ qn S → qN (wN S t n k) a = qN S a := fun a ha => if_neg ha
  have eI : ∀ a, a ≠ qn S → qI (wN S t n k) a = qI S a := fun a ha => if_neg ha
  have eR : ∀ a, a ≠ qn S → qR (wN S t n k) a = qR S a := fun a ha => if_neg ha
  have sT : qT (wN S t n k) (qn S) = t := if_pos rfl
  have sN : qN (wN S t n k) (qn S) = n := if_pos rfl
  have sR : qR (wN S t n k) (qn S) = fun _ => none := if_pos rfl
  have en : qn (wN S t n k) = qn S + 1 := rfl
  have ne : ∀ {a x : Nat}, qT S a = x → x ≠ 0 → a ≠ qn S := fun e e0 q => e0 (by rw [← e, q, z])
  refine ⟨?_, fun q hq => ?_, fun a j b e => ?_, fun b e0 e12 e22 => ?_, fun b e => ?_, fun i hi => ?_, by omega, fun b e => ?_, fun b e => ?_⟩
  · rw [eT 0 (ne h.1 (by decide))]; exact h.1
  · obtain ⟨f1, f2, f3⟩ := fin_ok q hq
    obtain ⟨q1, q2, q3⟩ := h.2.1 q hq
    rw [eR 0 (ne h.1 (by decide)), eT _ (ne q2 f1), eN _ (ne q2 f1)]
    exact ⟨q1, q2, q3⟩
  · by_cases ea : a = qn S
    · rw [ea, sR] at e; cases e
    · rw [eR a ea] at e
      obtain ⟨q1, q2⟩ := h.2.2.1 a j b e
      rw [eT a ea, eT b (ne q1 q2)]
      exact ⟨q1, q2⟩
  · by_cases eb : b = qn S
    · omega
    · rw [eT b eb] at e0 e12 e22
      have := h.2.2.2.1 b e0 e12 e22
      omega
  · by_cases eb : b = qn S
    · rw [eb, sT] at e; exact absurd e ht.2.1
    · rw [eT b eb] at e
      rcases h.2.2.2.2.1 b e with ⟨h1, h2⟩ | h2
      · exact Or.inl ⟨by omega, by rw [eT _ (by omega)]; exact h2⟩
      · exact Or.inr h2
  · obtain ⟨h1, h2, h3, h4⟩ := h.2.2.2.2.2.1 i hi
    rw [eT _ (by omega), eT _ (by omega), eN _ (by omega), eI _ (by omega)]
    exact ⟨h1, h2, h3, h4⟩
  · by_cases eb : b = qn S
    · rw [eb, sT] at e; rw [eb, sN]; exact h21 e
    · rw [eT b eb] at e; rw [eN b eb]; exact h.2.2.2.2.2.2.2.1 b e
  · by_cases eb : b = qn S
    · rw [eb, sT] at e; exact absurd e ht.2.2
    · rw [eT b eb] at e; exact h.2.2.2.2.2.2.2.2 b e
theorem cel_ad {g : Gr} {ad ad' : Nat → Nat} {S : MS} {h : Nat} (hr : ∀ j b : Nat, qR S h j = some b → ad' b = ad b) (hs : qT S h = 12 → ad' (h + 1) = ad (h + 1)) : cel g ad' S h = cel g ad S h := by
  have er : ∀ j, vf ad' (qR S h j) = vf ad (qR S h j) := fun j => by
    cases e : qR S h j with
    | none => rfl
    | some b => show Value.ref (ad' b) = Value.ref (ad b); rw [hr j b e]
  have em : (fun i => (qR S h i).map ad') = fun i => (qR S h i).map ad := by
    funext j
    cases e : qR S h j with
    | none => rfl
    | some b => show some (ad' b) = some (ad b); rw [hr j b e]
  unfold cel
  rw [em, show F14 (qI S h) (qJ S h) (qR S h) ad' = F14 (qI S h) (qJ S h) (qR S h) ad by unfold F14; simp only [er], show F13 (qI S h) (qJ S h) (qR S h) ad' = F13 (qI S h) (qJ S h) (qR S h) ad by unfold F13; simp only [er], show F16 (qI S h) (qR S h) ad' = F16 (qI S h) (qR S h) ad by unfold F16; simp only [er]]
  by_cases e12 : qT S h = 12
  · rw [hs e12]
  · rw [if_neg e12, if_neg e12]
theorem Wd_new {g : Gr} {ad : Nat → Nat} {S : MS} {t n k q : Nat} (h : wfM S) (hT : qn S < TXB) : Wd g (adx ad (qn S) q) (wN S t n k) = Wd g ad S ++ [(q, cel g (adx ad (qn S) q) (wN S t n k) (qn S))] := by
  have z := h.nx hT
  show ((List.range (qn S + 1)).map (fun h => (adx ad (qn S) q h, cel g (adx ad (qn S) q) (wN S t n k) h))) = _
  rw [List.range_succ, List.map_append, List.map_singleton, show adx ad (qn S) q (qn S) = q from if_pos rfl]
  congr 1
  unfold Wd
  apply List.map_congr_left
  intro a ha
  have hl := List.mem_range.mp ha
  have hne : a ≠ qn S := by omega
  rw [show adx ad (qn S) q a = ad a from if_neg hne]
  congr 1
  rw [cel_eq (S' := wN S t n k) (S := S) (if_neg hne) (if_neg hne) (if_neg hne) (if_neg hne) (if_neg hne)]
  refine cel_ad (fun j b e => if_neg (fun e2 => ?_)) (fun e12 => if_neg (fun e2 => ?_))
  · obtain ⟨q1, q2⟩ := h.2.2.1 a j b e
    exact q2 (by rw [← q1, e2, z])
  · rcases h.2.2.2.2.1 a e12 with ⟨h1, -⟩ | ⟨i, -, h1⟩ <;> omega
theorem Rep.new {g : Gr} {ad : Nat → Nat} {A : Nat → Prop} {s : State} {S : MS} {H H1 : Heap} {locs locs1 : List Loc} {t n k q : Nat} {c : va_E} (r : Rep g ad A s S H locs) (hT : qn S < TXB) (ht : t ≠ 0 ∧ t ≠ 12 ∧ t ≠ 22) (h21 : t = 21 → n < 2147483648) (hc : cel g (adx ad (qn S) q) (wN S t n k) (qn S) = c) (hP : va_P (rD g) cl2 (Wd g ad S ++ [(q, c)]) H1) (hD : va_D A (Wd g ad S ++ [(q, c)])) (hS : va_S A s.heap H1 locs1) : Rep g (adx ad (qn S) q) A s (wN S t n k) H1 locs1 := by
  refine ⟨r.K, ?_, ?_, hS, r.w.new hT ht h21⟩
  · rw [Wd_new r.w hT, hc]; exact hP
  · rw [Wd_new r.w hT, hc]; exact hD
theorem wN_T {S : MS} {t n k : Nat} : qT (wN S t n k) (qn S) = t := if_pos rfl
theorem wN_cI {g : Gr} {ad : Nat → Nat} {S : MS} {n k : Nat} : cel g ad (wN S 2 n k) (qn S) = .inl (g.cI, n, .inl (fun _ => 0)) := by rw [celI wN_T, show qN (wN S 2 n k) (qn S) = n from if_pos rfl, show qI (wN S 2 n k) (qn S) = fun _ => 0 from if_pos rfl]
theorem wN_cB {g : Gr} {ad : Nat → Nat} {S : MS} {n k : Nat} : cel g ad (wN S 1 n k) (qn S) = .inl (g.cB, n, .inl (fun _ => 0)) := by rw [celB wN_T, show qN (wN S 1 n k) (qn S) = n from if_pos rfl, show qI (wN S 1 n k) (qn S) = fun _ => 0 from if_pos rfl]
theorem wN_cZ {g : Gr} {ad : Nat → Nat} {S : MS} {n k : Nat} : cel g ad (wN S 3 n k) (qn S) = .inl (g.cZ, n, .inl (fun _ => 0)) := by rw [celZ wN_T, show qN (wN S 3 n k) (qn S) = n from if_pos rfl, show qI (wN S 3 n k) (qn S) = fun _ => 0 from if_pos rfl]
theorem wN_cL {g : Gr} {ad : Nat → Nat} {S : MS} {n k : Nat} : cel g ad (wN S 4 n k) (qn S) = .inl (g.cL, n, .inr (.inl (fun _ => 0))) := by rw [celL wN_T, show qN (wN S 4 n k) (qn S) = n from if_pos rfl, show qJ (wN S 4 n k) (qn S) = fun _ => 0 from if_pos rfl]
theorem wN_cS {g : Gr} {ad : Nat → Nat} {S : MS} {n k : Nat} : cel g ad (wN S 5 n k) (qn S) = .inl (g.cS, n, .inr (.inr (.inr (.inr (fun _ => none))))) := by rw [celS wN_T, show qN (wN S 5 n k) (qn S) = n from if_pos rfl, show qR (wN S 5 n k) (qn S) = fun _ => none from if_pos rfl]; rfl
theorem wN_cF {g : Gr} {ad : Nat → Nat} {S : MS} {n k : Nat} : cel g ad (wN S 6 n k) (qn S) = .inl (g.cF, n, .inr (.inr (.inr (.inr (fun _ => none))))) := by rw [celF wN_T, show qN (wN S 6 n k) (qn S) = n from if_pos rfl, show qR (wN S 6 n k) (qn S) = fun _ => none from if_pos rfl]; rfl
theorem wN_c13 {g : Gr} {ad : Nat → Nat} {S : MS} {n k : Nat} : cel g ad (wN S 11 n k) (qn S) = .inr (12, F13 (fun _ => 0) (fun _ => 0) (fun _ => none) ad) := by rw [cel13 wN_T, show qI (wN S 11 n k) (qn S) = fun _ => 0 from if_pos rfl, show qJ (wN S 11 n k) (qn S) = fun _ => 0 from if_pos rfl, show qR (wN S 11 n k) (qn S) = fun _ => none from if_pos rfl]
theorem shx.new {S U : MS} {t n k : Nat} (h : shx S U) (hw : wfM U) (hT : qn U < TXB) : shx S (wN U t n k) := h.tr ⟨fun b hb => by
  have hne : b ≠ qn U := fun e => hb (by rw [e, hw.nx hT])
  exact ⟨if_neg hne, if_neg hne⟩, Nat.le_succ _⟩
theorem lg.same {S U V : MS} {dc ds : Nat} (h : lg S U dc ds) (k : shy U V) : lg S V dc ds := by
  obtain ⟨h1, h2, h3, h4, h5, h6⟩ := h
  refine ⟨by rw [k.2.1]; exact h1, by rw [k.2.2]; exact h2, by rw [k.2.1]; exact h3, by rw [k.2.2]; exact h4, h5, h6⟩
section
variable {p : Program} {l : Launch} {e : Env} {R : Room} {s : State} {m : MethodId} {args : Array Value} {below : List Frame} {meth : Method} {c : Code} {H : Heap} {locs : List Loc} {cells slots : Nat} {Q : State → Prop} {g : JFrame} {q : Addr}
theorem vx_led2 (k : Led2 s.heap H cells slots → vx_W p l e R s m args below meth c H locs cells slots Q g q) : vx_W p l e R s m args below meth c H locs cells slots Q g q := by
  intro T hT X
  obtain ⟨h1, h2, h3, h4, h5, h6⟩ := X.same
  refine k ⟨?_, ?_, ?_, fun a cc ha => ?_⟩ T hT X
  · rw [← hT]; exact h3
  · rw [← hT]; exact h5
  · rw [← hT]; exact h2
  · obtain ⟨c', q1, q2, q3, q4⟩ := h6 a cc ha
    exact ⟨c', by rw [← hT]; exact q1, q3⟩
end
section
variable {p : Program} {l : Launch} {e : Env} {R : Room} {s : State} {m : MethodId} {args : Array Value} {below : List Frame} {meth : Method} {c : Code} {H : Heap} {locs : List Loc} {cells slots : Nat} {Q : State → Prop}
variable {mc ms : Nat} {free : Addr → Prop} {A0 A1 : Nat → Prop} {H0 : Heap} {a : Array Value} {pc : Nat} {ls : Array Slot} {st0 rest : List Value}
theorem vx_callq {S SX : Type} {post : Option Nat → S → Prop} {px : SX → Prop} {B : S → State → Prop} {BX : String → SX → State → Prop} {AX : Nat → Prop} (hr : vx_Run p l e R s m args below meth c H locs cells slots mc ms (F0 m pc ls st0) rest (va_Qq post B A1 a) (vx_X px BX AX) free) (hS : va_S A0 H0 H locs) (hA : ∀ q, q < H.size → A1 q → A0 q) (hf : ∀ q, free q → A0 q) (hAX : ∀ q, q < H.size → AX q → A0 q)
    (kx : ∀ (E : String) (ce : Cell) (q9 : Addr) (u : SX) (t : State) (H1 : Heap) (locs1 : List Loc), t.heap = H1 → s.vm.Alike t.vm → px u → BX E u t → H.size ≤ H1.size → (∀ q : Nat, q < H.size → ¬ AX q → H1[q]? = H[q]?) → va_S A0 H0 H1 locs1 → H1[q9]? = some ce → ce.vm = .none → s.vm.findClass E = some ce.cls → vx_W p l e R s m args below meth c H1 locs1 (cells + mc) (slots + ms) Q (F0 m pc ls rest) q9)
    (kk : ∀ (r : Option Nat) (u : S) (t : State) (H1 : Heap) (locs1 : List Loc), t.heap = H1 → s.vm.Alike t.vm → post r u → B u t → H.size ≤ H1.size → (∀ q : Nat, q < H.size → ¬ A1 q → H1[q]? = H[q]?) → va_S A0 H0 H1 locs1 → W p l e R s m args below meth c H1 locs1 (cells + mc) (slots + ms) Q (F0 m (pc + 3) ls (va_rf r :: rest))) : W p l e R s m args below meth c H locs cells slots Q (F0 m pc ls st0) := by
  intro T hT X
  rcases hr T hT X with ⟨v, st₀, t, T', L, h0, X', hL, e1, e2, ⟨⟨r, u, hv, hp, hb⟩, hF⟩, st⟩ | ⟨q, st₀, t, T', L, E, ce, h0, X', hL, e1, e2, ⟨u, hp, hb, hF⟩, hce, hcv, hcl, st⟩
  · cases hv
    obtain ⟨k1, k2, k3⟩ := vx_keep h0 e1 hS hA hf hL hF
    obtain ⟨t2, a1, b1⟩ := kk r u t T'.heap (locs ++ L) e1.symm (by rw [← e2]; exact X'.warmed.alike) hp hb k1 k2 k3 T' rfl X'
    exact ⟨t2, st t2 a1, b1⟩
  · obtain ⟨k1, k2, k3⟩ := vx_keep h0 e1 hS hAX hf hL hF
    obtain ⟨t2, a1, b1⟩ := kx E ce q u t T'.heap (locs ++ L) e1.symm (by rw [← e2]; exact X'.warmed.alike) hp hb k1 k2 k3 (by rw [e1]; exact hce) hcv hcl T' rfl X'
    exact ⟨t2, st.trans a1, b1⟩
end
theorem wN_cV {g : Gr} {ad : Nat → Nat} {S : MS} {n k : Nat} : cel g ad (wN S 21 n k) (qn S) = .inl (g.cB, n, .inl (fun _ => 0)) := by rw [celV wN_T, show qN (wN S 21 n k) (qn S) = n from if_pos rfl, show qI (wN S 21 n k) (qn S) = fun _ => 0 from if_pos rfl]
theorem wN_cU {g : Gr} {ad : Nat → Nat} {S : MS} {n k : Nat} : cel g ad (wN S 13 n k) (qn S) = .inr (16, F16 (fun _ => 0) (fun _ => none) ad) := by rw [celU wN_T, show qI (wN S 13 n k) (qn S) = fun _ => 0 from if_pos rfl, show qR (wN S 13 n k) (qn S) = fun _ => none from if_pos rfl]
theorem wN_cT {g : Gr} {ad : Nat → Nat} {S : MS} {n k : Nat} : cel g ad (wN S 24 n k) (qn S) = .inr (15, F16 (fun _ => 0) (fun _ => none) ad) := by rw [celT wN_T, show qI (wN S 24 n k) (qn S) = fun _ => 0 from if_pos rfl, show qR (wN S 24 n k) (qn S) = fun _ => none from if_pos rfl]
/-- a copy of a row -/
def wK (S : MS) (h k : Nat) : MS := wC (wN S 21 (qN S h) k) (qn S) (qI S h)
theorem wfM.clone {S : MS} {h k : Nat} (w : wfM S) (hT : qn S < TXB) (e : qT S h = 21) : wfM (wK S h k) := wfM.putC (t := 21) (w.new hT (by decide) (fun _ => w.2.2.2.2.2.2.2.1 _ e)) (if_pos rfl) (by decide)
theorem Rep.clone {g : Gr} {ad : Nat → Nat} {A : Nat → Prop} {s : State} {S : MS} {H H1 : Heap} {locs locs1 : List Loc} {h k q : Nat} (r : Rep g ad A s S H locs) (hT : qn S < TXB) (e : qT S h = 21) (hP : va_P (rD g) cl2 (Wd g ad S ++ [(q, .inl (g.cB, qN S h, .inl (qI S h)))]) H1) (hD : va_D A (Wd g ad S ++ [(q, .inl (g.cB, qN S h, .inl (qI S h)))])) (hS : va_S A s.heap H1 locs1) : Rep g (adx ad (qn S) q) A s (wK S h k) H1 locs1 := by
  have ew : Wd g (adx ad (qn S) q) (wK S h k) = Wd g ad S ++ [(q, .inl (g.cB, qN S h, .inl (qI S h)))] := by
    have e1 : cel g (adx ad (qn S) q) (wK S h k) (qn S) = .inl (g.cB, qN S h, .inl (qI S h)) := by
      rw [celV (S := wK S h k) (if_pos rfl), show qN (wK S h k) (qn S) = qN S h from if_pos rfl, show qI (wK S h k) (qn S) = qI S h from if_pos rfl]
    have e2 := Wd_new (g := g) (ad := ad) (t := 21) (n := qN S h) (k := k) (q := q) r.w hT
    have e3 : Wd g (adx ad (qn S) q) (wK S h k) = (Wd g (adx ad (qn S) q) (wN S 21 (qN S h) k)).set (qn S) (adx ad (qn S) q (qn S), .inl (g.cB, qN S h, .inl (qI S h))) :=
      Wd_set (S' := wK S h k) (S := wN S 21 (qN S h) k) (h := qn S) (Nat.lt_succ_self _) rfl (fun a ha => cel_eq (S' := wK S h k) (S := wN S 21 (qN S h) k) (show (if a = qn S then qI S h else qI (wN S 21 (qN S h) k) a) = _ from if_neg ha) rfl rfl rfl rfl) e1
    have hlen : (Wd g ad S).length = qn S := by unfold Wd; rw [List.length_map, List.length_range]
    rw [e3, e2, show adx ad (qn S) q (qn S) = q from if_pos rfl, List.set_append_right _ _ (by omega), hlen, Nat.sub_self]
    rfl
  refine ⟨r.K, ?_, ?_, hS, r.w.clone hT e⟩
  · rw [ew]; exact hP
  · rw [ew]; exact hD
set_option maxRecDepth 100000 in
theorem mtg24 : ∀ x ∈ mtgL, x ≠ 24 := by decide
theorem ftg24 : ∀ x ∈ ftgL, x ≠ 24 := by decide
theorem getD_ne {L : List Nat} {t : Nat} (h : ∀ x ∈ L, x ≠ t) (h0 : 0 ≠ t) (j : Nat) : L.getD j 0 ≠ t := by
  rw [List.getD_eq_getElem?_getD]
  cases e : L[j]? with
  | none => exact h0
  | some x => exact h x (List.mem_of_getElem? e)
theorem etg24 (t j : Nat) : etg t j ≠ 24 := by
  unfold etg
  split
  · exact getD_ne mtg24 (by decide) j
  · split
    · exact getD_ne ftg24 (by decide) j
    · repeat' split
      all_goals decide
set_option maxRecDepth 100000 in
theorem fin24 : ∀ q ∈ finL, q.2.2.1 ≠ 24 := by decide
/-- a text that is made: it can be read as the others -/
theorem wfM.str {S : MS} {h : Nat} (w : wfM S) (e : qT S h = 24) (h0 : qR S h 0 = some (h + 1)) : wfM (wT S h 12) := by
  have eT : ∀ a, a ≠ h → qT (wT S h 12) a = qT S a := fun a ha => if_neg ha
  have ne : ∀ {a x : Nat}, qT S a = x → x ≠ 24 → a ≠ h := fun ea ex q => ex (by rw [← ea, q, e])
  have h21 : qT S (h + 1) = 21 := by have := w.ref h0 e; exact this
  refine ⟨?_, fun q hq => ?_, fun a j b ea => ?_, fun b b0 b12 b22 => ?_, fun b eb => ?_, fun i hi => ?_, w.2.2.2.2.2.2.1, fun b eb => ?_, fun b eb => ?_⟩
  · rw [eT 0 (ne w.1 (by decide))]; exact w.1
  · obtain ⟨q1, q2, q3⟩ := w.2.1 q hq
    rw [eT _ (ne q2 (fin24 q hq))]
    exact ⟨q1, q2, q3⟩
  · obtain ⟨q1, q2⟩ := w.2.2.1 a j b ea
    rw [eT b (ne q1 (etg24 _ _))]
    by_cases ah : a = h
    · subst ah
      rw [show qT (wT S a 12) a = 12 from if_pos rfl]
      rw [e] at q1 q2
      exact ⟨q1, q2⟩
    · rw [eT a ah]; exact ⟨q1, q2⟩
  · by_cases bh : b = h
    · rw [bh] at b12; exact absurd (show qT (wT S h 12) h = 12 from if_pos rfl) b12
    · rw [eT b bh] at b0 b12 b22; exact w.2.2.2.1 b b0 b12 b22
  · by_cases bh : b = h
    · subst bh
      refine Or.inl ⟨w.lt h21 (by decide) (by decide) (by decide), ?_⟩
      rw [eT _ (by omega)]; exact h21
    · rw [eT b bh] at eb
      rcases w.2.2.2.2.1 b eb with ⟨k1, k2⟩ | k2
      · exact Or.inl ⟨k1, by rw [eT _ (ne k2 (by decide))]; exact k2⟩
      · exact Or.inr k2
  · obtain ⟨k1, k2, k3, k4⟩ := w.2.2.2.2.2.1 i hi
    rw [eT _ (ne k1 (by decide)), eT _ (ne k2 (by decide))]
    exact ⟨k1, k2, k3, k4⟩
  · by_cases bh : b = h
    · rw [bh, show qT (wT S h 12) h = 12 from if_pos rfl] at eb; exact absurd eb (by decide)
    · rw [eT b bh] at eb; exact w.2.2.2.2.2.2.2.1 b eb
  · by_cases bh : b = h
    · rw [bh, show qT (wT S h 12) h = 12 from if_pos rfl] at eb; exact absurd eb (by decide)
    · rw [eT b bh] at eb; exact w.2.2.2.2.2.2.2.2 b eb
theorem Rep.str {g : Gr} {ad : Nat → Nat} {A : Nat → Prop} {s : State} {S : MS} {H : Heap} {locs : List Loc} {h : Nat} (r : Rep g ad A s S H locs) (e : qT S h = 24) (hs : qR S h 0 = some (h + 1) ∧ qI S h 1 = 0 ∧ qI S h 2 = 0 ∧ qI S h 3 = 0) : Rep g ad A s (wT S h 12) H locs := by
  obtain ⟨h0, h1, h2, h3⟩ := hs
  have ew : Wd g ad (wT S h 12) = Wd g ad S := by
    unfold Wd
    apply List.map_congr_left
    intro a _
    congr 1
    by_cases ah : a = h
    · subst ah
      rw [celK (S := wT S a 12) (if_pos rfl), celT e]
      unfold F16
      rw [h0, h1, h2, h3]
      rfl
    · exact cel_eq rfl rfl rfl (if_neg ah) rfl
  refine ⟨r.K, ?_, ?_, r.sS, r.w.str e h0⟩
  · rw [ew]; exact r.P
  · rw [ew]; exact r.D
theorem shx.str {S U : MS} {h t : Nat} (k : shx S U) (h0 : qT S h = 0) : shx S (wT U h t) := ⟨fun b hb => by
  have hne : b ≠ h := fun q => hb (by rw [q, h0])
  rw [show qT (wT U h t) b = qT U b from if_neg hne]
  exact k.1 b hb, k.2⟩
/-- a private method is its own choice for every receiver whose class stands below -/
theorem px_sel {C : String} {x0 y0 y : MethodName} {s : State} {args : Array Value} (hy : y.cls ≠ "java/lang/invoke/MethodHandle" ∧ y.cls ≠ "java/lang/invoke/VarHandle") (h0 : (Cond.selects C x0 y0).before args s = true) (hcl : y0.cls = y.cls)
    (hpriv : (Cond.privateMethod y).before args s = true) (hinst : (Cond.instanceMethod y).before args s = true) : (Cond.selects C y y).before args s = true := by
  obtain ⟨c, r, m, hc, -, hm, -, k, hk, hni⟩ := Cond.selects_spec h0
  obtain ⟨mk, methM, hnamed, hmethM, -, -⟩ := Cond.instanceMethod_spec hinst
  have hfound : s.methodFound? y.cls y.name y.desc = some mk := State.methodFound?_of_named hnamed hy
  have hcls : mk.cls = m.cls := Option.some.inj ((findClass_of_methodNamed hnamed).symm.trans (by rw [← hcl]; exact findClass_of_methodNamed hm))
  have hsel : selectMethod {} s.vm c mk = .method mk := selectMethod_private hmethM (Cond.privateMethod_at hpriv mk methM hnamed hmethM)
  simp only [Cond.before, Cond.holds, Cond.value, hc, hfound, hnamed, hsel, hcls, hk]
  simp; exact hni
/-- an interned text, by its handle -/
theorem txt_at {ad : Nat → Nat} {A : Nat → Prop} {s : State} {S : MS} {b : Nat} (hE : ogR ad A s s.heap) (w : wfM S) (hv : ∃ i : Nat, i < NTX ∧ b = TXB + 2 * i) : tx1 (ad b) (ad (b + 1)) (qN S (b + 1)) (qI S (b + 1)) A s s.heap := by
  obtain ⟨i, hi, rfl⟩ := hv
  obtain ⟨-, -, h3, h4⟩ := w.2.2.2.2.2.1 i hi
  rw [h3, show qI S (TXB + 2 * i + 1) = fun k => (sBr.getD i []).getD k 0 from funext h4]
  exact hE.2.1 i hi
section
variable {p : Program} {l : Launch} {e : Env} {R : Room} {s : State} {m : MethodId} {args : Array Value} {below : List Frame} {meth : Method} {c : Code} {H : Heap} {locs : List Loc} {cells slots : Nat} {Q : State → Prop}
variable {cc : ByteArray} {pc : Nat} {ls : Array Slot} {rest : List Value} {D : va_G} {cl : List vw_C} {A : Nat → Prop} {a : Nat} {tys : List (ClassId × FieldType)} {ws : va_W}
/-- arraycopy out of the bytes of an interned text -/
theorem cp_text (hexec : p.tables.exec = Jvm.exec) (hb : c.code = cc) (hml : c.maxLocals = ls.size) {own : String} {index : Nat} (hown : s.vm.findClass own = some m.cls) (hlink : (Cond.methodLink own index arraycopyName).before args s = true) (hnat : (Cond.native arraycopyName).before args s = true) (hstat : (Cond.static arraycopyName).before args s = true) (hini : (Cond.initialized "java/lang/System").before args s = true)
    (hK : va_K D cl tys s) (hP : va_P D cl ws H) (hD : va_D A ws) (hS : va_S A s.heap H locs) {t0 n0 : Nat} {f : Nat → Int32} (hX : va_T .byte t0 n0 (fun j => .int (f j)) A s s.heap) (q1 t1 : Nat) {c1 : ClassId} {n1 : Nat} {g : Nat → Int32} (ha1 : ws[q1]? = some (a, .inl (c1, n1, .inl g))) (ht1 : tys[t1]? = some (c1, .byte))
    {sp dp n : Int32} (h1 : ¬ sp < 0) (h2 : ¬ dp < 0) (h3 : ¬ n < 0) (h4 : sp.toNatClampNeg + n.toNatClampNeg ≤ n0) (h5 : dp.toNatClampNeg + n.toNatClampNeg ≤ n1) (hfit : ∀ i : Nat, fits .byte (.int (f i)) = true)
    (hframes : 1 ≤ R.frames) (hlocals : (rest.map fun v => v.category).sum + (nativeFrameWords "java/lang/System" "arraycopy" 5 + 11) ≤ R.locals) (hdg : decode cc pc = .ok (.invokestatic index, 3))
    (kk : ∀ (H1 : Heap) (locs1 : List Loc), va_P D cl (ws.set q1 (a, .inl (c1, n1, .inl (va_cpy f g sp.toNatClampNeg dp.toNatClampNeg n.toNatClampNeg)))) H1 → va_D A (ws.set q1 (a, .inl (c1, n1, .inl (va_cpy f g sp.toNatClampNeg dp.toNatClampNeg n.toNatClampNeg)))) → va_S A s.heap H1 locs1 → W p l e R s m args below meth c H1 locs1 cells slots Q (F0 m (pc + 3) ls rest)) : W p l e R s m args below meth c H locs cells slots Q (F0 m pc ls (.int n :: .int dp :: .ref a :: .int sp :: .ref t0 :: rest)) := by
  obtain ⟨scr, hs1, hs2, hs3, hs4, -, hs5, hbA⟩ := hX
  have hbl : t0 < s.heap.size := (Array.getElem?_eq_some_iff.mp hs1).1
  have hc0 : H[t0]? = some scr := (hS.2.1 t0 hbl hbA).trans hs1
  have hc1 : H[a]? = some (vp_cell c1 (n1, .inl g)) := hP q1 _ ha1
  have hl : a < H.size := (Array.getElem?_eq_some_iff.mp hc1).1
  obtain ⟨hs6, k0, hk0, cm0, hkk0⟩ := hs2
  obtain ⟨-, k1, hk1, cm1, hkk1⟩ := (hK.2 t1 _ ht1).1 n1 (fun j => .int (g j))
  have hg : ∀ i : Nat, i < n.toNatClampNeg → scr.slots.getD (sp.toNatClampNeg + i) .null = .int (f (sp.toNatClampNeg + i)) := fun i hi => by
    rw [Array.getD_eq_getD_getElem?, hs5 _ (by omega)]
    rfl
  have e1 : copied scr (vp_cell c1 (n1, .inl g)) sp dp n = vp_cell c1 (n1, .inl (va_cpy f g sp.toNatClampNeg dp.toNatClampNeg n.toNatClampNeg)) := va_copiedX (fun z => .int z) scr c1 f g hs5 h4
  intro T hT X
  obtain ⟨vm', X', step⟩ := X.arraycopy hexec hown hlink hnat hstat hini (src := t0) (dst := a) (cs := scr) (cd := vp_cell c1 (n1, .inl g)) (srcPos := sp) (destPos := dp) (n := n) (by rw [hT]; exact hc0) (by rw [hT]; exact hc1)
    hs6 (fun _ h => by cases h) hs3 (fun h => by cases h) hk0 hk1 hkk0 hkk1 (by simp [refKind]) h1 h2 h3
    (by rw [nn32 h1, nn32 h3]; omega)
    (by rw [nn32 h2, nn32 h3]; show ¬ _ > ((arrV c1 n1 (fun j => .int (g j))).slots.size : Int); rw [arrV_size]; omega)
    (fun vm₁ _ i hi => ⟨by rw [hg i hi]; exact hfit _, by rw [hg i hi]; exact trivial⟩)
    (g := F0 m pc ls (.int n :: .int dp :: .ref a :: .int sp :: .ref t0 :: rest)) rfl (by rw [hml]) (rest := rest) rfl (by rw [hb]; exact hdg) hframes (by show 2 * 0 + _ + _ ≤ _; omega)
  rw [e1] at X' step
  have hheap : ((T.setVm vm').setCell a (vp_cell c1 (n1, .inl (va_cpy f g sp.toNatClampNeg dp.toNatClampNeg n.toNatClampNeg)))).heap = H.setIfInBounds a (vp_cell c1 (n1, .inl (va_cpy f g sp.toNatClampNeg dp.toNatClampNeg n.toNatClampNeg))) := by rw [← hT]; rfl
  have oq : ∀ q : Nat, q ≠ a → (H.setIfInBounds a (vp_cell c1 (n1, .inl (va_cpy f g sp.toNatClampNeg dp.toNatClampNeg n.toNatClampNeg))))[q]? = H[q]? := fun q hq => by simp [Array.getElem?_setIfInBounds, Ne.symm hq]
  have hA1 : A a := hD.2 q1 _ ha1
  refine (kk _ _ (hP.set hD ha1 (show (H.setIfInBounds a (vp_cell c1 (n1, .inl (va_cpy f g sp.toNatClampNeg dp.toNatClampNeg n.toNatClampNeg))))[a]? = some _ by simp [Array.getElem?_setIfInBounds, hl]) oq) (hD.set ha1) ⟨by rw [Array.size_setIfInBounds]; exact hS.1, fun q g1 g2 => ?_, fun q hq => ?_⟩ _ hheap X').elim (fun t ht => ⟨t, step t ht.1, ht.2⟩)
  · rw [oq q (fun e9 => g2 (e9 ▸ hA1))]
    exact hS.2.1 q g1 g2
  · rcases List.mem_append.mp hq with h | h
    · exact hS.2.2 q h
    · obtain ⟨z, -, hz⟩ := List.mem_map.mp h
      rw [← hz]
      exact hA1


end
