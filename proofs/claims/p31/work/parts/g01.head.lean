theorem sx_words2 {args : Array Value} {s : State} {A : Nat → Prop} (hts : ∀ w ∈ tb2, w.before args s = true) (hex : ex s) (hE : exq A s s.heap) : ∀ w ∈ Bundle.ownAtoms0 RX14 21 RJxb5711 nmL, w.before args s = true :=
  vx_hat (B := [.isRef (.static Bundle.tN "UNASSIGNED_STACK" Bundle.steD), .isRef (.static Bundle.tN "SUPPRESSED_SENTINEL" Bundle.listD), .laysStatic Bundle.tN "UNASSIGNED_STACK" Bundle.steD, .laysStatic Bundle.tN "SUPPRESSED_SENTINEL" Bundle.listD, .declares (Bundle.init0 "java/lang/RuntimeException"), .declares (Bundle.init0 "java/lang/Exception"), .declares (Bundle.init0 Bundle.tN), .castable RJxb5711 RJxb5711])
    (fun w h => hts w (t2si w h)) (by decide +kernel)
    (vx_c (vx_isRefq hE.1.1) (vx_c (vx_isRefq hE.2.1) (vx_c hE.1.2.word (vx_c hE.2.2.word (vx_c (va_Nw.use rfl (nw_of nn_d1 hex)) (vx_c (va_Nw.use rfl (nw_of nn_d2 hex)) (vx_c (va_Nw.use rfl (nw_of nn_d3 hex)) (vx_c (va_Nw.use rfl (nw_of nn_cast hex)) vx_n))))))))
theorem wN_cX {g : Gr} {ad : Nat → Nat} {S : MS} {n k : Nat} : cel g ad (wN S 14 n k) (qn S) = .inr (14, []) := celX wN_T
theorem Wd_one {g : Gr} {ad : Nat → Nat} {S : MS} (hn : qn S = 1) (h0 : qT S 0 = 10) : ∀ (k : Nat) (q : Nat × va_E), (Wd g ad S)[k]? = some q → ∃ o, q.2 = .inr o := by
  intro k q h
  unfold Wd at h
  rw [hn, show List.range 1 = [0] from rfl] at h
  rcases k with _ | k
  · have e : (ad 0, cel g ad S 0) = q := by injection h
    rw [← e]
    exact ⟨_, cel14 h0⟩
  · simp at h
