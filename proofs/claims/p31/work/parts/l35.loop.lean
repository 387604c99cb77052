theorem lx_len {L : Nat} (hL : L ≤ 3072) : (Int32.ofNat L - 6).toInt = (L : Int) - 6 := by
  have e : (Int32.ofNat L).toInt = (L : Int) := toI_len (by omega)
  have z : (6 : Int32).toInt = 6 := rfl
  rw [Int32.toInt_sub, e, z, Int.bmod_eq_of_le (by omega) (by omega)]
set_option maxHeartbeats 4000000 in
set_option maxRecDepth 100000 in
theorem law_lp {p : Program} {l : Launch} {e : Env} {s : State} {m : MethodId} {below : List Frame} {meth : Method} {c : Code} {b L : Nat} {xs : Nat → Int32} {A : Nat → Prop} (hAd : A = fun q : Nat => s.heap.size ≤ q) (C0 : lw_At p s m meth c b L xs) (hex : ex s) (hL : L ≤ 3072) {g g' : Gr} : ∀ (n : Nat) {ad ad' : Nat → Nat} {S S' : MS} {H : Heap} {locs : List Loc} {k : Nat} {i : Int32} {ls : Array Slot}, L < 6 * k + n → i.toInt = 6 * (k : Int) → 6 * k ≤ L → LB g g' ad ad' A s S S' H locs → CJ S → GI k S' → qI S 44 7 = qI S' 0 88 → lv_has ls 4 [(0, .ref b), (1, .ref (ad 0)), (2, .ref (ad' 0)), (3, .int i)] → W p l e room_1 s m #[Value.ref b] below meth c H locs (qn S + qn S') (qu S + qu S') (lw_Z below #[Value.ref b] s) (F0 m 18 ls []) := by
  intro n
  induction n with
  | zero => intro ad ad' S S' H locs k i ls h1 h2 h3; exact absurd h1 (by omega)
  | succ n ih =>
    intro ad ad' S S' H locs k i ls h1 h2 h3 hJ hC hG ha hl
    obtain ⟨hx, hb, hr, hml, hown, hts1, hX, hbl, hlocks, hgv⟩ := id C0
    have hbA : ¬ A b := by rw [hAd]; exact Nat.not_le.mpr hbl
    refine lv_iload_n hx hb dL_law_18 rfl (lv_at hl 3 rfl) ?_
    refine lv_aload_n hx hb dL_law_19 rfl (lv_at hl 0 rfl) ?_
    refine va_slen hx hb hX hbl hbA hJ.1.sS dL_law_20 ?_
    refine lv_bipush (v := 6) hx hb dL_law_21 (by decide) ?_
    refine lv_isub hx hb dL_law_23 ?_
    refine lv_icmp_gt (tgt := 1014) hx hb dL_law_24 (by decide) (fun _ => ?_) (fun c9 => ?_)
    · refine lv_iconst (v := 1) hx hb dL_law_1014 (by decide) ?_
      refine va_forget (fun q hq => by have := hJ.1.sS.2.2 q hq; rw [hAd] at this; exact this) ?_
      refine W.widen (k := 601024) (n := 7293033) hJ.c0.1 hJ.c0.2 ?_
      exact lw_ret hx hb hr hlocks dL_law_1015
    have hi : LX i k L := ⟨h2, by
      have e := lx_len hL
      have : ¬ (Int32.ofNat L - 6).toInt < i.toInt := fun h => c9 (Int32.lt_iff_toInt_lt.mpr h)
      omega, hL⟩
    have cont : ∀ (ad1 ad2 : Nat → Nat) (S1 S2 : MS) (H1 : Heap) (locs1 : List Loc), ad1 0 = ad 0 → ad2 0 = ad' 0 → LB g g' ad1 ad2 A s S1 S2 H1 locs1 → CJ S1 → GI (k + 1) S2 → qI S1 44 7 = qI S2 0 88 → W p l e room_1 s m #[Value.ref b] below meth c H1 locs1 (qn S1 + qn S2) (qu S1 + qu S2) (lw_Z below #[Value.ref b] s) (F0 m 1008 ls []) := by
      intro ad1 ad2 S1 S2 H1 locs1 e1 e2 hJ1 hC1 hG1 ha1
      refine lv_iinc (v := i + 6) (lv' := [(3, .int (i + 6)), (0, .ref b), (1, .ref (ad 0)), (2, .ref (ad' 0))]) hx hb dL_law_1008 hl (k := 3) rfl rfl (by decide) rfl (fun ls hl => ?_)
      refine lv_goto (tgt := 18) hx hb dL_law_1011 (by decide) ?_
      have hl := lv_sub hl (l' := [(0, .ref b), (1, .ref (ad 0)), (2, .ref (ad' 0)), (3, .int (i + 6))]) [1, 2, 3, 0] rfl
      rw [← e1, ← e2] at hl
      refine ih (k := k + 1) (by omega) ?_ (by have := hi.2.1; omega) hJ1 hC1 hG1 ha1 hl
      rw [hi.at (c := 6) (by decide), h2]
      have z : (6 : Int32).toInt = 6 := rfl
      omega
    refine lv_aload_n hx hb dL_law_27 rfl (lv_at hl 0 rfl) ?_
    refine lv_iload_n hx hb dL_law_28 rfl (lv_at hl 3 rfl) ?_
    refine va_sld hx hb hX hbl hbA hJ.1.sS hi.in0 dL_law_29 ?_
    refine lv_bipush (v := 31) hx hb dL_law_30 (by decide) ?_
    refine lv_iand hx hb dL_law_32 ?_
    refine lv_topi (fun z ez => ?_)
    obtain ⟨j, hj, ej⟩ := pk_andE (xs i.toNatClampNeg) (m := 31) 5 (by decide)
    have hz : z = nI j := ez.trans ej
    clear ez ej
    subst hz
    rcases (show j = 0 ∨ j = 1 ∨ j = 2 ∨ j = 3 ∨ j = 4 ∨ j = 5 ∨ j = 6 ∨ j = 7 ∨ j = 8 ∨ j = 9 ∨ j = 10 ∨ j = 11 ∨ j = 12 ∨ j = 13 ∨ j = 14 ∨ j = 15 ∨ j = 16 ∨ j = 17 ∨ j = 18 ∨ j = 19 ∨ j = 20 ∨ j = 21 ∨ j = 22 ∨ j = 23 ∨ j = 24 ∨ j = 25 ∨ j = 26 ∨ j = 27 ∨ j = 28 ∨ j = 29 ∨ j = 30 ∨ j = 31 by omega) with rfl | rfl | rfl | rfl | rfl | rfl | rfl | rfl | rfl | rfl | rfl | rfl | rfl | rfl | rfl | rfl | rfl | rfl | rfl | rfl | rfl | rfl | rfl | rfl | rfl | rfl | rfl | rfl | rfl | rfl | rfl | rfl
    · exact lv_tableIn (off := 135) (tgt := 168) hx hb dL_law_33 (by decide) (by decide) (by decide) (by decide) (law_c0 hAd C0 hex hi hJ hC hG ha hl cont)
    · exact lv_tableIn (off := 198) (tgt := 231) hx hb dL_law_33 (by decide) (by decide) (by decide) (by decide) (law_c1 hAd C0 hex hi hJ hC hG ha hl cont)
    · exact lv_tableIn (off := 221) (tgt := 254) hx hb dL_law_33 (by decide) (by decide) (by decide) (by decide) (law_c2 hAd C0 hex hi hJ hC hG ha hl cont)
    · exact lv_tableIn (off := 234) (tgt := 267) hx hb dL_law_33 (by decide) (by decide) (by decide) (by decide) (law_c3 hAd C0 hex hi hJ hC hG ha hl cont)
    · exact lv_tableIn (off := 247) (tgt := 280) hx hb dL_law_33 (by decide) (by decide) (by decide) (by decide) (law_c4 hAd C0 hex hi hJ hC hG ha hl cont)
    · exact lv_tableIn (off := 260) (tgt := 293) hx hb dL_law_33 (by decide) (by decide) (by decide) (by decide) (law_c5 hAd C0 hex hi hJ hC hG ha hl cont)
    · exact lv_tableIn (off := 293) (tgt := 326) hx hb dL_law_33 (by decide) (by decide) (by decide) (by decide) (law_c6 hAd C0 hex hi hJ hC hG ha hl cont)
    · exact lv_tableIn (off := 326) (tgt := 359) hx hb dL_law_33 (by decide) (by decide) (by decide) (by decide) (law_c7 hAd C0 hex hi hJ hC hG ha hl cont)
    · exact lv_tableIn (off := 349) (tgt := 382) hx hb dL_law_33 (by decide) (by decide) (by decide) (by decide) (law_c8 hAd C0 hex hi hJ hC hG ha hl cont)
    · exact lv_tableIn (off := 362) (tgt := 395) hx hb dL_law_33 (by decide) (by decide) (by decide) (by decide) (law_c9 hAd C0 hex hi hJ hC hG ha hl cont)
    · exact lv_tableIn (off := 375) (tgt := 408) hx hb dL_law_33 (by decide) (by decide) (by decide) (by decide) (law_c10 hAd C0 hex hi hJ hC hG ha hl cont)
    · exact lv_tableIn (off := 418) (tgt := 451) hx hb dL_law_33 (by decide) (by decide) (by decide) (by decide) (law_c11 hAd C0 hex hi hJ hC hG ha hl cont)
    · exact lv_tableIn (off := 471) (tgt := 504) hx hb dL_law_33 (by decide) (by decide) (by decide) (by decide) (law_c12 hAd C0 hex hi hJ hC hG ha hl cont)
    · exact lv_tableIn (off := 494) (tgt := 527) hx hb dL_law_33 (by decide) (by decide) (by decide) (by decide) (law_c13 hAd C0 hex hi hJ hC hG ha hl cont)
    · exact lv_tableIn (off := 517) (tgt := 550) hx hb dL_law_33 (by decide) (by decide) (by decide) (by decide) (law_c14 hAd C0 hex hi hJ hC hG ha hl cont)
    · exact lv_tableIn (off := 540) (tgt := 573) hx hb dL_law_33 (by decide) (by decide) (by decide) (by decide) (law_c15 hAd C0 hex hi hJ hC hG ha hl cont)
    · exact lv_tableIn (off := 593) (tgt := 626) hx hb dL_law_33 (by decide) (by decide) (by decide) (by decide) (law_c16 hAd C0 hex hi hJ hC hG ha hl cont)
    · exact lv_tableIn (off := 626) (tgt := 659) hx hb dL_law_33 (by decide) (by decide) (by decide) (by decide) (law_c17 hAd C0 hex hi hJ hC hG ha hl cont)
    · exact lv_tableIn (off := 639) (tgt := 672) hx hb dL_law_33 (by decide) (by decide) (by decide) (by decide) (law_c18 hAd C0 hex hi hJ hC hG ha hl cont)
    · exact lv_tableIn (off := 652) (tgt := 685) hx hb dL_law_33 (by decide) (by decide) (by decide) (by decide) (law_c19 hAd C0 hex hi hJ hC hG ha hl cont)
    · exact lv_tableIn (off := 665) (tgt := 698) hx hb dL_law_33 (by decide) (by decide) (by decide) (by decide) (law_c20 hAd C0 hex hi hJ hC hG ha hl cont)
    · exact lv_tableIn (off := 688) (tgt := 721) hx hb dL_law_33 (by decide) (by decide) (by decide) (by decide) (law_c21 hAd C0 hex hi hJ hC hG ha hl cont)
    · exact lv_tableIn (off := 721) (tgt := 754) hx hb dL_law_33 (by decide) (by decide) (by decide) (by decide) (law_c22 hAd C0 hex hi hJ hC hG ha hl cont)
    · exact lv_tableIn (off := 744) (tgt := 777) hx hb dL_law_33 (by decide) (by decide) (by decide) (by decide) (law_c23 hAd C0 hex hi hJ hC hG ha hl cont)
    · exact lv_tableIn (off := 777) (tgt := 810) hx hb dL_law_33 (by decide) (by decide) (by decide) (by decide) (law_c24 hAd C0 hex hi hJ hC hG ha hl cont)
    · exact lv_tableIn (off := 830) (tgt := 863) hx hb dL_law_33 (by decide) (by decide) (by decide) (by decide) (law_c25 hAd C0 hex hi hJ hC hG ha hl cont)
    · exact lv_tableIn (off := 883) (tgt := 916) hx hb dL_law_33 (by decide) (by decide) (by decide) (by decide) (law_c26 hAd C0 hex hi hJ hC hG ha hl cont)
    · exact lv_tableIn (off := 916) (tgt := 949) hx hb dL_law_33 (by decide) (by decide) (by decide) (by decide) (law_c27 hAd C0 hex hi hJ hC hG ha hl cont)
    · exact lv_tableIn (off := 939) (tgt := 972) hx hb dL_law_33 (by decide) (by decide) (by decide) (by decide) (law_c28 hAd C0 hex hi hJ hC hG ha hl cont)
    · exact lv_tableIn (off := 962) (tgt := 995) hx hb dL_law_33 (by decide) (by decide) (by decide) (by decide) (law_c29 hAd C0 hex hi hJ hC hG ha hl cont)
    · exact lv_tableOut (tgt := 1008) hx hb dL_law_33 (by decide) (by decide) (cont _ _ _ _ _ _ rfl rfl hJ hC hG.gs.1 ha)
    · exact lv_tableOut (tgt := 1008) hx hb dL_law_33 (by decide) (by decide) (cont _ _ _ _ _ _ rfl rfl hJ hC hG.gs.1 ha)
