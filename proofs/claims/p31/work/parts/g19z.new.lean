set_option maxRecDepth 100000 in
def w_new (S : MS) (Q : MS → Prop) : Prop := (((qn S + 1 ≤ KC ∧ qu S + 12 ≤ KS)) ∧ (∀ S4, S4 = wN S 6 12 12 → (∀ S6, S6 = wR S4 0 0 (some (qn S)) → (((qn S6 + 1 ≤ KC ∧ qu S6 + 16000 ≤ KS)) ∧ (∀ S10, S10 = wN S6 1 16000 16000 → (∀ S12, S12 = wR S10 0 3 (some (qn S6)) → ((qn S12 + 1 ≤ KC ∧ qu S12 + 6 ≤ KS) ∧ (∀ S16, S16 = wN S12 14 0 6 → (∀ S18, S18 = wR S16 0 6 (some (qn S12)) → (∀ S19, S19 = wI S18 0 10 (-1) → (((qn S19 + 1 ≤ KC ∧ qu S19 + 502 ≤ KS)) ∧ (∀ S23, S23 = wN S19 2 502 502 → (∀ S25, S25 = wR S23 0 15 (some (qn S19)) → (((qn S25 + 1 ≤ KC ∧ qu S25 + 502 ≤ KS)) ∧ (∀ S29, S29 = wN S25 2 502 502 → (∀ S31, S31 = wR S29 0 16 (some (qn S25)) → (((qn S31 + 1 ≤ KC ∧ qu S31 + 502 ≤ KS)) ∧ (∀ S35, S35 = wN S31 2 502 502 → (∀ S37, S37 = wR S35 0 17 (some (qn S31)) → (((qn S37 + 1 ≤ KC ∧ qu S37 + 502 ≤ KS)) ∧ (∀ S41, S41 = wN S37 2 502 502 → (∀ S43, S43 = wR S41 0 18 (some (qn S37)) → (((qn S43 + 1 ≤ KC ∧ qu S43 + 502 ≤ KS)) ∧ (∀ S47, S47 = wN S43 4 502 502 → (∀ S49, S49 = wR S47 0 19 (some (qn S43)) → (((qn S49 + 1 ≤ KC ∧ qu S49 + 48 ≤ KS)) ∧ (∀ S53, S53 = wN S49 2 48 48 → (∀ S55, S55 = wR S53 0 24 (some (qn S49)) → (((qn S55 + 1 ≤ KC ∧ qu S55 + 3000 ≤ KS)) ∧ (∀ S59, S59 = wN S55 2 3000 3000 → (∀ S61, S61 = wR S59 0 26 (some (qn S55)) → (((qn S61 + 1 ≤ KC ∧ qu S61 + 3000 ≤ KS)) ∧ (∀ S65, S65 = wN S61 2 3000 3000 → (∀ S67, S67 = wR S65 0 27 (some (qn S61)) → (((qn S67 + 1 ≤ KC ∧ qu S67 + 24 ≤ KS)) ∧ (∀ S71, S71 = wN S67 2 24 24 → (∀ S73, S73 = wR S71 0 29 (some (qn S67)) → (((qn S73 + 1 ≤ KC ∧ qu S73 + 24 ≤ KS)) ∧ (∀ S77, S77 = wN S73 2 24 24 → (∀ S79, S79 = wR S77 0 30 (some (qn S73)) → (((qn S79 + 1 ≤ KC ∧ qu S79 + 24 ≤ KS)) ∧ (∀ S83, S83 = wN S79 2 24 24 → (∀ S85, S85 = wR S83 0 31 (some (qn S79)) → (((qn S85 + 1 ≤ KC ∧ qu S85 + 24 ≤ KS)) ∧ (∀ S89, S89 = wN S85 2 24 24 → (∀ S91, S91 = wR S89 0 32 (some (qn S85)) → (((qn S91 + 1 ≤ KC ∧ qu S91 + 24 ≤ KS)) ∧ (∀ S95, S95 = wN S91 2 24 24 → (∀ S97, S97 = wR S95 0 33 (some (qn S91)) → (((qn S97 + 1 ≤ KC ∧ qu S97 + 24 ≤ KS)) ∧ (∀ S101, S101 = wN S97 2 24 24 → (∀ S103, S103 = wR S101 0 34 (some (qn S97)) → (((qn S103 + 1 ≤ KC ∧ qu S103 + 1201 ≤ KS)) ∧ (∀ S107, S107 = wN S103 2 1201 1201 → (∀ S109, S109 = wR S107 0 38 (some (qn S103)) → (((qn S109 + 1 ≤ KC ∧ qu S109 + 86400 ≤ KS)) ∧ (∀ S113, S113 = wN S109 2 86400 86400 → (∀ S115, S115 = wR S113 0 40 (some (qn S109)) → (((qn S115 + 1 ≤ KC ∧ qu S115 + 40000 ≤ KS)) ∧ (∀ S119, S119 = wN S115 2 40000 40000 → (∀ S121, S121 = wR S119 0 42 (some (qn S115)) → (((qn S121 + 1 ≤ KC ∧ qu S121 + 1536 ≤ KS)) ∧ (∀ S125, S125 = wN S121 2 1536 1536 → (∀ S127, S127 = wR S125 0 44 (some (qn S121)) → (((qn S127 + 1 ≤ KC ∧ qu S127 + 9600 ≤ KS)) ∧ (∀ S131, S131 = wN S127 2 9600 9600 → (∀ S133, S133 = wR S131 0 55 (some (qn S127)) → (((qn S133 + 1 ≤ KC ∧ qu S133 + 57600 ≤ KS)) ∧ (∀ S137, S137 = wN S133 1 57600 57600 → (∀ S139, S139 = wR S137 0 58 (some (qn S133)) → (((qn S139 + 1 ≤ KC ∧ qu S139 + 1200 ≤ KS)) ∧ (∀ S143, S143 = wN S139 3 1200 1200 → (∀ S145, S145 = wR S143 0 59 (some (qn S139)) → (((qn S145 + 1 ≤ KC ∧ qu S145 + 24 ≤ KS)) ∧ (∀ S149, S149 = wN S145 1 24 24 → (∀ S151, S151 = wR S149 0 60 (some (qn S145)) → (((qn S151 + 1 ≤ KC ∧ qu S151 + 28 ≤ KS)) ∧ (∀ S155, S155 = wN S151 1 28 28 → (∀ S157, S157 = wR S155 0 61 (some (qn S151)) → (∀ S158, S158 = wI S157 0 64 (-1) → (∀ S159, S159 = wI S158 0 65 (-1) → (((qn S159 + 1 ≤ KC ∧ qu S159 + 115200 ≤ KS)) ∧ (∀ S163, S163 = wN S159 2 115200 115200 → (∀ S165, S165 = wR S163 0 66 (some (qn S159)) → (((qn S165 + 1 ≤ KC ∧ qu S165 + 700 ≤ KS)) ∧ (∀ S169, S169 = wN S165 2 700 700 → (∀ S171, S171 = wR S169 0 67 (some (qn S165)) → (((qn S171 + 1 ≤ KC ∧ qu S171 + 700 ≤ KS)) ∧ (∀ S175, S175 = wN S171 2 700 700 → (∀ S177, S177 = wR S175 0 68 (some (qn S171)) → (((qn S177 + 1 ≤ KC ∧ qu S177 + 700 ≤ KS)) ∧ (∀ S181, S181 = wN S177 2 700 700 → (∀ S183, S183 = wR S181 0 69 (some (qn S177)) → (((qn S183 + 1 ≤ KC ∧ qu S183 + 700 ≤ KS)) ∧ (∀ S187, S187 = wN S183 2 700 700 → (∀ S189, S189 = wR S187 0 70 (some (qn S183)) → (((qn S189 + 1 ≤ KC ∧ qu S189 + 700 ≤ KS)) ∧ (∀ S193, S193 = wN S189 4 700 700 → (∀ S195, S195 = wR S193 0 71 (some (qn S189)) → (((qn S195 + 1 ≤ KC ∧ qu S195 + 700 ≤ KS)) ∧ (∀ S199, S199 = wN S195 5 700 700 → (∀ S201, S201 = wR S199 0 72 (some (qn S195)) → (((qn S201 + 1 ≤ KC ∧ qu S201 + 131072 ≤ KS)) ∧ (∀ S205, S205 = wN S201 1 131072 131072 → (∀ S207, S207 = wR S205 0 75 (some (qn S201)) → (((qn S207 + 1 ≤ KC ∧ qu S207 + 131072 ≤ KS)) ∧ (∀ S211, S211 = wN S207 1 131072 131072 → (∀ S213, S213 = wR S211 0 76 (some (qn S207)) → (((qn S213 + 1 ≤ KC ∧ qu S213 + 1297 ≤ KS)) ∧ (∀ S217, S217 = wN S213 2 1297 1297 → (∀ S219, S219 = wR S217 0 79 (some (qn S213)) → (((qn S219 + 1 ≤ KC ∧ qu S219 + 24 ≤ KS)) ∧ (∀ S223, S223 = wN S219 4 24 24 → (∀ S225, S225 = wR S223 0 81 (some (qn S219)) → (((qn S225 + 1 ≤ KC ∧ qu S225 + 20000 ≤ KS)) ∧ (∀ S229, S229 = wN S225 2 20000 20000 → (∀ S231, S231 = wR S229 0 82 (some (qn S225)) → (((qn S231 + 1 ≤ KC ∧ qu S231 + 401 ≤ KS)) ∧ (∀ S235, S235 = wN S231 2 401 401 → (∀ S237, S237 = wR S235 0 83 (some (qn S231)) → (((qn S237 + 1 ≤ KC ∧ qu S237 + 401 ≤ KS)) ∧ (∀ S241, S241 = wN S237 2 401 401 → (∀ S243, S243 = wR S241 0 84 (some (qn S237)) → (((qn S243 + 1 ≤ KC ∧ qu S243 + 8 ≤ KS)) ∧ (∀ S247, S247 = wN S243 4 8 8 → (∀ S249, S249 = wR S247 0 87 (some (qn S243)) → (((qn S249 + 1 ≤ KC ∧ qu S249 + 60 ≤ KS)) ∧ (∀ S253, S253 = wN S249 2 60 60 → (∀ S255, S255 = wR S253 0 89 (some (qn S249)) → (((qn S255 + 1 ≤ KC ∧ qu S255 + 60 ≤ KS)) ∧ (∀ S259, S259 = wN S255 2 60 60 → (∀ S261, S261 = wR S259 0 90 (some (qn S255)) → (((qn S261 + 1 ≤ KC ∧ qu S261 + 60 ≤ KS)) ∧ (∀ S265, S265 = wN S261 2 60 60 → (∀ S267, S267 = wR S265 0 91 (some (qn S261)) → (((qn S267 + 1 ≤ KC ∧ qu S267 + 1440 ≤ KS)) ∧ (∀ S271, S271 = wN S267 4 1440 1440 → (∀ S273, S273 = wR S271 0 92 (some (qn S267)) → (((qn S273 + 1 ≤ KC ∧ qu S273 + 1440 ≤ KS)) ∧ (∀ S277, S277 = wN S273 4 1440 1440 → (∀ S279, S279 = wR S277 0 93 (some (qn S273)) → (((qn S279 + 1 ≤ KC ∧ qu S279 + 1440 ≤ KS)) ∧ (∀ S283, S283 = wN S279 1 1440 1440 → (∀ S285, S285 = wR S283 0 94 (some (qn S279)) → (((qn S285 + 1 ≤ KC ∧ qu S285 + 1440 ≤ KS)) ∧ (∀ S289, S289 = wN S285 1 1440 1440 → (∀ S291, S291 = wR S289 0 95 (some (qn S285)) → (∀ S292, S292 = wI S291 0 102 (-1) → (((qn S292 + 1 ≤ KC ∧ qu S292 + 1201 ≤ KS)) ∧ (∀ S296, S296 = wN S292 2 1201 1201 → (∀ S298, S298 = wR S296 0 103 (some (qn S292)) → (((qn S298 + 1 ≤ KC ∧ qu S298 + 1201 ≤ KS)) ∧ (∀ S302, S302 = wN S298 2 1201 1201 → (∀ S304, S304 = wR S302 0 104 (some (qn S298)) → (∀ S305, S305 = wI S304 0 106 (-1) → (((qn S305 + 1 ≤ KC ∧ qu S305 + 1202 ≤ KS)) ∧ (∀ S309, S309 = wN S305 2 1202 1202 → (∀ S311, S311 = wR S309 0 108 (some (qn S305)) → (((qn S311 + 1 ≤ KC ∧ qu S311 + 24000 ≤ KS)) ∧ (∀ S315, S315 = wN S311 2 24000 24000 → (∀ S317, S317 = wR S315 0 109 (some (qn S311)) → (((qn S317 + 1 ≤ KC ∧ qu S317 + 1200 ≤ KS)) ∧ (∀ S321, S321 = wN S317 3 1200 1200 → (∀ S323, S323 = wR S321 0 111 (some (qn S317)) → (((qn S323 + 1 ≤ KC ∧ qu S323 + 45600 ≤ KS)) ∧ (∀ S327, S327 = wN S323 2 45600 45600 → (∀ S329, S329 = wR S327 0 112 (some (qn S323)) → (((qn S329 + 1 ≤ KC ∧ qu S329 + 1200 ≤ KS)) ∧ (∀ S333, S333 = wN S329 2 1200 1200 → (∀ S335, S335 = wR S333 0 113 (some (qn S329)) → (((qn S335 + 1 ≤ KC ∧ qu S335 + 1200 ≤ KS)) ∧ (∀ S339, S339 = wN S335 3 1200 1200 → (∀ S341, S341 = wR S339 0 114 (some (qn S335)) → (((qn S341 + 1 ≤ KC ∧ qu S341 + 1200 ≤ KS)) ∧ (∀ S345, S345 = wN S341 2 1200 1200 → (∀ S347, S347 = wR S345 0 115 (some (qn S341)) → (((qn S347 + 1 ≤ KC ∧ qu S347 + 1200 ≤ KS)) ∧ (∀ S351, S351 = wN S347 3 1200 1200 → (∀ S353, S353 = wR S351 0 116 (some (qn S347)) → (((qn S353 + 1 ≤ KC ∧ qu S353 + 1200 ≤ KS)) ∧ (∀ S357, S357 = wN S353 2 1200 1200 → (∀ S359, S359 = wR S357 0 117 (some (qn S353)) → ((qn S359 + 1 ≤ KC ∧ qu S359 + 23 ≤ KS) ∧ (∀ S363, S363 = wN S359 11 0 23 → (∃ Q365, w_init S363 (qn S359) Q365 ∧ ∀ S366, Q365 S366 → (∀ S369, S369 = wR S366 0 118 (some (qn S359)) → (((qn S369 + 1 ≤ KC ∧ qu S369 + 87000 ≤ KS)) ∧ (∀ S373, S373 = wN S369 2 87000 87000 → (∀ S375, S375 = wR S373 0 119 (some (qn S369)) → (((qn S375 + 1 ≤ KC ∧ qu S375 + 40000 ≤ KS)) ∧ (∀ S379, S379 = wN S375 2 40000 40000 → (∀ S381, S381 = wR S379 0 120 (some (qn S375)) → (((qn S381 + 1 ≤ KC ∧ qu S381 + 1536 ≤ KS)) ∧ (∀ S385, S385 = wN S381 2 1536 1536 → (∀ S387, S387 = wR S385 0 121 (some (qn S381)) → (((qn S387 + 1 ≤ KC ∧ qu S387 + 12 ≤ KS)) ∧ (∀ S391, S391 = wN S387 2 12 12 → (∀ S393, S393 = wR S391 0 124 (some (qn S387)) → (((qn S393 + 1 ≤ KC ∧ qu S393 + 1200 ≤ KS)) ∧ (∀ S397, S397 = wN S393 2 1200 1200 → (∀ S399, S399 = wR S397 0 125 (some (qn S393)) → (((qn S399 + 1 ≤ KC ∧ qu S399 + 1200 ≤ KS)) ∧ (∀ S403, S403 = wN S399 2 1200 1200 → (∀ S405, S405 = wR S403 0 126 (some (qn S399)) → (((qn S405 + 1 ≤ KC ∧ qu S405 + 1200 ≤ KS)) ∧ (∀ S409, S409 = wN S405 2 1200 1200 → (∀ S411, S411 = wR S409 0 127 (some (qn S405)) → (((qn S411 + 1 ≤ KC ∧ qu S411 + 1200 ≤ KS)) ∧ (∀ S415, S415 = wN S411 3 1200 1200 → (∀ S417, S417 = wR S415 0 128 (some (qn S411)) → (((qn S417 + 1 ≤ KC ∧ qu S417 + 16 ≤ KS)) ∧ (∀ S421, S421 = wN S417 2 16 16 → (∀ S423, S423 = wR S421 0 130 (some (qn S417)) → (((qn S423 + 1 ≤ KC ∧ qu S423 + 16 ≤ KS)) ∧ (∀ S427, S427 = wN S423 2 16 16 → (∀ S429, S429 = wR S427 0 131 (some (qn S423)) → (((qn S429 + 1 ≤ KC ∧ qu S429 + 16 ≤ KS)) ∧ (∀ S433, S433 = wN S429 2 16 16 → (∀ S435, S435 = wR S433 0 132 (some (qn S429)) → (((qn S435 + 1 ≤ KC ∧ qu S435 + 16 ≤ KS)) ∧ (∀ S439, S439 = wN S435 2 16 16 → (∀ S441, S441 = wR S439 0 133 (some (qn S435)) → (((qn S441 + 1 ≤ KC ∧ qu S441 + 16 ≤ KS)) ∧ (∀ S445, S445 = wN S441 3 16 16 → (∀ S447, S447 = wR S445 0 134 (some (qn S441)) → (((qn S447 + 1 ≤ KC ∧ qu S447 + 1201 ≤ KS)) ∧ (∀ S451, S451 = wN S447 3 1201 1201 → (∀ S453, S453 = wR S451 0 136 (some (qn S447)) → (((qn S453 + 1 ≤ KC ∧ qu S453 + 1200 ≤ KS)) ∧ (∀ S457, S457 = wN S453 3 1200 1200 → (∀ S459, S459 = wR S457 0 137 (some (qn S453)) → (((qn S459 + 1 ≤ KC ∧ qu S459 + 1200 ≤ KS)) ∧ (∀ S463, S463 = wN S459 2 1200 1200 → (∀ S465, S465 = wR S463 0 138 (some (qn S459)) → (((qn S465 + 1 ≤ KC ∧ qu S465 + 1200 ≤ KS)) ∧ (∀ S469, S469 = wN S465 2 1200 1200 → (∀ S471, S471 = wR S469 0 140 (some (qn S465)) → (((qn S471 + 1 ≤ KC ∧ qu S471 + 1201 ≤ KS)) ∧ (∀ S475, S475 = wN S471 2 1201 1201 → (∀ S477, S477 = wR S475 0 141 (some (qn S471)) → (((qn S477 + 1 ≤ KC ∧ qu S477 + 1200 ≤ KS)) ∧ (∀ S481, S481 = wN S477 2 1200 1200 → (∀ S483, S483 = wR S481 0 142 (some (qn S477)) → Q S483)))))))))))))))))))))))))))))))))))))))))))))))))))))))))))))))))))))))))))))))))))))))))))))))))))))))))))))))))))))))))))))))))))))))))))))))))))))))))))))))))))))))))))))))))))))))))))))))))))))))))))))))))))))))))))))))))))))))))))))))))))
set_option maxHeartbeats 2000000 in
set_option maxRecDepth 100000 in
theorem r_newZ (l : Launch) (g : Gr) (ad : Nat → Nat) (H0 : Heap) (S : MS) (hw : wfMZ S) (Q : MS → Prop) (hn1 : qn S = 1) (hlt : l.stackTraces = false) (h : w_new S Q) : Met l yX14_init (wt2 yX14_init cX14_init 1 none) ({ frames := 7, cells := KC - qn S, slots := KS - qu S, locals := 90 }) (va_Pc [.ref (ad 0)] (fun U => st_RH g ad H0 S U ∧ exq (va_A (Wd g ad S) H0.size) U U.heap)) (va_Qv (fun (u : MS × (Nat → Nat)) => Q u.1 ∧ wfMZ u.1 ∧ shx S u.1 ∧ adk ad u.2 S) (fun (u : MS × (Nat → Nat)) (t : State) => qEH g (va_A (Wd g ad S) H0.size) S H0 u t) (va_A (Wd g ad S) H0.size)) (KC - qn S) (KS - qu S) (va_A (Wd g ad S) H0.size) := by
  refine Met.ofW (cc := cX14_init) (maxL := 1) (ret := none) (by decide) rfl ?_
  intro p e s m args below meth c s₁ B hml hv
  obtain ⟨rfl, ⟨hH0, hsz, hP, hK, hD0, hex, hE⟩, hEq⟩ := hv
  have hx := B.exec
  have hb := B.bytes
  have hr := B.returns
  have hts0 := atoms_spec (ws := wt2 yX14_init cX14_init 1 none) B.pre
  have hts : ∀ w ∈ tb2, w.before _ s = true := fun w h => hts0 w (List.mem_cons_of_mem _ h)
  have hown : s.vm.findClass RX14 = some m.cls := findClass_of_methodNamed B.named
  subst hH0
  have hD := hD0.self (sz := s.heap.size)
  have hlocs0 := sx_locs hP (Nat.le_refl _) (Wd_one hn1 hw.1)
  generalize hAe : va_A (Wd g ad S) s.heap.size = A at hD hE hEq hlocs0 ⊢
  have hA : ∀ q : Nat, s.heap.size ≤ q → A q := fun q h => by rw [← hAe]; exact Or.inr h
  have hR : RepZ g ad A s S s.heap [] := ⟨hK, hP, hD, va_S.rf, hw⟩
  clear hK hP hD hD0
  have hl := lv_entry ([.ref (ad 0)]) (n := 1) (Nat.le_of_ble_eq_true rfl)
  rw [lg_entry_eq]
  generalize (lg_sl ([.ref (ad 0)]) ++ List.replicate (1 - (lg_sl ([.ref (ad 0)])).length) Slot.unset).toArray = ls at hl ⊢
  have hlg : lg S S 0 0 := lg.rf
  have hak : adk ad ad S := adk.rf
  have hin9 : meth.name = "<init>" := (name_of_methodNamed B.named B.method).1
  have hl : lv_has ls 1 [(0, .ref (ad 0))] := hl
  have hsh : shx S S := shx.rf
  unfold w_new at h
  refine lv_aload_n hx hb dX14_init_0 rfl (lv_at hl 0 rfl) ?_
  refine W.objInit hx hb hown (hts _ kx_1216) (hts _ kx_92) (hts _ kx_93) rfl (by rw [hml]; exact hl.1) rfl dX14_init_1 (Nat.le_of_ble_eq_true rfl) (Nat.le_of_ble_eq_true rfl) ?_
  refine W.eq (g2 := F0 m 4 ls []) rfl ?_
  refine lv_aload_n hx hb dX14_init_4 rfl (lv_at hl 0 rfl) ?_
  refine lv_bipush (v := 12) hx hb dX14_init_5 (by decide) ?_
  obtain ⟨hv1, h⟩ := h
  have e9 : KC = 300000 := rfl
  have e8 : KS = 3720000 := rfl
  have e7 : TXB = 10000000 := rfl
  have hTX : qn S < TXB := by have := hv1.1; omega
  refine va_newq (C := "CodeFoundryModel$File") (N' := 12) hx hb hown (hts _ kx_1217) (ao_of (by exact ao_CodeFoundryModel_File) hex) hR.K hR.P hR.D hR.sS hA (by decide) (by decide) (by have := hv1.2; omega) (show 0 + 1 ≤ KC - qn S from hlg.c1 hv1.1) (show 0 + 12 ≤ KS - qu S from hlg.s1 hv1.2) dX14_init_7 (fun q2 cA9 H hK9 hP hD hS => ?_)
  obtain rfl := cls_newR2 hR.K hK9 (k := 5) rfl
  have hw8 := hR.w
  have hR := hR.new (t := 6) (n := 12) (k := 12) hTX (by decide) (fun q9 => absurd q9 (by decide)) wN_cF hP hD hS
  have hk8 : adk ad (adx ad (qn S) q2) S := adk.rf.new (Nat.le_refl _) hTX
  have hak := hak.new (q := q2) hlg.2.2.1 hTX
  have hE := hE.ad hk8
  have hlg : lg S (wN S 6 12 12) (0 + 1) (0 + 12) := hlg.new (t := 6) (n := 12) ⟨hv1.1, hv1.2⟩
  have hs8 : shx S (wN S 6 12 12) := shx.newZ (t := 6) (n := 12) (k := 12) shx.rf hw8 hTX
  obtain ⟨am3, eam3⟩ : ∃ z, z = adx ad (qn S) q2 := ⟨_, rfl⟩
  have eq_q2 : am3 (qn S) = q2 := by rw [eam3]; exact if_pos rfl
  rw [← eam3] at hR hk8 hak hE
  obtain ⟨S4, eS4⟩ : ∃ z, z = wN S 6 12 12 := ⟨_, rfl⟩
  rw [← eS4] at hR hlg hs8
  replace h := h S4 eS4
  have hsh := hsh.tr hs8
  have hT_b5 : qT S4 (qn S) = 6 := by rw [eS4]; exact if_pos rfl
  have ea_0 : am3 0 = ad 0 := hk8 _ (hw8.hd hw8.1 (by decide) (by decide))
  have hl : lv_has ls 1 [(0, .ref (am3 0))] := by simp only [ea_0]; exact hl
  refine W.eq (g2 := F0 m 10 ls [.ref (am3 (qn S)), .ref (am3 0)]) (by simp only [ea_0, eq_q2]) ?_
  clear hw8 hk8 hs8 hP hD hS e9 e8 e7 hTX
  refine va_putF (D := rD g) (ci := 13) (v := .ref (am3 (qn S))) (ty := (.array (.object "CodeFoundryModel$File"))) (C := RX14) (T := TX14) (N := 143) hx hb hts in2X14 tyX14 tyX14_ok nmX14 hown hR.K hR.P hR.D hR.sS 0 (hR.at14 hR.w.1) rfl 0 (by decide) (hts _ kx_347) (fun _ h9 => h9) rfl hin9 rfl (by decide +kernel) rfl rfl (Nat.le_of_ble_eq_true rfl) dX14_init_10 (fun H locs hP hD hS => ?_)
  have hw9 : wfMZ (wR S4 0 0 (some (qn S))) := hR.w.put (fun b q9 => by cases q9; exact (hT_b5).trans (by rw [hR.w.1]; rfl)) (fun _ _ h9 => absurd h9 List.not_mem_nil) (by rw [hR.w.1]; decide)
  have hR : RepZ g am3 A s (wR S4 0 0 (some (qn S))) H locs := hR.pR hR.w.1 F14_s0 hw9 hP hD hS
  obtain ⟨S6, eS6⟩ : ∃ z, z = wR S4 0 0 (some (qn S)) := ⟨_, rfl⟩
  rw [← eS6] at hR
  replace h := h S6 eS6
  have hsh : shx S S6 := by rw [eS6]; exact hsh
  have hlg : lg S S6 (0 + 1) (0 + 12) := by rw [eS6]; exact hlg
  refine lv_aload_n hx hb dX14_init_13 rfl (lv_at hl 0 rfl) ?_
  refine lv_sipush (v := 16000) hx hb dX14_init_14 (by decide) ?_
  obtain ⟨hv7, h⟩ := h
  have e9 : KC = 300000 := rfl
  have e8 : KS = 3720000 := rfl
  have e7 : TXB = 10000000 := rfl
  have hTX : qn S6 < TXB := by have := hv7.1; omega
  refine va_newa (atype := .byte) (ty := .byte) (a0 := (16000, .inl (fun _ => 0))) (N' := 16000) hx hb (hts (.arrayClass .byte) kx_48) rfl hR.K hR.P hR.D hR.sS hA (fun _ => rfl) (by decide) (by decide) (by show 16000 * 1 ≤ 536870912; have := hv7.2; omega) (show 0 + 1 + 1 ≤ KC - qn S from hlg.c1 hv7.1) (show 0 + 12 + 16000 ≤ KS - qu S from hlg.s1 hv7.2) dX14_init_17 (fun q8 cA9 H hK9 hP hD hS => ?_)
  obtain rfl := cls_new2 hR.K hK9 (k := 0) rfl (fun _ h => by cases h)
  have hw8 := hR.w
  have hR := hR.new (t := 1) (n := 16000) (k := 16000) hTX (by decide) (fun q9 => absurd q9 (by decide)) wN_cB hP hD hS
  have hk8 : adk am3 (adx am3 (qn S6) q8) S6 := adk.rf.new (Nat.le_refl _) hTX
  have hak := hak.new (q := q8) hlg.2.2.1 hTX
  have hE := hE.ad hk8
  have hlg : lg S (wN S6 1 16000 16000) (0 + 1 + 1) (0 + 12 + 16000) := hlg.new (t := 1) (n := 16000) ⟨hv7.1, hv7.2⟩
  have hs8 : shx S6 (wN S6 1 16000 16000) := shx.newZ (t := 1) (n := 16000) (k := 16000) shx.rf hw8 hTX
  obtain ⟨am9, eam9⟩ : ∃ z, z = adx am3 (qn S6) q8 := ⟨_, rfl⟩
  have eq_q8 : am9 (qn S6) = q8 := by rw [eam9]; exact if_pos rfl
  rw [← eam9] at hR hk8 hak hE
  obtain ⟨S10, eS10⟩ : ∃ z, z = wN S6 1 16000 16000 := ⟨_, rfl⟩
  rw [← eS10] at hR hlg hs8
  replace h := h S10 eS10
  have hsh := hsh.tr hs8
  have hT_b11 : qT S10 (qn S6) = 1 := by rw [eS10]; exact if_pos rfl
  have ea_0 : am9 0 = am3 0 := hk8 _ (hw8.hd hw8.1 (by decide) (by decide))
  have hl : lv_has ls 1 [(0, .ref (am9 0))] := by simp only [ea_0]; exact hl
  refine W.eq (g2 := F0 m 19 ls [.ref (am9 (qn S6)), .ref (am9 0)]) (by simp only [ea_0, eq_q8]) ?_
  clear hw8 hk8 hs8 hP hD hS e9 e8 e7 hTX
  refine va_putF (D := rD g) (ci := 13) (v := .ref (am9 (qn S6))) (ty := (.array .byte)) (C := RX14) (T := TX14) (N := 143) hx hb hts in2X14 tyX14 tyX14_ok nmX14 hown hR.K hR.P hR.D hR.sS 0 (hR.at14 hR.w.1) rfl 3 (by decide) (hts _ kx_170) (fun _ h9 => h9) rfl hin9 rfl (by decide +kernel) rfl rfl (Nat.le_of_ble_eq_true rfl) dX14_init_19 (fun H locs hP hD hS => ?_)
  have hw9 : wfMZ (wR S10 0 3 (some (qn S6))) := hR.w.put (fun b q9 => by cases q9; exact (hT_b11).trans (by rw [hR.w.1]; rfl)) (fun _ _ h9 => absurd h9 List.not_mem_nil) (by rw [hR.w.1]; decide)
  have hR : RepZ g am9 A s (wR S10 0 3 (some (qn S6))) H locs := hR.pR hR.w.1 F14_s3 hw9 hP hD hS
  obtain ⟨S12, eS12⟩ : ∃ z, z = wR S10 0 3 (some (qn S6)) := ⟨_, rfl⟩
  rw [← eS12] at hR
  replace h := h S12 eS12
  have hsh : shx S S12 := by rw [eS12]; exact hsh
  have hlg : lg S S12 (0 + 1 + 1) (0 + 12 + 16000) := by rw [eS12]; exact hlg
  refine lv_aload_n hx hb dX14_init_22 rfl (lv_at hl 0 rfl) ?_
  obtain ⟨hv13, h⟩ := h
  have e9 : KC = 300000 := rfl
  have e8 : KS = 3720000 := rfl
  have e7 : TXB = 10000000 := rfl
  have hTX : qn S12 < TXB := by have := hv13.1; omega
  refine sx_new (own := RX14) (cls := RJxb5711) (names := nmL) (ik := 19) (ic := 21) (T0 := TJxb5711) (ci := 14) hx hb hlt hown (by decide +kernel) (by decide +kernel) (hts _ kx_1019) (hts _ kx_1218) (sx_words2 hts hex hEq) hlocs0 hR.K hR.P hR.D hR.sS hA rfl (by rw [hml]; exact hl.1) dX14_init_23 dX14_init_26 dX14_init_27 (Nat.le_of_ble_eq_true rfl) (Nat.le_of_ble_eq_true rfl) (show 0 + 1 + 1 + 1 ≤ KC - qn S from hlg.c1 hv13.1) (show 0 + 12 + 16000 + 6 ≤ KS - qu S from hlg.s1 hv13.2) (fun q14 H locs hP hD hS => ?_)
  have hw8 := hR.w
  have hR := hR.new (t := 14) (n := 0) (k := 6) hTX (by decide) (fun q9 => absurd q9 (by decide)) wN_cX hP hD hS
  have hk8 : adk am9 (adx am9 (qn S12) q14) S12 := adk.rf.new (Nat.le_refl _) hTX
  have hak := hak.new (q := q14) hlg.2.2.1 hTX
  have hE := hE.ad hk8
  have hlg : lg S (wN S12 14 0 6) (0 + 1 + 1 + 1) (0 + 12 + 16000 + 6) := hlg.new (t := 14) (n := 0) ⟨hv13.1, hv13.2⟩
  have hs8 : shx S12 (wN S12 14 0 6) := shx.newZ (t := 14) (n := 0) (k := 6) shx.rf hw8 hTX
  obtain ⟨am15, eam15⟩ : ∃ z, z = adx am9 (qn S12) q14 := ⟨_, rfl⟩
  have eq_q14 : am15 (qn S12) = q14 := by rw [eam15]; exact if_pos rfl
  rw [← eam15] at hR hk8 hak hE
  obtain ⟨S16, eS16⟩ : ∃ z, z = wN S12 14 0 6 := ⟨_, rfl⟩
  rw [← eS16] at hR hlg hs8
  replace h := h S16 eS16
  have hsh := hsh.tr hs8
  have hT_b17 : qT S16 (qn S12) = 14 := by rw [eS16]; exact if_pos rfl
  have ea_0 : am15 0 = am9 0 := hk8 _ (hw8.hd hw8.1 (by decide) (by decide))
  have hl : lv_has ls 1 [(0, .ref (am15 0))] := by simp only [ea_0]; exact hl
  refine W.eq (g2 := F0 m 30 ls [.ref (am15 (qn S12)), .ref (am15 0)]) (by simp only [ea_0, eq_q14]) ?_
  clear hw8 hk8 hs8 hP hD hS e9 e8 e7 hTX
  refine va_putF (D := rD g) (ci := 13) (v := .ref (am15 (qn S12))) (ty := (.object "java/lang/IllegalStateException")) (C := RX14) (T := TX14) (N := 143) hx hb hts in2X14 tyX14 tyX14_ok nmX14 hown hR.K hR.P hR.D hR.sS 0 (hR.at14 hR.w.1) rfl 6 (by decide) (hts _ kx_173) (fun _ h9 => h9) rfl hin9 rfl (by decide +kernel) rfl rfl (Nat.le_of_ble_eq_true rfl) dX14_init_30 (fun H locs hP hD hS => ?_)
  have hw9 : wfMZ (wR S16 0 6 (some (qn S12))) := hR.w.put (fun b q9 => by cases q9; exact (hT_b17).trans (by rw [hR.w.1]; rfl)) (fun _ _ h9 => absurd h9 List.not_mem_nil) (by rw [hR.w.1]; decide)
  have hR : RepZ g am15 A s (wR S16 0 6 (some (qn S12))) H locs := hR.pR hR.w.1 F14_s6 hw9 hP hD hS
  obtain ⟨S18, eS18⟩ : ∃ z, z = wR S16 0 6 (some (qn S12)) := ⟨_, rfl⟩
  rw [← eS18] at hR
  replace h := h S18 eS18
  have hsh : shx S S18 := by rw [eS18]; exact hsh
  have hlg : lg S S18 (0 + 1 + 1 + 1) (0 + 12 + 16000 + 6) := by rw [eS18]; exact hlg
  refine lv_aload_n hx hb dX14_init_33 rfl (lv_at hl 0 rfl) ?_
  refine lv_iconst (v := (-1)) hx hb dX14_init_34 (by decide) ?_
  refine va_put (D := rD g) (ci := 13) (v := .int (-1)) (ty := .int) (C := RX14) (T := TX14) (N := 143) hx hb hts in2X14 tyX14 tyX14_ok nmX14 hown hR.K hR.P hR.D hR.sS 0 (hR.at14 hR.w.1) rfl 10 (by decide) (hts _ kx_180) (fun _ h9 => h9) rfl (by decide +kernel) rfl rfl (Nat.le_of_ble_eq_true rfl) dX14_init_35 (fun H locs hP hD hS => ?_)
  have hR : RepZ g am15 A s (wI S18 0 10 (-1)) H locs := hR.pI hR.w.1 F14_s10 hP hD hS
  obtain ⟨S19, eS19⟩ : ∃ z, z = wI S18 0 10 (-1) := ⟨_, rfl⟩
  rw [← eS19] at hR
  replace h := h S19 eS19
  have hsh : shx S S19 := by rw [eS19]; exact hsh
  have hlg : lg S S19 (0 + 1 + 1 + 1) (0 + 12 + 16000 + 6) := by rw [eS19]; exact hlg
  refine lv_aload_n hx hb dX14_init_38 rfl (lv_at hl 0 rfl) ?_
  refine lv_sipush (v := 502) hx hb dX14_init_39 (by decide) ?_
  obtain ⟨hv20, h⟩ := h
  have e9 : KC = 300000 := rfl
  have e8 : KS = 3720000 := rfl
  have e7 : TXB = 10000000 := rfl
  have hTX : qn S19 < TXB := by have := hv20.1; omega
  refine va_newa (atype := .int) (ty := .int) (a0 := (502, .inl (fun _ => 0))) (N' := 502) hx hb (hts (.arrayClass .int) kx_346) rfl hR.K hR.P hR.D hR.sS hA (fun _ => rfl) (by decide) (by decide) (by show 502 * 4 ≤ 536870912; have := hv20.2; omega) (show 0 + 1 + 1 + 1 + 1 ≤ KC - qn S from hlg.c1 hv20.1) (show 0 + 12 + 16000 + 6 + 502 ≤ KS - qu S from hlg.s1 hv20.2) dX14_init_42 (fun q21 cA9 H hK9 hP hD hS => ?_)
  obtain rfl := cls_new2 hR.K hK9 (k := 1) rfl (fun _ h => by cases h)
  have hw8 := hR.w
  have hR := hR.new (t := 2) (n := 502) (k := 502) hTX (by decide) (fun q9 => absurd q9 (by decide)) wN_cI hP hD hS
  have hk8 : adk am15 (adx am15 (qn S19) q21) S19 := adk.rf.new (Nat.le_refl _) hTX
  have hak := hak.new (q := q21) hlg.2.2.1 hTX
  have hE := hE.ad hk8
  have hlg : lg S (wN S19 2 502 502) (0 + 1 + 1 + 1 + 1) (0 + 12 + 16000 + 6 + 502) := hlg.new (t := 2) (n := 502) ⟨hv20.1, hv20.2⟩
  have hs8 : shx S19 (wN S19 2 502 502) := shx.newZ (t := 2) (n := 502) (k := 502) shx.rf hw8 hTX
  obtain ⟨am22, eam22⟩ : ∃ z, z = adx am15 (qn S19) q21 := ⟨_, rfl⟩
  have eq_q21 : am22 (qn S19) = q21 := by rw [eam22]; exact if_pos rfl
  rw [← eam22] at hR hk8 hak hE
  obtain ⟨S23, eS23⟩ : ∃ z, z = wN S19 2 502 502 := ⟨_, rfl⟩
  rw [← eS23] at hR hlg hs8
  replace h := h S23 eS23
  have hsh := hsh.tr hs8
  have hT_b24 : qT S23 (qn S19) = 2 := by rw [eS23]; exact if_pos rfl
  have ea_0 : am22 0 = am15 0 := hk8 _ (hw8.hd hw8.1 (by decide) (by decide))
  have hl : lv_has ls 1 [(0, .ref (am22 0))] := by simp only [ea_0]; exact hl
  refine W.eq (g2 := F0 m 44 ls [.ref (am22 (qn S19)), .ref (am22 0)]) (by simp only [ea_0, eq_q21]) ?_
  clear hw8 hk8 hs8 hP hD hS e9 e8 e7 hTX
  refine va_putF (D := rD g) (ci := 13) (v := .ref (am22 (qn S19))) (ty := (.array .int)) (C := RX14) (T := TX14) (N := 143) hx hb hts in2X14 tyX14 tyX14_ok nmX14 hown hR.K hR.P hR.D hR.sS 0 (hR.at14 hR.w.1) rfl 15 (by decide) (hts _ kx_202) (fun _ h9 => h9) rfl hin9 rfl (by decide +kernel) rfl rfl (Nat.le_of_ble_eq_true rfl) dX14_init_44 (fun H locs hP hD hS => ?_)
  have hw9 : wfMZ (wR S23 0 15 (some (qn S19))) := hR.w.put (fun b q9 => by cases q9; exact (hT_b24).trans (by rw [hR.w.1]; rfl)) (fun _ _ h9 => absurd h9 List.not_mem_nil) (by rw [hR.w.1]; decide)
  have hR : RepZ g am22 A s (wR S23 0 15 (some (qn S19))) H locs := hR.pR hR.w.1 F14_s15 hw9 hP hD hS
  obtain ⟨S25, eS25⟩ : ∃ z, z = wR S23 0 15 (some (qn S19)) := ⟨_, rfl⟩
  rw [← eS25] at hR
  replace h := h S25 eS25
  have hsh : shx S S25 := by rw [eS25]; exact hsh
  have hlg : lg S S25 (0 + 1 + 1 + 1 + 1) (0 + 12 + 16000 + 6 + 502) := by rw [eS25]; exact hlg
  refine lv_aload_n hx hb dX14_init_47 rfl (lv_at hl 0 rfl) ?_
  refine lv_sipush (v := 502) hx hb dX14_init_48 (by decide) ?_
  obtain ⟨hv26, h⟩ := h
  have e9 : KC = 300000 := rfl
  have e8 : KS = 3720000 := rfl
  have e7 : TXB = 10000000 := rfl
  have hTX : qn S25 < TXB := by have := hv26.1; omega
  refine va_newa (atype := .int) (ty := .int) (a0 := (502, .inl (fun _ => 0))) (N' := 502) hx hb (hts (.arrayClass .int) kx_346) rfl hR.K hR.P hR.D hR.sS hA (fun _ => rfl) (by decide) (by decide) (by show 502 * 4 ≤ 536870912; have := hv26.2; omega) (show 0 + 1 + 1 + 1 + 1 + 1 ≤ KC - qn S from hlg.c1 hv26.1) (show 0 + 12 + 16000 + 6 + 502 + 502 ≤ KS - qu S from hlg.s1 hv26.2) dX14_init_51 (fun q27 cA9 H hK9 hP hD hS => ?_)
  obtain rfl := cls_new2 hR.K hK9 (k := 1) rfl (fun _ h => by cases h)
  have hw8 := hR.w
  have hR := hR.new (t := 2) (n := 502) (k := 502) hTX (by decide) (fun q9 => absurd q9 (by decide)) wN_cI hP hD hS
  have hk8 : adk am22 (adx am22 (qn S25) q27) S25 := adk.rf.new (Nat.le_refl _) hTX
  have hak := hak.new (q := q27) hlg.2.2.1 hTX
  have hE := hE.ad hk8
  have hlg : lg S (wN S25 2 502 502) (0 + 1 + 1 + 1 + 1 + 1) (0 + 12 + 16000 + 6 + 502 + 502) := hlg.new (t := 2) (n := 502) ⟨hv26.1, hv26.2⟩
  have hs8 : shx S25 (wN S25 2 502 502) := shx.newZ (t := 2) (n := 502) (k := 502) shx.rf hw8 hTX
  obtain ⟨am28, eam28⟩ : ∃ z, z = adx am22 (qn S25) q27 := ⟨_, rfl⟩
  have eq_q27 : am28 (qn S25) = q27 := by rw [eam28]; exact if_pos rfl
  rw [← eam28] at hR hk8 hak hE
  obtain ⟨S29, eS29⟩ : ∃ z, z = wN S25 2 502 502 := ⟨_, rfl⟩
  rw [← eS29] at hR hlg hs8
  replace h := h S29 eS29
  have hsh := hsh.tr hs8
  have hT_b30 : qT S29 (qn S25) = 2 := by rw [eS29]; exact if_pos rfl
  have ea_0 : am28 0 = am22 0 := hk8 _ (hw8.hd hw8.1 (by decide) (by decide))
  have hl : lv_has ls 1 [(0, .ref (am28 0))] := by simp only [ea_0]; exact hl
  refine W.eq (g2 := F0 m 53 ls [.ref (am28 (qn S25)), .ref (am28 0)]) (by simp only [ea_0, eq_q27]) ?_
  clear hw8 hk8 hs8 hP hD hS e9 e8 e7 hTX
  refine va_putF (D := rD g) (ci := 13) (v := .ref (am28 (qn S25))) (ty := (.array .int)) (C := RX14) (T := TX14) (N := 143) hx hb hts in2X14 tyX14 tyX14_ok nmX14 hown hR.K hR.P hR.D hR.sS 0 (hR.at14 hR.w.1) rfl 16 (by decide) (hts _ kx_207) (fun _ h9 => h9) rfl hin9 rfl (by decide +kernel) rfl rfl (Nat.le_of_ble_eq_true rfl) dX14_init_53 (fun H locs hP hD hS => ?_)
  have hw9 : wfMZ (wR S29 0 16 (some (qn S25))) := hR.w.put (fun b q9 => by cases q9; exact (hT_b30).trans (by rw [hR.w.1]; rfl)) (fun _ _ h9 => absurd h9 List.not_mem_nil) (by rw [hR.w.1]; decide)
  have hR : RepZ g am28 A s (wR S29 0 16 (some (qn S25))) H locs := hR.pR hR.w.1 F14_s16 hw9 hP hD hS
  obtain ⟨S31, eS31⟩ : ∃ z, z = wR S29 0 16 (some (qn S25)) := ⟨_, rfl⟩
  rw [← eS31] at hR
  replace h := h S31 eS31
  have hsh : shx S S31 := by rw [eS31]; exact hsh
  have hlg : lg S S31 (0 + 1 + 1 + 1 + 1 + 1) (0 + 12 + 16000 + 6 + 502 + 502) := by rw [eS31]; exact hlg
  refine lv_aload_n hx hb dX14_init_56 rfl (lv_at hl 0 rfl) ?_
  refine lv_sipush (v := 502) hx hb dX14_init_57 (by decide) ?_
  obtain ⟨hv32, h⟩ := h
  have e9 : KC = 300000 := rfl
  have e8 : KS = 3720000 := rfl
  have e7 : TXB = 10000000 := rfl
  have hTX : qn S31 < TXB := by have := hv32.1; omega
  refine va_newa (atype := .int) (ty := .int) (a0 := (502, .inl (fun _ => 0))) (N' := 502) hx hb (hts (.arrayClass .int) kx_346) rfl hR.K hR.P hR.D hR.sS hA (fun _ => rfl) (by decide) (by decide) (by show 502 * 4 ≤ 536870912; have := hv32.2; omega) (show 0 + 1 + 1 + 1 + 1 + 1 + 1 ≤ KC - qn S from hlg.c1 hv32.1) (show 0 + 12 + 16000 + 6 + 502 + 502 + 502 ≤ KS - qu S from hlg.s1 hv32.2) dX14_init_60 (fun q33 cA9 H hK9 hP hD hS => ?_)
  obtain rfl := cls_new2 hR.K hK9 (k := 1) rfl (fun _ h => by cases h)
  have hw8 := hR.w
  have hR := hR.new (t := 2) (n := 502) (k := 502) hTX (by decide) (fun q9 => absurd q9 (by decide)) wN_cI hP hD hS
  have hk8 : adk am28 (adx am28 (qn S31) q33) S31 := adk.rf.new (Nat.le_refl _) hTX
  have hak := hak.new (q := q33) hlg.2.2.1 hTX
  have hE := hE.ad hk8
  have hlg : lg S (wN S31 2 502 502) (0 + 1 + 1 + 1 + 1 + 1 + 1) (0 + 12 + 16000 + 6 + 502 + 502 + 502) := hlg.new (t := 2) (n := 502) ⟨hv32.1, hv32.2⟩
  have hs8 : shx S31 (wN S31 2 502 502) := shx.newZ (t := 2) (n := 502) (k := 502) shx.rf hw8 hTX
  obtain ⟨am34, eam34⟩ : ∃ z, z = adx am28 (qn S31) q33 := ⟨_, rfl⟩
  have eq_q33 : am34 (qn S31) = q33 := by rw [eam34]; exact if_pos rfl
  rw [← eam34] at hR hk8 hak hE
  obtain ⟨S35, eS35⟩ : ∃ z, z = wN S31 2 502 502 := ⟨_, rfl⟩
  rw [← eS35] at hR hlg hs8
  replace h := h S35 eS35
  have hsh := hsh.tr hs8
  have hT_b36 : qT S35 (qn S31) = 2 := by rw [eS35]; exact if_pos rfl
  have ea_0 : am34 0 = am28 0 := hk8 _ (hw8.hd hw8.1 (by decide) (by decide))
  have hl : lv_has ls 1 [(0, .ref (am34 0))] := by simp only [ea_0]; exact hl
  refine W.eq (g2 := F0 m 62 ls [.ref (am34 (qn S31)), .ref (am34 0)]) (by simp only [ea_0, eq_q33]) ?_
  clear hw8 hk8 hs8 hP hD hS e9 e8 e7 hTX
  refine va_putF (D := rD g) (ci := 13) (v := .ref (am34 (qn S31))) (ty := (.array .int)) (C := RX14) (T := TX14) (N := 143) hx hb hts in2X14 tyX14 tyX14_ok nmX14 hown hR.K hR.P hR.D hR.sS 0 (hR.at14 hR.w.1) rfl 17 (by decide) (hts _ kx_208) (fun _ h9 => h9) rfl hin9 rfl (by decide +kernel) rfl rfl (Nat.le_of_ble_eq_true rfl) dX14_init_62 (fun H locs hP hD hS => ?_)
  have hw9 : wfMZ (wR S35 0 17 (some (qn S31))) := hR.w.put (fun b q9 => by cases q9; exact (hT_b36).trans (by rw [hR.w.1]; rfl)) (fun _ _ h9 => absurd h9 List.not_mem_nil) (by rw [hR.w.1]; decide)
  have hR : RepZ g am34 A s (wR S35 0 17 (some (qn S31))) H locs := hR.pR hR.w.1 F14_s17 hw9 hP hD hS
  obtain ⟨S37, eS37⟩ : ∃ z, z = wR S35 0 17 (some (qn S31)) := ⟨_, rfl⟩
  rw [← eS37] at hR
  replace h := h S37 eS37
  have hsh : shx S S37 := by rw [eS37]; exact hsh
  have hlg : lg S S37 (0 + 1 + 1 + 1 + 1 + 1 + 1) (0 + 12 + 16000 + 6 + 502 + 502 + 502) := by rw [eS37]; exact hlg
  refine lv_aload_n hx hb dX14_init_65 rfl (lv_at hl 0 rfl) ?_
  refine lv_sipush (v := 502) hx hb dX14_init_66 (by decide) ?_
  obtain ⟨hv38, h⟩ := h
  have e9 : KC = 300000 := rfl
  have e8 : KS = 3720000 := rfl
  have e7 : TXB = 10000000 := rfl
  have hTX : qn S37 < TXB := by have := hv38.1; omega
  refine va_newa (atype := .int) (ty := .int) (a0 := (502, .inl (fun _ => 0))) (N' := 502) hx hb (hts (.arrayClass .int) kx_346) rfl hR.K hR.P hR.D hR.sS hA (fun _ => rfl) (by decide) (by decide) (by show 502 * 4 ≤ 536870912; have := hv38.2; omega) (show 0 + 1 + 1 + 1 + 1 + 1 + 1 + 1 ≤ KC - qn S from hlg.c1 hv38.1) (show 0 + 12 + 16000 + 6 + 502 + 502 + 502 + 502 ≤ KS - qu S from hlg.s1 hv38.2) dX14_init_69 (fun q39 cA9 H hK9 hP hD hS => ?_)
  obtain rfl := cls_new2 hR.K hK9 (k := 1) rfl (fun _ h => by cases h)
  have hw8 := hR.w
  have hR := hR.new (t := 2) (n := 502) (k := 502) hTX (by decide) (fun q9 => absurd q9 (by decide)) wN_cI hP hD hS
  have hk8 : adk am34 (adx am34 (qn S37) q39) S37 := adk.rf.new (Nat.le_refl _) hTX
  have hak := hak.new (q := q39) hlg.2.2.1 hTX
  have hE := hE.ad hk8
  have hlg : lg S (wN S37 2 502 502) (0 + 1 + 1 + 1 + 1 + 1 + 1 + 1) (0 + 12 + 16000 + 6 + 502 + 502 + 502 + 502) := hlg.new (t := 2) (n := 502) ⟨hv38.1, hv38.2⟩
  have hs8 : shx S37 (wN S37 2 502 502) := shx.newZ (t := 2) (n := 502) (k := 502) shx.rf hw8 hTX
  obtain ⟨am40, eam40⟩ : ∃ z, z = adx am34 (qn S37) q39 := ⟨_, rfl⟩
  have eq_q39 : am40 (qn S37) = q39 := by rw [eam40]; exact if_pos rfl
  rw [← eam40] at hR hk8 hak hE
  obtain ⟨S41, eS41⟩ : ∃ z, z = wN S37 2 502 502 := ⟨_, rfl⟩
  rw [← eS41] at hR hlg hs8
  replace h := h S41 eS41
  have hsh := hsh.tr hs8
  have hT_b42 : qT S41 (qn S37) = 2 := by rw [eS41]; exact if_pos rfl
  have ea_0 : am40 0 = am34 0 := hk8 _ (hw8.hd hw8.1 (by decide) (by decide))
  have hl : lv_has ls 1 [(0, .ref (am40 0))] := by simp only [ea_0]; exact hl
  refine W.eq (g2 := F0 m 71 ls [.ref (am40 (qn S37)), .ref (am40 0)]) (by simp only [ea_0, eq_q39]) ?_
  clear hw8 hk8 hs8 hP hD hS e9 e8 e7 hTX
  refine va_putF (D := rD g) (ci := 13) (v := .ref (am40 (qn S37))) (ty := (.array .int)) (C := RX14) (T := TX14) (N := 143) hx hb hts in2X14 tyX14 tyX14_ok nmX14 hown hR.K hR.P hR.D hR.sS 0 (hR.at14 hR.w.1) rfl 18 (by decide) (hts _ kx_209) (fun _ h9 => h9) rfl hin9 rfl (by decide +kernel) rfl rfl (Nat.le_of_ble_eq_true rfl) dX14_init_71 (fun H locs hP hD hS => ?_)
  have hw9 : wfMZ (wR S41 0 18 (some (qn S37))) := hR.w.put (fun b q9 => by cases q9; exact (hT_b42).trans (by rw [hR.w.1]; rfl)) (fun _ _ h9 => absurd h9 List.not_mem_nil) (by rw [hR.w.1]; decide)
  have hR : RepZ g am40 A s (wR S41 0 18 (some (qn S37))) H locs := hR.pR hR.w.1 F14_s18 hw9 hP hD hS
  obtain ⟨S43, eS43⟩ : ∃ z, z = wR S41 0 18 (some (qn S37)) := ⟨_, rfl⟩
  rw [← eS43] at hR
  replace h := h S43 eS43
  have hsh : shx S S43 := by rw [eS43]; exact hsh
  have hlg : lg S S43 (0 + 1 + 1 + 1 + 1 + 1 + 1 + 1) (0 + 12 + 16000 + 6 + 502 + 502 + 502 + 502) := by rw [eS43]; exact hlg
  refine lv_aload_n hx hb dX14_init_74 rfl (lv_at hl 0 rfl) ?_
  refine lv_sipush (v := 502) hx hb dX14_init_75 (by decide) ?_
  obtain ⟨hv44, h⟩ := h
  have e9 : KC = 300000 := rfl
  have e8 : KS = 3720000 := rfl
  have e7 : TXB = 10000000 := rfl
  have hTX : qn S43 < TXB := by have := hv44.1; omega
  refine va_newa (atype := .long) (ty := .long) (a0 := (502, .inr (.inl (fun _ => 0)))) (N' := 502) hx hb (hts (.arrayClass .long) kx_1219) rfl hR.K hR.P hR.D hR.sS hA (fun _ => rfl) (by decide) (by decide) (by show 502 * 8 ≤ 536870912; have := hv44.2; omega) (show 0 + 1 + 1 + 1 + 1 + 1 + 1 + 1 + 1 ≤ KC - qn S from hlg.c1 hv44.1) (show 0 + 12 + 16000 + 6 + 502 + 502 + 502 + 502 + 502 ≤ KS - qu S from hlg.s1 hv44.2) dX14_init_78 (fun q45 cA9 H hK9 hP hD hS => ?_)
  obtain rfl := cls_new2 hR.K hK9 (k := 3) rfl (fun _ h => by cases h)
  have hw8 := hR.w
  have hR := hR.new (t := 4) (n := 502) (k := 502) hTX (by decide) (fun q9 => absurd q9 (by decide)) wN_cL hP hD hS
  have hk8 : adk am40 (adx am40 (qn S43) q45) S43 := adk.rf.new (Nat.le_refl _) hTX
  have hak := hak.new (q := q45) hlg.2.2.1 hTX
  have hE := hE.ad hk8
  have hlg : lg S (wN S43 4 502 502) (0 + 1 + 1 + 1 + 1 + 1 + 1 + 1 + 1) (0 + 12 + 16000 + 6 + 502 + 502 + 502 + 502 + 502) := hlg.new (t := 4) (n := 502) ⟨hv44.1, hv44.2⟩
  have hs8 : shx S43 (wN S43 4 502 502) := shx.newZ (t := 4) (n := 502) (k := 502) shx.rf hw8 hTX
  obtain ⟨am46, eam46⟩ : ∃ z, z = adx am40 (qn S43) q45 := ⟨_, rfl⟩
  have eq_q45 : am46 (qn S43) = q45 := by rw [eam46]; exact if_pos rfl
  rw [← eam46] at hR hk8 hak hE
  obtain ⟨S47, eS47⟩ : ∃ z, z = wN S43 4 502 502 := ⟨_, rfl⟩
  rw [← eS47] at hR hlg hs8
  replace h := h S47 eS47
  have hsh := hsh.tr hs8
  have hT_b48 : qT S47 (qn S43) = 4 := by rw [eS47]; exact if_pos rfl
  have ea_0 : am46 0 = am40 0 := hk8 _ (hw8.hd hw8.1 (by decide) (by decide))
  have hl : lv_has ls 1 [(0, .ref (am46 0))] := by simp only [ea_0]; exact hl
  refine W.eq (g2 := F0 m 80 ls [.ref (am46 (qn S43)), .ref (am46 0)]) (by simp only [ea_0, eq_q45]) ?_
  clear hw8 hk8 hs8 hP hD hS e9 e8 e7 hTX
  refine va_putF (D := rD g) (ci := 13) (v := .ref (am46 (qn S43))) (ty := (.array .long)) (C := RX14) (T := TX14) (N := 143) hx hb hts in2X14 tyX14 tyX14_ok nmX14 hown hR.K hR.P hR.D hR.sS 0 (hR.at14 hR.w.1) rfl 19 (by decide) (hts _ kx_311) (fun _ h9 => h9) rfl hin9 rfl (by decide +kernel) rfl rfl (Nat.le_of_ble_eq_true rfl) dX14_init_80 (fun H locs hP hD hS => ?_)
  have hw9 : wfMZ (wR S47 0 19 (some (qn S43))) := hR.w.put (fun b q9 => by cases q9; exact (hT_b48).trans (by rw [hR.w.1]; rfl)) (fun _ _ h9 => absurd h9 List.not_mem_nil) (by rw [hR.w.1]; decide)
  have hR : RepZ g am46 A s (wR S47 0 19 (some (qn S43))) H locs := hR.pR hR.w.1 F14_s19 hw9 hP hD hS
  obtain ⟨S49, eS49⟩ : ∃ z, z = wR S47 0 19 (some (qn S43)) := ⟨_, rfl⟩
  rw [← eS49] at hR
  replace h := h S49 eS49
  have hsh : shx S S49 := by rw [eS49]; exact hsh
  have hlg : lg S S49 (0 + 1 + 1 + 1 + 1 + 1 + 1 + 1 + 1) (0 + 12 + 16000 + 6 + 502 + 502 + 502 + 502 + 502) := by rw [eS49]; exact hlg
  refine lv_aload_n hx hb dX14_init_83 rfl (lv_at hl 0 rfl) ?_
  refine lv_bipush (v := 48) hx hb dX14_init_84 (by decide) ?_
  obtain ⟨hv50, h⟩ := h
  have e9 : KC = 300000 := rfl
  have e8 : KS = 3720000 := rfl
  have e7 : TXB = 10000000 := rfl
  have hTX : qn S49 < TXB := by have := hv50.1; omega
  refine va_newa (atype := .int) (ty := .int) (a0 := (48, .inl (fun _ => 0))) (N' := 48) hx hb (hts (.arrayClass .int) kx_346) rfl hR.K hR.P hR.D hR.sS hA (fun _ => rfl) (by decide) (by decide) (by show 48 * 4 ≤ 536870912; have := hv50.2; omega) (show 0 + 1 + 1 + 1 + 1 + 1 + 1 + 1 + 1 + 1 ≤ KC - qn S from hlg.c1 hv50.1) (show 0 + 12 + 16000 + 6 + 502 + 502 + 502 + 502 + 502 + 48 ≤ KS - qu S from hlg.s1 hv50.2) dX14_init_86 (fun q51 cA9 H hK9 hP hD hS => ?_)
  obtain rfl := cls_new2 hR.K hK9 (k := 1) rfl (fun _ h => by cases h)
  have hw8 := hR.w
  have hR := hR.new (t := 2) (n := 48) (k := 48) hTX (by decide) (fun q9 => absurd q9 (by decide)) wN_cI hP hD hS
  have hk8 : adk am46 (adx am46 (qn S49) q51) S49 := adk.rf.new (Nat.le_refl _) hTX
  have hak := hak.new (q := q51) hlg.2.2.1 hTX
  have hE := hE.ad hk8
  have hlg : lg S (wN S49 2 48 48) (0 + 1 + 1 + 1 + 1 + 1 + 1 + 1 + 1 + 1) (0 + 12 + 16000 + 6 + 502 + 502 + 502 + 502 + 502 + 48) := hlg.new (t := 2) (n := 48) ⟨hv50.1, hv50.2⟩
  have hs8 : shx S49 (wN S49 2 48 48) := shx.newZ (t := 2) (n := 48) (k := 48) shx.rf hw8 hTX
  obtain ⟨am52, eam52⟩ : ∃ z, z = adx am46 (qn S49) q51 := ⟨_, rfl⟩
  have eq_q51 : am52 (qn S49) = q51 := by rw [eam52]; exact if_pos rfl
  rw [← eam52] at hR hk8 hak hE
  obtain ⟨S53, eS53⟩ : ∃ z, z = wN S49 2 48 48 := ⟨_, rfl⟩
  rw [← eS53] at hR hlg hs8
  replace h := h S53 eS53
  have hsh := hsh.tr hs8
  have hT_b54 : qT S53 (qn S49) = 2 := by rw [eS53]; exact if_pos rfl
  have ea_0 : am52 0 = am46 0 := hk8 _ (hw8.hd hw8.1 (by decide) (by decide))
  have hl : lv_has ls 1 [(0, .ref (am52 0))] := by simp only [ea_0]; exact hl
  refine W.eq (g2 := F0 m 88 ls [.ref (am52 (qn S49)), .ref (am52 0)]) (by simp only [ea_0, eq_q51]) ?_
  clear hw8 hk8 hs8 hP hD hS e9 e8 e7 hTX
  refine va_putF (D := rD g) (ci := 13) (v := .ref (am52 (qn S49))) (ty := (.array .int)) (C := RX14) (T := TX14) (N := 143) hx hb hts in2X14 tyX14 tyX14_ok nmX14 hown hR.K hR.P hR.D hR.sS 0 (hR.at14 hR.w.1) rfl 24 (by decide) (hts _ kx_210) (fun _ h9 => h9) rfl hin9 rfl (by decide +kernel) rfl rfl (Nat.le_of_ble_eq_true rfl) dX14_init_88 (fun H locs hP hD hS => ?_)
  have hw9 : wfMZ (wR S53 0 24 (some (qn S49))) := hR.w.put (fun b q9 => by cases q9; exact (hT_b54).trans (by rw [hR.w.1]; rfl)) (fun _ _ h9 => absurd h9 List.not_mem_nil) (by rw [hR.w.1]; decide)
  have hR : RepZ g am52 A s (wR S53 0 24 (some (qn S49))) H locs := hR.pR hR.w.1 F14_s24 hw9 hP hD hS
  obtain ⟨S55, eS55⟩ : ∃ z, z = wR S53 0 24 (some (qn S49)) := ⟨_, rfl⟩
  rw [← eS55] at hR
  replace h := h S55 eS55
  have hsh : shx S S55 := by rw [eS55]; exact hsh
  have hlg : lg S S55 (0 + 1 + 1 + 1 + 1 + 1 + 1 + 1 + 1 + 1) (0 + 12 + 16000 + 6 + 502 + 502 + 502 + 502 + 502 + 48) := by rw [eS55]; exact hlg
  refine lv_aload_n hx hb dX14_init_91 rfl (lv_at hl 0 rfl) ?_
  refine lv_sipush (v := 3000) hx hb dX14_init_92 (by decide) ?_
  obtain ⟨hv56, h⟩ := h
  have e9 : KC = 300000 := rfl
  have e8 : KS = 3720000 := rfl
  have e7 : TXB = 10000000 := rfl
  have hTX : qn S55 < TXB := by have := hv56.1; omega
  refine va_newa (atype := .int) (ty := .int) (a0 := (3000, .inl (fun _ => 0))) (N' := 3000) hx hb (hts (.arrayClass .int) kx_346) rfl hR.K hR.P hR.D hR.sS hA (fun _ => rfl) (by decide) (by decide) (by show 3000 * 4 ≤ 536870912; have := hv56.2; omega) (show 0 + 1 + 1 + 1 + 1 + 1 + 1 + 1 + 1 + 1 + 1 ≤ KC - qn S from hlg.c1 hv56.1) (show 0 + 12 + 16000 + 6 + 502 + 502 + 502 + 502 + 502 + 48 + 3000 ≤ KS - qu S from hlg.s1 hv56.2) dX14_init_95 (fun q57 cA9 H hK9 hP hD hS => ?_)
  obtain rfl := cls_new2 hR.K hK9 (k := 1) rfl (fun _ h => by cases h)
  have hw8 := hR.w
  have hR := hR.new (t := 2) (n := 3000) (k := 3000) hTX (by decide) (fun q9 => absurd q9 (by decide)) wN_cI hP hD hS
  have hk8 : adk am52 (adx am52 (qn S55) q57) S55 := adk.rf.new (Nat.le_refl _) hTX
  have hak := hak.new (q := q57) hlg.2.2.1 hTX
  have hE := hE.ad hk8
  have hlg : lg S (wN S55 2 3000 3000) (0 + 1 + 1 + 1 + 1 + 1 + 1 + 1 + 1 + 1 + 1) (0 + 12 + 16000 + 6 + 502 + 502 + 502 + 502 + 502 + 48 + 3000) := hlg.new (t := 2) (n := 3000) ⟨hv56.1, hv56.2⟩
  have hs8 : shx S55 (wN S55 2 3000 3000) := shx.newZ (t := 2) (n := 3000) (k := 3000) shx.rf hw8 hTX
  obtain ⟨am58, eam58⟩ : ∃ z, z = adx am52 (qn S55) q57 := ⟨_, rfl⟩
  have eq_q57 : am58 (qn S55) = q57 := by rw [eam58]; exact if_pos rfl
  rw [← eam58] at hR hk8 hak hE
  obtain ⟨S59, eS59⟩ : ∃ z, z = wN S55 2 3000 3000 := ⟨_, rfl⟩
  rw [← eS59] at hR hlg hs8
  replace h := h S59 eS59
  have hsh := hsh.tr hs8
  have hT_b60 : qT S59 (qn S55) = 2 := by rw [eS59]; exact if_pos rfl
  have ea_0 : am58 0 = am52 0 := hk8 _ (hw8.hd hw8.1 (by decide) (by decide))
  have hl : lv_has ls 1 [(0, .ref (am58 0))] := by simp only [ea_0]; exact hl
  refine W.eq (g2 := F0 m 97 ls [.ref (am58 (qn S55)), .ref (am58 0)]) (by simp only [ea_0, eq_q57]) ?_
  clear hw8 hk8 hs8 hP hD hS e9 e8 e7 hTX
  refine va_putF (D := rD g) (ci := 13) (v := .ref (am58 (qn S55))) (ty := (.array .int)) (C := RX14) (T := TX14) (N := 143) hx hb hts in2X14 tyX14 tyX14_ok nmX14 hown hR.K hR.P hR.D hR.sS 0 (hR.at14 hR.w.1) rfl 26 (by decide) (hts _ kx_217) (fun _ h9 => h9) rfl hin9 rfl (by decide +kernel) rfl rfl (Nat.le_of_ble_eq_true rfl) dX14_init_97 (fun H locs hP hD hS => ?_)
  have hw9 : wfMZ (wR S59 0 26 (some (qn S55))) := hR.w.put (fun b q9 => by cases q9; exact (hT_b60).trans (by rw [hR.w.1]; rfl)) (fun _ _ h9 => absurd h9 List.not_mem_nil) (by rw [hR.w.1]; decide)
  have hR : RepZ g am58 A s (wR S59 0 26 (some (qn S55))) H locs := hR.pR hR.w.1 F14_s26 hw9 hP hD hS
  obtain ⟨S61, eS61⟩ : ∃ z, z = wR S59 0 26 (some (qn S55)) := ⟨_, rfl⟩
  rw [← eS61] at hR
  replace h := h S61 eS61
  have hsh : shx S S61 := by rw [eS61]; exact hsh
  have hlg : lg S S61 (0 + 1 + 1 + 1 + 1 + 1 + 1 + 1 + 1 + 1 + 1) (0 + 12 + 16000 + 6 + 502 + 502 + 502 + 502 + 502 + 48 + 3000) := by rw [eS61]; exact hlg
  refine lv_aload_n hx hb dX14_init_100 rfl (lv_at hl 0 rfl) ?_
  refine lv_sipush (v := 3000) hx hb dX14_init_101 (by decide) ?_
  obtain ⟨hv62, h⟩ := h
  have e9 : KC = 300000 := rfl
  have e8 : KS = 3720000 := rfl
  have e7 : TXB = 10000000 := rfl
  have hTX : qn S61 < TXB := by have := hv62.1; omega
  refine va_newa (atype := .int) (ty := .int) (a0 := (3000, .inl (fun _ => 0))) (N' := 3000) hx hb (hts (.arrayClass .int) kx_346) rfl hR.K hR.P hR.D hR.sS hA (fun _ => rfl) (by decide) (by decide) (by show 3000 * 4 ≤ 536870912; have := hv62.2; omega) (show 0 + 1 + 1 + 1 + 1 + 1 + 1 + 1 + 1 + 1 + 1 + 1 ≤ KC - qn S from hlg.c1 hv62.1) (show 0 + 12 + 16000 + 6 + 502 + 502 + 502 + 502 + 502 + 48 + 3000 + 3000 ≤ KS - qu S from hlg.s1 hv62.2) dX14_init_104 (fun q63 cA9 H hK9 hP hD hS => ?_)
  obtain rfl := cls_new2 hR.K hK9 (k := 1) rfl (fun _ h => by cases h)
  have hw8 := hR.w
  have hR := hR.new (t := 2) (n := 3000) (k := 3000) hTX (by decide) (fun q9 => absurd q9 (by decide)) wN_cI hP hD hS
  have hk8 : adk am58 (adx am58 (qn S61) q63) S61 := adk.rf.new (Nat.le_refl _) hTX
  have hak := hak.new (q := q63) hlg.2.2.1 hTX
  have hE := hE.ad hk8
  have hlg : lg S (wN S61 2 3000 3000) (0 + 1 + 1 + 1 + 1 + 1 + 1 + 1 + 1 + 1 + 1 + 1) (0 + 12 + 16000 + 6 + 502 + 502 + 502 + 502 + 502 + 48 + 3000 + 3000) := hlg.new (t := 2) (n := 3000) ⟨hv62.1, hv62.2⟩
  have hs8 : shx S61 (wN S61 2 3000 3000) := shx.newZ (t := 2) (n := 3000) (k := 3000) shx.rf hw8 hTX
  obtain ⟨am64, eam64⟩ : ∃ z, z = adx am58 (qn S61) q63 := ⟨_, rfl⟩
  have eq_q63 : am64 (qn S61) = q63 := by rw [eam64]; exact if_pos rfl
  rw [← eam64] at hR hk8 hak hE
  obtain ⟨S65, eS65⟩ : ∃ z, z = wN S61 2 3000 3000 := ⟨_, rfl⟩
  rw [← eS65] at hR hlg hs8
  replace h := h S65 eS65
  have hsh := hsh.tr hs8
  have hT_b66 : qT S65 (qn S61) = 2 := by rw [eS65]; exact if_pos rfl
  have ea_0 : am64 0 = am58 0 := hk8 _ (hw8.hd hw8.1 (by decide) (by decide))
  have hl : lv_has ls 1 [(0, .ref (am64 0))] := by simp only [ea_0]; exact hl
  refine W.eq (g2 := F0 m 106 ls [.ref (am64 (qn S61)), .ref (am64 0)]) (by simp only [ea_0, eq_q63]) ?_
  clear hw8 hk8 hs8 hP hD hS e9 e8 e7 hTX
  refine va_putF (D := rD g) (ci := 13) (v := .ref (am64 (qn S61))) (ty := (.array .int)) (C := RX14) (T := TX14) (N := 143) hx hb hts in2X14 tyX14 tyX14_ok nmX14 hown hR.K hR.P hR.D hR.sS 0 (hR.at14 hR.w.1) rfl 27 (by decide) (hts _ kx_218) (fun _ h9 => h9) rfl hin9 rfl (by decide +kernel) rfl rfl (Nat.le_of_ble_eq_true rfl) dX14_init_106 (fun H locs hP hD hS => ?_)
  have hw9 : wfMZ (wR S65 0 27 (some (qn S61))) := hR.w.put (fun b q9 => by cases q9; exact (hT_b66).trans (by rw [hR.w.1]; rfl)) (fun _ _ h9 => absurd h9 List.not_mem_nil) (by rw [hR.w.1]; decide)
  have hR : RepZ g am64 A s (wR S65 0 27 (some (qn S61))) H locs := hR.pR hR.w.1 F14_s27 hw9 hP hD hS
  obtain ⟨S67, eS67⟩ : ∃ z, z = wR S65 0 27 (some (qn S61)) := ⟨_, rfl⟩
  rw [← eS67] at hR
  replace h := h S67 eS67
  have hsh : shx S S67 := by rw [eS67]; exact hsh
  have hlg : lg S S67 (0 + 1 + 1 + 1 + 1 + 1 + 1 + 1 + 1 + 1 + 1 + 1) (0 + 12 + 16000 + 6 + 502 + 502 + 502 + 502 + 502 + 48 + 3000 + 3000) := by rw [eS67]; exact hlg
  refine lv_aload_n hx hb dX14_init_109 rfl (lv_at hl 0 rfl) ?_
  refine lv_bipush (v := 24) hx hb dX14_init_110 (by decide) ?_
  obtain ⟨hv68, h⟩ := h
  have e9 : KC = 300000 := rfl
  have e8 : KS = 3720000 := rfl
  have e7 : TXB = 10000000 := rfl
  have hTX : qn S67 < TXB := by have := hv68.1; omega
  refine va_newa (atype := .int) (ty := .int) (a0 := (24, .inl (fun _ => 0))) (N' := 24) hx hb (hts (.arrayClass .int) kx_346) rfl hR.K hR.P hR.D hR.sS hA (fun _ => rfl) (by decide) (by decide) (by show 24 * 4 ≤ 536870912; have := hv68.2; omega) (show 0 + 1 + 1 + 1 + 1 + 1 + 1 + 1 + 1 + 1 + 1 + 1 + 1 ≤ KC - qn S from hlg.c1 hv68.1) (show 0 + 12 + 16000 + 6 + 502 + 502 + 502 + 502 + 502 + 48 + 3000 + 3000 + 24 ≤ KS - qu S from hlg.s1 hv68.2) dX14_init_112 (fun q69 cA9 H hK9 hP hD hS => ?_)
  obtain rfl := cls_new2 hR.K hK9 (k := 1) rfl (fun _ h => by cases h)
  have hw8 := hR.w
  have hR := hR.new (t := 2) (n := 24) (k := 24) hTX (by decide) (fun q9 => absurd q9 (by decide)) wN_cI hP hD hS
  have hk8 : adk am64 (adx am64 (qn S67) q69) S67 := adk.rf.new (Nat.le_refl _) hTX
  have hak := hak.new (q := q69) hlg.2.2.1 hTX
  have hE := hE.ad hk8
  have hlg : lg S (wN S67 2 24 24) (0 + 1 + 1 + 1 + 1 + 1 + 1 + 1 + 1 + 1 + 1 + 1 + 1) (0 + 12 + 16000 + 6 + 502 + 502 + 502 + 502 + 502 + 48 + 3000 + 3000 + 24) := hlg.new (t := 2) (n := 24) ⟨hv68.1, hv68.2⟩
  have hs8 : shx S67 (wN S67 2 24 24) := shx.newZ (t := 2) (n := 24) (k := 24) shx.rf hw8 hTX
  obtain ⟨am70, eam70⟩ : ∃ z, z = adx am64 (qn S67) q69 := ⟨_, rfl⟩
  have eq_q69 : am70 (qn S67) = q69 := by rw [eam70]; exact if_pos rfl
  rw [← eam70] at hR hk8 hak hE
  obtain ⟨S71, eS71⟩ : ∃ z, z = wN S67 2 24 24 := ⟨_, rfl⟩
  rw [← eS71] at hR hlg hs8
  replace h := h S71 eS71
  have hsh := hsh.tr hs8
  have hT_b72 : qT S71 (qn S67) = 2 := by rw [eS71]; exact if_pos rfl
  have ea_0 : am70 0 = am64 0 := hk8 _ (hw8.hd hw8.1 (by decide) (by decide))
  have hl : lv_has ls 1 [(0, .ref (am70 0))] := by simp only [ea_0]; exact hl
  refine W.eq (g2 := F0 m 114 ls [.ref (am70 (qn S67)), .ref (am70 0)]) (by simp only [ea_0, eq_q69]) ?_
  clear hw8 hk8 hs8 hP hD hS e9 e8 e7 hTX
  refine va_putF (D := rD g) (ci := 13) (v := .ref (am70 (qn S67))) (ty := (.array .int)) (C := RX14) (T := TX14) (N := 143) hx hb hts in2X14 tyX14 tyX14_ok nmX14 hown hR.K hR.P hR.D hR.sS 0 (hR.at14 hR.w.1) rfl 29 (by decide) (hts _ kx_266) (fun _ h9 => h9) rfl hin9 rfl (by decide +kernel) rfl rfl (Nat.le_of_ble_eq_true rfl) dX14_init_114 (fun H locs hP hD hS => ?_)
  have hw9 : wfMZ (wR S71 0 29 (some (qn S67))) := hR.w.put (fun b q9 => by cases q9; exact (hT_b72).trans (by rw [hR.w.1]; rfl)) (fun _ _ h9 => absurd h9 List.not_mem_nil) (by rw [hR.w.1]; decide)
  have hR : RepZ g am70 A s (wR S71 0 29 (some (qn S67))) H locs := hR.pR hR.w.1 F14_s29 hw9 hP hD hS
  obtain ⟨S73, eS73⟩ : ∃ z, z = wR S71 0 29 (some (qn S67)) := ⟨_, rfl⟩
  rw [← eS73] at hR
  replace h := h S73 eS73
  have hsh : shx S S73 := by rw [eS73]; exact hsh
  have hlg : lg S S73 (0 + 1 + 1 + 1 + 1 + 1 + 1 + 1 + 1 + 1 + 1 + 1 + 1) (0 + 12 + 16000 + 6 + 502 + 502 + 502 + 502 + 502 + 48 + 3000 + 3000 + 24) := by rw [eS73]; exact hlg
  refine lv_aload_n hx hb dX14_init_117 rfl (lv_at hl 0 rfl) ?_
  refine lv_bipush (v := 24) hx hb dX14_init_118 (by decide) ?_
  obtain ⟨hv74, h⟩ := h
  have e9 : KC = 300000 := rfl
  have e8 : KS = 3720000 := rfl
  have e7 : TXB = 10000000 := rfl
  have hTX : qn S73 < TXB := by have := hv74.1; omega
  refine va_newa (atype := .int) (ty := .int) (a0 := (24, .inl (fun _ => 0))) (N' := 24) hx hb (hts (.arrayClass .int) kx_346) rfl hR.K hR.P hR.D hR.sS hA (fun _ => rfl) (by decide) (by decide) (by show 24 * 4 ≤ 536870912; have := hv74.2; omega) (show 0 + 1 + 1 + 1 + 1 + 1 + 1 + 1 + 1 + 1 + 1 + 1 + 1 + 1 ≤ KC - qn S from hlg.c1 hv74.1) (show 0 + 12 + 16000 + 6 + 502 + 502 + 502 + 502 + 502 + 48 + 3000 + 3000 + 24 + 24 ≤ KS - qu S from hlg.s1 hv74.2) dX14_init_120 (fun q75 cA9 H hK9 hP hD hS => ?_)
  obtain rfl := cls_new2 hR.K hK9 (k := 1) rfl (fun _ h => by cases h)
  have hw8 := hR.w
  have hR := hR.new (t := 2) (n := 24) (k := 24) hTX (by decide) (fun q9 => absurd q9 (by decide)) wN_cI hP hD hS
  have hk8 : adk am70 (adx am70 (qn S73) q75) S73 := adk.rf.new (Nat.le_refl _) hTX
  have hak := hak.new (q := q75) hlg.2.2.1 hTX
  have hE := hE.ad hk8
  have hlg : lg S (wN S73 2 24 24) (0 + 1 + 1 + 1 + 1 + 1 + 1 + 1 + 1 + 1 + 1 + 1 + 1 + 1) (0 + 12 + 16000 + 6 + 502 + 502 + 502 + 502 + 502 + 48 + 3000 + 3000 + 24 + 24) := hlg.new (t := 2) (n := 24) ⟨hv74.1, hv74.2⟩
  have hs8 : shx S73 (wN S73 2 24 24) := shx.newZ (t := 2) (n := 24) (k := 24) shx.rf hw8 hTX
  obtain ⟨am76, eam76⟩ : ∃ z, z = adx am70 (qn S73) q75 := ⟨_, rfl⟩
  have eq_q75 : am76 (qn S73) = q75 := by rw [eam76]; exact if_pos rfl
  rw [← eam76] at hR hk8 hak hE
  obtain ⟨S77, eS77⟩ : ∃ z, z = wN S73 2 24 24 := ⟨_, rfl⟩
  rw [← eS77] at hR hlg hs8
  replace h := h S77 eS77
  have hsh := hsh.tr hs8
  have hT_b78 : qT S77 (qn S73) = 2 := by rw [eS77]; exact if_pos rfl
  have ea_0 : am76 0 = am70 0 := hk8 _ (hw8.hd hw8.1 (by decide) (by decide))
  have hl : lv_has ls 1 [(0, .ref (am76 0))] := by simp only [ea_0]; exact hl
  refine W.eq (g2 := F0 m 122 ls [.ref (am76 (qn S73)), .ref (am76 0)]) (by simp only [ea_0, eq_q75]) ?_
  clear hw8 hk8 hs8 hP hD hS e9 e8 e7 hTX
  refine va_putF (D := rD g) (ci := 13) (v := .ref (am76 (qn S73))) (ty := (.array .int)) (C := RX14) (T := TX14) (N := 143) hx hb hts in2X14 tyX14 tyX14_ok nmX14 hown hR.K hR.P hR.D hR.sS 0 (hR.at14 hR.w.1) rfl 30 (by decide) (hts _ kx_267) (fun _ h9 => h9) rfl hin9 rfl (by decide +kernel) rfl rfl (Nat.le_of_ble_eq_true rfl) dX14_init_122 (fun H locs hP hD hS => ?_)
  have hw9 : wfMZ (wR S77 0 30 (some (qn S73))) := hR.w.put (fun b q9 => by cases q9; exact (hT_b78).trans (by rw [hR.w.1]; rfl)) (fun _ _ h9 => absurd h9 List.not_mem_nil) (by rw [hR.w.1]; decide)
  have hR : RepZ g am76 A s (wR S77 0 30 (some (qn S73))) H locs := hR.pR hR.w.1 F14_s30 hw9 hP hD hS
  obtain ⟨S79, eS79⟩ : ∃ z, z = wR S77 0 30 (some (qn S73)) := ⟨_, rfl⟩
  rw [← eS79] at hR
  replace h := h S79 eS79
  have hsh : shx S S79 := by rw [eS79]; exact hsh
  have hlg : lg S S79 (0 + 1 + 1 + 1 + 1 + 1 + 1 + 1 + 1 + 1 + 1 + 1 + 1 + 1) (0 + 12 + 16000 + 6 + 502 + 502 + 502 + 502 + 502 + 48 + 3000 + 3000 + 24 + 24) := by rw [eS79]; exact hlg
  refine lv_aload_n hx hb dX14_init_125 rfl (lv_at hl 0 rfl) ?_
  refine lv_bipush (v := 24) hx hb dX14_init_126 (by decide) ?_
  obtain ⟨hv80, h⟩ := h
  have e9 : KC = 300000 := rfl
  have e8 : KS = 3720000 := rfl
  have e7 : TXB = 10000000 := rfl
  have hTX : qn S79 < TXB := by have := hv80.1; omega
  refine va_newa (atype := .int) (ty := .int) (a0 := (24, .inl (fun _ => 0))) (N' := 24) hx hb (hts (.arrayClass .int) kx_346) rfl hR.K hR.P hR.D hR.sS hA (fun _ => rfl) (by decide) (by decide) (by show 24 * 4 ≤ 536870912; have := hv80.2; omega) (show 0 + 1 + 1 + 1 + 1 + 1 + 1 + 1 + 1 + 1 + 1 + 1 + 1 + 1 + 1 ≤ KC - qn S from hlg.c1 hv80.1) (show 0 + 12 + 16000 + 6 + 502 + 502 + 502 + 502 + 502 + 48 + 3000 + 3000 + 24 + 24 + 24 ≤ KS - qu S from hlg.s1 hv80.2) dX14_init_128 (fun q81 cA9 H hK9 hP hD hS => ?_)
  obtain rfl := cls_new2 hR.K hK9 (k := 1) rfl (fun _ h => by cases h)
  have hw8 := hR.w
  have hR := hR.new (t := 2) (n := 24) (k := 24) hTX (by decide) (fun q9 => absurd q9 (by decide)) wN_cI hP hD hS
  have hk8 : adk am76 (adx am76 (qn S79) q81) S79 := adk.rf.new (Nat.le_refl _) hTX
  have hak := hak.new (q := q81) hlg.2.2.1 hTX
  have hE := hE.ad hk8
  have hlg : lg S (wN S79 2 24 24) (0 + 1 + 1 + 1 + 1 + 1 + 1 + 1 + 1 + 1 + 1 + 1 + 1 + 1 + 1) (0 + 12 + 16000 + 6 + 502 + 502 + 502 + 502 + 502 + 48 + 3000 + 3000 + 24 + 24 + 24) := hlg.new (t := 2) (n := 24) ⟨hv80.1, hv80.2⟩
  have hs8 : shx S79 (wN S79 2 24 24) := shx.newZ (t := 2) (n := 24) (k := 24) shx.rf hw8 hTX
  obtain ⟨am82, eam82⟩ : ∃ z, z = adx am76 (qn S79) q81 := ⟨_, rfl⟩
  have eq_q81 : am82 (qn S79) = q81 := by rw [eam82]; exact if_pos rfl
  rw [← eam82] at hR hk8 hak hE
  obtain ⟨S83, eS83⟩ : ∃ z, z = wN S79 2 24 24 := ⟨_, rfl⟩
  rw [← eS83] at hR hlg hs8
  replace h := h S83 eS83
  have hsh := hsh.tr hs8
  have hT_b84 : qT S83 (qn S79) = 2 := by rw [eS83]; exact if_pos rfl
  have ea_0 : am82 0 = am76 0 := hk8 _ (hw8.hd hw8.1 (by decide) (by decide))
  have hl : lv_has ls 1 [(0, .ref (am82 0))] := by simp only [ea_0]; exact hl
  refine W.eq (g2 := F0 m 130 ls [.ref (am82 (qn S79)), .ref (am82 0)]) (by simp only [ea_0, eq_q81]) ?_
  clear hw8 hk8 hs8 hP hD hS e9 e8 e7 hTX
  refine va_putF (D := rD g) (ci := 13) (v := .ref (am82 (qn S79))) (ty := (.array .int)) (C := RX14) (T := TX14) (N := 143) hx hb hts in2X14 tyX14 tyX14_ok nmX14 hown hR.K hR.P hR.D hR.sS 0 (hR.at14 hR.w.1) rfl 31 (by decide) (hts _ kx_268) (fun _ h9 => h9) rfl hin9 rfl (by decide +kernel) rfl rfl (Nat.le_of_ble_eq_true rfl) dX14_init_130 (fun H locs hP hD hS => ?_)
  have hw9 : wfMZ (wR S83 0 31 (some (qn S79))) := hR.w.put (fun b q9 => by cases q9; exact (hT_b84).trans (by rw [hR.w.1]; rfl)) (fun _ _ h9 => absurd h9 List.not_mem_nil) (by rw [hR.w.1]; decide)
  have hR : RepZ g am82 A s (wR S83 0 31 (some (qn S79))) H locs := hR.pR hR.w.1 F14_s31 hw9 hP hD hS
  obtain ⟨S85, eS85⟩ : ∃ z, z = wR S83 0 31 (some (qn S79)) := ⟨_, rfl⟩
  rw [← eS85] at hR
  replace h := h S85 eS85
  have hsh : shx S S85 := by rw [eS85]; exact hsh
  have hlg : lg S S85 (0 + 1 + 1 + 1 + 1 + 1 + 1 + 1 + 1 + 1 + 1 + 1 + 1 + 1 + 1) (0 + 12 + 16000 + 6 + 502 + 502 + 502 + 502 + 502 + 48 + 3000 + 3000 + 24 + 24 + 24) := by rw [eS85]; exact hlg
  refine lv_aload_n hx hb dX14_init_133 rfl (lv_at hl 0 rfl) ?_
  refine lv_bipush (v := 24) hx hb dX14_init_134 (by decide) ?_
  obtain ⟨hv86, h⟩ := h
  have e9 : KC = 300000 := rfl
  have e8 : KS = 3720000 := rfl
  have e7 : TXB = 10000000 := rfl
  have hTX : qn S85 < TXB := by have := hv86.1; omega
  refine va_newa (atype := .int) (ty := .int) (a0 := (24, .inl (fun _ => 0))) (N' := 24) hx hb (hts (.arrayClass .int) kx_346) rfl hR.K hR.P hR.D hR.sS hA (fun _ => rfl) (by decide) (by decide) (by show 24 * 4 ≤ 536870912; have := hv86.2; omega) (show 0 + 1 + 1 + 1 + 1 + 1 + 1 + 1 + 1 + 1 + 1 + 1 + 1 + 1 + 1 + 1 ≤ KC - qn S from hlg.c1 hv86.1) (show 0 + 12 + 16000 + 6 + 502 + 502 + 502 + 502 + 502 + 48 + 3000 + 3000 + 24 + 24 + 24 + 24 ≤ KS - qu S from hlg.s1 hv86.2) dX14_init_136 (fun q87 cA9 H hK9 hP hD hS => ?_)
  obtain rfl := cls_new2 hR.K hK9 (k := 1) rfl (fun _ h => by cases h)
  have hw8 := hR.w
  have hR := hR.new (t := 2) (n := 24) (k := 24) hTX (by decide) (fun q9 => absurd q9 (by decide)) wN_cI hP hD hS
  have hk8 : adk am82 (adx am82 (qn S85) q87) S85 := adk.rf.new (Nat.le_refl _) hTX
  have hak := hak.new (q := q87) hlg.2.2.1 hTX
  have hE := hE.ad hk8
  have hlg : lg S (wN S85 2 24 24) (0 + 1 + 1 + 1 + 1 + 1 + 1 + 1 + 1 + 1 + 1 + 1 + 1 + 1 + 1 + 1) (0 + 12 + 16000 + 6 + 502 + 502 + 502 + 502 + 502 + 48 + 3000 + 3000 + 24 + 24 + 24 + 24) := hlg.new (t := 2) (n := 24) ⟨hv86.1, hv86.2⟩
  have hs8 : shx S85 (wN S85 2 24 24) := shx.newZ (t := 2) (n := 24) (k := 24) shx.rf hw8 hTX
  obtain ⟨am88, eam88⟩ : ∃ z, z = adx am82 (qn S85) q87 := ⟨_, rfl⟩
  have eq_q87 : am88 (qn S85) = q87 := by rw [eam88]; exact if_pos rfl
  rw [← eam88] at hR hk8 hak hE
  obtain ⟨S89, eS89⟩ : ∃ z, z = wN S85 2 24 24 := ⟨_, rfl⟩
  rw [← eS89] at hR hlg hs8
  replace h := h S89 eS89
  have hsh := hsh.tr hs8
  have hT_b90 : qT S89 (qn S85) = 2 := by rw [eS89]; exact if_pos rfl
  have ea_0 : am88 0 = am82 0 := hk8 _ (hw8.hd hw8.1 (by decide) (by decide))
  have hl : lv_has ls 1 [(0, .ref (am88 0))] := by simp only [ea_0]; exact hl
  refine W.eq (g2 := F0 m 138 ls [.ref (am88 (qn S85)), .ref (am88 0)]) (by simp only [ea_0, eq_q87]) ?_
  clear hw8 hk8 hs8 hP hD hS e9 e8 e7 hTX
  refine va_putF (D := rD g) (ci := 13) (v := .ref (am88 (qn S85))) (ty := (.array .int)) (C := RX14) (T := TX14) (N := 143) hx hb hts in2X14 tyX14 tyX14_ok nmX14 hown hR.K hR.P hR.D hR.sS 0 (hR.at14 hR.w.1) rfl 32 (by decide) (hts _ kx_269) (fun _ h9 => h9) rfl hin9 rfl (by decide +kernel) rfl rfl (Nat.le_of_ble_eq_true rfl) dX14_init_138 (fun H locs hP hD hS => ?_)
  have hw9 : wfMZ (wR S89 0 32 (some (qn S85))) := hR.w.put (fun b q9 => by cases q9; exact (hT_b90).trans (by rw [hR.w.1]; rfl)) (fun _ _ h9 => absurd h9 List.not_mem_nil) (by rw [hR.w.1]; decide)
  have hR : RepZ g am88 A s (wR S89 0 32 (some (qn S85))) H locs := hR.pR hR.w.1 F14_s32 hw9 hP hD hS
  obtain ⟨S91, eS91⟩ : ∃ z, z = wR S89 0 32 (some (qn S85)) := ⟨_, rfl⟩
  rw [← eS91] at hR
  replace h := h S91 eS91
  have hsh : shx S S91 := by rw [eS91]; exact hsh
  have hlg : lg S S91 (0 + 1 + 1 + 1 + 1 + 1 + 1 + 1 + 1 + 1 + 1 + 1 + 1 + 1 + 1 + 1) (0 + 12 + 16000 + 6 + 502 + 502 + 502 + 502 + 502 + 48 + 3000 + 3000 + 24 + 24 + 24 + 24) := by rw [eS91]; exact hlg
  refine lv_aload_n hx hb dX14_init_141 rfl (lv_at hl 0 rfl) ?_
  refine lv_bipush (v := 24) hx hb dX14_init_142 (by decide) ?_
  obtain ⟨hv92, h⟩ := h
  have e9 : KC = 300000 := rfl
  have e8 : KS = 3720000 := rfl
  have e7 : TXB = 10000000 := rfl
  have hTX : qn S91 < TXB := by have := hv92.1; omega
  refine va_newa (atype := .int) (ty := .int) (a0 := (24, .inl (fun _ => 0))) (N' := 24) hx hb (hts (.arrayClass .int) kx_346) rfl hR.K hR.P hR.D hR.sS hA (fun _ => rfl) (by decide) (by decide) (by show 24 * 4 ≤ 536870912; have := hv92.2; omega) (show 0 + 1 + 1 + 1 + 1 + 1 + 1 + 1 + 1 + 1 + 1 + 1 + 1 + 1 + 1 + 1 + 1 ≤ KC - qn S from hlg.c1 hv92.1) (show 0 + 12 + 16000 + 6 + 502 + 502 + 502 + 502 + 502 + 48 + 3000 + 3000 + 24 + 24 + 24 + 24 + 24 ≤ KS - qu S from hlg.s1 hv92.2) dX14_init_144 (fun q93 cA9 H hK9 hP hD hS => ?_)
  obtain rfl := cls_new2 hR.K hK9 (k := 1) rfl (fun _ h => by cases h)
  have hw8 := hR.w
  have hR := hR.new (t := 2) (n := 24) (k := 24) hTX (by decide) (fun q9 => absurd q9 (by decide)) wN_cI hP hD hS
  have hk8 : adk am88 (adx am88 (qn S91) q93) S91 := adk.rf.new (Nat.le_refl _) hTX
  have hak := hak.new (q := q93) hlg.2.2.1 hTX
  have hE := hE.ad hk8
  have hlg : lg S (wN S91 2 24 24) (0 + 1 + 1 + 1 + 1 + 1 + 1 + 1 + 1 + 1 + 1 + 1 + 1 + 1 + 1 + 1 + 1) (0 + 12 + 16000 + 6 + 502 + 502 + 502 + 502 + 502 + 48 + 3000 + 3000 + 24 + 24 + 24 + 24 + 24) := hlg.new (t := 2) (n := 24) ⟨hv92.1, hv92.2⟩
  have hs8 : shx S91 (wN S91 2 24 24) := shx.newZ (t := 2) (n := 24) (k := 24) shx.rf hw8 hTX
  obtain ⟨am94, eam94⟩ : ∃ z, z = adx am88 (qn S91) q93 := ⟨_, rfl⟩
  have eq_q93 : am94 (qn S91) = q93 := by rw [eam94]; exact if_pos rfl
  rw [← eam94] at hR hk8 hak hE
  obtain ⟨S95, eS95⟩ : ∃ z, z = wN S91 2 24 24 := ⟨_, rfl⟩
  rw [← eS95] at hR hlg hs8
  replace h := h S95 eS95
  have hsh := hsh.tr hs8
  have hT_b96 : qT S95 (qn S91) = 2 := by rw [eS95]; exact if_pos rfl
  have ea_0 : am94 0 = am88 0 := hk8 _ (hw8.hd hw8.1 (by decide) (by decide))
  have hl : lv_has ls 1 [(0, .ref (am94 0))] := by simp only [ea_0]; exact hl
  refine W.eq (g2 := F0 m 146 ls [.ref (am94 (qn S91)), .ref (am94 0)]) (by simp only [ea_0, eq_q93]) ?_
  clear hw8 hk8 hs8 hP hD hS e9 e8 e7 hTX
  refine va_putF (D := rD g) (ci := 13) (v := .ref (am94 (qn S91))) (ty := (.array .int)) (C := RX14) (T := TX14) (N := 143) hx hb hts in2X14 tyX14 tyX14_ok nmX14 hown hR.K hR.P hR.D hR.sS 0 (hR.at14 hR.w.1) rfl 33 (by decide) (hts _ kx_271) (fun _ h9 => h9) rfl hin9 rfl (by decide +kernel) rfl rfl (Nat.le_of_ble_eq_true rfl) dX14_init_146 (fun H locs hP hD hS => ?_)
  have hw9 : wfMZ (wR S95 0 33 (some (qn S91))) := hR.w.put (fun b q9 => by cases q9; exact (hT_b96).trans (by rw [hR.w.1]; rfl)) (fun _ _ h9 => absurd h9 List.not_mem_nil) (by rw [hR.w.1]; decide)
  have hR : RepZ g am94 A s (wR S95 0 33 (some (qn S91))) H locs := hR.pR hR.w.1 F14_s33 hw9 hP hD hS
  obtain ⟨S97, eS97⟩ : ∃ z, z = wR S95 0 33 (some (qn S91)) := ⟨_, rfl⟩
  rw [← eS97] at hR
  replace h := h S97 eS97
  have hsh : shx S S97 := by rw [eS97]; exact hsh
  have hlg : lg S S97 (0 + 1 + 1 + 1 + 1 + 1 + 1 + 1 + 1 + 1 + 1 + 1 + 1 + 1 + 1 + 1 + 1) (0 + 12 + 16000 + 6 + 502 + 502 + 502 + 502 + 502 + 48 + 3000 + 3000 + 24 + 24 + 24 + 24 + 24) := by rw [eS97]; exact hlg
  refine lv_aload_n hx hb dX14_init_149 rfl (lv_at hl 0 rfl) ?_
  refine lv_bipush (v := 24) hx hb dX14_init_150 (by decide) ?_
  obtain ⟨hv98, h⟩ := h
  have e9 : KC = 300000 := rfl
  have e8 : KS = 3720000 := rfl
  have e7 : TXB = 10000000 := rfl
  have hTX : qn S97 < TXB := by have := hv98.1; omega
  refine va_newa (atype := .int) (ty := .int) (a0 := (24, .inl (fun _ => 0))) (N' := 24) hx hb (hts (.arrayClass .int) kx_346) rfl hR.K hR.P hR.D hR.sS hA (fun _ => rfl) (by decide) (by decide) (by show 24 * 4 ≤ 536870912; have := hv98.2; omega) (show 0 + 1 + 1 + 1 + 1 + 1 + 1 + 1 + 1 + 1 + 1 + 1 + 1 + 1 + 1 + 1 + 1 + 1 ≤ KC - qn S from hlg.c1 hv98.1) (show 0 + 12 + 16000 + 6 + 502 + 502 + 502 + 502 + 502 + 48 + 3000 + 3000 + 24 + 24 + 24 + 24 + 24 + 24 ≤ KS - qu S from hlg.s1 hv98.2) dX14_init_152 (fun q99 cA9 H hK9 hP hD hS => ?_)
  obtain rfl := cls_new2 hR.K hK9 (k := 1) rfl (fun _ h => by cases h)
  have hw8 := hR.w
  have hR := hR.new (t := 2) (n := 24) (k := 24) hTX (by decide) (fun q9 => absurd q9 (by decide)) wN_cI hP hD hS
  have hk8 : adk am94 (adx am94 (qn S97) q99) S97 := adk.rf.new (Nat.le_refl _) hTX
  have hak := hak.new (q := q99) hlg.2.2.1 hTX
  have hE := hE.ad hk8
  have hlg : lg S (wN S97 2 24 24) (0 + 1 + 1 + 1 + 1 + 1 + 1 + 1 + 1 + 1 + 1 + 1 + 1 + 1 + 1 + 1 + 1 + 1) (0 + 12 + 16000 + 6 + 502 + 502 + 502 + 502 + 502 + 48 + 3000 + 3000 + 24 + 24 + 24 + 24 + 24 + 24) := hlg.new (t := 2) (n := 24) ⟨hv98.1, hv98.2⟩
  have hs8 : shx S97 (wN S97 2 24 24) := shx.newZ (t := 2) (n := 24) (k := 24) shx.rf hw8 hTX
  obtain ⟨am100, eam100⟩ : ∃ z, z = adx am94 (qn S97) q99 := ⟨_, rfl⟩
  have eq_q99 : am100 (qn S97) = q99 := by rw [eam100]; exact if_pos rfl
  rw [← eam100] at hR hk8 hak hE
  obtain ⟨S101, eS101⟩ : ∃ z, z = wN S97 2 24 24 := ⟨_, rfl⟩
  rw [← eS101] at hR hlg hs8
  replace h := h S101 eS101
  have hsh := hsh.tr hs8
  have hT_b102 : qT S101 (qn S97) = 2 := by rw [eS101]; exact if_pos rfl
  have ea_0 : am100 0 = am94 0 := hk8 _ (hw8.hd hw8.1 (by decide) (by decide))
  have hl : lv_has ls 1 [(0, .ref (am100 0))] := by simp only [ea_0]; exact hl
  refine W.eq (g2 := F0 m 154 ls [.ref (am100 (qn S97)), .ref (am100 0)]) (by simp only [ea_0, eq_q99]) ?_
  clear hw8 hk8 hs8 hP hD hS e9 e8 e7 hTX
  refine va_putF (D := rD g) (ci := 13) (v := .ref (am100 (qn S97))) (ty := (.array .int)) (C := RX14) (T := TX14) (N := 143) hx hb hts in2X14 tyX14 tyX14_ok nmX14 hown hR.K hR.P hR.D hR.sS 0 (hR.at14 hR.w.1) rfl 34 (by decide) (hts _ kx_270) (fun _ h9 => h9) rfl hin9 rfl (by decide +kernel) rfl rfl (Nat.le_of_ble_eq_true rfl) dX14_init_154 (fun H locs hP hD hS => ?_)
  have hw9 : wfMZ (wR S101 0 34 (some (qn S97))) := hR.w.put (fun b q9 => by cases q9; exact (hT_b102).trans (by rw [hR.w.1]; rfl)) (fun _ _ h9 => absurd h9 List.not_mem_nil) (by rw [hR.w.1]; decide)
  have hR : RepZ g am100 A s (wR S101 0 34 (some (qn S97))) H locs := hR.pR hR.w.1 F14_s34 hw9 hP hD hS
  obtain ⟨S103, eS103⟩ : ∃ z, z = wR S101 0 34 (some (qn S97)) := ⟨_, rfl⟩
  rw [← eS103] at hR
  replace h := h S103 eS103
  have hsh : shx S S103 := by rw [eS103]; exact hsh
  have hlg : lg S S103 (0 + 1 + 1 + 1 + 1 + 1 + 1 + 1 + 1 + 1 + 1 + 1 + 1 + 1 + 1 + 1 + 1 + 1) (0 + 12 + 16000 + 6 + 502 + 502 + 502 + 502 + 502 + 48 + 3000 + 3000 + 24 + 24 + 24 + 24 + 24 + 24) := by rw [eS103]; exact hlg
  refine lv_aload_n hx hb dX14_init_157 rfl (lv_at hl 0 rfl) ?_
  refine lv_sipush (v := 1201) hx hb dX14_init_158 (by decide) ?_
  obtain ⟨hv104, h⟩ := h
  have e9 : KC = 300000 := rfl
  have e8 : KS = 3720000 := rfl
  have e7 : TXB = 10000000 := rfl
  have hTX : qn S103 < TXB := by have := hv104.1; omega
  refine va_newa (atype := .int) (ty := .int) (a0 := (1201, .inl (fun _ => 0))) (N' := 1201) hx hb (hts (.arrayClass .int) kx_346) rfl hR.K hR.P hR.D hR.sS hA (fun _ => rfl) (by decide) (by decide) (by show 1201 * 4 ≤ 536870912; have := hv104.2; omega) (show 0 + 1 + 1 + 1 + 1 + 1 + 1 + 1 + 1 + 1 + 1 + 1 + 1 + 1 + 1 + 1 + 1 + 1 + 1 ≤ KC - qn S from hlg.c1 hv104.1) (show 0 + 12 + 16000 + 6 + 502 + 502 + 502 + 502 + 502 + 48 + 3000 + 3000 + 24 + 24 + 24 + 24 + 24 + 24 + 1201 ≤ KS - qu S from hlg.s1 hv104.2) dX14_init_161 (fun q105 cA9 H hK9 hP hD hS => ?_)
  obtain rfl := cls_new2 hR.K hK9 (k := 1) rfl (fun _ h => by cases h)
  have hw8 := hR.w
  have hR := hR.new (t := 2) (n := 1201) (k := 1201) hTX (by decide) (fun q9 => absurd q9 (by decide)) wN_cI hP hD hS
  have hk8 : adk am100 (adx am100 (qn S103) q105) S103 := adk.rf.new (Nat.le_refl _) hTX
  have hak := hak.new (q := q105) hlg.2.2.1 hTX
  have hE := hE.ad hk8
  have hlg : lg S (wN S103 2 1201 1201) (0 + 1 + 1 + 1 + 1 + 1 + 1 + 1 + 1 + 1 + 1 + 1 + 1 + 1 + 1 + 1 + 1 + 1 + 1) (0 + 12 + 16000 + 6 + 502 + 502 + 502 + 502 + 502 + 48 + 3000 + 3000 + 24 + 24 + 24 + 24 + 24 + 24 + 1201) := hlg.new (t := 2) (n := 1201) ⟨hv104.1, hv104.2⟩
  have hs8 : shx S103 (wN S103 2 1201 1201) := shx.newZ (t := 2) (n := 1201) (k := 1201) shx.rf hw8 hTX
  obtain ⟨am106, eam106⟩ : ∃ z, z = adx am100 (qn S103) q105 := ⟨_, rfl⟩
  have eq_q105 : am106 (qn S103) = q105 := by rw [eam106]; exact if_pos rfl
  rw [← eam106] at hR hk8 hak hE
  obtain ⟨S107, eS107⟩ : ∃ z, z = wN S103 2 1201 1201 := ⟨_, rfl⟩
  rw [← eS107] at hR hlg hs8
  replace h := h S107 eS107
  have hsh := hsh.tr hs8
  have hT_b108 : qT S107 (qn S103) = 2 := by rw [eS107]; exact if_pos rfl
  have ea_0 : am106 0 = am100 0 := hk8 _ (hw8.hd hw8.1 (by decide) (by decide))
  have hl : lv_has ls 1 [(0, .ref (am106 0))] := by simp only [ea_0]; exact hl
  refine W.eq (g2 := F0 m 163 ls [.ref (am106 (qn S103)), .ref (am106 0)]) (by simp only [ea_0, eq_q105]) ?_
  clear hw8 hk8 hs8 hP hD hS e9 e8 e7 hTX
  refine va_putF (D := rD g) (ci := 13) (v := .ref (am106 (qn S103))) (ty := (.array .int)) (C := RX14) (T := TX14) (N := 143) hx hb hts in2X14 tyX14 tyX14_ok nmX14 hown hR.K hR.P hR.D hR.sS 0 (hR.at14 hR.w.1) rfl 38 (by decide) (hts _ kx_295) (fun _ h9 => h9) rfl hin9 rfl (by decide +kernel) rfl rfl (Nat.le_of_ble_eq_true rfl) dX14_init_163 (fun H locs hP hD hS => ?_)
  have hw9 : wfMZ (wR S107 0 38 (some (qn S103))) := hR.w.put (fun b q9 => by cases q9; exact (hT_b108).trans (by rw [hR.w.1]; rfl)) (fun _ _ h9 => absurd h9 List.not_mem_nil) (by rw [hR.w.1]; decide)
  have hR : RepZ g am106 A s (wR S107 0 38 (some (qn S103))) H locs := hR.pR hR.w.1 F14_s38 hw9 hP hD hS
  obtain ⟨S109, eS109⟩ : ∃ z, z = wR S107 0 38 (some (qn S103)) := ⟨_, rfl⟩
  rw [← eS109] at hR
  replace h := h S109 eS109
  have hsh : shx S S109 := by rw [eS109]; exact hsh
  have hlg : lg S S109 (0 + 1 + 1 + 1 + 1 + 1 + 1 + 1 + 1 + 1 + 1 + 1 + 1 + 1 + 1 + 1 + 1 + 1 + 1) (0 + 12 + 16000 + 6 + 502 + 502 + 502 + 502 + 502 + 48 + 3000 + 3000 + 24 + 24 + 24 + 24 + 24 + 24 + 1201) := by rw [eS109]; exact hlg
  refine lv_aload_n hx hb dX14_init_166 rfl (lv_at hl 0 rfl) ?_
  refine lv_ldc hx hb hown (hts _ kx_1220) dX14_init_167 ?_
  obtain ⟨hv110, h⟩ := h
  have e9 : KC = 300000 := rfl
  have e8 : KS = 3720000 := rfl
  have e7 : TXB = 10000000 := rfl
  have hTX : qn S109 < TXB := by have := hv110.1; omega
  refine va_newa (atype := .int) (ty := .int) (a0 := (86400, .inl (fun _ => 0))) (N' := 86400) hx hb (hts (.arrayClass .int) kx_346) rfl hR.K hR.P hR.D hR.sS hA (fun _ => rfl) (by decide) (by decide) (by show 86400 * 4 ≤ 536870912; have := hv110.2; omega) (show 0 + 1 + 1 + 1 + 1 + 1 + 1 + 1 + 1 + 1 + 1 + 1 + 1 + 1 + 1 + 1 + 1 + 1 + 1 + 1 ≤ KC - qn S from hlg.c1 hv110.1) (show 0 + 12 + 16000 + 6 + 502 + 502 + 502 + 502 + 502 + 48 + 3000 + 3000 + 24 + 24 + 24 + 24 + 24 + 24 + 1201 + 86400 ≤ KS - qu S from hlg.s1 hv110.2) dX14_init_169 (fun q111 cA9 H hK9 hP hD hS => ?_)
  obtain rfl := cls_new2 hR.K hK9 (k := 1) rfl (fun _ h => by cases h)
  have hw8 := hR.w
  have hR := hR.new (t := 2) (n := 86400) (k := 86400) hTX (by decide) (fun q9 => absurd q9 (by decide)) wN_cI hP hD hS
  have hk8 : adk am106 (adx am106 (qn S109) q111) S109 := adk.rf.new (Nat.le_refl _) hTX
  have hak := hak.new (q := q111) hlg.2.2.1 hTX
  have hE := hE.ad hk8
  have hlg : lg S (wN S109 2 86400 86400) (0 + 1 + 1 + 1 + 1 + 1 + 1 + 1 + 1 + 1 + 1 + 1 + 1 + 1 + 1 + 1 + 1 + 1 + 1 + 1) (0 + 12 + 16000 + 6 + 502 + 502 + 502 + 502 + 502 + 48 + 3000 + 3000 + 24 + 24 + 24 + 24 + 24 + 24 + 1201 + 86400) := hlg.new (t := 2) (n := 86400) ⟨hv110.1, hv110.2⟩
  have hs8 : shx S109 (wN S109 2 86400 86400) := shx.newZ (t := 2) (n := 86400) (k := 86400) shx.rf hw8 hTX
  obtain ⟨am112, eam112⟩ : ∃ z, z = adx am106 (qn S109) q111 := ⟨_, rfl⟩
  have eq_q111 : am112 (qn S109) = q111 := by rw [eam112]; exact if_pos rfl
  rw [← eam112] at hR hk8 hak hE
  obtain ⟨S113, eS113⟩ : ∃ z, z = wN S109 2 86400 86400 := ⟨_, rfl⟩
  rw [← eS113] at hR hlg hs8
  replace h := h S113 eS113
  have hsh := hsh.tr hs8
  have hT_b114 : qT S113 (qn S109) = 2 := by rw [eS113]; exact if_pos rfl
  have ea_0 : am112 0 = am106 0 := hk8 _ (hw8.hd hw8.1 (by decide) (by decide))
  have hl : lv_has ls 1 [(0, .ref (am112 0))] := by simp only [ea_0]; exact hl
  refine W.eq (g2 := F0 m 171 ls [.ref (am112 (qn S109)), .ref (am112 0)]) (by simp only [ea_0, eq_q111]) ?_
  clear hw8 hk8 hs8 hP hD hS e9 e8 e7 hTX
  refine va_putF (D := rD g) (ci := 13) (v := .ref (am112 (qn S109))) (ty := (.array .int)) (C := RX14) (T := TX14) (N := 143) hx hb hts in2X14 tyX14 tyX14_ok nmX14 hown hR.K hR.P hR.D hR.sS 0 (hR.at14 hR.w.1) rfl 40 (by decide) (hts _ kx_296) (fun _ h9 => h9) rfl hin9 rfl (by decide +kernel) rfl rfl (Nat.le_of_ble_eq_true rfl) dX14_init_171 (fun H locs hP hD hS => ?_)
  have hw9 : wfMZ (wR S113 0 40 (some (qn S109))) := hR.w.put (fun b q9 => by cases q9; exact (hT_b114).trans (by rw [hR.w.1]; rfl)) (fun _ _ h9 => absurd h9 List.not_mem_nil) (by rw [hR.w.1]; decide)
  have hR : RepZ g am112 A s (wR S113 0 40 (some (qn S109))) H locs := hR.pR hR.w.1 F14_s40 hw9 hP hD hS
  obtain ⟨S115, eS115⟩ : ∃ z, z = wR S113 0 40 (some (qn S109)) := ⟨_, rfl⟩
  rw [← eS115] at hR
  replace h := h S115 eS115
  have hsh : shx S S115 := by rw [eS115]; exact hsh
  have hlg : lg S S115 (0 + 1 + 1 + 1 + 1 + 1 + 1 + 1 + 1 + 1 + 1 + 1 + 1 + 1 + 1 + 1 + 1 + 1 + 1 + 1) (0 + 12 + 16000 + 6 + 502 + 502 + 502 + 502 + 502 + 48 + 3000 + 3000 + 24 + 24 + 24 + 24 + 24 + 24 + 1201 + 86400) := by rw [eS115]; exact hlg
  refine lv_aload_n hx hb dX14_init_174 rfl (lv_at hl 0 rfl) ?_
  refine lv_ldc hx hb hown (hts _ kx_1221) dX14_init_175 ?_
  obtain ⟨hv116, h⟩ := h
  have e9 : KC = 300000 := rfl
  have e8 : KS = 3720000 := rfl
  have e7 : TXB = 10000000 := rfl
  have hTX : qn S115 < TXB := by have := hv116.1; omega
  refine va_newa (atype := .int) (ty := .int) (a0 := (40000, .inl (fun _ => 0))) (N' := 40000) hx hb (hts (.arrayClass .int) kx_346) rfl hR.K hR.P hR.D hR.sS hA (fun _ => rfl) (by decide) (by decide) (by show 40000 * 4 ≤ 536870912; have := hv116.2; omega) (show 0 + 1 + 1 + 1 + 1 + 1 + 1 + 1 + 1 + 1 + 1 + 1 + 1 + 1 + 1 + 1 + 1 + 1 + 1 + 1 + 1 ≤ KC - qn S from hlg.c1 hv116.1) (show 0 + 12 + 16000 + 6 + 502 + 502 + 502 + 502 + 502 + 48 + 3000 + 3000 + 24 + 24 + 24 + 24 + 24 + 24 + 1201 + 86400 + 40000 ≤ KS - qu S from hlg.s1 hv116.2) dX14_init_177 (fun q117 cA9 H hK9 hP hD hS => ?_)
  obtain rfl := cls_new2 hR.K hK9 (k := 1) rfl (fun _ h => by cases h)
  have hw8 := hR.w
  have hR := hR.new (t := 2) (n := 40000) (k := 40000) hTX (by decide) (fun q9 => absurd q9 (by decide)) wN_cI hP hD hS
  have hk8 : adk am112 (adx am112 (qn S115) q117) S115 := adk.rf.new (Nat.le_refl _) hTX
  have hak := hak.new (q := q117) hlg.2.2.1 hTX
  have hE := hE.ad hk8
  have hlg : lg S (wN S115 2 40000 40000) (0 + 1 + 1 + 1 + 1 + 1 + 1 + 1 + 1 + 1 + 1 + 1 + 1 + 1 + 1 + 1 + 1 + 1 + 1 + 1 + 1) (0 + 12 + 16000 + 6 + 502 + 502 + 502 + 502 + 502 + 48 + 3000 + 3000 + 24 + 24 + 24 + 24 + 24 + 24 + 1201 + 86400 + 40000) := hlg.new (t := 2) (n := 40000) ⟨hv116.1, hv116.2⟩
  have hs8 : shx S115 (wN S115 2 40000 40000) := shx.newZ (t := 2) (n := 40000) (k := 40000) shx.rf hw8 hTX
  obtain ⟨am118, eam118⟩ : ∃ z, z = adx am112 (qn S115) q117 := ⟨_, rfl⟩
  have eq_q117 : am118 (qn S115) = q117 := by rw [eam118]; exact if_pos rfl
  rw [← eam118] at hR hk8 hak hE
  obtain ⟨S119, eS119⟩ : ∃ z, z = wN S115 2 40000 40000 := ⟨_, rfl⟩
  rw [← eS119] at hR hlg hs8
  replace h := h S119 eS119
  have hsh := hsh.tr hs8
  have hT_b120 : qT S119 (qn S115) = 2 := by rw [eS119]; exact if_pos rfl
  have ea_0 : am118 0 = am112 0 := hk8 _ (hw8.hd hw8.1 (by decide) (by decide))
  have hl : lv_has ls 1 [(0, .ref (am118 0))] := by simp only [ea_0]; exact hl
  refine W.eq (g2 := F0 m 179 ls [.ref (am118 (qn S115)), .ref (am118 0)]) (by simp only [ea_0, eq_q117]) ?_
  clear hw8 hk8 hs8 hP hD hS e9 e8 e7 hTX
  refine va_putF (D := rD g) (ci := 13) (v := .ref (am118 (qn S115))) (ty := (.array .int)) (C := RX14) (T := TX14) (N := 143) hx hb hts in2X14 tyX14 tyX14_ok nmX14 hown hR.K hR.P hR.D hR.sS 0 (hR.at14 hR.w.1) rfl 42 (by decide) (hts _ kx_326) (fun _ h9 => h9) rfl hin9 rfl (by decide +kernel) rfl rfl (Nat.le_of_ble_eq_true rfl) dX14_init_179 (fun H locs hP hD hS => ?_)
  have hw9 : wfMZ (wR S119 0 42 (some (qn S115))) := hR.w.put (fun b q9 => by cases q9; exact (hT_b120).trans (by rw [hR.w.1]; rfl)) (fun _ _ h9 => absurd h9 List.not_mem_nil) (by rw [hR.w.1]; decide)
  have hR : RepZ g am118 A s (wR S119 0 42 (some (qn S115))) H locs := hR.pR hR.w.1 F14_s42 hw9 hP hD hS
  obtain ⟨S121, eS121⟩ : ∃ z, z = wR S119 0 42 (some (qn S115)) := ⟨_, rfl⟩
  rw [← eS121] at hR
  replace h := h S121 eS121
  have hsh : shx S S121 := by rw [eS121]; exact hsh
  have hlg : lg S S121 (0 + 1 + 1 + 1 + 1 + 1 + 1 + 1 + 1 + 1 + 1 + 1 + 1 + 1 + 1 + 1 + 1 + 1 + 1 + 1 + 1) (0 + 12 + 16000 + 6 + 502 + 502 + 502 + 502 + 502 + 48 + 3000 + 3000 + 24 + 24 + 24 + 24 + 24 + 24 + 1201 + 86400 + 40000) := by rw [eS121]; exact hlg
  refine lv_aload_n hx hb dX14_init_182 rfl (lv_at hl 0 rfl) ?_
  refine lv_sipush (v := 1536) hx hb dX14_init_183 (by decide) ?_
  obtain ⟨hv122, h⟩ := h
  have e9 : KC = 300000 := rfl
  have e8 : KS = 3720000 := rfl
  have e7 : TXB = 10000000 := rfl
  have hTX : qn S121 < TXB := by have := hv122.1; omega
  refine va_newa (atype := .int) (ty := .int) (a0 := (1536, .inl (fun _ => 0))) (N' := 1536) hx hb (hts (.arrayClass .int) kx_346) rfl hR.K hR.P hR.D hR.sS hA (fun _ => rfl) (by decide) (by decide) (by show 1536 * 4 ≤ 536870912; have := hv122.2; omega) (show 0 + 1 + 1 + 1 + 1 + 1 + 1 + 1 + 1 + 1 + 1 + 1 + 1 + 1 + 1 + 1 + 1 + 1 + 1 + 1 + 1 + 1 ≤ KC - qn S from hlg.c1 hv122.1) (show 0 + 12 + 16000 + 6 + 502 + 502 + 502 + 502 + 502 + 48 + 3000 + 3000 + 24 + 24 + 24 + 24 + 24 + 24 + 1201 + 86400 + 40000 + 1536 ≤ KS - qu S from hlg.s1 hv122.2) dX14_init_186 (fun q123 cA9 H hK9 hP hD hS => ?_)
  obtain rfl := cls_new2 hR.K hK9 (k := 1) rfl (fun _ h => by cases h)
  have hw8 := hR.w
  have hR := hR.new (t := 2) (n := 1536) (k := 1536) hTX (by decide) (fun q9 => absurd q9 (by decide)) wN_cI hP hD hS
  have hk8 : adk am118 (adx am118 (qn S121) q123) S121 := adk.rf.new (Nat.le_refl _) hTX
  have hak := hak.new (q := q123) hlg.2.2.1 hTX
  have hE := hE.ad hk8
  have hlg : lg S (wN S121 2 1536 1536) (0 + 1 + 1 + 1 + 1 + 1 + 1 + 1 + 1 + 1 + 1 + 1 + 1 + 1 + 1 + 1 + 1 + 1 + 1 + 1 + 1 + 1) (0 + 12 + 16000 + 6 + 502 + 502 + 502 + 502 + 502 + 48 + 3000 + 3000 + 24 + 24 + 24 + 24 + 24 + 24 + 1201 + 86400 + 40000 + 1536) := hlg.new (t := 2) (n := 1536) ⟨hv122.1, hv122.2⟩
  have hs8 : shx S121 (wN S121 2 1536 1536) := shx.newZ (t := 2) (n := 1536) (k := 1536) shx.rf hw8 hTX
  obtain ⟨am124, eam124⟩ : ∃ z, z = adx am118 (qn S121) q123 := ⟨_, rfl⟩
  have eq_q123 : am124 (qn S121) = q123 := by rw [eam124]; exact if_pos rfl
  rw [← eam124] at hR hk8 hak hE
  obtain ⟨S125, eS125⟩ : ∃ z, z = wN S121 2 1536 1536 := ⟨_, rfl⟩
  rw [← eS125] at hR hlg hs8
  replace h := h S125 eS125
  have hsh := hsh.tr hs8
  have hT_b126 : qT S125 (qn S121) = 2 := by rw [eS125]; exact if_pos rfl
  have ea_0 : am124 0 = am118 0 := hk8 _ (hw8.hd hw8.1 (by decide) (by decide))
  have hl : lv_has ls 1 [(0, .ref (am124 0))] := by simp only [ea_0]; exact hl
  refine W.eq (g2 := F0 m 188 ls [.ref (am124 (qn S121)), .ref (am124 0)]) (by simp only [ea_0, eq_q123]) ?_
  clear hw8 hk8 hs8 hP hD hS e9 e8 e7 hTX
  refine va_putF (D := rD g) (ci := 13) (v := .ref (am124 (qn S121))) (ty := (.array .int)) (C := RX14) (T := TX14) (N := 143) hx hb hts in2X14 tyX14 tyX14_ok nmX14 hown hR.K hR.P hR.D hR.sS 0 (hR.at14 hR.w.1) rfl 44 (by decide) (hts _ kx_331) (fun _ h9 => h9) rfl hin9 rfl (by decide +kernel) rfl rfl (Nat.le_of_ble_eq_true rfl) dX14_init_188 (fun H locs hP hD hS => ?_)
  have hw9 : wfMZ (wR S125 0 44 (some (qn S121))) := hR.w.put (fun b q9 => by cases q9; exact (hT_b126).trans (by rw [hR.w.1]; rfl)) (fun _ _ h9 => absurd h9 List.not_mem_nil) (by rw [hR.w.1]; decide)
  have hR : RepZ g am124 A s (wR S125 0 44 (some (qn S121))) H locs := hR.pR hR.w.1 F14_s44 hw9 hP hD hS
  obtain ⟨S127, eS127⟩ : ∃ z, z = wR S125 0 44 (some (qn S121)) := ⟨_, rfl⟩
  rw [← eS127] at hR
  replace h := h S127 eS127
  have hsh : shx S S127 := by rw [eS127]; exact hsh
  have hlg : lg S S127 (0 + 1 + 1 + 1 + 1 + 1 + 1 + 1 + 1 + 1 + 1 + 1 + 1 + 1 + 1 + 1 + 1 + 1 + 1 + 1 + 1 + 1) (0 + 12 + 16000 + 6 + 502 + 502 + 502 + 502 + 502 + 48 + 3000 + 3000 + 24 + 24 + 24 + 24 + 24 + 24 + 1201 + 86400 + 40000 + 1536) := by rw [eS127]; exact hlg
  refine lv_aload_n hx hb dX14_init_191 rfl (lv_at hl 0 rfl) ?_
  refine lv_sipush (v := 9600) hx hb dX14_init_192 (by decide) ?_
  obtain ⟨hv128, h⟩ := h
  have e9 : KC = 300000 := rfl
  have e8 : KS = 3720000 := rfl
  have e7 : TXB = 10000000 := rfl
  have hTX : qn S127 < TXB := by have := hv128.1; omega
  refine va_newa (atype := .int) (ty := .int) (a0 := (9600, .inl (fun _ => 0))) (N' := 9600) hx hb (hts (.arrayClass .int) kx_346) rfl hR.K hR.P hR.D hR.sS hA (fun _ => rfl) (by decide) (by decide) (by show 9600 * 4 ≤ 536870912; have := hv128.2; omega) (show 0 + 1 + 1 + 1 + 1 + 1 + 1 + 1 + 1 + 1 + 1 + 1 + 1 + 1 + 1 + 1 + 1 + 1 + 1 + 1 + 1 + 1 + 1 ≤ KC - qn S from hlg.c1 hv128.1) (show 0 + 12 + 16000 + 6 + 502 + 502 + 502 + 502 + 502 + 48 + 3000 + 3000 + 24 + 24 + 24 + 24 + 24 + 24 + 1201 + 86400 + 40000 + 1536 + 9600 ≤ KS - qu S from hlg.s1 hv128.2) dX14_init_195 (fun q129 cA9 H hK9 hP hD hS => ?_)
  obtain rfl := cls_new2 hR.K hK9 (k := 1) rfl (fun _ h => by cases h)
  have hw8 := hR.w
  have hR := hR.new (t := 2) (n := 9600) (k := 9600) hTX (by decide) (fun q9 => absurd q9 (by decide)) wN_cI hP hD hS
  have hk8 : adk am124 (adx am124 (qn S127) q129) S127 := adk.rf.new (Nat.le_refl _) hTX
  have hak := hak.new (q := q129) hlg.2.2.1 hTX
  have hE := hE.ad hk8
  have hlg : lg S (wN S127 2 9600 9600) (0 + 1 + 1 + 1 + 1 + 1 + 1 + 1 + 1 + 1 + 1 + 1 + 1 + 1 + 1 + 1 + 1 + 1 + 1 + 1 + 1 + 1 + 1) (0 + 12 + 16000 + 6 + 502 + 502 + 502 + 502 + 502 + 48 + 3000 + 3000 + 24 + 24 + 24 + 24 + 24 + 24 + 1201 + 86400 + 40000 + 1536 + 9600) := hlg.new (t := 2) (n := 9600) ⟨hv128.1, hv128.2⟩
  have hs8 : shx S127 (wN S127 2 9600 9600) := shx.newZ (t := 2) (n := 9600) (k := 9600) shx.rf hw8 hTX
  obtain ⟨am130, eam130⟩ : ∃ z, z = adx am124 (qn S127) q129 := ⟨_, rfl⟩
  have eq_q129 : am130 (qn S127) = q129 := by rw [eam130]; exact if_pos rfl
  rw [← eam130] at hR hk8 hak hE
  obtain ⟨S131, eS131⟩ : ∃ z, z = wN S127 2 9600 9600 := ⟨_, rfl⟩
  rw [← eS131] at hR hlg hs8
  replace h := h S131 eS131
  have hsh := hsh.tr hs8
  have hT_b132 : qT S131 (qn S127) = 2 := by rw [eS131]; exact if_pos rfl
  have ea_0 : am130 0 = am124 0 := hk8 _ (hw8.hd hw8.1 (by decide) (by decide))
  have hl : lv_has ls 1 [(0, .ref (am130 0))] := by simp only [ea_0]; exact hl
  refine W.eq (g2 := F0 m 197 ls [.ref (am130 (qn S127)), .ref (am130 0)]) (by simp only [ea_0, eq_q129]) ?_
  clear hw8 hk8 hs8 hP hD hS e9 e8 e7 hTX
  refine va_putF (D := rD g) (ci := 13) (v := .ref (am130 (qn S127))) (ty := (.array .int)) (C := RX14) (T := TX14) (N := 143) hx hb hts in2X14 tyX14 tyX14_ok nmX14 hown hR.K hR.P hR.D hR.sS 0 (hR.at14 hR.w.1) rfl 55 (by decide) (hts _ kx_417) (fun _ h9 => h9) rfl hin9 rfl (by decide +kernel) rfl rfl (Nat.le_of_ble_eq_true rfl) dX14_init_197 (fun H locs hP hD hS => ?_)
  have hw9 : wfMZ (wR S131 0 55 (some (qn S127))) := hR.w.put (fun b q9 => by cases q9; exact (hT_b132).trans (by rw [hR.w.1]; rfl)) (fun _ _ h9 => absurd h9 List.not_mem_nil) (by rw [hR.w.1]; decide)
  have hR : RepZ g am130 A s (wR S131 0 55 (some (qn S127))) H locs := hR.pR hR.w.1 F14_s55 hw9 hP hD hS
  obtain ⟨S133, eS133⟩ : ∃ z, z = wR S131 0 55 (some (qn S127)) := ⟨_, rfl⟩
  rw [← eS133] at hR
  replace h := h S133 eS133
  have hsh : shx S S133 := by rw [eS133]; exact hsh
  have hlg : lg S S133 (0 + 1 + 1 + 1 + 1 + 1 + 1 + 1 + 1 + 1 + 1 + 1 + 1 + 1 + 1 + 1 + 1 + 1 + 1 + 1 + 1 + 1 + 1) (0 + 12 + 16000 + 6 + 502 + 502 + 502 + 502 + 502 + 48 + 3000 + 3000 + 24 + 24 + 24 + 24 + 24 + 24 + 1201 + 86400 + 40000 + 1536 + 9600) := by rw [eS133]; exact hlg
  refine lv_aload_n hx hb dX14_init_200 rfl (lv_at hl 0 rfl) ?_
  refine lv_ldc hx hb hown (hts _ kx_1222) dX14_init_201 ?_
  obtain ⟨hv134, h⟩ := h
  have e9 : KC = 300000 := rfl
  have e8 : KS = 3720000 := rfl
  have e7 : TXB = 10000000 := rfl
  have hTX : qn S133 < TXB := by have := hv134.1; omega
  refine va_newa (atype := .byte) (ty := .byte) (a0 := (57600, .inl (fun _ => 0))) (N' := 57600) hx hb (hts (.arrayClass .byte) kx_48) rfl hR.K hR.P hR.D hR.sS hA (fun _ => rfl) (by decide) (by decide) (by show 57600 * 1 ≤ 536870912; have := hv134.2; omega) (show 0 + 1 + 1 + 1 + 1 + 1 + 1 + 1 + 1 + 1 + 1 + 1 + 1 + 1 + 1 + 1 + 1 + 1 + 1 + 1 + 1 + 1 + 1 + 1 ≤ KC - qn S from hlg.c1 hv134.1) (show 0 + 12 + 16000 + 6 + 502 + 502 + 502 + 502 + 502 + 48 + 3000 + 3000 + 24 + 24 + 24 + 24 + 24 + 24 + 1201 + 86400 + 40000 + 1536 + 9600 + 57600 ≤ KS - qu S from hlg.s1 hv134.2) dX14_init_203 (fun q135 cA9 H hK9 hP hD hS => ?_)
  obtain rfl := cls_new2 hR.K hK9 (k := 0) rfl (fun _ h => by cases h)
  have hw8 := hR.w
  have hR := hR.new (t := 1) (n := 57600) (k := 57600) hTX (by decide) (fun q9 => absurd q9 (by decide)) wN_cB hP hD hS
  have hk8 : adk am130 (adx am130 (qn S133) q135) S133 := adk.rf.new (Nat.le_refl _) hTX
  have hak := hak.new (q := q135) hlg.2.2.1 hTX
  have hE := hE.ad hk8
  have hlg : lg S (wN S133 1 57600 57600) (0 + 1 + 1 + 1 + 1 + 1 + 1 + 1 + 1 + 1 + 1 + 1 + 1 + 1 + 1 + 1 + 1 + 1 + 1 + 1 + 1 + 1 + 1 + 1) (0 + 12 + 16000 + 6 + 502 + 502 + 502 + 502 + 502 + 48 + 3000 + 3000 + 24 + 24 + 24 + 24 + 24 + 24 + 1201 + 86400 + 40000 + 1536 + 9600 + 57600) := hlg.new (t := 1) (n := 57600) ⟨hv134.1, hv134.2⟩
  have hs8 : shx S133 (wN S133 1 57600 57600) := shx.newZ (t := 1) (n := 57600) (k := 57600) shx.rf hw8 hTX
  obtain ⟨am136, eam136⟩ : ∃ z, z = adx am130 (qn S133) q135 := ⟨_, rfl⟩
  have eq_q135 : am136 (qn S133) = q135 := by rw [eam136]; exact if_pos rfl
  rw [← eam136] at hR hk8 hak hE
  obtain ⟨S137, eS137⟩ : ∃ z, z = wN S133 1 57600 57600 := ⟨_, rfl⟩
  rw [← eS137] at hR hlg hs8
  replace h := h S137 eS137
  have hsh := hsh.tr hs8
  have hT_b138 : qT S137 (qn S133) = 1 := by rw [eS137]; exact if_pos rfl
  have ea_0 : am136 0 = am130 0 := hk8 _ (hw8.hd hw8.1 (by decide) (by decide))
  have hl : lv_has ls 1 [(0, .ref (am136 0))] := by simp only [ea_0]; exact hl
  refine W.eq (g2 := F0 m 205 ls [.ref (am136 (qn S133)), .ref (am136 0)]) (by simp only [ea_0, eq_q135]) ?_
  clear hw8 hk8 hs8 hP hD hS e9 e8 e7 hTX
  refine va_putF (D := rD g) (ci := 13) (v := .ref (am136 (qn S133))) (ty := (.array .byte)) (C := RX14) (T := TX14) (N := 143) hx hb hts in2X14 tyX14 tyX14_ok nmX14 hown hR.K hR.P hR.D hR.sS 0 (hR.at14 hR.w.1) rfl 58 (by decide) (hts _ kx_490) (fun _ h9 => h9) rfl hin9 rfl (by decide +kernel) rfl rfl (Nat.le_of_ble_eq_true rfl) dX14_init_205 (fun H locs hP hD hS => ?_)
  have hw9 : wfMZ (wR S137 0 58 (some (qn S133))) := hR.w.put (fun b q9 => by cases q9; exact (hT_b138).trans (by rw [hR.w.1]; rfl)) (fun _ _ h9 => absurd h9 List.not_mem_nil) (by rw [hR.w.1]; decide)
  have hR : RepZ g am136 A s (wR S137 0 58 (some (qn S133))) H locs := hR.pR hR.w.1 F14_s58 hw9 hP hD hS
  obtain ⟨S139, eS139⟩ : ∃ z, z = wR S137 0 58 (some (qn S133)) := ⟨_, rfl⟩
  rw [← eS139] at hR
  replace h := h S139 eS139
  have hsh : shx S S139 := by rw [eS139]; exact hsh
  have hlg : lg S S139 (0 + 1 + 1 + 1 + 1 + 1 + 1 + 1 + 1 + 1 + 1 + 1 + 1 + 1 + 1 + 1 + 1 + 1 + 1 + 1 + 1 + 1 + 1 + 1) (0 + 12 + 16000 + 6 + 502 + 502 + 502 + 502 + 502 + 48 + 3000 + 3000 + 24 + 24 + 24 + 24 + 24 + 24 + 1201 + 86400 + 40000 + 1536 + 9600 + 57600) := by rw [eS139]; exact hlg
  refine lv_aload_n hx hb dX14_init_208 rfl (lv_at hl 0 rfl) ?_
  refine lv_sipush (v := 1200) hx hb dX14_init_209 (by decide) ?_
  obtain ⟨hv140, h⟩ := h
  have e9 : KC = 300000 := rfl
  have e8 : KS = 3720000 := rfl
  have e7 : TXB = 10000000 := rfl
  have hTX : qn S139 < TXB := by have := hv140.1; omega
  refine va_newa (atype := .boolean) (ty := .boolean) (a0 := (1200, .inl (fun _ => 0))) (N' := 1200) hx hb (hts (.arrayClass .boolean) kx_1223) rfl hR.K hR.P hR.D hR.sS hA (fun _ => rfl) (by decide) (by decide) (by show 1200 * 1 ≤ 536870912; have := hv140.2; omega) (show 0 + 1 + 1 + 1 + 1 + 1 + 1 + 1 + 1 + 1 + 1 + 1 + 1 + 1 + 1 + 1 + 1 + 1 + 1 + 1 + 1 + 1 + 1 + 1 + 1 ≤ KC - qn S from hlg.c1 hv140.1) (show 0 + 12 + 16000 + 6 + 502 + 502 + 502 + 502 + 502 + 48 + 3000 + 3000 + 24 + 24 + 24 + 24 + 24 + 24 + 1201 + 86400 + 40000 + 1536 + 9600 + 57600 + 1200 ≤ KS - qu S from hlg.s1 hv140.2) dX14_init_212 (fun q141 cA9 H hK9 hP hD hS => ?_)
  obtain rfl := cls_new2 hR.K hK9 (k := 2) rfl (fun _ h => by cases h)
  have hw8 := hR.w
  have hR := hR.new (t := 3) (n := 1200) (k := 1200) hTX (by decide) (fun q9 => absurd q9 (by decide)) wN_cZ hP hD hS
  have hk8 : adk am136 (adx am136 (qn S139) q141) S139 := adk.rf.new (Nat.le_refl _) hTX
  have hak := hak.new (q := q141) hlg.2.2.1 hTX
  have hE := hE.ad hk8
  have hlg : lg S (wN S139 3 1200 1200) (0 + 1 + 1 + 1 + 1 + 1 + 1 + 1 + 1 + 1 + 1 + 1 + 1 + 1 + 1 + 1 + 1 + 1 + 1 + 1 + 1 + 1 + 1 + 1 + 1) (0 + 12 + 16000 + 6 + 502 + 502 + 502 + 502 + 502 + 48 + 3000 + 3000 + 24 + 24 + 24 + 24 + 24 + 24 + 1201 + 86400 + 40000 + 1536 + 9600 + 57600 + 1200) := hlg.new (t := 3) (n := 1200) ⟨hv140.1, hv140.2⟩
  have hs8 : shx S139 (wN S139 3 1200 1200) := shx.newZ (t := 3) (n := 1200) (k := 1200) shx.rf hw8 hTX
  obtain ⟨am142, eam142⟩ : ∃ z, z = adx am136 (qn S139) q141 := ⟨_, rfl⟩
  have eq_q141 : am142 (qn S139) = q141 := by rw [eam142]; exact if_pos rfl
  rw [← eam142] at hR hk8 hak hE
  obtain ⟨S143, eS143⟩ : ∃ z, z = wN S139 3 1200 1200 := ⟨_, rfl⟩
  rw [← eS143] at hR hlg hs8
  replace h := h S143 eS143
  have hsh := hsh.tr hs8
  have hT_b144 : qT S143 (qn S139) = 3 := by rw [eS143]; exact if_pos rfl
  have ea_0 : am142 0 = am136 0 := hk8 _ (hw8.hd hw8.1 (by decide) (by decide))
  have hl : lv_has ls 1 [(0, .ref (am142 0))] := by simp only [ea_0]; exact hl
  refine W.eq (g2 := F0 m 214 ls [.ref (am142 (qn S139)), .ref (am142 0)]) (by simp only [ea_0, eq_q141]) ?_
  clear hw8 hk8 hs8 hP hD hS e9 e8 e7 hTX
  refine va_putF (D := rD g) (ci := 13) (v := .ref (am142 (qn S139))) (ty := (.array .boolean)) (C := RX14) (T := TX14) (N := 143) hx hb hts in2X14 tyX14 tyX14_ok nmX14 hown hR.K hR.P hR.D hR.sS 0 (hR.at14 hR.w.1) rfl 59 (by decide) (hts _ kx_489) (fun _ h9 => h9) rfl hin9 rfl (by decide +kernel) rfl rfl (Nat.le_of_ble_eq_true rfl) dX14_init_214 (fun H locs hP hD hS => ?_)
  have hw9 : wfMZ (wR S143 0 59 (some (qn S139))) := hR.w.put (fun b q9 => by cases q9; exact (hT_b144).trans (by rw [hR.w.1]; rfl)) (fun _ _ h9 => absurd h9 List.not_mem_nil) (by rw [hR.w.1]; decide)
  have hR : RepZ g am142 A s (wR S143 0 59 (some (qn S139))) H locs := hR.pR hR.w.1 F14_s59 hw9 hP hD hS
  obtain ⟨S145, eS145⟩ : ∃ z, z = wR S143 0 59 (some (qn S139)) := ⟨_, rfl⟩
  rw [← eS145] at hR
  replace h := h S145 eS145
  have hsh : shx S S145 := by rw [eS145]; exact hsh
  have hlg : lg S S145 (0 + 1 + 1 + 1 + 1 + 1 + 1 + 1 + 1 + 1 + 1 + 1 + 1 + 1 + 1 + 1 + 1 + 1 + 1 + 1 + 1 + 1 + 1 + 1 + 1) (0 + 12 + 16000 + 6 + 502 + 502 + 502 + 502 + 502 + 48 + 3000 + 3000 + 24 + 24 + 24 + 24 + 24 + 24 + 1201 + 86400 + 40000 + 1536 + 9600 + 57600 + 1200) := by rw [eS145]; exact hlg
  refine lv_aload_n hx hb dX14_init_217 rfl (lv_at hl 0 rfl) ?_
  refine lv_bipush (v := 24) hx hb dX14_init_218 (by decide) ?_
  obtain ⟨hv146, h⟩ := h
  have e9 : KC = 300000 := rfl
  have e8 : KS = 3720000 := rfl
  have e7 : TXB = 10000000 := rfl
  have hTX : qn S145 < TXB := by have := hv146.1; omega
  refine va_newa (atype := .byte) (ty := .byte) (a0 := (24, .inl (fun _ => 0))) (N' := 24) hx hb (hts (.arrayClass .byte) kx_48) rfl hR.K hR.P hR.D hR.sS hA (fun _ => rfl) (by decide) (by decide) (by show 24 * 1 ≤ 536870912; have := hv146.2; omega) (show 0 + 1 + 1 + 1 + 1 + 1 + 1 + 1 + 1 + 1 + 1 + 1 + 1 + 1 + 1 + 1 + 1 + 1 + 1 + 1 + 1 + 1 + 1 + 1 + 1 + 1 ≤ KC - qn S from hlg.c1 hv146.1) (show 0 + 12 + 16000 + 6 + 502 + 502 + 502 + 502 + 502 + 48 + 3000 + 3000 + 24 + 24 + 24 + 24 + 24 + 24 + 1201 + 86400 + 40000 + 1536 + 9600 + 57600 + 1200 + 24 ≤ KS - qu S from hlg.s1 hv146.2) dX14_init_220 (fun q147 cA9 H hK9 hP hD hS => ?_)
  obtain rfl := cls_new2 hR.K hK9 (k := 0) rfl (fun _ h => by cases h)
  have hw8 := hR.w
  have hR := hR.new (t := 1) (n := 24) (k := 24) hTX (by decide) (fun q9 => absurd q9 (by decide)) wN_cB hP hD hS
  have hk8 : adk am142 (adx am142 (qn S145) q147) S145 := adk.rf.new (Nat.le_refl _) hTX
  have hak := hak.new (q := q147) hlg.2.2.1 hTX
  have hE := hE.ad hk8
  have hlg : lg S (wN S145 1 24 24) (0 + 1 + 1 + 1 + 1 + 1 + 1 + 1 + 1 + 1 + 1 + 1 + 1 + 1 + 1 + 1 + 1 + 1 + 1 + 1 + 1 + 1 + 1 + 1 + 1 + 1) (0 + 12 + 16000 + 6 + 502 + 502 + 502 + 502 + 502 + 48 + 3000 + 3000 + 24 + 24 + 24 + 24 + 24 + 24 + 1201 + 86400 + 40000 + 1536 + 9600 + 57600 + 1200 + 24) := hlg.new (t := 1) (n := 24) ⟨hv146.1, hv146.2⟩
  have hs8 : shx S145 (wN S145 1 24 24) := shx.newZ (t := 1) (n := 24) (k := 24) shx.rf hw8 hTX
  obtain ⟨am148, eam148⟩ : ∃ z, z = adx am142 (qn S145) q147 := ⟨_, rfl⟩
  have eq_q147 : am148 (qn S145) = q147 := by rw [eam148]; exact if_pos rfl
  rw [← eam148] at hR hk8 hak hE
  obtain ⟨S149, eS149⟩ : ∃ z, z = wN S145 1 24 24 := ⟨_, rfl⟩
  rw [← eS149] at hR hlg hs8
  replace h := h S149 eS149
  have hsh := hsh.tr hs8
  have hT_b150 : qT S149 (qn S145) = 1 := by rw [eS149]; exact if_pos rfl
  have ea_0 : am148 0 = am142 0 := hk8 _ (hw8.hd hw8.1 (by decide) (by decide))
  have hl : lv_has ls 1 [(0, .ref (am148 0))] := by simp only [ea_0]; exact hl
  refine W.eq (g2 := F0 m 222 ls [.ref (am148 (qn S145)), .ref (am148 0)]) (by simp only [ea_0, eq_q147]) ?_
  clear hw8 hk8 hs8 hP hD hS e9 e8 e7 hTX
  refine va_putF (D := rD g) (ci := 13) (v := .ref (am148 (qn S145))) (ty := (.array .byte)) (C := RX14) (T := TX14) (N := 143) hx hb hts in2X14 tyX14 tyX14_ok nmX14 hown hR.K hR.P hR.D hR.sS 0 (hR.at14 hR.w.1) rfl 60 (by decide) (hts _ kx_477) (fun _ h9 => h9) rfl hin9 rfl (by decide +kernel) rfl rfl (Nat.le_of_ble_eq_true rfl) dX14_init_222 (fun H locs hP hD hS => ?_)
  have hw9 : wfMZ (wR S149 0 60 (some (qn S145))) := hR.w.put (fun b q9 => by cases q9; exact (hT_b150).trans (by rw [hR.w.1]; rfl)) (fun _ _ h9 => absurd h9 List.not_mem_nil) (by rw [hR.w.1]; decide)
  have hR : RepZ g am148 A s (wR S149 0 60 (some (qn S145))) H locs := hR.pR hR.w.1 F14_s60 hw9 hP hD hS
  obtain ⟨S151, eS151⟩ : ∃ z, z = wR S149 0 60 (some (qn S145)) := ⟨_, rfl⟩
  rw [← eS151] at hR
  replace h := h S151 eS151
  have hsh : shx S S151 := by rw [eS151]; exact hsh
  have hlg : lg S S151 (0 + 1 + 1 + 1 + 1 + 1 + 1 + 1 + 1 + 1 + 1 + 1 + 1 + 1 + 1 + 1 + 1 + 1 + 1 + 1 + 1 + 1 + 1 + 1 + 1 + 1) (0 + 12 + 16000 + 6 + 502 + 502 + 502 + 502 + 502 + 48 + 3000 + 3000 + 24 + 24 + 24 + 24 + 24 + 24 + 1201 + 86400 + 40000 + 1536 + 9600 + 57600 + 1200 + 24) := by rw [eS151]; exact hlg
  refine lv_aload_n hx hb dX14_init_225 rfl (lv_at hl 0 rfl) ?_
  refine lv_bipush (v := 28) hx hb dX14_init_226 (by decide) ?_
  obtain ⟨hv152, h⟩ := h
  have e9 : KC = 300000 := rfl
  have e8 : KS = 3720000 := rfl
  have e7 : TXB = 10000000 := rfl
  have hTX : qn S151 < TXB := by have := hv152.1; omega
  refine va_newa (atype := .byte) (ty := .byte) (a0 := (28, .inl (fun _ => 0))) (N' := 28) hx hb (hts (.arrayClass .byte) kx_48) rfl hR.K hR.P hR.D hR.sS hA (fun _ => rfl) (by decide) (by decide) (by show 28 * 1 ≤ 536870912; have := hv152.2; omega) (show 0 + 1 + 1 + 1 + 1 + 1 + 1 + 1 + 1 + 1 + 1 + 1 + 1 + 1 + 1 + 1 + 1 + 1 + 1 + 1 + 1 + 1 + 1 + 1 + 1 + 1 + 1 ≤ KC - qn S from hlg.c1 hv152.1) (show 0 + 12 + 16000 + 6 + 502 + 502 + 502 + 502 + 502 + 48 + 3000 + 3000 + 24 + 24 + 24 + 24 + 24 + 24 + 1201 + 86400 + 40000 + 1536 + 9600 + 57600 + 1200 + 24 + 28 ≤ KS - qu S from hlg.s1 hv152.2) dX14_init_228 (fun q153 cA9 H hK9 hP hD hS => ?_)
  obtain rfl := cls_new2 hR.K hK9 (k := 0) rfl (fun _ h => by cases h)
  have hw8 := hR.w
  have hR := hR.new (t := 1) (n := 28) (k := 28) hTX (by decide) (fun q9 => absurd q9 (by decide)) wN_cB hP hD hS
  have hk8 : adk am148 (adx am148 (qn S151) q153) S151 := adk.rf.new (Nat.le_refl _) hTX
  have hak := hak.new (q := q153) hlg.2.2.1 hTX
  have hE := hE.ad hk8
  have hlg : lg S (wN S151 1 28 28) (0 + 1 + 1 + 1 + 1 + 1 + 1 + 1 + 1 + 1 + 1 + 1 + 1 + 1 + 1 + 1 + 1 + 1 + 1 + 1 + 1 + 1 + 1 + 1 + 1 + 1 + 1) (0 + 12 + 16000 + 6 + 502 + 502 + 502 + 502 + 502 + 48 + 3000 + 3000 + 24 + 24 + 24 + 24 + 24 + 24 + 1201 + 86400 + 40000 + 1536 + 9600 + 57600 + 1200 + 24 + 28) := hlg.new (t := 1) (n := 28) ⟨hv152.1, hv152.2⟩
  have hs8 : shx S151 (wN S151 1 28 28) := shx.newZ (t := 1) (n := 28) (k := 28) shx.rf hw8 hTX
  obtain ⟨am154, eam154⟩ : ∃ z, z = adx am148 (qn S151) q153 := ⟨_, rfl⟩
  have eq_q153 : am154 (qn S151) = q153 := by rw [eam154]; exact if_pos rfl
  rw [← eam154] at hR hk8 hak hE
  obtain ⟨S155, eS155⟩ : ∃ z, z = wN S151 1 28 28 := ⟨_, rfl⟩
  rw [← eS155] at hR hlg hs8
  replace h := h S155 eS155
  have hsh := hsh.tr hs8
  have hT_b156 : qT S155 (qn S151) = 1 := by rw [eS155]; exact if_pos rfl
  have ea_0 : am154 0 = am148 0 := hk8 _ (hw8.hd hw8.1 (by decide) (by decide))
  have hl : lv_has ls 1 [(0, .ref (am154 0))] := by simp only [ea_0]; exact hl
  refine W.eq (g2 := F0 m 230 ls [.ref (am154 (qn S151)), .ref (am154 0)]) (by simp only [ea_0, eq_q153]) ?_
  clear hw8 hk8 hs8 hP hD hS e9 e8 e7 hTX
  refine va_putF (D := rD g) (ci := 13) (v := .ref (am154 (qn S151))) (ty := (.array .byte)) (C := RX14) (T := TX14) (N := 143) hx hb hts in2X14 tyX14 tyX14_ok nmX14 hown hR.K hR.P hR.D hR.sS 0 (hR.at14 hR.w.1) rfl 61 (by decide) (hts _ kx_462) (fun _ h9 => h9) rfl hin9 rfl (by decide +kernel) rfl rfl (Nat.le_of_ble_eq_true rfl) dX14_init_230 (fun H locs hP hD hS => ?_)
  have hw9 : wfMZ (wR S155 0 61 (some (qn S151))) := hR.w.put (fun b q9 => by cases q9; exact (hT_b156).trans (by rw [hR.w.1]; rfl)) (fun _ _ h9 => absurd h9 List.not_mem_nil) (by rw [hR.w.1]; decide)
  have hR : RepZ g am154 A s (wR S155 0 61 (some (qn S151))) H locs := hR.pR hR.w.1 F14_s61 hw9 hP hD hS
  obtain ⟨S157, eS157⟩ : ∃ z, z = wR S155 0 61 (some (qn S151)) := ⟨_, rfl⟩
  rw [← eS157] at hR
  replace h := h S157 eS157
  have hsh : shx S S157 := by rw [eS157]; exact hsh
  have hlg : lg S S157 (0 + 1 + 1 + 1 + 1 + 1 + 1 + 1 + 1 + 1 + 1 + 1 + 1 + 1 + 1 + 1 + 1 + 1 + 1 + 1 + 1 + 1 + 1 + 1 + 1 + 1 + 1) (0 + 12 + 16000 + 6 + 502 + 502 + 502 + 502 + 502 + 48 + 3000 + 3000 + 24 + 24 + 24 + 24 + 24 + 24 + 1201 + 86400 + 40000 + 1536 + 9600 + 57600 + 1200 + 24 + 28) := by rw [eS157]; exact hlg
  refine lv_aload_n hx hb dX14_init_233 rfl (lv_at hl 0 rfl) ?_
  refine lv_iconst (v := (-1)) hx hb dX14_init_234 (by decide) ?_
  refine va_put (D := rD g) (ci := 13) (v := .int (-1)) (ty := .int) (C := RX14) (T := TX14) (N := 143) hx hb hts in2X14 tyX14 tyX14_ok nmX14 hown hR.K hR.P hR.D hR.sS 0 (hR.at14 hR.w.1) rfl 64 (by decide) (hts _ kx_515) (fun _ h9 => h9) rfl (by decide +kernel) rfl rfl (Nat.le_of_ble_eq_true rfl) dX14_init_235 (fun H locs hP hD hS => ?_)
  have hR : RepZ g am154 A s (wI S157 0 64 (-1)) H locs := hR.pI hR.w.1 F14_s64 hP hD hS
  obtain ⟨S158, eS158⟩ : ∃ z, z = wI S157 0 64 (-1) := ⟨_, rfl⟩
  rw [← eS158] at hR
  replace h := h S158 eS158
  have hsh : shx S S158 := by rw [eS158]; exact hsh
  have hlg : lg S S158 (0 + 1 + 1 + 1 + 1 + 1 + 1 + 1 + 1 + 1 + 1 + 1 + 1 + 1 + 1 + 1 + 1 + 1 + 1 + 1 + 1 + 1 + 1 + 1 + 1 + 1 + 1) (0 + 12 + 16000 + 6 + 502 + 502 + 502 + 502 + 502 + 48 + 3000 + 3000 + 24 + 24 + 24 + 24 + 24 + 24 + 1201 + 86400 + 40000 + 1536 + 9600 + 57600 + 1200 + 24 + 28) := by rw [eS158]; exact hlg
  refine lv_aload_n hx hb dX14_init_238 rfl (lv_at hl 0 rfl) ?_
  refine lv_iconst (v := (-1)) hx hb dX14_init_239 (by decide) ?_
  refine va_put (D := rD g) (ci := 13) (v := .int (-1)) (ty := .int) (C := RX14) (T := TX14) (N := 143) hx hb hts in2X14 tyX14 tyX14_ok nmX14 hown hR.K hR.P hR.D hR.sS 0 (hR.at14 hR.w.1) rfl 65 (by decide) (hts _ kx_516) (fun _ h9 => h9) rfl (by decide +kernel) rfl rfl (Nat.le_of_ble_eq_true rfl) dX14_init_240 (fun H locs hP hD hS => ?_)
  have hR : RepZ g am154 A s (wI S158 0 65 (-1)) H locs := hR.pI hR.w.1 F14_s65 hP hD hS
  obtain ⟨S159, eS159⟩ : ∃ z, z = wI S158 0 65 (-1) := ⟨_, rfl⟩
  rw [← eS159] at hR
  replace h := h S159 eS159
  have hsh : shx S S159 := by rw [eS159]; exact hsh
  have hlg : lg S S159 (0 + 1 + 1 + 1 + 1 + 1 + 1 + 1 + 1 + 1 + 1 + 1 + 1 + 1 + 1 + 1 + 1 + 1 + 1 + 1 + 1 + 1 + 1 + 1 + 1 + 1 + 1) (0 + 12 + 16000 + 6 + 502 + 502 + 502 + 502 + 502 + 48 + 3000 + 3000 + 24 + 24 + 24 + 24 + 24 + 24 + 1201 + 86400 + 40000 + 1536 + 9600 + 57600 + 1200 + 24 + 28) := by rw [eS159]; exact hlg
  refine lv_aload_n hx hb dX14_init_243 rfl (lv_at hl 0 rfl) ?_
  refine lv_ldc hx hb hown (hts _ kx_1224) dX14_init_244 ?_
  obtain ⟨hv160, h⟩ := h
  have e9 : KC = 300000 := rfl
  have e8 : KS = 3720000 := rfl
  have e7 : TXB = 10000000 := rfl
  have hTX : qn S159 < TXB := by have := hv160.1; omega
  refine va_newa (atype := .int) (ty := .int) (a0 := (115200, .inl (fun _ => 0))) (N' := 115200) hx hb (hts (.arrayClass .int) kx_346) rfl hR.K hR.P hR.D hR.sS hA (fun _ => rfl) (by decide) (by decide) (by show 115200 * 4 ≤ 536870912; have := hv160.2; omega) (show 0 + 1 + 1 + 1 + 1 + 1 + 1 + 1 + 1 + 1 + 1 + 1 + 1 + 1 + 1 + 1 + 1 + 1 + 1 + 1 + 1 + 1 + 1 + 1 + 1 + 1 + 1 + 1 ≤ KC - qn S from hlg.c1 hv160.1) (show 0 + 12 + 16000 + 6 + 502 + 502 + 502 + 502 + 502 + 48 + 3000 + 3000 + 24 + 24 + 24 + 24 + 24 + 24 + 1201 + 86400 + 40000 + 1536 + 9600 + 57600 + 1200 + 24 + 28 + 115200 ≤ KS - qu S from hlg.s1 hv160.2) dX14_init_246 (fun q161 cA9 H hK9 hP hD hS => ?_)
  obtain rfl := cls_new2 hR.K hK9 (k := 1) rfl (fun _ h => by cases h)
  have hw8 := hR.w
  have hR := hR.new (t := 2) (n := 115200) (k := 115200) hTX (by decide) (fun q9 => absurd q9 (by decide)) wN_cI hP hD hS
  have hk8 : adk am154 (adx am154 (qn S159) q161) S159 := adk.rf.new (Nat.le_refl _) hTX
  have hak := hak.new (q := q161) hlg.2.2.1 hTX
  have hE := hE.ad hk8
  have hlg : lg S (wN S159 2 115200 115200) (0 + 1 + 1 + 1 + 1 + 1 + 1 + 1 + 1 + 1 + 1 + 1 + 1 + 1 + 1 + 1 + 1 + 1 + 1 + 1 + 1 + 1 + 1 + 1 + 1 + 1 + 1 + 1) (0 + 12 + 16000 + 6 + 502 + 502 + 502 + 502 + 502 + 48 + 3000 + 3000 + 24 + 24 + 24 + 24 + 24 + 24 + 1201 + 86400 + 40000 + 1536 + 9600 + 57600 + 1200 + 24 + 28 + 115200) := hlg.new (t := 2) (n := 115200) ⟨hv160.1, hv160.2⟩
  have hs8 : shx S159 (wN S159 2 115200 115200) := shx.newZ (t := 2) (n := 115200) (k := 115200) shx.rf hw8 hTX
  obtain ⟨am162, eam162⟩ : ∃ z, z = adx am154 (qn S159) q161 := ⟨_, rfl⟩
  have eq_q161 : am162 (qn S159) = q161 := by rw [eam162]; exact if_pos rfl
  rw [← eam162] at hR hk8 hak hE
  obtain ⟨S163, eS163⟩ : ∃ z, z = wN S159 2 115200 115200 := ⟨_, rfl⟩
  rw [← eS163] at hR hlg hs8
  replace h := h S163 eS163
  have hsh := hsh.tr hs8
  have hT_b164 : qT S163 (qn S159) = 2 := by rw [eS163]; exact if_pos rfl
  have ea_0 : am162 0 = am154 0 := hk8 _ (hw8.hd hw8.1 (by decide) (by decide))
  have hl : lv_has ls 1 [(0, .ref (am162 0))] := by simp only [ea_0]; exact hl
  refine W.eq (g2 := F0 m 248 ls [.ref (am162 (qn S159)), .ref (am162 0)]) (by simp only [ea_0, eq_q161]) ?_
  clear hw8 hk8 hs8 hP hD hS e9 e8 e7 hTX
  refine va_putF (D := rD g) (ci := 13) (v := .ref (am162 (qn S159))) (ty := (.array .int)) (C := RX14) (T := TX14) (N := 143) hx hb hts in2X14 tyX14 tyX14_ok nmX14 hown hR.K hR.P hR.D hR.sS 0 (hR.at14 hR.w.1) rfl 66 (by decide) (hts _ kx_518) (fun _ h9 => h9) rfl hin9 rfl (by decide +kernel) rfl rfl (Nat.le_of_ble_eq_true rfl) dX14_init_248 (fun H locs hP hD hS => ?_)
  have hw9 : wfMZ (wR S163 0 66 (some (qn S159))) := hR.w.put (fun b q9 => by cases q9; exact (hT_b164).trans (by rw [hR.w.1]; rfl)) (fun _ _ h9 => absurd h9 List.not_mem_nil) (by rw [hR.w.1]; decide)
  have hR : RepZ g am162 A s (wR S163 0 66 (some (qn S159))) H locs := hR.pR hR.w.1 F14_s66 hw9 hP hD hS
  obtain ⟨S165, eS165⟩ : ∃ z, z = wR S163 0 66 (some (qn S159)) := ⟨_, rfl⟩
  rw [← eS165] at hR
  replace h := h S165 eS165
  have hsh : shx S S165 := by rw [eS165]; exact hsh
  have hlg : lg S S165 (0 + 1 + 1 + 1 + 1 + 1 + 1 + 1 + 1 + 1 + 1 + 1 + 1 + 1 + 1 + 1 + 1 + 1 + 1 + 1 + 1 + 1 + 1 + 1 + 1 + 1 + 1 + 1) (0 + 12 + 16000 + 6 + 502 + 502 + 502 + 502 + 502 + 48 + 3000 + 3000 + 24 + 24 + 24 + 24 + 24 + 24 + 1201 + 86400 + 40000 + 1536 + 9600 + 57600 + 1200 + 24 + 28 + 115200) := by rw [eS165]; exact hlg
  refine lv_aload_n hx hb dX14_init_251 rfl (lv_at hl 0 rfl) ?_
  refine lv_sipush (v := 700) hx hb dX14_init_252 (by decide) ?_
  obtain ⟨hv166, h⟩ := h
  have e9 : KC = 300000 := rfl
  have e8 : KS = 3720000 := rfl
  have e7 : TXB = 10000000 := rfl
  have hTX : qn S165 < TXB := by have := hv166.1; omega
  refine va_newa (atype := .int) (ty := .int) (a0 := (700, .inl (fun _ => 0))) (N' := 700) hx hb (hts (.arrayClass .int) kx_346) rfl hR.K hR.P hR.D hR.sS hA (fun _ => rfl) (by decide) (by decide) (by show 700 * 4 ≤ 536870912; have := hv166.2; omega) (show 0 + 1 + 1 + 1 + 1 + 1 + 1 + 1 + 1 + 1 + 1 + 1 + 1 + 1 + 1 + 1 + 1 + 1 + 1 + 1 + 1 + 1 + 1 + 1 + 1 + 1 + 1 + 1 + 1 ≤ KC - qn S from hlg.c1 hv166.1) (show 0 + 12 + 16000 + 6 + 502 + 502 + 502 + 502 + 502 + 48 + 3000 + 3000 + 24 + 24 + 24 + 24 + 24 + 24 + 1201 + 86400 + 40000 + 1536 + 9600 + 57600 + 1200 + 24 + 28 + 115200 + 700 ≤ KS - qu S from hlg.s1 hv166.2) dX14_init_255 (fun q167 cA9 H hK9 hP hD hS => ?_)
  obtain rfl := cls_new2 hR.K hK9 (k := 1) rfl (fun _ h => by cases h)
  have hw8 := hR.w
  have hR := hR.new (t := 2) (n := 700) (k := 700) hTX (by decide) (fun q9 => absurd q9 (by decide)) wN_cI hP hD hS
  have hk8 : adk am162 (adx am162 (qn S165) q167) S165 := adk.rf.new (Nat.le_refl _) hTX
  have hak := hak.new (q := q167) hlg.2.2.1 hTX
  have hE := hE.ad hk8
  have hlg : lg S (wN S165 2 700 700) (0 + 1 + 1 + 1 + 1 + 1 + 1 + 1 + 1 + 1 + 1 + 1 + 1 + 1 + 1 + 1 + 1 + 1 + 1 + 1 + 1 + 1 + 1 + 1 + 1 + 1 + 1 + 1 + 1) (0 + 12 + 16000 + 6 + 502 + 502 + 502 + 502 + 502 + 48 + 3000 + 3000 + 24 + 24 + 24 + 24 + 24 + 24 + 1201 + 86400 + 40000 + 1536 + 9600 + 57600 + 1200 + 24 + 28 + 115200 + 700) := hlg.new (t := 2) (n := 700) ⟨hv166.1, hv166.2⟩
  have hs8 : shx S165 (wN S165 2 700 700) := shx.newZ (t := 2) (n := 700) (k := 700) shx.rf hw8 hTX
  obtain ⟨am168, eam168⟩ : ∃ z, z = adx am162 (qn S165) q167 := ⟨_, rfl⟩
  have eq_q167 : am168 (qn S165) = q167 := by rw [eam168]; exact if_pos rfl
  rw [← eam168] at hR hk8 hak hE
  obtain ⟨S169, eS169⟩ : ∃ z, z = wN S165 2 700 700 := ⟨_, rfl⟩
  rw [← eS169] at hR hlg hs8
  replace h := h S169 eS169
  have hsh := hsh.tr hs8
  have hT_b170 : qT S169 (qn S165) = 2 := by rw [eS169]; exact if_pos rfl
  have ea_0 : am168 0 = am162 0 := hk8 _ (hw8.hd hw8.1 (by decide) (by decide))
  have hl : lv_has ls 1 [(0, .ref (am168 0))] := by simp only [ea_0]; exact hl
  refine W.eq (g2 := F0 m 257 ls [.ref (am168 (qn S165)), .ref (am168 0)]) (by simp only [ea_0, eq_q167]) ?_
  clear hw8 hk8 hs8 hP hD hS e9 e8 e7 hTX
  refine va_putF (D := rD g) (ci := 13) (v := .ref (am168 (qn S165))) (ty := (.array .int)) (C := RX14) (T := TX14) (N := 143) hx hb hts in2X14 tyX14 tyX14_ok nmX14 hown hR.K hR.P hR.D hR.sS 0 (hR.at14 hR.w.1) rfl 67 (by decide) (hts _ kx_532) (fun _ h9 => h9) rfl hin9 rfl (by decide +kernel) rfl rfl (Nat.le_of_ble_eq_true rfl) dX14_init_257 (fun H locs hP hD hS => ?_)
  have hw9 : wfMZ (wR S169 0 67 (some (qn S165))) := hR.w.put (fun b q9 => by cases q9; exact (hT_b170).trans (by rw [hR.w.1]; rfl)) (fun _ _ h9 => absurd h9 List.not_mem_nil) (by rw [hR.w.1]; decide)
  have hR : RepZ g am168 A s (wR S169 0 67 (some (qn S165))) H locs := hR.pR hR.w.1 F14_s67 hw9 hP hD hS
  obtain ⟨S171, eS171⟩ : ∃ z, z = wR S169 0 67 (some (qn S165)) := ⟨_, rfl⟩
  rw [← eS171] at hR
  replace h := h S171 eS171
  have hsh : shx S S171 := by rw [eS171]; exact hsh
  have hlg : lg S S171 (0 + 1 + 1 + 1 + 1 + 1 + 1 + 1 + 1 + 1 + 1 + 1 + 1 + 1 + 1 + 1 + 1 + 1 + 1 + 1 + 1 + 1 + 1 + 1 + 1 + 1 + 1 + 1 + 1) (0 + 12 + 16000 + 6 + 502 + 502 + 502 + 502 + 502 + 48 + 3000 + 3000 + 24 + 24 + 24 + 24 + 24 + 24 + 1201 + 86400 + 40000 + 1536 + 9600 + 57600 + 1200 + 24 + 28 + 115200 + 700) := by rw [eS171]; exact hlg
  refine lv_aload_n hx hb dX14_init_260 rfl (lv_at hl 0 rfl) ?_
  refine lv_sipush (v := 700) hx hb dX14_init_261 (by decide) ?_
  obtain ⟨hv172, h⟩ := h
  have e9 : KC = 300000 := rfl
  have e8 : KS = 3720000 := rfl
  have e7 : TXB = 10000000 := rfl
  have hTX : qn S171 < TXB := by have := hv172.1; omega
  refine va_newa (atype := .int) (ty := .int) (a0 := (700, .inl (fun _ => 0))) (N' := 700) hx hb (hts (.arrayClass .int) kx_346) rfl hR.K hR.P hR.D hR.sS hA (fun _ => rfl) (by decide) (by decide) (by show 700 * 4 ≤ 536870912; have := hv172.2; omega) (show 0 + 1 + 1 + 1 + 1 + 1 + 1 + 1 + 1 + 1 + 1 + 1 + 1 + 1 + 1 + 1 + 1 + 1 + 1 + 1 + 1 + 1 + 1 + 1 + 1 + 1 + 1 + 1 + 1 + 1 ≤ KC - qn S from hlg.c1 hv172.1) (show 0 + 12 + 16000 + 6 + 502 + 502 + 502 + 502 + 502 + 48 + 3000 + 3000 + 24 + 24 + 24 + 24 + 24 + 24 + 1201 + 86400 + 40000 + 1536 + 9600 + 57600 + 1200 + 24 + 28 + 115200 + 700 + 700 ≤ KS - qu S from hlg.s1 hv172.2) dX14_init_264 (fun q173 cA9 H hK9 hP hD hS => ?_)
  obtain rfl := cls_new2 hR.K hK9 (k := 1) rfl (fun _ h => by cases h)
  have hw8 := hR.w
  have hR := hR.new (t := 2) (n := 700) (k := 700) hTX (by decide) (fun q9 => absurd q9 (by decide)) wN_cI hP hD hS
  have hk8 : adk am168 (adx am168 (qn S171) q173) S171 := adk.rf.new (Nat.le_refl _) hTX
  have hak := hak.new (q := q173) hlg.2.2.1 hTX
  have hE := hE.ad hk8
  have hlg : lg S (wN S171 2 700 700) (0 + 1 + 1 + 1 + 1 + 1 + 1 + 1 + 1 + 1 + 1 + 1 + 1 + 1 + 1 + 1 + 1 + 1 + 1 + 1 + 1 + 1 + 1 + 1 + 1 + 1 + 1 + 1 + 1 + 1) (0 + 12 + 16000 + 6 + 502 + 502 + 502 + 502 + 502 + 48 + 3000 + 3000 + 24 + 24 + 24 + 24 + 24 + 24 + 1201 + 86400 + 40000 + 1536 + 9600 + 57600 + 1200 + 24 + 28 + 115200 + 700 + 700) := hlg.new (t := 2) (n := 700) ⟨hv172.1, hv172.2⟩
  have hs8 : shx S171 (wN S171 2 700 700) := shx.newZ (t := 2) (n := 700) (k := 700) shx.rf hw8 hTX
  obtain ⟨am174, eam174⟩ : ∃ z, z = adx am168 (qn S171) q173 := ⟨_, rfl⟩
  have eq_q173 : am174 (qn S171) = q173 := by rw [eam174]; exact if_pos rfl
  rw [← eam174] at hR hk8 hak hE
  obtain ⟨S175, eS175⟩ : ∃ z, z = wN S171 2 700 700 := ⟨_, rfl⟩
  rw [← eS175] at hR hlg hs8
  replace h := h S175 eS175
  have hsh := hsh.tr hs8
  have hT_b176 : qT S175 (qn S171) = 2 := by rw [eS175]; exact if_pos rfl
  have ea_0 : am174 0 = am168 0 := hk8 _ (hw8.hd hw8.1 (by decide) (by decide))
  have hl : lv_has ls 1 [(0, .ref (am174 0))] := by simp only [ea_0]; exact hl
  refine W.eq (g2 := F0 m 266 ls [.ref (am174 (qn S171)), .ref (am174 0)]) (by simp only [ea_0, eq_q173]) ?_
  clear hw8 hk8 hs8 hP hD hS e9 e8 e7 hTX
  refine va_putF (D := rD g) (ci := 13) (v := .ref (am174 (qn S171))) (ty := (.array .int)) (C := RX14) (T := TX14) (N := 143) hx hb hts in2X14 tyX14 tyX14_ok nmX14 hown hR.K hR.P hR.D hR.sS 0 (hR.at14 hR.w.1) rfl 68 (by decide) (hts _ kx_537) (fun _ h9 => h9) rfl hin9 rfl (by decide +kernel) rfl rfl (Nat.le_of_ble_eq_true rfl) dX14_init_266 (fun H locs hP hD hS => ?_)
  have hw9 : wfMZ (wR S175 0 68 (some (qn S171))) := hR.w.put (fun b q9 => by cases q9; exact (hT_b176).trans (by rw [hR.w.1]; rfl)) (fun _ _ h9 => absurd h9 List.not_mem_nil) (by rw [hR.w.1]; decide)
  have hR : RepZ g am174 A s (wR S175 0 68 (some (qn S171))) H locs := hR.pR hR.w.1 F14_s68 hw9 hP hD hS
  obtain ⟨S177, eS177⟩ : ∃ z, z = wR S175 0 68 (some (qn S171)) := ⟨_, rfl⟩
  rw [← eS177] at hR
  replace h := h S177 eS177
  have hsh : shx S S177 := by rw [eS177]; exact hsh
  have hlg : lg S S177 (0 + 1 + 1 + 1 + 1 + 1 + 1 + 1 + 1 + 1 + 1 + 1 + 1 + 1 + 1 + 1 + 1 + 1 + 1 + 1 + 1 + 1 + 1 + 1 + 1 + 1 + 1 + 1 + 1 + 1) (0 + 12 + 16000 + 6 + 502 + 502 + 502 + 502 + 502 + 48 + 3000 + 3000 + 24 + 24 + 24 + 24 + 24 + 24 + 1201 + 86400 + 40000 + 1536 + 9600 + 57600 + 1200 + 24 + 28 + 115200 + 700 + 700) := by rw [eS177]; exact hlg
  refine lv_aload_n hx hb dX14_init_269 rfl (lv_at hl 0 rfl) ?_
  refine lv_sipush (v := 700) hx hb dX14_init_270 (by decide) ?_
  obtain ⟨hv178, h⟩ := h
  have e9 : KC = 300000 := rfl
  have e8 : KS = 3720000 := rfl
  have e7 : TXB = 10000000 := rfl
  have hTX : qn S177 < TXB := by have := hv178.1; omega
  refine va_newa (atype := .int) (ty := .int) (a0 := (700, .inl (fun _ => 0))) (N' := 700) hx hb (hts (.arrayClass .int) kx_346) rfl hR.K hR.P hR.D hR.sS hA (fun _ => rfl) (by decide) (by decide) (by show 700 * 4 ≤ 536870912; have := hv178.2; omega) (show 0 + 1 + 1 + 1 + 1 + 1 + 1 + 1 + 1 + 1 + 1 + 1 + 1 + 1 + 1 + 1 + 1 + 1 + 1 + 1 + 1 + 1 + 1 + 1 + 1 + 1 + 1 + 1 + 1 + 1 + 1 ≤ KC - qn S from hlg.c1 hv178.1) (show 0 + 12 + 16000 + 6 + 502 + 502 + 502 + 502 + 502 + 48 + 3000 + 3000 + 24 + 24 + 24 + 24 + 24 + 24 + 1201 + 86400 + 40000 + 1536 + 9600 + 57600 + 1200 + 24 + 28 + 115200 + 700 + 700 + 700 ≤ KS - qu S from hlg.s1 hv178.2) dX14_init_273 (fun q179 cA9 H hK9 hP hD hS => ?_)
  obtain rfl := cls_new2 hR.K hK9 (k := 1) rfl (fun _ h => by cases h)
  have hw8 := hR.w
  have hR := hR.new (t := 2) (n := 700) (k := 700) hTX (by decide) (fun q9 => absurd q9 (by decide)) wN_cI hP hD hS
  have hk8 : adk am174 (adx am174 (qn S177) q179) S177 := adk.rf.new (Nat.le_refl _) hTX
  have hak := hak.new (q := q179) hlg.2.2.1 hTX
  have hE := hE.ad hk8
  have hlg : lg S (wN S177 2 700 700) (0 + 1 + 1 + 1 + 1 + 1 + 1 + 1 + 1 + 1 + 1 + 1 + 1 + 1 + 1 + 1 + 1 + 1 + 1 + 1 + 1 + 1 + 1 + 1 + 1 + 1 + 1 + 1 + 1 + 1 + 1) (0 + 12 + 16000 + 6 + 502 + 502 + 502 + 502 + 502 + 48 + 3000 + 3000 + 24 + 24 + 24 + 24 + 24 + 24 + 1201 + 86400 + 40000 + 1536 + 9600 + 57600 + 1200 + 24 + 28 + 115200 + 700 + 700 + 700) := hlg.new (t := 2) (n := 700) ⟨hv178.1, hv178.2⟩
  have hs8 : shx S177 (wN S177 2 700 700) := shx.newZ (t := 2) (n := 700) (k := 700) shx.rf hw8 hTX
  obtain ⟨am180, eam180⟩ : ∃ z, z = adx am174 (qn S177) q179 := ⟨_, rfl⟩
  have eq_q179 : am180 (qn S177) = q179 := by rw [eam180]; exact if_pos rfl
  rw [← eam180] at hR hk8 hak hE
  obtain ⟨S181, eS181⟩ : ∃ z, z = wN S177 2 700 700 := ⟨_, rfl⟩
  rw [← eS181] at hR hlg hs8
  replace h := h S181 eS181
  have hsh := hsh.tr hs8
  have hT_b182 : qT S181 (qn S177) = 2 := by rw [eS181]; exact if_pos rfl
  have ea_0 : am180 0 = am174 0 := hk8 _ (hw8.hd hw8.1 (by decide) (by decide))
  have hl : lv_has ls 1 [(0, .ref (am180 0))] := by simp only [ea_0]; exact hl
  refine W.eq (g2 := F0 m 275 ls [.ref (am180 (qn S177)), .ref (am180 0)]) (by simp only [ea_0, eq_q179]) ?_
  clear hw8 hk8 hs8 hP hD hS e9 e8 e7 hTX
  refine va_putF (D := rD g) (ci := 13) (v := .ref (am180 (qn S177))) (ty := (.array .int)) (C := RX14) (T := TX14) (N := 143) hx hb hts in2X14 tyX14 tyX14_ok nmX14 hown hR.K hR.P hR.D hR.sS 0 (hR.at14 hR.w.1) rfl 69 (by decide) (hts _ kx_533) (fun _ h9 => h9) rfl hin9 rfl (by decide +kernel) rfl rfl (Nat.le_of_ble_eq_true rfl) dX14_init_275 (fun H locs hP hD hS => ?_)
  have hw9 : wfMZ (wR S181 0 69 (some (qn S177))) := hR.w.put (fun b q9 => by cases q9; exact (hT_b182).trans (by rw [hR.w.1]; rfl)) (fun _ _ h9 => absurd h9 List.not_mem_nil) (by rw [hR.w.1]; decide)
  have hR : RepZ g am180 A s (wR S181 0 69 (some (qn S177))) H locs := hR.pR hR.w.1 F14_s69 hw9 hP hD hS
  obtain ⟨S183, eS183⟩ : ∃ z, z = wR S181 0 69 (some (qn S177)) := ⟨_, rfl⟩
  rw [← eS183] at hR
  replace h := h S183 eS183
  have hsh : shx S S183 := by rw [eS183]; exact hsh
  have hlg : lg S S183 (0 + 1 + 1 + 1 + 1 + 1 + 1 + 1 + 1 + 1 + 1 + 1 + 1 + 1 + 1 + 1 + 1 + 1 + 1 + 1 + 1 + 1 + 1 + 1 + 1 + 1 + 1 + 1 + 1 + 1 + 1) (0 + 12 + 16000 + 6 + 502 + 502 + 502 + 502 + 502 + 48 + 3000 + 3000 + 24 + 24 + 24 + 24 + 24 + 24 + 1201 + 86400 + 40000 + 1536 + 9600 + 57600 + 1200 + 24 + 28 + 115200 + 700 + 700 + 700) := by rw [eS183]; exact hlg
  refine lv_aload_n hx hb dX14_init_278 rfl (lv_at hl 0 rfl) ?_
  refine lv_sipush (v := 700) hx hb dX14_init_279 (by decide) ?_
  obtain ⟨hv184, h⟩ := h
  have e9 : KC = 300000 := rfl
  have e8 : KS = 3720000 := rfl
  have e7 : TXB = 10000000 := rfl
  have hTX : qn S183 < TXB := by have := hv184.1; omega
  refine va_newa (atype := .int) (ty := .int) (a0 := (700, .inl (fun _ => 0))) (N' := 700) hx hb (hts (.arrayClass .int) kx_346) rfl hR.K hR.P hR.D hR.sS hA (fun _ => rfl) (by decide) (by decide) (by show 700 * 4 ≤ 536870912; have := hv184.2; omega) (show 0 + 1 + 1 + 1 + 1 + 1 + 1 + 1 + 1 + 1 + 1 + 1 + 1 + 1 + 1 + 1 + 1 + 1 + 1 + 1 + 1 + 1 + 1 + 1 + 1 + 1 + 1 + 1 + 1 + 1 + 1 + 1 ≤ KC - qn S from hlg.c1 hv184.1) (show 0 + 12 + 16000 + 6 + 502 + 502 + 502 + 502 + 502 + 48 + 3000 + 3000 + 24 + 24 + 24 + 24 + 24 + 24 + 1201 + 86400 + 40000 + 1536 + 9600 + 57600 + 1200 + 24 + 28 + 115200 + 700 + 700 + 700 + 700 ≤ KS - qu S from hlg.s1 hv184.2) dX14_init_282 (fun q185 cA9 H hK9 hP hD hS => ?_)
  obtain rfl := cls_new2 hR.K hK9 (k := 1) rfl (fun _ h => by cases h)
  have hw8 := hR.w
  have hR := hR.new (t := 2) (n := 700) (k := 700) hTX (by decide) (fun q9 => absurd q9 (by decide)) wN_cI hP hD hS
  have hk8 : adk am180 (adx am180 (qn S183) q185) S183 := adk.rf.new (Nat.le_refl _) hTX
  have hak := hak.new (q := q185) hlg.2.2.1 hTX
  have hE := hE.ad hk8
  have hlg : lg S (wN S183 2 700 700) (0 + 1 + 1 + 1 + 1 + 1 + 1 + 1 + 1 + 1 + 1 + 1 + 1 + 1 + 1 + 1 + 1 + 1 + 1 + 1 + 1 + 1 + 1 + 1 + 1 + 1 + 1 + 1 + 1 + 1 + 1 + 1) (0 + 12 + 16000 + 6 + 502 + 502 + 502 + 502 + 502 + 48 + 3000 + 3000 + 24 + 24 + 24 + 24 + 24 + 24 + 1201 + 86400 + 40000 + 1536 + 9600 + 57600 + 1200 + 24 + 28 + 115200 + 700 + 700 + 700 + 700) := hlg.new (t := 2) (n := 700) ⟨hv184.1, hv184.2⟩
  have hs8 : shx S183 (wN S183 2 700 700) := shx.newZ (t := 2) (n := 700) (k := 700) shx.rf hw8 hTX
  obtain ⟨am186, eam186⟩ : ∃ z, z = adx am180 (qn S183) q185 := ⟨_, rfl⟩
  have eq_q185 : am186 (qn S183) = q185 := by rw [eam186]; exact if_pos rfl
  rw [← eam186] at hR hk8 hak hE
  obtain ⟨S187, eS187⟩ : ∃ z, z = wN S183 2 700 700 := ⟨_, rfl⟩
  rw [← eS187] at hR hlg hs8
  replace h := h S187 eS187
  have hsh := hsh.tr hs8
  have hT_b188 : qT S187 (qn S183) = 2 := by rw [eS187]; exact if_pos rfl
  have ea_0 : am186 0 = am180 0 := hk8 _ (hw8.hd hw8.1 (by decide) (by decide))
  have hl : lv_has ls 1 [(0, .ref (am186 0))] := by simp only [ea_0]; exact hl
  refine W.eq (g2 := F0 m 284 ls [.ref (am186 (qn S183)), .ref (am186 0)]) (by simp only [ea_0, eq_q185]) ?_
  clear hw8 hk8 hs8 hP hD hS e9 e8 e7 hTX
  refine va_putF (D := rD g) (ci := 13) (v := .ref (am186 (qn S183))) (ty := (.array .int)) (C := RX14) (T := TX14) (N := 143) hx hb hts in2X14 tyX14 tyX14_ok nmX14 hown hR.K hR.P hR.D hR.sS 0 (hR.at14 hR.w.1) rfl 70 (by decide) (hts _ kx_534) (fun _ h9 => h9) rfl hin9 rfl (by decide +kernel) rfl rfl (Nat.le_of_ble_eq_true rfl) dX14_init_284 (fun H locs hP hD hS => ?_)
  have hw9 : wfMZ (wR S187 0 70 (some (qn S183))) := hR.w.put (fun b q9 => by cases q9; exact (hT_b188).trans (by rw [hR.w.1]; rfl)) (fun _ _ h9 => absurd h9 List.not_mem_nil) (by rw [hR.w.1]; decide)
  have hR : RepZ g am186 A s (wR S187 0 70 (some (qn S183))) H locs := hR.pR hR.w.1 F14_s70 hw9 hP hD hS
  obtain ⟨S189, eS189⟩ : ∃ z, z = wR S187 0 70 (some (qn S183)) := ⟨_, rfl⟩
  rw [← eS189] at hR
  replace h := h S189 eS189
  have hsh : shx S S189 := by rw [eS189]; exact hsh
  have hlg : lg S S189 (0 + 1 + 1 + 1 + 1 + 1 + 1 + 1 + 1 + 1 + 1 + 1 + 1 + 1 + 1 + 1 + 1 + 1 + 1 + 1 + 1 + 1 + 1 + 1 + 1 + 1 + 1 + 1 + 1 + 1 + 1 + 1) (0 + 12 + 16000 + 6 + 502 + 502 + 502 + 502 + 502 + 48 + 3000 + 3000 + 24 + 24 + 24 + 24 + 24 + 24 + 1201 + 86400 + 40000 + 1536 + 9600 + 57600 + 1200 + 24 + 28 + 115200 + 700 + 700 + 700 + 700) := by rw [eS189]; exact hlg
  refine lv_aload_n hx hb dX14_init_287 rfl (lv_at hl 0 rfl) ?_
  refine lv_sipush (v := 700) hx hb dX14_init_288 (by decide) ?_
  obtain ⟨hv190, h⟩ := h
  have e9 : KC = 300000 := rfl
  have e8 : KS = 3720000 := rfl
  have e7 : TXB = 10000000 := rfl
  have hTX : qn S189 < TXB := by have := hv190.1; omega
  refine va_newa (atype := .long) (ty := .long) (a0 := (700, .inr (.inl (fun _ => 0)))) (N' := 700) hx hb (hts (.arrayClass .long) kx_1219) rfl hR.K hR.P hR.D hR.sS hA (fun _ => rfl) (by decide) (by decide) (by show 700 * 8 ≤ 536870912; have := hv190.2; omega) (show 0 + 1 + 1 + 1 + 1 + 1 + 1 + 1 + 1 + 1 + 1 + 1 + 1 + 1 + 1 + 1 + 1 + 1 + 1 + 1 + 1 + 1 + 1 + 1 + 1 + 1 + 1 + 1 + 1 + 1 + 1 + 1 + 1 ≤ KC - qn S from hlg.c1 hv190.1) (show 0 + 12 + 16000 + 6 + 502 + 502 + 502 + 502 + 502 + 48 + 3000 + 3000 + 24 + 24 + 24 + 24 + 24 + 24 + 1201 + 86400 + 40000 + 1536 + 9600 + 57600 + 1200 + 24 + 28 + 115200 + 700 + 700 + 700 + 700 + 700 ≤ KS - qu S from hlg.s1 hv190.2) dX14_init_291 (fun q191 cA9 H hK9 hP hD hS => ?_)
  obtain rfl := cls_new2 hR.K hK9 (k := 3) rfl (fun _ h => by cases h)
  have hw8 := hR.w
  have hR := hR.new (t := 4) (n := 700) (k := 700) hTX (by decide) (fun q9 => absurd q9 (by decide)) wN_cL hP hD hS
  have hk8 : adk am186 (adx am186 (qn S189) q191) S189 := adk.rf.new (Nat.le_refl _) hTX
  have hak := hak.new (q := q191) hlg.2.2.1 hTX
  have hE := hE.ad hk8
  have hlg : lg S (wN S189 4 700 700) (0 + 1 + 1 + 1 + 1 + 1 + 1 + 1 + 1 + 1 + 1 + 1 + 1 + 1 + 1 + 1 + 1 + 1 + 1 + 1 + 1 + 1 + 1 + 1 + 1 + 1 + 1 + 1 + 1 + 1 + 1 + 1 + 1) (0 + 12 + 16000 + 6 + 502 + 502 + 502 + 502 + 502 + 48 + 3000 + 3000 + 24 + 24 + 24 + 24 + 24 + 24 + 1201 + 86400 + 40000 + 1536 + 9600 + 57600 + 1200 + 24 + 28 + 115200 + 700 + 700 + 700 + 700 + 700) := hlg.new (t := 4) (n := 700) ⟨hv190.1, hv190.2⟩
  have hs8 : shx S189 (wN S189 4 700 700) := shx.newZ (t := 4) (n := 700) (k := 700) shx.rf hw8 hTX
  obtain ⟨am192, eam192⟩ : ∃ z, z = adx am186 (qn S189) q191 := ⟨_, rfl⟩
  have eq_q191 : am192 (qn S189) = q191 := by rw [eam192]; exact if_pos rfl
  rw [← eam192] at hR hk8 hak hE
  obtain ⟨S193, eS193⟩ : ∃ z, z = wN S189 4 700 700 := ⟨_, rfl⟩
  rw [← eS193] at hR hlg hs8
  replace h := h S193 eS193
  have hsh := hsh.tr hs8
  have hT_b194 : qT S193 (qn S189) = 4 := by rw [eS193]; exact if_pos rfl
  have ea_0 : am192 0 = am186 0 := hk8 _ (hw8.hd hw8.1 (by decide) (by decide))
  have hl : lv_has ls 1 [(0, .ref (am192 0))] := by simp only [ea_0]; exact hl
  refine W.eq (g2 := F0 m 293 ls [.ref (am192 (qn S189)), .ref (am192 0)]) (by simp only [ea_0, eq_q191]) ?_
  clear hw8 hk8 hs8 hP hD hS e9 e8 e7 hTX
  refine va_putF (D := rD g) (ci := 13) (v := .ref (am192 (qn S189))) (ty := (.array .long)) (C := RX14) (T := TX14) (N := 143) hx hb hts in2X14 tyX14 tyX14_ok nmX14 hown hR.K hR.P hR.D hR.sS 0 (hR.at14 hR.w.1) rfl 71 (by decide) (hts _ kx_535) (fun _ h9 => h9) rfl hin9 rfl (by decide +kernel) rfl rfl (Nat.le_of_ble_eq_true rfl) dX14_init_293 (fun H locs hP hD hS => ?_)
  have hw9 : wfMZ (wR S193 0 71 (some (qn S189))) := hR.w.put (fun b q9 => by cases q9; exact (hT_b194).trans (by rw [hR.w.1]; rfl)) (fun _ _ h9 => absurd h9 List.not_mem_nil) (by rw [hR.w.1]; decide)
  have hR : RepZ g am192 A s (wR S193 0 71 (some (qn S189))) H locs := hR.pR hR.w.1 F14_s71 hw9 hP hD hS
  obtain ⟨S195, eS195⟩ : ∃ z, z = wR S193 0 71 (some (qn S189)) := ⟨_, rfl⟩
  rw [← eS195] at hR
  replace h := h S195 eS195
  have hsh : shx S S195 := by rw [eS195]; exact hsh
  have hlg : lg S S195 (0 + 1 + 1 + 1 + 1 + 1 + 1 + 1 + 1 + 1 + 1 + 1 + 1 + 1 + 1 + 1 + 1 + 1 + 1 + 1 + 1 + 1 + 1 + 1 + 1 + 1 + 1 + 1 + 1 + 1 + 1 + 1 + 1) (0 + 12 + 16000 + 6 + 502 + 502 + 502 + 502 + 502 + 48 + 3000 + 3000 + 24 + 24 + 24 + 24 + 24 + 24 + 1201 + 86400 + 40000 + 1536 + 9600 + 57600 + 1200 + 24 + 28 + 115200 + 700 + 700 + 700 + 700 + 700) := by rw [eS195]; exact hlg
  refine lv_aload_n hx hb dX14_init_296 rfl (lv_at hl 0 rfl) ?_
  refine lv_sipush (v := 700) hx hb dX14_init_297 (by decide) ?_
  obtain ⟨hv196, h⟩ := h
  have e9 : KC = 300000 := rfl
  have e8 : KS = 3720000 := rfl
  have e7 : TXB = 10000000 := rfl
  have hTX : qn S195 < TXB := by have := hv196.1; omega
  refine va_newq (C := "java/lang/String") (N' := 700) hx hb hown (hts _ kx_1225) (ao_of (by exact ao_java_lang_String) hex) hR.K hR.P hR.D hR.sS hA (by decide) (by decide) (by have := hv196.2; omega) (show 0 + 1 + 1 + 1 + 1 + 1 + 1 + 1 + 1 + 1 + 1 + 1 + 1 + 1 + 1 + 1 + 1 + 1 + 1 + 1 + 1 + 1 + 1 + 1 + 1 + 1 + 1 + 1 + 1 + 1 + 1 + 1 + 1 + 1 ≤ KC - qn S from hlg.c1 hv196.1) (show 0 + 12 + 16000 + 6 + 502 + 502 + 502 + 502 + 502 + 48 + 3000 + 3000 + 24 + 24 + 24 + 24 + 24 + 24 + 1201 + 86400 + 40000 + 1536 + 9600 + 57600 + 1200 + 24 + 28 + 115200 + 700 + 700 + 700 + 700 + 700 + 700 ≤ KS - qu S from hlg.s1 hv196.2) dX14_init_300 (fun q197 cA9 H hK9 hP hD hS => ?_)
  obtain rfl := cls_newR2 hR.K hK9 (k := 4) rfl
  have hw8 := hR.w
  have hR := hR.new (t := 5) (n := 700) (k := 700) hTX (by decide) (fun q9 => absurd q9 (by decide)) wN_cS hP hD hS
  have hk8 : adk am192 (adx am192 (qn S195) q197) S195 := adk.rf.new (Nat.le_refl _) hTX
  have hak := hak.new (q := q197) hlg.2.2.1 hTX
  have hE := hE.ad hk8
  have hlg : lg S (wN S195 5 700 700) (0 + 1 + 1 + 1 + 1 + 1 + 1 + 1 + 1 + 1 + 1 + 1 + 1 + 1 + 1 + 1 + 1 + 1 + 1 + 1 + 1 + 1 + 1 + 1 + 1 + 1 + 1 + 1 + 1 + 1 + 1 + 1 + 1 + 1) (0 + 12 + 16000 + 6 + 502 + 502 + 502 + 502 + 502 + 48 + 3000 + 3000 + 24 + 24 + 24 + 24 + 24 + 24 + 1201 + 86400 + 40000 + 1536 + 9600 + 57600 + 1200 + 24 + 28 + 115200 + 700 + 700 + 700 + 700 + 700 + 700) := hlg.new (t := 5) (n := 700) ⟨hv196.1, hv196.2⟩
  have hs8 : shx S195 (wN S195 5 700 700) := shx.newZ (t := 5) (n := 700) (k := 700) shx.rf hw8 hTX
  obtain ⟨am198, eam198⟩ : ∃ z, z = adx am192 (qn S195) q197 := ⟨_, rfl⟩
  have eq_q197 : am198 (qn S195) = q197 := by rw [eam198]; exact if_pos rfl
  rw [← eam198] at hR hk8 hak hE
  obtain ⟨S199, eS199⟩ : ∃ z, z = wN S195 5 700 700 := ⟨_, rfl⟩
  rw [← eS199] at hR hlg hs8
  replace h := h S199 eS199
  have hsh := hsh.tr hs8
  have hT_b200 : qT S199 (qn S195) = 5 := by rw [eS199]; exact if_pos rfl
  have ea_0 : am198 0 = am192 0 := hk8 _ (hw8.hd hw8.1 (by decide) (by decide))
  have hl : lv_has ls 1 [(0, .ref (am198 0))] := by simp only [ea_0]; exact hl
  refine W.eq (g2 := F0 m 303 ls [.ref (am198 (qn S195)), .ref (am198 0)]) (by simp only [ea_0, eq_q197]) ?_
  clear hw8 hk8 hs8 hP hD hS e9 e8 e7 hTX
  refine va_putF (D := rD g) (ci := 13) (v := .ref (am198 (qn S195))) (ty := (.array (.object "java/lang/String"))) (C := RX14) (T := TX14) (N := 143) hx hb hts in2X14 tyX14 tyX14_ok nmX14 hown hR.K hR.P hR.D hR.sS 0 (hR.at14 hR.w.1) rfl 72 (by decide) (hts _ kx_536) (fun _ h9 => h9) rfl hin9 rfl (by decide +kernel) rfl rfl (Nat.le_of_ble_eq_true rfl) dX14_init_303 (fun H locs hP hD hS => ?_)
  have hw9 : wfMZ (wR S199 0 72 (some (qn S195))) := hR.w.put (fun b q9 => by cases q9; exact (hT_b200).trans (by rw [hR.w.1]; rfl)) (fun _ _ h9 => absurd h9 List.not_mem_nil) (by rw [hR.w.1]; decide)
  have hR : RepZ g am198 A s (wR S199 0 72 (some (qn S195))) H locs := hR.pR hR.w.1 F14_s72 hw9 hP hD hS
  obtain ⟨S201, eS201⟩ : ∃ z, z = wR S199 0 72 (some (qn S195)) := ⟨_, rfl⟩
  rw [← eS201] at hR
  replace h := h S201 eS201
  have hsh : shx S S201 := by rw [eS201]; exact hsh
  have hlg : lg S S201 (0 + 1 + 1 + 1 + 1 + 1 + 1 + 1 + 1 + 1 + 1 + 1 + 1 + 1 + 1 + 1 + 1 + 1 + 1 + 1 + 1 + 1 + 1 + 1 + 1 + 1 + 1 + 1 + 1 + 1 + 1 + 1 + 1 + 1) (0 + 12 + 16000 + 6 + 502 + 502 + 502 + 502 + 502 + 48 + 3000 + 3000 + 24 + 24 + 24 + 24 + 24 + 24 + 1201 + 86400 + 40000 + 1536 + 9600 + 57600 + 1200 + 24 + 28 + 115200 + 700 + 700 + 700 + 700 + 700 + 700) := by rw [eS201]; exact hlg
  refine lv_aload_n hx hb dX14_init_306 rfl (lv_at hl 0 rfl) ?_
  refine lv_ldc hx hb hown (hts _ kx_1226) dX14_init_307 ?_
  obtain ⟨hv202, h⟩ := h
  have e9 : KC = 300000 := rfl
  have e8 : KS = 3720000 := rfl
  have e7 : TXB = 10000000 := rfl
  have hTX : qn S201 < TXB := by have := hv202.1; omega
  refine va_newa (atype := .byte) (ty := .byte) (a0 := (131072, .inl (fun _ => 0))) (N' := 131072) hx hb (hts (.arrayClass .byte) kx_48) rfl hR.K hR.P hR.D hR.sS hA (fun _ => rfl) (by decide) (by decide) (by show 131072 * 1 ≤ 536870912; have := hv202.2; omega) (show 0 + 1 + 1 + 1 + 1 + 1 + 1 + 1 + 1 + 1 + 1 + 1 + 1 + 1 + 1 + 1 + 1 + 1 + 1 + 1 + 1 + 1 + 1 + 1 + 1 + 1 + 1 + 1 + 1 + 1 + 1 + 1 + 1 + 1 + 1 ≤ KC - qn S from hlg.c1 hv202.1) (show 0 + 12 + 16000 + 6 + 502 + 502 + 502 + 502 + 502 + 48 + 3000 + 3000 + 24 + 24 + 24 + 24 + 24 + 24 + 1201 + 86400 + 40000 + 1536 + 9600 + 57600 + 1200 + 24 + 28 + 115200 + 700 + 700 + 700 + 700 + 700 + 700 + 131072 ≤ KS - qu S from hlg.s1 hv202.2) dX14_init_309 (fun q203 cA9 H hK9 hP hD hS => ?_)
  obtain rfl := cls_new2 hR.K hK9 (k := 0) rfl (fun _ h => by cases h)
  have hw8 := hR.w
  have hR := hR.new (t := 1) (n := 131072) (k := 131072) hTX (by decide) (fun q9 => absurd q9 (by decide)) wN_cB hP hD hS
  have hk8 : adk am198 (adx am198 (qn S201) q203) S201 := adk.rf.new (Nat.le_refl _) hTX
  have hak := hak.new (q := q203) hlg.2.2.1 hTX
  have hE := hE.ad hk8
  have hlg : lg S (wN S201 1 131072 131072) (0 + 1 + 1 + 1 + 1 + 1 + 1 + 1 + 1 + 1 + 1 + 1 + 1 + 1 + 1 + 1 + 1 + 1 + 1 + 1 + 1 + 1 + 1 + 1 + 1 + 1 + 1 + 1 + 1 + 1 + 1 + 1 + 1 + 1 + 1) (0 + 12 + 16000 + 6 + 502 + 502 + 502 + 502 + 502 + 48 + 3000 + 3000 + 24 + 24 + 24 + 24 + 24 + 24 + 1201 + 86400 + 40000 + 1536 + 9600 + 57600 + 1200 + 24 + 28 + 115200 + 700 + 700 + 700 + 700 + 700 + 700 + 131072) := hlg.new (t := 1) (n := 131072) ⟨hv202.1, hv202.2⟩
  have hs8 : shx S201 (wN S201 1 131072 131072) := shx.newZ (t := 1) (n := 131072) (k := 131072) shx.rf hw8 hTX
  obtain ⟨am204, eam204⟩ : ∃ z, z = adx am198 (qn S201) q203 := ⟨_, rfl⟩
  have eq_q203 : am204 (qn S201) = q203 := by rw [eam204]; exact if_pos rfl
  rw [← eam204] at hR hk8 hak hE
  obtain ⟨S205, eS205⟩ : ∃ z, z = wN S201 1 131072 131072 := ⟨_, rfl⟩
  rw [← eS205] at hR hlg hs8
  replace h := h S205 eS205
  have hsh := hsh.tr hs8
  have hT_b206 : qT S205 (qn S201) = 1 := by rw [eS205]; exact if_pos rfl
  have ea_0 : am204 0 = am198 0 := hk8 _ (hw8.hd hw8.1 (by decide) (by decide))
  have hl : lv_has ls 1 [(0, .ref (am204 0))] := by simp only [ea_0]; exact hl
  refine W.eq (g2 := F0 m 311 ls [.ref (am204 (qn S201)), .ref (am204 0)]) (by simp only [ea_0, eq_q203]) ?_
  clear hw8 hk8 hs8 hP hD hS e9 e8 e7 hTX
  refine va_put (D := rD g) (ci := 13) (v := .ref (am204 (qn S201))) (ty := (.array .byte)) (C := RX14) (T := TX14) (N := 143) hx hb hts in2X14 tyX14 tyX14_ok nmX14 hown hR.K hR.P hR.D hR.sS 0 (hR.at14 hR.w.1) rfl 75 (by decide) (hts _ kx_579) (fun _ h9 => h9) rfl (by decide +kernel) rfl rfl (Nat.le_of_ble_eq_true rfl) dX14_init_311 (fun H locs hP hD hS => ?_)
  have hw9 : wfMZ (wR S205 0 75 (some (qn S201))) := hR.w.put (fun b q9 => by cases q9; exact (hT_b206).trans (by rw [hR.w.1]; rfl)) (fun _ _ h9 => absurd h9 List.not_mem_nil) (by rw [hR.w.1]; decide)
  have hR : RepZ g am204 A s (wR S205 0 75 (some (qn S201))) H locs := hR.pR hR.w.1 F14_s75 hw9 hP hD hS
  obtain ⟨S207, eS207⟩ : ∃ z, z = wR S205 0 75 (some (qn S201)) := ⟨_, rfl⟩
  rw [← eS207] at hR
  replace h := h S207 eS207
  have hsh : shx S S207 := by rw [eS207]; exact hsh
  have hlg : lg S S207 (0 + 1 + 1 + 1 + 1 + 1 + 1 + 1 + 1 + 1 + 1 + 1 + 1 + 1 + 1 + 1 + 1 + 1 + 1 + 1 + 1 + 1 + 1 + 1 + 1 + 1 + 1 + 1 + 1 + 1 + 1 + 1 + 1 + 1 + 1) (0 + 12 + 16000 + 6 + 502 + 502 + 502 + 502 + 502 + 48 + 3000 + 3000 + 24 + 24 + 24 + 24 + 24 + 24 + 1201 + 86400 + 40000 + 1536 + 9600 + 57600 + 1200 + 24 + 28 + 115200 + 700 + 700 + 700 + 700 + 700 + 700 + 131072) := by rw [eS207]; exact hlg
  refine lv_aload_n hx hb dX14_init_314 rfl (lv_at hl 0 rfl) ?_
  refine lv_ldc hx hb hown (hts _ kx_1226) dX14_init_315 ?_
  obtain ⟨hv208, h⟩ := h
  have e9 : KC = 300000 := rfl
  have e8 : KS = 3720000 := rfl
  have e7 : TXB = 10000000 := rfl
  have hTX : qn S207 < TXB := by have := hv208.1; omega
  refine va_newa (atype := .byte) (ty := .byte) (a0 := (131072, .inl (fun _ => 0))) (N' := 131072) hx hb (hts (.arrayClass .byte) kx_48) rfl hR.K hR.P hR.D hR.sS hA (fun _ => rfl) (by decide) (by decide) (by show 131072 * 1 ≤ 536870912; have := hv208.2; omega) (show 0 + 1 + 1 + 1 + 1 + 1 + 1 + 1 + 1 + 1 + 1 + 1 + 1 + 1 + 1 + 1 + 1 + 1 + 1 + 1 + 1 + 1 + 1 + 1 + 1 + 1 + 1 + 1 + 1 + 1 + 1 + 1 + 1 + 1 + 1 + 1 ≤ KC - qn S from hlg.c1 hv208.1) (show 0 + 12 + 16000 + 6 + 502 + 502 + 502 + 502 + 502 + 48 + 3000 + 3000 + 24 + 24 + 24 + 24 + 24 + 24 + 1201 + 86400 + 40000 + 1536 + 9600 + 57600 + 1200 + 24 + 28 + 115200 + 700 + 700 + 700 + 700 + 700 + 700 + 131072 + 131072 ≤ KS - qu S from hlg.s1 hv208.2) dX14_init_317 (fun q209 cA9 H hK9 hP hD hS => ?_)
  obtain rfl := cls_new2 hR.K hK9 (k := 0) rfl (fun _ h => by cases h)
  have hw8 := hR.w
  have hR := hR.new (t := 1) (n := 131072) (k := 131072) hTX (by decide) (fun q9 => absurd q9 (by decide)) wN_cB hP hD hS
  have hk8 : adk am204 (adx am204 (qn S207) q209) S207 := adk.rf.new (Nat.le_refl _) hTX
  have hak := hak.new (q := q209) hlg.2.2.1 hTX
  have hE := hE.ad hk8
  have hlg : lg S (wN S207 1 131072 131072) (0 + 1 + 1 + 1 + 1 + 1 + 1 + 1 + 1 + 1 + 1 + 1 + 1 + 1 + 1 + 1 + 1 + 1 + 1 + 1 + 1 + 1 + 1 + 1 + 1 + 1 + 1 + 1 + 1 + 1 + 1 + 1 + 1 + 1 + 1 + 1) (0 + 12 + 16000 + 6 + 502 + 502 + 502 + 502 + 502 + 48 + 3000 + 3000 + 24 + 24 + 24 + 24 + 24 + 24 + 1201 + 86400 + 40000 + 1536 + 9600 + 57600 + 1200 + 24 + 28 + 115200 + 700 + 700 + 700 + 700 + 700 + 700 + 131072 + 131072) := hlg.new (t := 1) (n := 131072) ⟨hv208.1, hv208.2⟩
  have hs8 : shx S207 (wN S207 1 131072 131072) := shx.newZ (t := 1) (n := 131072) (k := 131072) shx.rf hw8 hTX
  obtain ⟨am210, eam210⟩ : ∃ z, z = adx am204 (qn S207) q209 := ⟨_, rfl⟩
  have eq_q209 : am210 (qn S207) = q209 := by rw [eam210]; exact if_pos rfl
  rw [← eam210] at hR hk8 hak hE
  obtain ⟨S211, eS211⟩ : ∃ z, z = wN S207 1 131072 131072 := ⟨_, rfl⟩
  rw [← eS211] at hR hlg hs8
  replace h := h S211 eS211
  have hsh := hsh.tr hs8
  have hT_b212 : qT S211 (qn S207) = 1 := by rw [eS211]; exact if_pos rfl
  have ea_0 : am210 0 = am204 0 := hk8 _ (hw8.hd hw8.1 (by decide) (by decide))
  have hl : lv_has ls 1 [(0, .ref (am210 0))] := by simp only [ea_0]; exact hl
  refine W.eq (g2 := F0 m 319 ls [.ref (am210 (qn S207)), .ref (am210 0)]) (by simp only [ea_0, eq_q209]) ?_
  clear hw8 hk8 hs8 hP hD hS e9 e8 e7 hTX
  refine va_put (D := rD g) (ci := 13) (v := .ref (am210 (qn S207))) (ty := (.array .byte)) (C := RX14) (T := TX14) (N := 143) hx hb hts in2X14 tyX14 tyX14_ok nmX14 hown hR.K hR.P hR.D hR.sS 0 (hR.at14 hR.w.1) rfl 76 (by decide) (hts _ kx_607) (fun _ h9 => h9) rfl (by decide +kernel) rfl rfl (Nat.le_of_ble_eq_true rfl) dX14_init_319 (fun H locs hP hD hS => ?_)
  have hw9 : wfMZ (wR S211 0 76 (some (qn S207))) := hR.w.put (fun b q9 => by cases q9; exact (hT_b212).trans (by rw [hR.w.1]; rfl)) (fun _ _ h9 => absurd h9 List.not_mem_nil) (by rw [hR.w.1]; decide)
  have hR : RepZ g am210 A s (wR S211 0 76 (some (qn S207))) H locs := hR.pR hR.w.1 F14_s76 hw9 hP hD hS
  obtain ⟨S213, eS213⟩ : ∃ z, z = wR S211 0 76 (some (qn S207)) := ⟨_, rfl⟩
  rw [← eS213] at hR
  replace h := h S213 eS213
  have hsh : shx S S213 := by rw [eS213]; exact hsh
  have hlg : lg S S213 (0 + 1 + 1 + 1 + 1 + 1 + 1 + 1 + 1 + 1 + 1 + 1 + 1 + 1 + 1 + 1 + 1 + 1 + 1 + 1 + 1 + 1 + 1 + 1 + 1 + 1 + 1 + 1 + 1 + 1 + 1 + 1 + 1 + 1 + 1 + 1) (0 + 12 + 16000 + 6 + 502 + 502 + 502 + 502 + 502 + 48 + 3000 + 3000 + 24 + 24 + 24 + 24 + 24 + 24 + 1201 + 86400 + 40000 + 1536 + 9600 + 57600 + 1200 + 24 + 28 + 115200 + 700 + 700 + 700 + 700 + 700 + 700 + 131072 + 131072) := by rw [eS213]; exact hlg
  refine lv_aload_n hx hb dX14_init_322 rfl (lv_at hl 0 rfl) ?_
  refine lv_sipush (v := 1297) hx hb dX14_init_323 (by decide) ?_
  obtain ⟨hv214, h⟩ := h
  have e9 : KC = 300000 := rfl
  have e8 : KS = 3720000 := rfl
  have e7 : TXB = 10000000 := rfl
  have hTX : qn S213 < TXB := by have := hv214.1; omega
  refine va_newa (atype := .int) (ty := .int) (a0 := (1297, .inl (fun _ => 0))) (N' := 1297) hx hb (hts (.arrayClass .int) kx_346) rfl hR.K hR.P hR.D hR.sS hA (fun _ => rfl) (by decide) (by decide) (by show 1297 * 4 ≤ 536870912; have := hv214.2; omega) (show 0 + 1 + 1 + 1 + 1 + 1 + 1 + 1 + 1 + 1 + 1 + 1 + 1 + 1 + 1 + 1 + 1 + 1 + 1 + 1 + 1 + 1 + 1 + 1 + 1 + 1 + 1 + 1 + 1 + 1 + 1 + 1 + 1 + 1 + 1 + 1 + 1 ≤ KC - qn S from hlg.c1 hv214.1) (show 0 + 12 + 16000 + 6 + 502 + 502 + 502 + 502 + 502 + 48 + 3000 + 3000 + 24 + 24 + 24 + 24 + 24 + 24 + 1201 + 86400 + 40000 + 1536 + 9600 + 57600 + 1200 + 24 + 28 + 115200 + 700 + 700 + 700 + 700 + 700 + 700 + 131072 + 131072 + 1297 ≤ KS - qu S from hlg.s1 hv214.2) dX14_init_326 (fun q215 cA9 H hK9 hP hD hS => ?_)
  obtain rfl := cls_new2 hR.K hK9 (k := 1) rfl (fun _ h => by cases h)
  have hw8 := hR.w
  have hR := hR.new (t := 2) (n := 1297) (k := 1297) hTX (by decide) (fun q9 => absurd q9 (by decide)) wN_cI hP hD hS
  have hk8 : adk am210 (adx am210 (qn S213) q215) S213 := adk.rf.new (Nat.le_refl _) hTX
  have hak := hak.new (q := q215) hlg.2.2.1 hTX
  have hE := hE.ad hk8
  have hlg : lg S (wN S213 2 1297 1297) (0 + 1 + 1 + 1 + 1 + 1 + 1 + 1 + 1 + 1 + 1 + 1 + 1 + 1 + 1 + 1 + 1 + 1 + 1 + 1 + 1 + 1 + 1 + 1 + 1 + 1 + 1 + 1 + 1 + 1 + 1 + 1 + 1 + 1 + 1 + 1 + 1) (0 + 12 + 16000 + 6 + 502 + 502 + 502 + 502 + 502 + 48 + 3000 + 3000 + 24 + 24 + 24 + 24 + 24 + 24 + 1201 + 86400 + 40000 + 1536 + 9600 + 57600 + 1200 + 24 + 28 + 115200 + 700 + 700 + 700 + 700 + 700 + 700 + 131072 + 131072 + 1297) := hlg.new (t := 2) (n := 1297) ⟨hv214.1, hv214.2⟩
  have hs8 : shx S213 (wN S213 2 1297 1297) := shx.newZ (t := 2) (n := 1297) (k := 1297) shx.rf hw8 hTX
  obtain ⟨am216, eam216⟩ : ∃ z, z = adx am210 (qn S213) q215 := ⟨_, rfl⟩
  have eq_q215 : am216 (qn S213) = q215 := by rw [eam216]; exact if_pos rfl
  rw [← eam216] at hR hk8 hak hE
  obtain ⟨S217, eS217⟩ : ∃ z, z = wN S213 2 1297 1297 := ⟨_, rfl⟩
  rw [← eS217] at hR hlg hs8
  replace h := h S217 eS217
  have hsh := hsh.tr hs8
  have hT_b218 : qT S217 (qn S213) = 2 := by rw [eS217]; exact if_pos rfl
  have ea_0 : am216 0 = am210 0 := hk8 _ (hw8.hd hw8.1 (by decide) (by decide))
  have hl : lv_has ls 1 [(0, .ref (am216 0))] := by simp only [ea_0]; exact hl
  refine W.eq (g2 := F0 m 328 ls [.ref (am216 (qn S213)), .ref (am216 0)]) (by simp only [ea_0, eq_q215]) ?_
  clear hw8 hk8 hs8 hP hD hS e9 e8 e7 hTX
  refine va_putF (D := rD g) (ci := 13) (v := .ref (am216 (qn S213))) (ty := (.array .int)) (C := RX14) (T := TX14) (N := 143) hx hb hts in2X14 tyX14 tyX14_ok nmX14 hown hR.K hR.P hR.D hR.sS 0 (hR.at14 hR.w.1) rfl 79 (by decide) (hts _ kx_584) (fun _ h9 => h9) rfl hin9 rfl (by decide +kernel) rfl rfl (Nat.le_of_ble_eq_true rfl) dX14_init_328 (fun H locs hP hD hS => ?_)
  have hw9 : wfMZ (wR S217 0 79 (some (qn S213))) := hR.w.put (fun b q9 => by cases q9; exact (hT_b218).trans (by rw [hR.w.1]; rfl)) (fun _ _ h9 => absurd h9 List.not_mem_nil) (by rw [hR.w.1]; decide)
  have hR : RepZ g am216 A s (wR S217 0 79 (some (qn S213))) H locs := hR.pR hR.w.1 F14_s79 hw9 hP hD hS
  obtain ⟨S219, eS219⟩ : ∃ z, z = wR S217 0 79 (some (qn S213)) := ⟨_, rfl⟩
  rw [← eS219] at hR
  replace h := h S219 eS219
  have hsh : shx S S219 := by rw [eS219]; exact hsh
  have hlg : lg S S219 (0 + 1 + 1 + 1 + 1 + 1 + 1 + 1 + 1 + 1 + 1 + 1 + 1 + 1 + 1 + 1 + 1 + 1 + 1 + 1 + 1 + 1 + 1 + 1 + 1 + 1 + 1 + 1 + 1 + 1 + 1 + 1 + 1 + 1 + 1 + 1 + 1) (0 + 12 + 16000 + 6 + 502 + 502 + 502 + 502 + 502 + 48 + 3000 + 3000 + 24 + 24 + 24 + 24 + 24 + 24 + 1201 + 86400 + 40000 + 1536 + 9600 + 57600 + 1200 + 24 + 28 + 115200 + 700 + 700 + 700 + 700 + 700 + 700 + 131072 + 131072 + 1297) := by rw [eS219]; exact hlg
  refine lv_aload_n hx hb dX14_init_331 rfl (lv_at hl 0 rfl) ?_
  refine lv_bipush (v := 24) hx hb dX14_init_332 (by decide) ?_
  obtain ⟨hv220, h⟩ := h
  have e9 : KC = 300000 := rfl
  have e8 : KS = 3720000 := rfl
  have e7 : TXB = 10000000 := rfl
  have hTX : qn S219 < TXB := by have := hv220.1; omega
  refine va_newa (atype := .long) (ty := .long) (a0 := (24, .inr (.inl (fun _ => 0)))) (N' := 24) hx hb (hts (.arrayClass .long) kx_1219) rfl hR.K hR.P hR.D hR.sS hA (fun _ => rfl) (by decide) (by decide) (by show 24 * 8 ≤ 536870912; have := hv220.2; omega) (show 0 + 1 + 1 + 1 + 1 + 1 + 1 + 1 + 1 + 1 + 1 + 1 + 1 + 1 + 1 + 1 + 1 + 1 + 1 + 1 + 1 + 1 + 1 + 1 + 1 + 1 + 1 + 1 + 1 + 1 + 1 + 1 + 1 + 1 + 1 + 1 + 1 + 1 ≤ KC - qn S from hlg.c1 hv220.1) (show 0 + 12 + 16000 + 6 + 502 + 502 + 502 + 502 + 502 + 48 + 3000 + 3000 + 24 + 24 + 24 + 24 + 24 + 24 + 1201 + 86400 + 40000 + 1536 + 9600 + 57600 + 1200 + 24 + 28 + 115200 + 700 + 700 + 700 + 700 + 700 + 700 + 131072 + 131072 + 1297 + 24 ≤ KS - qu S from hlg.s1 hv220.2) dX14_init_334 (fun q221 cA9 H hK9 hP hD hS => ?_)
  obtain rfl := cls_new2 hR.K hK9 (k := 3) rfl (fun _ h => by cases h)
  have hw8 := hR.w
  have hR := hR.new (t := 4) (n := 24) (k := 24) hTX (by decide) (fun q9 => absurd q9 (by decide)) wN_cL hP hD hS
  have hk8 : adk am216 (adx am216 (qn S219) q221) S219 := adk.rf.new (Nat.le_refl _) hTX
  have hak := hak.new (q := q221) hlg.2.2.1 hTX
  have hE := hE.ad hk8
  have hlg : lg S (wN S219 4 24 24) (0 + 1 + 1 + 1 + 1 + 1 + 1 + 1 + 1 + 1 + 1 + 1 + 1 + 1 + 1 + 1 + 1 + 1 + 1 + 1 + 1 + 1 + 1 + 1 + 1 + 1 + 1 + 1 + 1 + 1 + 1 + 1 + 1 + 1 + 1 + 1 + 1 + 1) (0 + 12 + 16000 + 6 + 502 + 502 + 502 + 502 + 502 + 48 + 3000 + 3000 + 24 + 24 + 24 + 24 + 24 + 24 + 1201 + 86400 + 40000 + 1536 + 9600 + 57600 + 1200 + 24 + 28 + 115200 + 700 + 700 + 700 + 700 + 700 + 700 + 131072 + 131072 + 1297 + 24) := hlg.new (t := 4) (n := 24) ⟨hv220.1, hv220.2⟩
  have hs8 : shx S219 (wN S219 4 24 24) := shx.newZ (t := 4) (n := 24) (k := 24) shx.rf hw8 hTX
  obtain ⟨am222, eam222⟩ : ∃ z, z = adx am216 (qn S219) q221 := ⟨_, rfl⟩
  have eq_q221 : am222 (qn S219) = q221 := by rw [eam222]; exact if_pos rfl
  rw [← eam222] at hR hk8 hak hE
  obtain ⟨S223, eS223⟩ : ∃ z, z = wN S219 4 24 24 := ⟨_, rfl⟩
  rw [← eS223] at hR hlg hs8
  replace h := h S223 eS223
  have hsh := hsh.tr hs8
  have hT_b224 : qT S223 (qn S219) = 4 := by rw [eS223]; exact if_pos rfl
  have ea_0 : am222 0 = am216 0 := hk8 _ (hw8.hd hw8.1 (by decide) (by decide))
  have hl : lv_has ls 1 [(0, .ref (am222 0))] := by simp only [ea_0]; exact hl
  refine W.eq (g2 := F0 m 336 ls [.ref (am222 (qn S219)), .ref (am222 0)]) (by simp only [ea_0, eq_q221]) ?_
  clear hw8 hk8 hs8 hP hD hS e9 e8 e7 hTX
  refine va_putF (D := rD g) (ci := 13) (v := .ref (am222 (qn S219))) (ty := (.array .long)) (C := RX14) (T := TX14) (N := 143) hx hb hts in2X14 tyX14 tyX14_ok nmX14 hown hR.K hR.P hR.D hR.sS 0 (hR.at14 hR.w.1) rfl 81 (by decide) (hts _ kx_612) (fun _ h9 => h9) rfl hin9 rfl (by decide +kernel) rfl rfl (Nat.le_of_ble_eq_true rfl) dX14_init_336 (fun H locs hP hD hS => ?_)
  have hw9 : wfMZ (wR S223 0 81 (some (qn S219))) := hR.w.put (fun b q9 => by cases q9; exact (hT_b224).trans (by rw [hR.w.1]; rfl)) (fun _ _ h9 => absurd h9 List.not_mem_nil) (by rw [hR.w.1]; decide)
  have hR : RepZ g am222 A s (wR S223 0 81 (some (qn S219))) H locs := hR.pR hR.w.1 F14_s81 hw9 hP hD hS
  obtain ⟨S225, eS225⟩ : ∃ z, z = wR S223 0 81 (some (qn S219)) := ⟨_, rfl⟩
  rw [← eS225] at hR
  replace h := h S225 eS225
  have hsh : shx S S225 := by rw [eS225]; exact hsh
  have hlg : lg S S225 (0 + 1 + 1 + 1 + 1 + 1 + 1 + 1 + 1 + 1 + 1 + 1 + 1 + 1 + 1 + 1 + 1 + 1 + 1 + 1 + 1 + 1 + 1 + 1 + 1 + 1 + 1 + 1 + 1 + 1 + 1 + 1 + 1 + 1 + 1 + 1 + 1 + 1) (0 + 12 + 16000 + 6 + 502 + 502 + 502 + 502 + 502 + 48 + 3000 + 3000 + 24 + 24 + 24 + 24 + 24 + 24 + 1201 + 86400 + 40000 + 1536 + 9600 + 57600 + 1200 + 24 + 28 + 115200 + 700 + 700 + 700 + 700 + 700 + 700 + 131072 + 131072 + 1297 + 24) := by rw [eS225]; exact hlg
  refine lv_aload_n hx hb dX14_init_339 rfl (lv_at hl 0 rfl) ?_
  refine lv_sipush (v := 20000) hx hb dX14_init_340 (by decide) ?_
  obtain ⟨hv226, h⟩ := h
  have e9 : KC = 300000 := rfl
  have e8 : KS = 3720000 := rfl
  have e7 : TXB = 10000000 := rfl
  have hTX : qn S225 < TXB := by have := hv226.1; omega
  refine va_newa (atype := .int) (ty := .int) (a0 := (20000, .inl (fun _ => 0))) (N' := 20000) hx hb (hts (.arrayClass .int) kx_346) rfl hR.K hR.P hR.D hR.sS hA (fun _ => rfl) (by decide) (by decide) (by show 20000 * 4 ≤ 536870912; have := hv226.2; omega) (show 0 + 1 + 1 + 1 + 1 + 1 + 1 + 1 + 1 + 1 + 1 + 1 + 1 + 1 + 1 + 1 + 1 + 1 + 1 + 1 + 1 + 1 + 1 + 1 + 1 + 1 + 1 + 1 + 1 + 1 + 1 + 1 + 1 + 1 + 1 + 1 + 1 + 1 + 1 ≤ KC - qn S from hlg.c1 hv226.1) (show 0 + 12 + 16000 + 6 + 502 + 502 + 502 + 502 + 502 + 48 + 3000 + 3000 + 24 + 24 + 24 + 24 + 24 + 24 + 1201 + 86400 + 40000 + 1536 + 9600 + 57600 + 1200 + 24 + 28 + 115200 + 700 + 700 + 700 + 700 + 700 + 700 + 131072 + 131072 + 1297 + 24 + 20000 ≤ KS - qu S from hlg.s1 hv226.2) dX14_init_343 (fun q227 cA9 H hK9 hP hD hS => ?_)
  obtain rfl := cls_new2 hR.K hK9 (k := 1) rfl (fun _ h => by cases h)
  have hw8 := hR.w
  have hR := hR.new (t := 2) (n := 20000) (k := 20000) hTX (by decide) (fun q9 => absurd q9 (by decide)) wN_cI hP hD hS
  have hk8 : adk am222 (adx am222 (qn S225) q227) S225 := adk.rf.new (Nat.le_refl _) hTX
  have hak := hak.new (q := q227) hlg.2.2.1 hTX
  have hE := hE.ad hk8
  have hlg : lg S (wN S225 2 20000 20000) (0 + 1 + 1 + 1 + 1 + 1 + 1 + 1 + 1 + 1 + 1 + 1 + 1 + 1 + 1 + 1 + 1 + 1 + 1 + 1 + 1 + 1 + 1 + 1 + 1 + 1 + 1 + 1 + 1 + 1 + 1 + 1 + 1 + 1 + 1 + 1 + 1 + 1 + 1) (0 + 12 + 16000 + 6 + 502 + 502 + 502 + 502 + 502 + 48 + 3000 + 3000 + 24 + 24 + 24 + 24 + 24 + 24 + 1201 + 86400 + 40000 + 1536 + 9600 + 57600 + 1200 + 24 + 28 + 115200 + 700 + 700 + 700 + 700 + 700 + 700 + 131072 + 131072 + 1297 + 24 + 20000) := hlg.new (t := 2) (n := 20000) ⟨hv226.1, hv226.2⟩
  have hs8 : shx S225 (wN S225 2 20000 20000) := shx.newZ (t := 2) (n := 20000) (k := 20000) shx.rf hw8 hTX
  obtain ⟨am228, eam228⟩ : ∃ z, z = adx am222 (qn S225) q227 := ⟨_, rfl⟩
  have eq_q227 : am228 (qn S225) = q227 := by rw [eam228]; exact if_pos rfl
  rw [← eam228] at hR hk8 hak hE
  obtain ⟨S229, eS229⟩ : ∃ z, z = wN S225 2 20000 20000 := ⟨_, rfl⟩
  rw [← eS229] at hR hlg hs8
  replace h := h S229 eS229
  have hsh := hsh.tr hs8
  have hT_b230 : qT S229 (qn S225) = 2 := by rw [eS229]; exact if_pos rfl
  have ea_0 : am228 0 = am222 0 := hk8 _ (hw8.hd hw8.1 (by decide) (by decide))
  have hl : lv_has ls 1 [(0, .ref (am228 0))] := by simp only [ea_0]; exact hl
  refine W.eq (g2 := F0 m 345 ls [.ref (am228 (qn S225)), .ref (am228 0)]) (by simp only [ea_0, eq_q227]) ?_
  clear hw8 hk8 hs8 hP hD hS e9 e8 e7 hTX
  refine va_putF (D := rD g) (ci := 13) (v := .ref (am228 (qn S225))) (ty := (.array .int)) (C := RX14) (T := TX14) (N := 143) hx hb hts in2X14 tyX14 tyX14_ok nmX14 hown hR.K hR.P hR.D hR.sS 0 (hR.at14 hR.w.1) rfl 82 (by decide) (hts _ kx_611) (fun _ h9 => h9) rfl hin9 rfl (by decide +kernel) rfl rfl (Nat.le_of_ble_eq_true rfl) dX14_init_345 (fun H locs hP hD hS => ?_)
  have hw9 : wfMZ (wR S229 0 82 (some (qn S225))) := hR.w.put (fun b q9 => by cases q9; exact (hT_b230).trans (by rw [hR.w.1]; rfl)) (fun _ _ h9 => absurd h9 List.not_mem_nil) (by rw [hR.w.1]; decide)
  have hR : RepZ g am228 A s (wR S229 0 82 (some (qn S225))) H locs := hR.pR hR.w.1 F14_s82 hw9 hP hD hS
  obtain ⟨S231, eS231⟩ : ∃ z, z = wR S229 0 82 (some (qn S225)) := ⟨_, rfl⟩
  rw [← eS231] at hR
  replace h := h S231 eS231
  have hsh : shx S S231 := by rw [eS231]; exact hsh
  have hlg : lg S S231 (0 + 1 + 1 + 1 + 1 + 1 + 1 + 1 + 1 + 1 + 1 + 1 + 1 + 1 + 1 + 1 + 1 + 1 + 1 + 1 + 1 + 1 + 1 + 1 + 1 + 1 + 1 + 1 + 1 + 1 + 1 + 1 + 1 + 1 + 1 + 1 + 1 + 1 + 1) (0 + 12 + 16000 + 6 + 502 + 502 + 502 + 502 + 502 + 48 + 3000 + 3000 + 24 + 24 + 24 + 24 + 24 + 24 + 1201 + 86400 + 40000 + 1536 + 9600 + 57600 + 1200 + 24 + 28 + 115200 + 700 + 700 + 700 + 700 + 700 + 700 + 131072 + 131072 + 1297 + 24 + 20000) := by rw [eS231]; exact hlg
  refine lv_aload_n hx hb dX14_init_348 rfl (lv_at hl 0 rfl) ?_
  refine lv_sipush (v := 401) hx hb dX14_init_349 (by decide) ?_
  obtain ⟨hv232, h⟩ := h
  have e9 : KC = 300000 := rfl
  have e8 : KS = 3720000 := rfl
  have e7 : TXB = 10000000 := rfl
  have hTX : qn S231 < TXB := by have := hv232.1; omega
  refine va_newa (atype := .int) (ty := .int) (a0 := (401, .inl (fun _ => 0))) (N' := 401) hx hb (hts (.arrayClass .int) kx_346) rfl hR.K hR.P hR.D hR.sS hA (fun _ => rfl) (by decide) (by decide) (by show 401 * 4 ≤ 536870912; have := hv232.2; omega) (show 0 + 1 + 1 + 1 + 1 + 1 + 1 + 1 + 1 + 1 + 1 + 1 + 1 + 1 + 1 + 1 + 1 + 1 + 1 + 1 + 1 + 1 + 1 + 1 + 1 + 1 + 1 + 1 + 1 + 1 + 1 + 1 + 1 + 1 + 1 + 1 + 1 + 1 + 1 + 1 ≤ KC - qn S from hlg.c1 hv232.1) (show 0 + 12 + 16000 + 6 + 502 + 502 + 502 + 502 + 502 + 48 + 3000 + 3000 + 24 + 24 + 24 + 24 + 24 + 24 + 1201 + 86400 + 40000 + 1536 + 9600 + 57600 + 1200 + 24 + 28 + 115200 + 700 + 700 + 700 + 700 + 700 + 700 + 131072 + 131072 + 1297 + 24 + 20000 + 401 ≤ KS - qu S from hlg.s1 hv232.2) dX14_init_352 (fun q233 cA9 H hK9 hP hD hS => ?_)
  obtain rfl := cls_new2 hR.K hK9 (k := 1) rfl (fun _ h => by cases h)
  have hw8 := hR.w
  have hR := hR.new (t := 2) (n := 401) (k := 401) hTX (by decide) (fun q9 => absurd q9 (by decide)) wN_cI hP hD hS
  have hk8 : adk am228 (adx am228 (qn S231) q233) S231 := adk.rf.new (Nat.le_refl _) hTX
  have hak := hak.new (q := q233) hlg.2.2.1 hTX
  have hE := hE.ad hk8
  have hlg : lg S (wN S231 2 401 401) (0 + 1 + 1 + 1 + 1 + 1 + 1 + 1 + 1 + 1 + 1 + 1 + 1 + 1 + 1 + 1 + 1 + 1 + 1 + 1 + 1 + 1 + 1 + 1 + 1 + 1 + 1 + 1 + 1 + 1 + 1 + 1 + 1 + 1 + 1 + 1 + 1 + 1 + 1 + 1) (0 + 12 + 16000 + 6 + 502 + 502 + 502 + 502 + 502 + 48 + 3000 + 3000 + 24 + 24 + 24 + 24 + 24 + 24 + 1201 + 86400 + 40000 + 1536 + 9600 + 57600 + 1200 + 24 + 28 + 115200 + 700 + 700 + 700 + 700 + 700 + 700 + 131072 + 131072 + 1297 + 24 + 20000 + 401) := hlg.new (t := 2) (n := 401) ⟨hv232.1, hv232.2⟩
  have hs8 : shx S231 (wN S231 2 401 401) := shx.newZ (t := 2) (n := 401) (k := 401) shx.rf hw8 hTX
  obtain ⟨am234, eam234⟩ : ∃ z, z = adx am228 (qn S231) q233 := ⟨_, rfl⟩
  have eq_q233 : am234 (qn S231) = q233 := by rw [eam234]; exact if_pos rfl
  rw [← eam234] at hR hk8 hak hE
  obtain ⟨S235, eS235⟩ : ∃ z, z = wN S231 2 401 401 := ⟨_, rfl⟩
  rw [← eS235] at hR hlg hs8
  replace h := h S235 eS235
  have hsh := hsh.tr hs8
  have hT_b236 : qT S235 (qn S231) = 2 := by rw [eS235]; exact if_pos rfl
  have ea_0 : am234 0 = am228 0 := hk8 _ (hw8.hd hw8.1 (by decide) (by decide))
  have hl : lv_has ls 1 [(0, .ref (am234 0))] := by simp only [ea_0]; exact hl
  refine W.eq (g2 := F0 m 354 ls [.ref (am234 (qn S231)), .ref (am234 0)]) (by simp only [ea_0, eq_q233]) ?_
  clear hw8 hk8 hs8 hP hD hS e9 e8 e7 hTX
  refine va_putF (D := rD g) (ci := 13) (v := .ref (am234 (qn S231))) (ty := (.array .int)) (C := RX14) (T := TX14) (N := 143) hx hb hts in2X14 tyX14 tyX14_ok nmX14 hown hR.K hR.P hR.D hR.sS 0 (hR.at14 hR.w.1) rfl 83 (by decide) (hts _ kx_667) (fun _ h9 => h9) rfl hin9 rfl (by decide +kernel) rfl rfl (Nat.le_of_ble_eq_true rfl) dX14_init_354 (fun H locs hP hD hS => ?_)
  have hw9 : wfMZ (wR S235 0 83 (some (qn S231))) := hR.w.put (fun b q9 => by cases q9; exact (hT_b236).trans (by rw [hR.w.1]; rfl)) (fun _ _ h9 => absurd h9 List.not_mem_nil) (by rw [hR.w.1]; decide)
  have hR : RepZ g am234 A s (wR S235 0 83 (some (qn S231))) H locs := hR.pR hR.w.1 F14_s83 hw9 hP hD hS
  obtain ⟨S237, eS237⟩ : ∃ z, z = wR S235 0 83 (some (qn S231)) := ⟨_, rfl⟩
  rw [← eS237] at hR
  replace h := h S237 eS237
  have hsh : shx S S237 := by rw [eS237]; exact hsh
  have hlg : lg S S237 (0 + 1 + 1 + 1 + 1 + 1 + 1 + 1 + 1 + 1 + 1 + 1 + 1 + 1 + 1 + 1 + 1 + 1 + 1 + 1 + 1 + 1 + 1 + 1 + 1 + 1 + 1 + 1 + 1 + 1 + 1 + 1 + 1 + 1 + 1 + 1 + 1 + 1 + 1 + 1) (0 + 12 + 16000 + 6 + 502 + 502 + 502 + 502 + 502 + 48 + 3000 + 3000 + 24 + 24 + 24 + 24 + 24 + 24 + 1201 + 86400 + 40000 + 1536 + 9600 + 57600 + 1200 + 24 + 28 + 115200 + 700 + 700 + 700 + 700 + 700 + 700 + 131072 + 131072 + 1297 + 24 + 20000 + 401) := by rw [eS237]; exact hlg
  refine lv_aload_n hx hb dX14_init_357 rfl (lv_at hl 0 rfl) ?_
  refine lv_sipush (v := 401) hx hb dX14_init_358 (by decide) ?_
  obtain ⟨hv238, h⟩ := h
  have e9 : KC = 300000 := rfl
  have e8 : KS = 3720000 := rfl
  have e7 : TXB = 10000000 := rfl
  have hTX : qn S237 < TXB := by have := hv238.1; omega
  refine va_newa (atype := .int) (ty := .int) (a0 := (401, .inl (fun _ => 0))) (N' := 401) hx hb (hts (.arrayClass .int) kx_346) rfl hR.K hR.P hR.D hR.sS hA (fun _ => rfl) (by decide) (by decide) (by show 401 * 4 ≤ 536870912; have := hv238.2; omega) (show 0 + 1 + 1 + 1 + 1 + 1 + 1 + 1 + 1 + 1 + 1 + 1 + 1 + 1 + 1 + 1 + 1 + 1 + 1 + 1 + 1 + 1 + 1 + 1 + 1 + 1 + 1 + 1 + 1 + 1 + 1 + 1 + 1 + 1 + 1 + 1 + 1 + 1 + 1 + 1 + 1 ≤ KC - qn S from hlg.c1 hv238.1) (show 0 + 12 + 16000 + 6 + 502 + 502 + 502 + 502 + 502 + 48 + 3000 + 3000 + 24 + 24 + 24 + 24 + 24 + 24 + 1201 + 86400 + 40000 + 1536 + 9600 + 57600 + 1200 + 24 + 28 + 115200 + 700 + 700 + 700 + 700 + 700 + 700 + 131072 + 131072 + 1297 + 24 + 20000 + 401 + 401 ≤ KS - qu S from hlg.s1 hv238.2) dX14_init_361 (fun q239 cA9 H hK9 hP hD hS => ?_)
  obtain rfl := cls_new2 hR.K hK9 (k := 1) rfl (fun _ h => by cases h)
  have hw8 := hR.w
  have hR := hR.new (t := 2) (n := 401) (k := 401) hTX (by decide) (fun q9 => absurd q9 (by decide)) wN_cI hP hD hS
  have hk8 : adk am234 (adx am234 (qn S237) q239) S237 := adk.rf.new (Nat.le_refl _) hTX
  have hak := hak.new (q := q239) hlg.2.2.1 hTX
  have hE := hE.ad hk8
  have hlg : lg S (wN S237 2 401 401) (0 + 1 + 1 + 1 + 1 + 1 + 1 + 1 + 1 + 1 + 1 + 1 + 1 + 1 + 1 + 1 + 1 + 1 + 1 + 1 + 1 + 1 + 1 + 1 + 1 + 1 + 1 + 1 + 1 + 1 + 1 + 1 + 1 + 1 + 1 + 1 + 1 + 1 + 1 + 1 + 1) (0 + 12 + 16000 + 6 + 502 + 502 + 502 + 502 + 502 + 48 + 3000 + 3000 + 24 + 24 + 24 + 24 + 24 + 24 + 1201 + 86400 + 40000 + 1536 + 9600 + 57600 + 1200 + 24 + 28 + 115200 + 700 + 700 + 700 + 700 + 700 + 700 + 131072 + 131072 + 1297 + 24 + 20000 + 401 + 401) := hlg.new (t := 2) (n := 401) ⟨hv238.1, hv238.2⟩
  have hs8 : shx S237 (wN S237 2 401 401) := shx.newZ (t := 2) (n := 401) (k := 401) shx.rf hw8 hTX
  obtain ⟨am240, eam240⟩ : ∃ z, z = adx am234 (qn S237) q239 := ⟨_, rfl⟩
  have eq_q239 : am240 (qn S237) = q239 := by rw [eam240]; exact if_pos rfl
  rw [← eam240] at hR hk8 hak hE
  obtain ⟨S241, eS241⟩ : ∃ z, z = wN S237 2 401 401 := ⟨_, rfl⟩
  rw [← eS241] at hR hlg hs8
  replace h := h S241 eS241
  have hsh := hsh.tr hs8
  have hT_b242 : qT S241 (qn S237) = 2 := by rw [eS241]; exact if_pos rfl
  have ea_0 : am240 0 = am234 0 := hk8 _ (hw8.hd hw8.1 (by decide) (by decide))
  have hl : lv_has ls 1 [(0, .ref (am240 0))] := by simp only [ea_0]; exact hl
  refine W.eq (g2 := F0 m 363 ls [.ref (am240 (qn S237)), .ref (am240 0)]) (by simp only [ea_0, eq_q239]) ?_
  clear hw8 hk8 hs8 hP hD hS e9 e8 e7 hTX
  refine va_putF (D := rD g) (ci := 13) (v := .ref (am240 (qn S237))) (ty := (.array .int)) (C := RX14) (T := TX14) (N := 143) hx hb hts in2X14 tyX14 tyX14_ok nmX14 hown hR.K hR.P hR.D hR.sS 0 (hR.at14 hR.w.1) rfl 84 (by decide) (hts _ kx_668) (fun _ h9 => h9) rfl hin9 rfl (by decide +kernel) rfl rfl (Nat.le_of_ble_eq_true rfl) dX14_init_363 (fun H locs hP hD hS => ?_)
  have hw9 : wfMZ (wR S241 0 84 (some (qn S237))) := hR.w.put (fun b q9 => by cases q9; exact (hT_b242).trans (by rw [hR.w.1]; rfl)) (fun _ _ h9 => absurd h9 List.not_mem_nil) (by rw [hR.w.1]; decide)
  have hR : RepZ g am240 A s (wR S241 0 84 (some (qn S237))) H locs := hR.pR hR.w.1 F14_s84 hw9 hP hD hS
  obtain ⟨S243, eS243⟩ : ∃ z, z = wR S241 0 84 (some (qn S237)) := ⟨_, rfl⟩
  rw [← eS243] at hR
  replace h := h S243 eS243
  have hsh : shx S S243 := by rw [eS243]; exact hsh
  have hlg : lg S S243 (0 + 1 + 1 + 1 + 1 + 1 + 1 + 1 + 1 + 1 + 1 + 1 + 1 + 1 + 1 + 1 + 1 + 1 + 1 + 1 + 1 + 1 + 1 + 1 + 1 + 1 + 1 + 1 + 1 + 1 + 1 + 1 + 1 + 1 + 1 + 1 + 1 + 1 + 1 + 1 + 1) (0 + 12 + 16000 + 6 + 502 + 502 + 502 + 502 + 502 + 48 + 3000 + 3000 + 24 + 24 + 24 + 24 + 24 + 24 + 1201 + 86400 + 40000 + 1536 + 9600 + 57600 + 1200 + 24 + 28 + 115200 + 700 + 700 + 700 + 700 + 700 + 700 + 131072 + 131072 + 1297 + 24 + 20000 + 401 + 401) := by rw [eS243]; exact hlg
  refine lv_aload_n hx hb dX14_init_366 rfl (lv_at hl 0 rfl) ?_
  refine lv_bipush (v := 8) hx hb dX14_init_367 (by decide) ?_
  obtain ⟨hv244, h⟩ := h
  have e9 : KC = 300000 := rfl
  have e8 : KS = 3720000 := rfl
  have e7 : TXB = 10000000 := rfl
  have hTX : qn S243 < TXB := by have := hv244.1; omega
  refine va_newa (atype := .long) (ty := .long) (a0 := (8, .inr (.inl (fun _ => 0)))) (N' := 8) hx hb (hts (.arrayClass .long) kx_1219) rfl hR.K hR.P hR.D hR.sS hA (fun _ => rfl) (by decide) (by decide) (by show 8 * 8 ≤ 536870912; have := hv244.2; omega) (show 0 + 1 + 1 + 1 + 1 + 1 + 1 + 1 + 1 + 1 + 1 + 1 + 1 + 1 + 1 + 1 + 1 + 1 + 1 + 1 + 1 + 1 + 1 + 1 + 1 + 1 + 1 + 1 + 1 + 1 + 1 + 1 + 1 + 1 + 1 + 1 + 1 + 1 + 1 + 1 + 1 + 1 ≤ KC - qn S from hlg.c1 hv244.1) (show 0 + 12 + 16000 + 6 + 502 + 502 + 502 + 502 + 502 + 48 + 3000 + 3000 + 24 + 24 + 24 + 24 + 24 + 24 + 1201 + 86400 + 40000 + 1536 + 9600 + 57600 + 1200 + 24 + 28 + 115200 + 700 + 700 + 700 + 700 + 700 + 700 + 131072 + 131072 + 1297 + 24 + 20000 + 401 + 401 + 8 ≤ KS - qu S from hlg.s1 hv244.2) dX14_init_369 (fun q245 cA9 H hK9 hP hD hS => ?_)
  obtain rfl := cls_new2 hR.K hK9 (k := 3) rfl (fun _ h => by cases h)
  have hw8 := hR.w
  have hR := hR.new (t := 4) (n := 8) (k := 8) hTX (by decide) (fun q9 => absurd q9 (by decide)) wN_cL hP hD hS
  have hk8 : adk am240 (adx am240 (qn S243) q245) S243 := adk.rf.new (Nat.le_refl _) hTX
  have hak := hak.new (q := q245) hlg.2.2.1 hTX
  have hE := hE.ad hk8
  have hlg : lg S (wN S243 4 8 8) (0 + 1 + 1 + 1 + 1 + 1 + 1 + 1 + 1 + 1 + 1 + 1 + 1 + 1 + 1 + 1 + 1 + 1 + 1 + 1 + 1 + 1 + 1 + 1 + 1 + 1 + 1 + 1 + 1 + 1 + 1 + 1 + 1 + 1 + 1 + 1 + 1 + 1 + 1 + 1 + 1 + 1) (0 + 12 + 16000 + 6 + 502 + 502 + 502 + 502 + 502 + 48 + 3000 + 3000 + 24 + 24 + 24 + 24 + 24 + 24 + 1201 + 86400 + 40000 + 1536 + 9600 + 57600 + 1200 + 24 + 28 + 115200 + 700 + 700 + 700 + 700 + 700 + 700 + 131072 + 131072 + 1297 + 24 + 20000 + 401 + 401 + 8) := hlg.new (t := 4) (n := 8) ⟨hv244.1, hv244.2⟩
  have hs8 : shx S243 (wN S243 4 8 8) := shx.newZ (t := 4) (n := 8) (k := 8) shx.rf hw8 hTX
  obtain ⟨am246, eam246⟩ : ∃ z, z = adx am240 (qn S243) q245 := ⟨_, rfl⟩
  have eq_q245 : am246 (qn S243) = q245 := by rw [eam246]; exact if_pos rfl
  rw [← eam246] at hR hk8 hak hE
  obtain ⟨S247, eS247⟩ : ∃ z, z = wN S243 4 8 8 := ⟨_, rfl⟩
  rw [← eS247] at hR hlg hs8
  replace h := h S247 eS247
  have hsh := hsh.tr hs8
  have hT_b248 : qT S247 (qn S243) = 4 := by rw [eS247]; exact if_pos rfl
  have ea_0 : am246 0 = am240 0 := hk8 _ (hw8.hd hw8.1 (by decide) (by decide))
  have hl : lv_has ls 1 [(0, .ref (am246 0))] := by simp only [ea_0]; exact hl
  refine W.eq (g2 := F0 m 371 ls [.ref (am246 (qn S243)), .ref (am246 0)]) (by simp only [ea_0, eq_q245]) ?_
  clear hw8 hk8 hs8 hP hD hS e9 e8 e7 hTX
  refine va_putF (D := rD g) (ci := 13) (v := .ref (am246 (qn S243))) (ty := (.array .long)) (C := RX14) (T := TX14) (N := 143) hx hb hts in2X14 tyX14 tyX14_ok nmX14 hown hR.K hR.P hR.D hR.sS 0 (hR.at14 hR.w.1) rfl 87 (by decide) (hts _ kx_614) (fun _ h9 => h9) rfl hin9 rfl (by decide +kernel) rfl rfl (Nat.le_of_ble_eq_true rfl) dX14_init_371 (fun H locs hP hD hS => ?_)
  have hw9 : wfMZ (wR S247 0 87 (some (qn S243))) := hR.w.put (fun b q9 => by cases q9; exact (hT_b248).trans (by rw [hR.w.1]; rfl)) (fun _ _ h9 => absurd h9 List.not_mem_nil) (by rw [hR.w.1]; decide)
  have hR : RepZ g am246 A s (wR S247 0 87 (some (qn S243))) H locs := hR.pR hR.w.1 F14_s87 hw9 hP hD hS
  obtain ⟨S249, eS249⟩ : ∃ z, z = wR S247 0 87 (some (qn S243)) := ⟨_, rfl⟩
  rw [← eS249] at hR
  replace h := h S249 eS249
  have hsh : shx S S249 := by rw [eS249]; exact hsh
  have hlg : lg S S249 (0 + 1 + 1 + 1 + 1 + 1 + 1 + 1 + 1 + 1 + 1 + 1 + 1 + 1 + 1 + 1 + 1 + 1 + 1 + 1 + 1 + 1 + 1 + 1 + 1 + 1 + 1 + 1 + 1 + 1 + 1 + 1 + 1 + 1 + 1 + 1 + 1 + 1 + 1 + 1 + 1 + 1) (0 + 12 + 16000 + 6 + 502 + 502 + 502 + 502 + 502 + 48 + 3000 + 3000 + 24 + 24 + 24 + 24 + 24 + 24 + 1201 + 86400 + 40000 + 1536 + 9600 + 57600 + 1200 + 24 + 28 + 115200 + 700 + 700 + 700 + 700 + 700 + 700 + 131072 + 131072 + 1297 + 24 + 20000 + 401 + 401 + 8) := by rw [eS249]; exact hlg
  refine lv_aload_n hx hb dX14_init_374 rfl (lv_at hl 0 rfl) ?_
  refine lv_bipush (v := 60) hx hb dX14_init_375 (by decide) ?_
  obtain ⟨hv250, h⟩ := h
  have e9 : KC = 300000 := rfl
  have e8 : KS = 3720000 := rfl
  have e7 : TXB = 10000000 := rfl
  have hTX : qn S249 < TXB := by have := hv250.1; omega
  refine va_newa (atype := .int) (ty := .int) (a0 := (60, .inl (fun _ => 0))) (N' := 60) hx hb (hts (.arrayClass .int) kx_346) rfl hR.K hR.P hR.D hR.sS hA (fun _ => rfl) (by decide) (by decide) (by show 60 * 4 ≤ 536870912; have := hv250.2; omega) (show 0 + 1 + 1 + 1 + 1 + 1 + 1 + 1 + 1 + 1 + 1 + 1 + 1 + 1 + 1 + 1 + 1 + 1 + 1 + 1 + 1 + 1 + 1 + 1 + 1 + 1 + 1 + 1 + 1 + 1 + 1 + 1 + 1 + 1 + 1 + 1 + 1 + 1 + 1 + 1 + 1 + 1 + 1 ≤ KC - qn S from hlg.c1 hv250.1) (show 0 + 12 + 16000 + 6 + 502 + 502 + 502 + 502 + 502 + 48 + 3000 + 3000 + 24 + 24 + 24 + 24 + 24 + 24 + 1201 + 86400 + 40000 + 1536 + 9600 + 57600 + 1200 + 24 + 28 + 115200 + 700 + 700 + 700 + 700 + 700 + 700 + 131072 + 131072 + 1297 + 24 + 20000 + 401 + 401 + 8 + 60 ≤ KS - qu S from hlg.s1 hv250.2) dX14_init_377 (fun q251 cA9 H hK9 hP hD hS => ?_)
  obtain rfl := cls_new2 hR.K hK9 (k := 1) rfl (fun _ h => by cases h)
  have hw8 := hR.w
  have hR := hR.new (t := 2) (n := 60) (k := 60) hTX (by decide) (fun q9 => absurd q9 (by decide)) wN_cI hP hD hS
  have hk8 : adk am246 (adx am246 (qn S249) q251) S249 := adk.rf.new (Nat.le_refl _) hTX
  have hak := hak.new (q := q251) hlg.2.2.1 hTX
  have hE := hE.ad hk8
  have hlg : lg S (wN S249 2 60 60) (0 + 1 + 1 + 1 + 1 + 1 + 1 + 1 + 1 + 1 + 1 + 1 + 1 + 1 + 1 + 1 + 1 + 1 + 1 + 1 + 1 + 1 + 1 + 1 + 1 + 1 + 1 + 1 + 1 + 1 + 1 + 1 + 1 + 1 + 1 + 1 + 1 + 1 + 1 + 1 + 1 + 1 + 1) (0 + 12 + 16000 + 6 + 502 + 502 + 502 + 502 + 502 + 48 + 3000 + 3000 + 24 + 24 + 24 + 24 + 24 + 24 + 1201 + 86400 + 40000 + 1536 + 9600 + 57600 + 1200 + 24 + 28 + 115200 + 700 + 700 + 700 + 700 + 700 + 700 + 131072 + 131072 + 1297 + 24 + 20000 + 401 + 401 + 8 + 60) := hlg.new (t := 2) (n := 60) ⟨hv250.1, hv250.2⟩
  have hs8 : shx S249 (wN S249 2 60 60) := shx.newZ (t := 2) (n := 60) (k := 60) shx.rf hw8 hTX
  obtain ⟨am252, eam252⟩ : ∃ z, z = adx am246 (qn S249) q251 := ⟨_, rfl⟩
  have eq_q251 : am252 (qn S249) = q251 := by rw [eam252]; exact if_pos rfl
  rw [← eam252] at hR hk8 hak hE
  obtain ⟨S253, eS253⟩ : ∃ z, z = wN S249 2 60 60 := ⟨_, rfl⟩
  rw [← eS253] at hR hlg hs8
  replace h := h S253 eS253
  have hsh := hsh.tr hs8
  have hT_b254 : qT S253 (qn S249) = 2 := by rw [eS253]; exact if_pos rfl
  have ea_0 : am252 0 = am246 0 := hk8 _ (hw8.hd hw8.1 (by decide) (by decide))
  have hl : lv_has ls 1 [(0, .ref (am252 0))] := by simp only [ea_0]; exact hl
  refine W.eq (g2 := F0 m 379 ls [.ref (am252 (qn S249)), .ref (am252 0)]) (by simp only [ea_0, eq_q251]) ?_
  clear hw8 hk8 hs8 hP hD hS e9 e8 e7 hTX
  refine va_putF (D := rD g) (ci := 13) (v := .ref (am252 (qn S249))) (ty := (.array .int)) (C := RX14) (T := TX14) (N := 143) hx hb hts in2X14 tyX14 tyX14_ok nmX14 hown hR.K hR.P hR.D hR.sS 0 (hR.at14 hR.w.1) rfl 89 (by decide) (hts _ kx_621) (fun _ h9 => h9) rfl hin9 rfl (by decide +kernel) rfl rfl (Nat.le_of_ble_eq_true rfl) dX14_init_379 (fun H locs hP hD hS => ?_)
  have hw9 : wfMZ (wR S253 0 89 (some (qn S249))) := hR.w.put (fun b q9 => by cases q9; exact (hT_b254).trans (by rw [hR.w.1]; rfl)) (fun _ _ h9 => absurd h9 List.not_mem_nil) (by rw [hR.w.1]; decide)
  have hR : RepZ g am252 A s (wR S253 0 89 (some (qn S249))) H locs := hR.pR hR.w.1 F14_s89 hw9 hP hD hS
  obtain ⟨S255, eS255⟩ : ∃ z, z = wR S253 0 89 (some (qn S249)) := ⟨_, rfl⟩
  rw [← eS255] at hR
  replace h := h S255 eS255
  have hsh : shx S S255 := by rw [eS255]; exact hsh
  have hlg : lg S S255 (0 + 1 + 1 + 1 + 1 + 1 + 1 + 1 + 1 + 1 + 1 + 1 + 1 + 1 + 1 + 1 + 1 + 1 + 1 + 1 + 1 + 1 + 1 + 1 + 1 + 1 + 1 + 1 + 1 + 1 + 1 + 1 + 1 + 1 + 1 + 1 + 1 + 1 + 1 + 1 + 1 + 1 + 1) (0 + 12 + 16000 + 6 + 502 + 502 + 502 + 502 + 502 + 48 + 3000 + 3000 + 24 + 24 + 24 + 24 + 24 + 24 + 1201 + 86400 + 40000 + 1536 + 9600 + 57600 + 1200 + 24 + 28 + 115200 + 700 + 700 + 700 + 700 + 700 + 700 + 131072 + 131072 + 1297 + 24 + 20000 + 401 + 401 + 8 + 60) := by rw [eS255]; exact hlg
  refine lv_aload_n hx hb dX14_init_382 rfl (lv_at hl 0 rfl) ?_
  refine lv_bipush (v := 60) hx hb dX14_init_383 (by decide) ?_
  obtain ⟨hv256, h⟩ := h
  have e9 : KC = 300000 := rfl
  have e8 : KS = 3720000 := rfl
  have e7 : TXB = 10000000 := rfl
  have hTX : qn S255 < TXB := by have := hv256.1; omega
  refine va_newa (atype := .int) (ty := .int) (a0 := (60, .inl (fun _ => 0))) (N' := 60) hx hb (hts (.arrayClass .int) kx_346) rfl hR.K hR.P hR.D hR.sS hA (fun _ => rfl) (by decide) (by decide) (by show 60 * 4 ≤ 536870912; have := hv256.2; omega) (show 0 + 1 + 1 + 1 + 1 + 1 + 1 + 1 + 1 + 1 + 1 + 1 + 1 + 1 + 1 + 1 + 1 + 1 + 1 + 1 + 1 + 1 + 1 + 1 + 1 + 1 + 1 + 1 + 1 + 1 + 1 + 1 + 1 + 1 + 1 + 1 + 1 + 1 + 1 + 1 + 1 + 1 + 1 + 1 ≤ KC - qn S from hlg.c1 hv256.1) (show 0 + 12 + 16000 + 6 + 502 + 502 + 502 + 502 + 502 + 48 + 3000 + 3000 + 24 + 24 + 24 + 24 + 24 + 24 + 1201 + 86400 + 40000 + 1536 + 9600 + 57600 + 1200 + 24 + 28 + 115200 + 700 + 700 + 700 + 700 + 700 + 700 + 131072 + 131072 + 1297 + 24 + 20000 + 401 + 401 + 8 + 60 + 60 ≤ KS - qu S from hlg.s1 hv256.2) dX14_init_385 (fun q257 cA9 H hK9 hP hD hS => ?_)
  obtain rfl := cls_new2 hR.K hK9 (k := 1) rfl (fun _ h => by cases h)
  have hw8 := hR.w
  have hR := hR.new (t := 2) (n := 60) (k := 60) hTX (by decide) (fun q9 => absurd q9 (by decide)) wN_cI hP hD hS
  have hk8 : adk am252 (adx am252 (qn S255) q257) S255 := adk.rf.new (Nat.le_refl _) hTX
  have hak := hak.new (q := q257) hlg.2.2.1 hTX
  have hE := hE.ad hk8
  have hlg : lg S (wN S255 2 60 60) (0 + 1 + 1 + 1 + 1 + 1 + 1 + 1 + 1 + 1 + 1 + 1 + 1 + 1 + 1 + 1 + 1 + 1 + 1 + 1 + 1 + 1 + 1 + 1 + 1 + 1 + 1 + 1 + 1 + 1 + 1 + 1 + 1 + 1 + 1 + 1 + 1 + 1 + 1 + 1 + 1 + 1 + 1 + 1) (0 + 12 + 16000 + 6 + 502 + 502 + 502 + 502 + 502 + 48 + 3000 + 3000 + 24 + 24 + 24 + 24 + 24 + 24 + 1201 + 86400 + 40000 + 1536 + 9600 + 57600 + 1200 + 24 + 28 + 115200 + 700 + 700 + 700 + 700 + 700 + 700 + 131072 + 131072 + 1297 + 24 + 20000 + 401 + 401 + 8 + 60 + 60) := hlg.new (t := 2) (n := 60) ⟨hv256.1, hv256.2⟩
  have hs8 : shx S255 (wN S255 2 60 60) := shx.newZ (t := 2) (n := 60) (k := 60) shx.rf hw8 hTX
  obtain ⟨am258, eam258⟩ : ∃ z, z = adx am252 (qn S255) q257 := ⟨_, rfl⟩
  have eq_q257 : am258 (qn S255) = q257 := by rw [eam258]; exact if_pos rfl
  rw [← eam258] at hR hk8 hak hE
  obtain ⟨S259, eS259⟩ : ∃ z, z = wN S255 2 60 60 := ⟨_, rfl⟩
  rw [← eS259] at hR hlg hs8
  replace h := h S259 eS259
  have hsh := hsh.tr hs8
  have hT_b260 : qT S259 (qn S255) = 2 := by rw [eS259]; exact if_pos rfl
  have ea_0 : am258 0 = am252 0 := hk8 _ (hw8.hd hw8.1 (by decide) (by decide))
  have hl : lv_has ls 1 [(0, .ref (am258 0))] := by simp only [ea_0]; exact hl
  refine W.eq (g2 := F0 m 387 ls [.ref (am258 (qn S255)), .ref (am258 0)]) (by simp only [ea_0, eq_q257]) ?_
  clear hw8 hk8 hs8 hP hD hS e9 e8 e7 hTX
  refine va_putF (D := rD g) (ci := 13) (v := .ref (am258 (qn S255))) (ty := (.array .int)) (C := RX14) (T := TX14) (N := 143) hx hb hts in2X14 tyX14 tyX14_ok nmX14 hown hR.K hR.P hR.D hR.sS 0 (hR.at14 hR.w.1) rfl 90 (by decide) (hts _ kx_622) (fun _ h9 => h9) rfl hin9 rfl (by decide +kernel) rfl rfl (Nat.le_of_ble_eq_true rfl) dX14_init_387 (fun H locs hP hD hS => ?_)
  have hw9 : wfMZ (wR S259 0 90 (some (qn S255))) := hR.w.put (fun b q9 => by cases q9; exact (hT_b260).trans (by rw [hR.w.1]; rfl)) (fun _ _ h9 => absurd h9 List.not_mem_nil) (by rw [hR.w.1]; decide)
  have hR : RepZ g am258 A s (wR S259 0 90 (some (qn S255))) H locs := hR.pR hR.w.1 F14_s90 hw9 hP hD hS
  obtain ⟨S261, eS261⟩ : ∃ z, z = wR S259 0 90 (some (qn S255)) := ⟨_, rfl⟩
  rw [← eS261] at hR
  replace h := h S261 eS261
  have hsh : shx S S261 := by rw [eS261]; exact hsh
  have hlg : lg S S261 (0 + 1 + 1 + 1 + 1 + 1 + 1 + 1 + 1 + 1 + 1 + 1 + 1 + 1 + 1 + 1 + 1 + 1 + 1 + 1 + 1 + 1 + 1 + 1 + 1 + 1 + 1 + 1 + 1 + 1 + 1 + 1 + 1 + 1 + 1 + 1 + 1 + 1 + 1 + 1 + 1 + 1 + 1 + 1) (0 + 12 + 16000 + 6 + 502 + 502 + 502 + 502 + 502 + 48 + 3000 + 3000 + 24 + 24 + 24 + 24 + 24 + 24 + 1201 + 86400 + 40000 + 1536 + 9600 + 57600 + 1200 + 24 + 28 + 115200 + 700 + 700 + 700 + 700 + 700 + 700 + 131072 + 131072 + 1297 + 24 + 20000 + 401 + 401 + 8 + 60 + 60) := by rw [eS261]; exact hlg
  refine lv_aload_n hx hb dX14_init_390 rfl (lv_at hl 0 rfl) ?_
  refine lv_bipush (v := 60) hx hb dX14_init_391 (by decide) ?_
  obtain ⟨hv262, h⟩ := h
  have e9 : KC = 300000 := rfl
  have e8 : KS = 3720000 := rfl
  have e7 : TXB = 10000000 := rfl
  have hTX : qn S261 < TXB := by have := hv262.1; omega
  refine va_newa (atype := .int) (ty := .int) (a0 := (60, .inl (fun _ => 0))) (N' := 60) hx hb (hts (.arrayClass .int) kx_346) rfl hR.K hR.P hR.D hR.sS hA (fun _ => rfl) (by decide) (by decide) (by show 60 * 4 ≤ 536870912; have := hv262.2; omega) (show 0 + 1 + 1 + 1 + 1 + 1 + 1 + 1 + 1 + 1 + 1 + 1 + 1 + 1 + 1 + 1 + 1 + 1 + 1 + 1 + 1 + 1 + 1 + 1 + 1 + 1 + 1 + 1 + 1 + 1 + 1 + 1 + 1 + 1 + 1 + 1 + 1 + 1 + 1 + 1 + 1 + 1 + 1 + 1 + 1 ≤ KC - qn S from hlg.c1 hv262.1) (show 0 + 12 + 16000 + 6 + 502 + 502 + 502 + 502 + 502 + 48 + 3000 + 3000 + 24 + 24 + 24 + 24 + 24 + 24 + 1201 + 86400 + 40000 + 1536 + 9600 + 57600 + 1200 + 24 + 28 + 115200 + 700 + 700 + 700 + 700 + 700 + 700 + 131072 + 131072 + 1297 + 24 + 20000 + 401 + 401 + 8 + 60 + 60 + 60 ≤ KS - qu S from hlg.s1 hv262.2) dX14_init_393 (fun q263 cA9 H hK9 hP hD hS => ?_)
  obtain rfl := cls_new2 hR.K hK9 (k := 1) rfl (fun _ h => by cases h)
  have hw8 := hR.w
  have hR := hR.new (t := 2) (n := 60) (k := 60) hTX (by decide) (fun q9 => absurd q9 (by decide)) wN_cI hP hD hS
  have hk8 : adk am258 (adx am258 (qn S261) q263) S261 := adk.rf.new (Nat.le_refl _) hTX
  have hak := hak.new (q := q263) hlg.2.2.1 hTX
  have hE := hE.ad hk8
  have hlg : lg S (wN S261 2 60 60) (0 + 1 + 1 + 1 + 1 + 1 + 1 + 1 + 1 + 1 + 1 + 1 + 1 + 1 + 1 + 1 + 1 + 1 + 1 + 1 + 1 + 1 + 1 + 1 + 1 + 1 + 1 + 1 + 1 + 1 + 1 + 1 + 1 + 1 + 1 + 1 + 1 + 1 + 1 + 1 + 1 + 1 + 1 + 1 + 1) (0 + 12 + 16000 + 6 + 502 + 502 + 502 + 502 + 502 + 48 + 3000 + 3000 + 24 + 24 + 24 + 24 + 24 + 24 + 1201 + 86400 + 40000 + 1536 + 9600 + 57600 + 1200 + 24 + 28 + 115200 + 700 + 700 + 700 + 700 + 700 + 700 + 131072 + 131072 + 1297 + 24 + 20000 + 401 + 401 + 8 + 60 + 60 + 60) := hlg.new (t := 2) (n := 60) ⟨hv262.1, hv262.2⟩
  have hs8 : shx S261 (wN S261 2 60 60) := shx.newZ (t := 2) (n := 60) (k := 60) shx.rf hw8 hTX
  obtain ⟨am264, eam264⟩ : ∃ z, z = adx am258 (qn S261) q263 := ⟨_, rfl⟩
  have eq_q263 : am264 (qn S261) = q263 := by rw [eam264]; exact if_pos rfl
  rw [← eam264] at hR hk8 hak hE
  obtain ⟨S265, eS265⟩ : ∃ z, z = wN S261 2 60 60 := ⟨_, rfl⟩
  rw [← eS265] at hR hlg hs8
  replace h := h S265 eS265
  have hsh := hsh.tr hs8
  have hT_b266 : qT S265 (qn S261) = 2 := by rw [eS265]; exact if_pos rfl
  have ea_0 : am264 0 = am258 0 := hk8 _ (hw8.hd hw8.1 (by decide) (by decide))
  have hl : lv_has ls 1 [(0, .ref (am264 0))] := by simp only [ea_0]; exact hl
  refine W.eq (g2 := F0 m 395 ls [.ref (am264 (qn S261)), .ref (am264 0)]) (by simp only [ea_0, eq_q263]) ?_
  clear hw8 hk8 hs8 hP hD hS e9 e8 e7 hTX
  refine va_putF (D := rD g) (ci := 13) (v := .ref (am264 (qn S261))) (ty := (.array .int)) (C := RX14) (T := TX14) (N := 143) hx hb hts in2X14 tyX14 tyX14_ok nmX14 hown hR.K hR.P hR.D hR.sS 0 (hR.at14 hR.w.1) rfl 91 (by decide) (hts _ kx_623) (fun _ h9 => h9) rfl hin9 rfl (by decide +kernel) rfl rfl (Nat.le_of_ble_eq_true rfl) dX14_init_395 (fun H locs hP hD hS => ?_)
  have hw9 : wfMZ (wR S265 0 91 (some (qn S261))) := hR.w.put (fun b q9 => by cases q9; exact (hT_b266).trans (by rw [hR.w.1]; rfl)) (fun _ _ h9 => absurd h9 List.not_mem_nil) (by rw [hR.w.1]; decide)
  have hR : RepZ g am264 A s (wR S265 0 91 (some (qn S261))) H locs := hR.pR hR.w.1 F14_s91 hw9 hP hD hS
  obtain ⟨S267, eS267⟩ : ∃ z, z = wR S265 0 91 (some (qn S261)) := ⟨_, rfl⟩
  rw [← eS267] at hR
  replace h := h S267 eS267
  have hsh : shx S S267 := by rw [eS267]; exact hsh
  have hlg : lg S S267 (0 + 1 + 1 + 1 + 1 + 1 + 1 + 1 + 1 + 1 + 1 + 1 + 1 + 1 + 1 + 1 + 1 + 1 + 1 + 1 + 1 + 1 + 1 + 1 + 1 + 1 + 1 + 1 + 1 + 1 + 1 + 1 + 1 + 1 + 1 + 1 + 1 + 1 + 1 + 1 + 1 + 1 + 1 + 1 + 1) (0 + 12 + 16000 + 6 + 502 + 502 + 502 + 502 + 502 + 48 + 3000 + 3000 + 24 + 24 + 24 + 24 + 24 + 24 + 1201 + 86400 + 40000 + 1536 + 9600 + 57600 + 1200 + 24 + 28 + 115200 + 700 + 700 + 700 + 700 + 700 + 700 + 131072 + 131072 + 1297 + 24 + 20000 + 401 + 401 + 8 + 60 + 60 + 60) := by rw [eS267]; exact hlg
  refine lv_aload_n hx hb dX14_init_398 rfl (lv_at hl 0 rfl) ?_
  refine lv_sipush (v := 1440) hx hb dX14_init_399 (by decide) ?_
  obtain ⟨hv268, h⟩ := h
  have e9 : KC = 300000 := rfl
  have e8 : KS = 3720000 := rfl
  have e7 : TXB = 10000000 := rfl
  have hTX : qn S267 < TXB := by have := hv268.1; omega
  refine va_newa (atype := .long) (ty := .long) (a0 := (1440, .inr (.inl (fun _ => 0)))) (N' := 1440) hx hb (hts (.arrayClass .long) kx_1219) rfl hR.K hR.P hR.D hR.sS hA (fun _ => rfl) (by decide) (by decide) (by show 1440 * 8 ≤ 536870912; have := hv268.2; omega) (show 0 + 1 + 1 + 1 + 1 + 1 + 1 + 1 + 1 + 1 + 1 + 1 + 1 + 1 + 1 + 1 + 1 + 1 + 1 + 1 + 1 + 1 + 1 + 1 + 1 + 1 + 1 + 1 + 1 + 1 + 1 + 1 + 1 + 1 + 1 + 1 + 1 + 1 + 1 + 1 + 1 + 1 + 1 + 1 + 1 + 1 ≤ KC - qn S from hlg.c1 hv268.1) (show 0 + 12 + 16000 + 6 + 502 + 502 + 502 + 502 + 502 + 48 + 3000 + 3000 + 24 + 24 + 24 + 24 + 24 + 24 + 1201 + 86400 + 40000 + 1536 + 9600 + 57600 + 1200 + 24 + 28 + 115200 + 700 + 700 + 700 + 700 + 700 + 700 + 131072 + 131072 + 1297 + 24 + 20000 + 401 + 401 + 8 + 60 + 60 + 60 + 1440 ≤ KS - qu S from hlg.s1 hv268.2) dX14_init_402 (fun q269 cA9 H hK9 hP hD hS => ?_)
  obtain rfl := cls_new2 hR.K hK9 (k := 3) rfl (fun _ h => by cases h)
  have hw8 := hR.w
  have hR := hR.new (t := 4) (n := 1440) (k := 1440) hTX (by decide) (fun q9 => absurd q9 (by decide)) wN_cL hP hD hS
  have hk8 : adk am264 (adx am264 (qn S267) q269) S267 := adk.rf.new (Nat.le_refl _) hTX
  have hak := hak.new (q := q269) hlg.2.2.1 hTX
  have hE := hE.ad hk8
  have hlg : lg S (wN S267 4 1440 1440) (0 + 1 + 1 + 1 + 1 + 1 + 1 + 1 + 1 + 1 + 1 + 1 + 1 + 1 + 1 + 1 + 1 + 1 + 1 + 1 + 1 + 1 + 1 + 1 + 1 + 1 + 1 + 1 + 1 + 1 + 1 + 1 + 1 + 1 + 1 + 1 + 1 + 1 + 1 + 1 + 1 + 1 + 1 + 1 + 1 + 1) (0 + 12 + 16000 + 6 + 502 + 502 + 502 + 502 + 502 + 48 + 3000 + 3000 + 24 + 24 + 24 + 24 + 24 + 24 + 1201 + 86400 + 40000 + 1536 + 9600 + 57600 + 1200 + 24 + 28 + 115200 + 700 + 700 + 700 + 700 + 700 + 700 + 131072 + 131072 + 1297 + 24 + 20000 + 401 + 401 + 8 + 60 + 60 + 60 + 1440) := hlg.new (t := 4) (n := 1440) ⟨hv268.1, hv268.2⟩
  have hs8 : shx S267 (wN S267 4 1440 1440) := shx.newZ (t := 4) (n := 1440) (k := 1440) shx.rf hw8 hTX
  obtain ⟨am270, eam270⟩ : ∃ z, z = adx am264 (qn S267) q269 := ⟨_, rfl⟩
  have eq_q269 : am270 (qn S267) = q269 := by rw [eam270]; exact if_pos rfl
  rw [← eam270] at hR hk8 hak hE
  obtain ⟨S271, eS271⟩ : ∃ z, z = wN S267 4 1440 1440 := ⟨_, rfl⟩
  rw [← eS271] at hR hlg hs8
  replace h := h S271 eS271
  have hsh := hsh.tr hs8
  have hT_b272 : qT S271 (qn S267) = 4 := by rw [eS271]; exact if_pos rfl
  have ea_0 : am270 0 = am264 0 := hk8 _ (hw8.hd hw8.1 (by decide) (by decide))
  have hl : lv_has ls 1 [(0, .ref (am270 0))] := by simp only [ea_0]; exact hl
  refine W.eq (g2 := F0 m 404 ls [.ref (am270 (qn S267)), .ref (am270 0)]) (by simp only [ea_0, eq_q269]) ?_
  clear hw8 hk8 hs8 hP hD hS e9 e8 e7 hTX
  refine va_putF (D := rD g) (ci := 13) (v := .ref (am270 (qn S267))) (ty := (.array .long)) (C := RX14) (T := TX14) (N := 143) hx hb hts in2X14 tyX14 tyX14_ok nmX14 hown hR.K hR.P hR.D hR.sS 0 (hR.at14 hR.w.1) rfl 92 (by decide) (hts _ kx_624) (fun _ h9 => h9) rfl hin9 rfl (by decide +kernel) rfl rfl (Nat.le_of_ble_eq_true rfl) dX14_init_404 (fun H locs hP hD hS => ?_)
  have hw9 : wfMZ (wR S271 0 92 (some (qn S267))) := hR.w.put (fun b q9 => by cases q9; exact (hT_b272).trans (by rw [hR.w.1]; rfl)) (fun _ _ h9 => absurd h9 List.not_mem_nil) (by rw [hR.w.1]; decide)
  have hR : RepZ g am270 A s (wR S271 0 92 (some (qn S267))) H locs := hR.pR hR.w.1 F14_s92 hw9 hP hD hS
  obtain ⟨S273, eS273⟩ : ∃ z, z = wR S271 0 92 (some (qn S267)) := ⟨_, rfl⟩
  rw [← eS273] at hR
  replace h := h S273 eS273
  have hsh : shx S S273 := by rw [eS273]; exact hsh
  have hlg : lg S S273 (0 + 1 + 1 + 1 + 1 + 1 + 1 + 1 + 1 + 1 + 1 + 1 + 1 + 1 + 1 + 1 + 1 + 1 + 1 + 1 + 1 + 1 + 1 + 1 + 1 + 1 + 1 + 1 + 1 + 1 + 1 + 1 + 1 + 1 + 1 + 1 + 1 + 1 + 1 + 1 + 1 + 1 + 1 + 1 + 1 + 1) (0 + 12 + 16000 + 6 + 502 + 502 + 502 + 502 + 502 + 48 + 3000 + 3000 + 24 + 24 + 24 + 24 + 24 + 24 + 1201 + 86400 + 40000 + 1536 + 9600 + 57600 + 1200 + 24 + 28 + 115200 + 700 + 700 + 700 + 700 + 700 + 700 + 131072 + 131072 + 1297 + 24 + 20000 + 401 + 401 + 8 + 60 + 60 + 60 + 1440) := by rw [eS273]; exact hlg
  refine lv_aload_n hx hb dX14_init_407 rfl (lv_at hl 0 rfl) ?_
  refine lv_sipush (v := 1440) hx hb dX14_init_408 (by decide) ?_
  obtain ⟨hv274, h⟩ := h
  have e9 : KC = 300000 := rfl
  have e8 : KS = 3720000 := rfl
  have e7 : TXB = 10000000 := rfl
  have hTX : qn S273 < TXB := by have := hv274.1; omega
  refine va_newa (atype := .long) (ty := .long) (a0 := (1440, .inr (.inl (fun _ => 0)))) (N' := 1440) hx hb (hts (.arrayClass .long) kx_1219) rfl hR.K hR.P hR.D hR.sS hA (fun _ => rfl) (by decide) (by decide) (by show 1440 * 8 ≤ 536870912; have := hv274.2; omega) (show 0 + 1 + 1 + 1 + 1 + 1 + 1 + 1 + 1 + 1 + 1 + 1 + 1 + 1 + 1 + 1 + 1 + 1 + 1 + 1 + 1 + 1 + 1 + 1 + 1 + 1 + 1 + 1 + 1 + 1 + 1 + 1 + 1 + 1 + 1 + 1 + 1 + 1 + 1 + 1 + 1 + 1 + 1 + 1 + 1 + 1 + 1 ≤ KC - qn S from hlg.c1 hv274.1) (show 0 + 12 + 16000 + 6 + 502 + 502 + 502 + 502 + 502 + 48 + 3000 + 3000 + 24 + 24 + 24 + 24 + 24 + 24 + 1201 + 86400 + 40000 + 1536 + 9600 + 57600 + 1200 + 24 + 28 + 115200 + 700 + 700 + 700 + 700 + 700 + 700 + 131072 + 131072 + 1297 + 24 + 20000 + 401 + 401 + 8 + 60 + 60 + 60 + 1440 + 1440 ≤ KS - qu S from hlg.s1 hv274.2) dX14_init_411 (fun q275 cA9 H hK9 hP hD hS => ?_)
  obtain rfl := cls_new2 hR.K hK9 (k := 3) rfl (fun _ h => by cases h)
  have hw8 := hR.w
  have hR := hR.new (t := 4) (n := 1440) (k := 1440) hTX (by decide) (fun q9 => absurd q9 (by decide)) wN_cL hP hD hS
  have hk8 : adk am270 (adx am270 (qn S273) q275) S273 := adk.rf.new (Nat.le_refl _) hTX
  have hak := hak.new (q := q275) hlg.2.2.1 hTX
  have hE := hE.ad hk8
  have hlg : lg S (wN S273 4 1440 1440) (0 + 1 + 1 + 1 + 1 + 1 + 1 + 1 + 1 + 1 + 1 + 1 + 1 + 1 + 1 + 1 + 1 + 1 + 1 + 1 + 1 + 1 + 1 + 1 + 1 + 1 + 1 + 1 + 1 + 1 + 1 + 1 + 1 + 1 + 1 + 1 + 1 + 1 + 1 + 1 + 1 + 1 + 1 + 1 + 1 + 1 + 1) (0 + 12 + 16000 + 6 + 502 + 502 + 502 + 502 + 502 + 48 + 3000 + 3000 + 24 + 24 + 24 + 24 + 24 + 24 + 1201 + 86400 + 40000 + 1536 + 9600 + 57600 + 1200 + 24 + 28 + 115200 + 700 + 700 + 700 + 700 + 700 + 700 + 131072 + 131072 + 1297 + 24 + 20000 + 401 + 401 + 8 + 60 + 60 + 60 + 1440 + 1440) := hlg.new (t := 4) (n := 1440) ⟨hv274.1, hv274.2⟩
  have hs8 : shx S273 (wN S273 4 1440 1440) := shx.newZ (t := 4) (n := 1440) (k := 1440) shx.rf hw8 hTX
  obtain ⟨am276, eam276⟩ : ∃ z, z = adx am270 (qn S273) q275 := ⟨_, rfl⟩
  have eq_q275 : am276 (qn S273) = q275 := by rw [eam276]; exact if_pos rfl
  rw [← eam276] at hR hk8 hak hE
  obtain ⟨S277, eS277⟩ : ∃ z, z = wN S273 4 1440 1440 := ⟨_, rfl⟩
  rw [← eS277] at hR hlg hs8
  replace h := h S277 eS277
  have hsh := hsh.tr hs8
  have hT_b278 : qT S277 (qn S273) = 4 := by rw [eS277]; exact if_pos rfl
  have ea_0 : am276 0 = am270 0 := hk8 _ (hw8.hd hw8.1 (by decide) (by decide))
  have hl : lv_has ls 1 [(0, .ref (am276 0))] := by simp only [ea_0]; exact hl
  refine W.eq (g2 := F0 m 413 ls [.ref (am276 (qn S273)), .ref (am276 0)]) (by simp only [ea_0, eq_q275]) ?_
  clear hw8 hk8 hs8 hP hD hS e9 e8 e7 hTX
  refine va_putF (D := rD g) (ci := 13) (v := .ref (am276 (qn S273))) (ty := (.array .long)) (C := RX14) (T := TX14) (N := 143) hx hb hts in2X14 tyX14 tyX14_ok nmX14 hown hR.K hR.P hR.D hR.sS 0 (hR.at14 hR.w.1) rfl 93 (by decide) (hts _ kx_629) (fun _ h9 => h9) rfl hin9 rfl (by decide +kernel) rfl rfl (Nat.le_of_ble_eq_true rfl) dX14_init_413 (fun H locs hP hD hS => ?_)
  have hw9 : wfMZ (wR S277 0 93 (some (qn S273))) := hR.w.put (fun b q9 => by cases q9; exact (hT_b278).trans (by rw [hR.w.1]; rfl)) (fun _ _ h9 => absurd h9 List.not_mem_nil) (by rw [hR.w.1]; decide)
  have hR : RepZ g am276 A s (wR S277 0 93 (some (qn S273))) H locs := hR.pR hR.w.1 F14_s93 hw9 hP hD hS
  obtain ⟨S279, eS279⟩ : ∃ z, z = wR S277 0 93 (some (qn S273)) := ⟨_, rfl⟩
  rw [← eS279] at hR
  replace h := h S279 eS279
  have hsh : shx S S279 := by rw [eS279]; exact hsh
  have hlg : lg S S279 (0 + 1 + 1 + 1 + 1 + 1 + 1 + 1 + 1 + 1 + 1 + 1 + 1 + 1 + 1 + 1 + 1 + 1 + 1 + 1 + 1 + 1 + 1 + 1 + 1 + 1 + 1 + 1 + 1 + 1 + 1 + 1 + 1 + 1 + 1 + 1 + 1 + 1 + 1 + 1 + 1 + 1 + 1 + 1 + 1 + 1 + 1) (0 + 12 + 16000 + 6 + 502 + 502 + 502 + 502 + 502 + 48 + 3000 + 3000 + 24 + 24 + 24 + 24 + 24 + 24 + 1201 + 86400 + 40000 + 1536 + 9600 + 57600 + 1200 + 24 + 28 + 115200 + 700 + 700 + 700 + 700 + 700 + 700 + 131072 + 131072 + 1297 + 24 + 20000 + 401 + 401 + 8 + 60 + 60 + 60 + 1440 + 1440) := by rw [eS279]; exact hlg
  refine lv_aload_n hx hb dX14_init_416 rfl (lv_at hl 0 rfl) ?_
  refine lv_sipush (v := 1440) hx hb dX14_init_417 (by decide) ?_
  obtain ⟨hv280, h⟩ := h
  have e9 : KC = 300000 := rfl
  have e8 : KS = 3720000 := rfl
  have e7 : TXB = 10000000 := rfl
  have hTX : qn S279 < TXB := by have := hv280.1; omega
  refine va_newa (atype := .byte) (ty := .byte) (a0 := (1440, .inl (fun _ => 0))) (N' := 1440) hx hb (hts (.arrayClass .byte) kx_48) rfl hR.K hR.P hR.D hR.sS hA (fun _ => rfl) (by decide) (by decide) (by show 1440 * 1 ≤ 536870912; have := hv280.2; omega) (show 0 + 1 + 1 + 1 + 1 + 1 + 1 + 1 + 1 + 1 + 1 + 1 + 1 + 1 + 1 + 1 + 1 + 1 + 1 + 1 + 1 + 1 + 1 + 1 + 1 + 1 + 1 + 1 + 1 + 1 + 1 + 1 + 1 + 1 + 1 + 1 + 1 + 1 + 1 + 1 + 1 + 1 + 1 + 1 + 1 + 1 + 1 + 1 ≤ KC - qn S from hlg.c1 hv280.1) (show 0 + 12 + 16000 + 6 + 502 + 502 + 502 + 502 + 502 + 48 + 3000 + 3000 + 24 + 24 + 24 + 24 + 24 + 24 + 1201 + 86400 + 40000 + 1536 + 9600 + 57600 + 1200 + 24 + 28 + 115200 + 700 + 700 + 700 + 700 + 700 + 700 + 131072 + 131072 + 1297 + 24 + 20000 + 401 + 401 + 8 + 60 + 60 + 60 + 1440 + 1440 + 1440 ≤ KS - qu S from hlg.s1 hv280.2) dX14_init_420 (fun q281 cA9 H hK9 hP hD hS => ?_)
  obtain rfl := cls_new2 hR.K hK9 (k := 0) rfl (fun _ h => by cases h)
  have hw8 := hR.w
  have hR := hR.new (t := 1) (n := 1440) (k := 1440) hTX (by decide) (fun q9 => absurd q9 (by decide)) wN_cB hP hD hS
  have hk8 : adk am276 (adx am276 (qn S279) q281) S279 := adk.rf.new (Nat.le_refl _) hTX
  have hak := hak.new (q := q281) hlg.2.2.1 hTX
  have hE := hE.ad hk8
  have hlg : lg S (wN S279 1 1440 1440) (0 + 1 + 1 + 1 + 1 + 1 + 1 + 1 + 1 + 1 + 1 + 1 + 1 + 1 + 1 + 1 + 1 + 1 + 1 + 1 + 1 + 1 + 1 + 1 + 1 + 1 + 1 + 1 + 1 + 1 + 1 + 1 + 1 + 1 + 1 + 1 + 1 + 1 + 1 + 1 + 1 + 1 + 1 + 1 + 1 + 1 + 1 + 1) (0 + 12 + 16000 + 6 + 502 + 502 + 502 + 502 + 502 + 48 + 3000 + 3000 + 24 + 24 + 24 + 24 + 24 + 24 + 1201 + 86400 + 40000 + 1536 + 9600 + 57600 + 1200 + 24 + 28 + 115200 + 700 + 700 + 700 + 700 + 700 + 700 + 131072 + 131072 + 1297 + 24 + 20000 + 401 + 401 + 8 + 60 + 60 + 60 + 1440 + 1440 + 1440) := hlg.new (t := 1) (n := 1440) ⟨hv280.1, hv280.2⟩
  have hs8 : shx S279 (wN S279 1 1440 1440) := shx.newZ (t := 1) (n := 1440) (k := 1440) shx.rf hw8 hTX
  obtain ⟨am282, eam282⟩ : ∃ z, z = adx am276 (qn S279) q281 := ⟨_, rfl⟩
  have eq_q281 : am282 (qn S279) = q281 := by rw [eam282]; exact if_pos rfl
  rw [← eam282] at hR hk8 hak hE
  obtain ⟨S283, eS283⟩ : ∃ z, z = wN S279 1 1440 1440 := ⟨_, rfl⟩
  rw [← eS283] at hR hlg hs8
  replace h := h S283 eS283
  have hsh := hsh.tr hs8
  have hT_b284 : qT S283 (qn S279) = 1 := by rw [eS283]; exact if_pos rfl
  have ea_0 : am282 0 = am276 0 := hk8 _ (hw8.hd hw8.1 (by decide) (by decide))
  have hl : lv_has ls 1 [(0, .ref (am282 0))] := by simp only [ea_0]; exact hl
  refine W.eq (g2 := F0 m 422 ls [.ref (am282 (qn S279)), .ref (am282 0)]) (by simp only [ea_0, eq_q281]) ?_
  clear hw8 hk8 hs8 hP hD hS e9 e8 e7 hTX
  refine va_putF (D := rD g) (ci := 13) (v := .ref (am282 (qn S279))) (ty := (.array .byte)) (C := RX14) (T := TX14) (N := 143) hx hb hts in2X14 tyX14 tyX14_ok nmX14 hown hR.K hR.P hR.D hR.sS 0 (hR.at14 hR.w.1) rfl 94 (by decide) (hts _ kx_625) (fun _ h9 => h9) rfl hin9 rfl (by decide +kernel) rfl rfl (Nat.le_of_ble_eq_true rfl) dX14_init_422 (fun H locs hP hD hS => ?_)
  have hw9 : wfMZ (wR S283 0 94 (some (qn S279))) := hR.w.put (fun b q9 => by cases q9; exact (hT_b284).trans (by rw [hR.w.1]; rfl)) (fun _ _ h9 => absurd h9 List.not_mem_nil) (by rw [hR.w.1]; decide)
  have hR : RepZ g am282 A s (wR S283 0 94 (some (qn S279))) H locs := hR.pR hR.w.1 F14_s94 hw9 hP hD hS
  obtain ⟨S285, eS285⟩ : ∃ z, z = wR S283 0 94 (some (qn S279)) := ⟨_, rfl⟩
  rw [← eS285] at hR
  replace h := h S285 eS285
  have hsh : shx S S285 := by rw [eS285]; exact hsh
  have hlg : lg S S285 (0 + 1 + 1 + 1 + 1 + 1 + 1 + 1 + 1 + 1 + 1 + 1 + 1 + 1 + 1 + 1 + 1 + 1 + 1 + 1 + 1 + 1 + 1 + 1 + 1 + 1 + 1 + 1 + 1 + 1 + 1 + 1 + 1 + 1 + 1 + 1 + 1 + 1 + 1 + 1 + 1 + 1 + 1 + 1 + 1 + 1 + 1 + 1) (0 + 12 + 16000 + 6 + 502 + 502 + 502 + 502 + 502 + 48 + 3000 + 3000 + 24 + 24 + 24 + 24 + 24 + 24 + 1201 + 86400 + 40000 + 1536 + 9600 + 57600 + 1200 + 24 + 28 + 115200 + 700 + 700 + 700 + 700 + 700 + 700 + 131072 + 131072 + 1297 + 24 + 20000 + 401 + 401 + 8 + 60 + 60 + 60 + 1440 + 1440 + 1440) := by rw [eS285]; exact hlg
  refine lv_aload_n hx hb dX14_init_425 rfl (lv_at hl 0 rfl) ?_
  refine lv_sipush (v := 1440) hx hb dX14_init_426 (by decide) ?_
  obtain ⟨hv286, h⟩ := h
  have e9 : KC = 300000 := rfl
  have e8 : KS = 3720000 := rfl
  have e7 : TXB = 10000000 := rfl
  have hTX : qn S285 < TXB := by have := hv286.1; omega
  refine va_newa (atype := .byte) (ty := .byte) (a0 := (1440, .inl (fun _ => 0))) (N' := 1440) hx hb (hts (.arrayClass .byte) kx_48) rfl hR.K hR.P hR.D hR.sS hA (fun _ => rfl) (by decide) (by decide) (by show 1440 * 1 ≤ 536870912; have := hv286.2; omega) (show 0 + 1 + 1 + 1 + 1 + 1 + 1 + 1 + 1 + 1 + 1 + 1 + 1 + 1 + 1 + 1 + 1 + 1 + 1 + 1 + 1 + 1 + 1 + 1 + 1 + 1 + 1 + 1 + 1 + 1 + 1 + 1 + 1 + 1 + 1 + 1 + 1 + 1 + 1 + 1 + 1 + 1 + 1 + 1 + 1 + 1 + 1 + 1 + 1 ≤ KC - qn S from hlg.c1 hv286.1) (show 0 + 12 + 16000 + 6 + 502 + 502 + 502 + 502 + 502 + 48 + 3000 + 3000 + 24 + 24 + 24 + 24 + 24 + 24 + 1201 + 86400 + 40000 + 1536 + 9600 + 57600 + 1200 + 24 + 28 + 115200 + 700 + 700 + 700 + 700 + 700 + 700 + 131072 + 131072 + 1297 + 24 + 20000 + 401 + 401 + 8 + 60 + 60 + 60 + 1440 + 1440 + 1440 + 1440 ≤ KS - qu S from hlg.s1 hv286.2) dX14_init_429 (fun q287 cA9 H hK9 hP hD hS => ?_)
  obtain rfl := cls_new2 hR.K hK9 (k := 0) rfl (fun _ h => by cases h)
  have hw8 := hR.w
  have hR := hR.new (t := 1) (n := 1440) (k := 1440) hTX (by decide) (fun q9 => absurd q9 (by decide)) wN_cB hP hD hS
  have hk8 : adk am282 (adx am282 (qn S285) q287) S285 := adk.rf.new (Nat.le_refl _) hTX
  have hak := hak.new (q := q287) hlg.2.2.1 hTX
  have hE := hE.ad hk8
  have hlg : lg S (wN S285 1 1440 1440) (0 + 1 + 1 + 1 + 1 + 1 + 1 + 1 + 1 + 1 + 1 + 1 + 1 + 1 + 1 + 1 + 1 + 1 + 1 + 1 + 1 + 1 + 1 + 1 + 1 + 1 + 1 + 1 + 1 + 1 + 1 + 1 + 1 + 1 + 1 + 1 + 1 + 1 + 1 + 1 + 1 + 1 + 1 + 1 + 1 + 1 + 1 + 1 + 1) (0 + 12 + 16000 + 6 + 502 + 502 + 502 + 502 + 502 + 48 + 3000 + 3000 + 24 + 24 + 24 + 24 + 24 + 24 + 1201 + 86400 + 40000 + 1536 + 9600 + 57600 + 1200 + 24 + 28 + 115200 + 700 + 700 + 700 + 700 + 700 + 700 + 131072 + 131072 + 1297 + 24 + 20000 + 401 + 401 + 8 + 60 + 60 + 60 + 1440 + 1440 + 1440 + 1440) := hlg.new (t := 1) (n := 1440) ⟨hv286.1, hv286.2⟩
  have hs8 : shx S285 (wN S285 1 1440 1440) := shx.newZ (t := 1) (n := 1440) (k := 1440) shx.rf hw8 hTX
  obtain ⟨am288, eam288⟩ : ∃ z, z = adx am282 (qn S285) q287 := ⟨_, rfl⟩
  have eq_q287 : am288 (qn S285) = q287 := by rw [eam288]; exact if_pos rfl
  rw [← eam288] at hR hk8 hak hE
  obtain ⟨S289, eS289⟩ : ∃ z, z = wN S285 1 1440 1440 := ⟨_, rfl⟩
  rw [← eS289] at hR hlg hs8
  replace h := h S289 eS289
  have hsh := hsh.tr hs8
  have hT_b290 : qT S289 (qn S285) = 1 := by rw [eS289]; exact if_pos rfl
  have ea_0 : am288 0 = am282 0 := hk8 _ (hw8.hd hw8.1 (by decide) (by decide))
  have hl : lv_has ls 1 [(0, .ref (am288 0))] := by simp only [ea_0]; exact hl
  refine W.eq (g2 := F0 m 431 ls [.ref (am288 (qn S285)), .ref (am288 0)]) (by simp only [ea_0, eq_q287]) ?_
  clear hw8 hk8 hs8 hP hD hS e9 e8 e7 hTX
  refine va_putF (D := rD g) (ci := 13) (v := .ref (am288 (qn S285))) (ty := (.array .byte)) (C := RX14) (T := TX14) (N := 143) hx hb hts in2X14 tyX14 tyX14_ok nmX14 hown hR.K hR.P hR.D hR.sS 0 (hR.at14 hR.w.1) rfl 95 (by decide) (hts _ kx_630) (fun _ h9 => h9) rfl hin9 rfl (by decide +kernel) rfl rfl (Nat.le_of_ble_eq_true rfl) dX14_init_431 (fun H locs hP hD hS => ?_)
  have hw9 : wfMZ (wR S289 0 95 (some (qn S285))) := hR.w.put (fun b q9 => by cases q9; exact (hT_b290).trans (by rw [hR.w.1]; rfl)) (fun _ _ h9 => absurd h9 List.not_mem_nil) (by rw [hR.w.1]; decide)
  have hR : RepZ g am288 A s (wR S289 0 95 (some (qn S285))) H locs := hR.pR hR.w.1 F14_s95 hw9 hP hD hS
  obtain ⟨S291, eS291⟩ : ∃ z, z = wR S289 0 95 (some (qn S285)) := ⟨_, rfl⟩
  rw [← eS291] at hR
  replace h := h S291 eS291
  have hsh : shx S S291 := by rw [eS291]; exact hsh
  have hlg : lg S S291 (0 + 1 + 1 + 1 + 1 + 1 + 1 + 1 + 1 + 1 + 1 + 1 + 1 + 1 + 1 + 1 + 1 + 1 + 1 + 1 + 1 + 1 + 1 + 1 + 1 + 1 + 1 + 1 + 1 + 1 + 1 + 1 + 1 + 1 + 1 + 1 + 1 + 1 + 1 + 1 + 1 + 1 + 1 + 1 + 1 + 1 + 1 + 1 + 1) (0 + 12 + 16000 + 6 + 502 + 502 + 502 + 502 + 502 + 48 + 3000 + 3000 + 24 + 24 + 24 + 24 + 24 + 24 + 1201 + 86400 + 40000 + 1536 + 9600 + 57600 + 1200 + 24 + 28 + 115200 + 700 + 700 + 700 + 700 + 700 + 700 + 131072 + 131072 + 1297 + 24 + 20000 + 401 + 401 + 8 + 60 + 60 + 60 + 1440 + 1440 + 1440 + 1440) := by rw [eS291]; exact hlg
  refine lv_aload_n hx hb dX14_init_434 rfl (lv_at hl 0 rfl) ?_
  refine lv_iconst (v := (-1)) hx hb dX14_init_435 (by decide) ?_
  refine va_put (D := rD g) (ci := 13) (v := .int (-1)) (ty := .int) (C := RX14) (T := TX14) (N := 143) hx hb hts in2X14 tyX14 tyX14_ok nmX14 hown hR.K hR.P hR.D hR.sS 0 (hR.at14 hR.w.1) rfl 102 (by decide) (hts _ kx_618) (fun _ h9 => h9) rfl (by decide +kernel) rfl rfl (Nat.le_of_ble_eq_true rfl) dX14_init_436 (fun H locs hP hD hS => ?_)
  have hR : RepZ g am288 A s (wI S291 0 102 (-1)) H locs := hR.pI hR.w.1 F14_s102 hP hD hS
  obtain ⟨S292, eS292⟩ : ∃ z, z = wI S291 0 102 (-1) := ⟨_, rfl⟩
  rw [← eS292] at hR
  replace h := h S292 eS292
  have hsh : shx S S292 := by rw [eS292]; exact hsh
  have hlg : lg S S292 (0 + 1 + 1 + 1 + 1 + 1 + 1 + 1 + 1 + 1 + 1 + 1 + 1 + 1 + 1 + 1 + 1 + 1 + 1 + 1 + 1 + 1 + 1 + 1 + 1 + 1 + 1 + 1 + 1 + 1 + 1 + 1 + 1 + 1 + 1 + 1 + 1 + 1 + 1 + 1 + 1 + 1 + 1 + 1 + 1 + 1 + 1 + 1 + 1) (0 + 12 + 16000 + 6 + 502 + 502 + 502 + 502 + 502 + 48 + 3000 + 3000 + 24 + 24 + 24 + 24 + 24 + 24 + 1201 + 86400 + 40000 + 1536 + 9600 + 57600 + 1200 + 24 + 28 + 115200 + 700 + 700 + 700 + 700 + 700 + 700 + 131072 + 131072 + 1297 + 24 + 20000 + 401 + 401 + 8 + 60 + 60 + 60 + 1440 + 1440 + 1440 + 1440) := by rw [eS292]; exact hlg
  refine lv_aload_n hx hb dX14_init_439 rfl (lv_at hl 0 rfl) ?_
  refine lv_sipush (v := 1201) hx hb dX14_init_440 (by decide) ?_
  obtain ⟨hv293, h⟩ := h
  have e9 : KC = 300000 := rfl
  have e8 : KS = 3720000 := rfl
  have e7 : TXB = 10000000 := rfl
  have hTX : qn S292 < TXB := by have := hv293.1; omega
  refine va_newa (atype := .int) (ty := .int) (a0 := (1201, .inl (fun _ => 0))) (N' := 1201) hx hb (hts (.arrayClass .int) kx_346) rfl hR.K hR.P hR.D hR.sS hA (fun _ => rfl) (by decide) (by decide) (by show 1201 * 4 ≤ 536870912; have := hv293.2; omega) (show 0 + 1 + 1 + 1 + 1 + 1 + 1 + 1 + 1 + 1 + 1 + 1 + 1 + 1 + 1 + 1 + 1 + 1 + 1 + 1 + 1 + 1 + 1 + 1 + 1 + 1 + 1 + 1 + 1 + 1 + 1 + 1 + 1 + 1 + 1 + 1 + 1 + 1 + 1 + 1 + 1 + 1 + 1 + 1 + 1 + 1 + 1 + 1 + 1 + 1 ≤ KC - qn S from hlg.c1 hv293.1) (show 0 + 12 + 16000 + 6 + 502 + 502 + 502 + 502 + 502 + 48 + 3000 + 3000 + 24 + 24 + 24 + 24 + 24 + 24 + 1201 + 86400 + 40000 + 1536 + 9600 + 57600 + 1200 + 24 + 28 + 115200 + 700 + 700 + 700 + 700 + 700 + 700 + 131072 + 131072 + 1297 + 24 + 20000 + 401 + 401 + 8 + 60 + 60 + 60 + 1440 + 1440 + 1440 + 1440 + 1201 ≤ KS - qu S from hlg.s1 hv293.2) dX14_init_443 (fun q294 cA9 H hK9 hP hD hS => ?_)
  obtain rfl := cls_new2 hR.K hK9 (k := 1) rfl (fun _ h => by cases h)
  have hw8 := hR.w
  have hR := hR.new (t := 2) (n := 1201) (k := 1201) hTX (by decide) (fun q9 => absurd q9 (by decide)) wN_cI hP hD hS
  have hk8 : adk am288 (adx am288 (qn S292) q294) S292 := adk.rf.new (Nat.le_refl _) hTX
  have hak := hak.new (q := q294) hlg.2.2.1 hTX
  have hE := hE.ad hk8
  have hlg : lg S (wN S292 2 1201 1201) (0 + 1 + 1 + 1 + 1 + 1 + 1 + 1 + 1 + 1 + 1 + 1 + 1 + 1 + 1 + 1 + 1 + 1 + 1 + 1 + 1 + 1 + 1 + 1 + 1 + 1 + 1 + 1 + 1 + 1 + 1 + 1 + 1 + 1 + 1 + 1 + 1 + 1 + 1 + 1 + 1 + 1 + 1 + 1 + 1 + 1 + 1 + 1 + 1 + 1) (0 + 12 + 16000 + 6 + 502 + 502 + 502 + 502 + 502 + 48 + 3000 + 3000 + 24 + 24 + 24 + 24 + 24 + 24 + 1201 + 86400 + 40000 + 1536 + 9600 + 57600 + 1200 + 24 + 28 + 115200 + 700 + 700 + 700 + 700 + 700 + 700 + 131072 + 131072 + 1297 + 24 + 20000 + 401 + 401 + 8 + 60 + 60 + 60 + 1440 + 1440 + 1440 + 1440 + 1201) := hlg.new (t := 2) (n := 1201) ⟨hv293.1, hv293.2⟩
  have hs8 : shx S292 (wN S292 2 1201 1201) := shx.newZ (t := 2) (n := 1201) (k := 1201) shx.rf hw8 hTX
  obtain ⟨am295, eam295⟩ : ∃ z, z = adx am288 (qn S292) q294 := ⟨_, rfl⟩
  have eq_q294 : am295 (qn S292) = q294 := by rw [eam295]; exact if_pos rfl
  rw [← eam295] at hR hk8 hak hE
  obtain ⟨S296, eS296⟩ : ∃ z, z = wN S292 2 1201 1201 := ⟨_, rfl⟩
  rw [← eS296] at hR hlg hs8
  replace h := h S296 eS296
  have hsh := hsh.tr hs8
  have hT_b297 : qT S296 (qn S292) = 2 := by rw [eS296]; exact if_pos rfl
  have ea_0 : am295 0 = am288 0 := hk8 _ (hw8.hd hw8.1 (by decide) (by decide))
  have hl : lv_has ls 1 [(0, .ref (am295 0))] := by simp only [ea_0]; exact hl
  refine W.eq (g2 := F0 m 445 ls [.ref (am295 (qn S292)), .ref (am295 0)]) (by simp only [ea_0, eq_q294]) ?_
  clear hw8 hk8 hs8 hP hD hS e9 e8 e7 hTX
  refine va_putF (D := rD g) (ci := 13) (v := .ref (am295 (qn S292))) (ty := (.array .int)) (C := RX14) (T := TX14) (N := 143) hx hb hts in2X14 tyX14 tyX14_ok nmX14 hown hR.K hR.P hR.D hR.sS 0 (hR.at14 hR.w.1) rfl 103 (by decide) (hts _ kx_671) (fun _ h9 => h9) rfl hin9 rfl (by decide +kernel) rfl rfl (Nat.le_of_ble_eq_true rfl) dX14_init_445 (fun H locs hP hD hS => ?_)
  have hw9 : wfMZ (wR S296 0 103 (some (qn S292))) := hR.w.put (fun b q9 => by cases q9; exact (hT_b297).trans (by rw [hR.w.1]; rfl)) (fun _ _ h9 => absurd h9 List.not_mem_nil) (by rw [hR.w.1]; decide)
  have hR : RepZ g am295 A s (wR S296 0 103 (some (qn S292))) H locs := hR.pR hR.w.1 F14_s103 hw9 hP hD hS
  obtain ⟨S298, eS298⟩ : ∃ z, z = wR S296 0 103 (some (qn S292)) := ⟨_, rfl⟩
  rw [← eS298] at hR
  replace h := h S298 eS298
  have hsh : shx S S298 := by rw [eS298]; exact hsh
  have hlg : lg S S298 (0 + 1 + 1 + 1 + 1 + 1 + 1 + 1 + 1 + 1 + 1 + 1 + 1 + 1 + 1 + 1 + 1 + 1 + 1 + 1 + 1 + 1 + 1 + 1 + 1 + 1 + 1 + 1 + 1 + 1 + 1 + 1 + 1 + 1 + 1 + 1 + 1 + 1 + 1 + 1 + 1 + 1 + 1 + 1 + 1 + 1 + 1 + 1 + 1 + 1) (0 + 12 + 16000 + 6 + 502 + 502 + 502 + 502 + 502 + 48 + 3000 + 3000 + 24 + 24 + 24 + 24 + 24 + 24 + 1201 + 86400 + 40000 + 1536 + 9600 + 57600 + 1200 + 24 + 28 + 115200 + 700 + 700 + 700 + 700 + 700 + 700 + 131072 + 131072 + 1297 + 24 + 20000 + 401 + 401 + 8 + 60 + 60 + 60 + 1440 + 1440 + 1440 + 1440 + 1201) := by rw [eS298]; exact hlg
  refine lv_aload_n hx hb dX14_init_448 rfl (lv_at hl 0 rfl) ?_
  refine lv_sipush (v := 1201) hx hb dX14_init_449 (by decide) ?_
  obtain ⟨hv299, h⟩ := h
  have e9 : KC = 300000 := rfl
  have e8 : KS = 3720000 := rfl
  have e7 : TXB = 10000000 := rfl
  have hTX : qn S298 < TXB := by have := hv299.1; omega
  refine va_newa (atype := .int) (ty := .int) (a0 := (1201, .inl (fun _ => 0))) (N' := 1201) hx hb (hts (.arrayClass .int) kx_346) rfl hR.K hR.P hR.D hR.sS hA (fun _ => rfl) (by decide) (by decide) (by show 1201 * 4 ≤ 536870912; have := hv299.2; omega) (show 0 + 1 + 1 + 1 + 1 + 1 + 1 + 1 + 1 + 1 + 1 + 1 + 1 + 1 + 1 + 1 + 1 + 1 + 1 + 1 + 1 + 1 + 1 + 1 + 1 + 1 + 1 + 1 + 1 + 1 + 1 + 1 + 1 + 1 + 1 + 1 + 1 + 1 + 1 + 1 + 1 + 1 + 1 + 1 + 1 + 1 + 1 + 1 + 1 + 1 + 1 ≤ KC - qn S from hlg.c1 hv299.1) (show 0 + 12 + 16000 + 6 + 502 + 502 + 502 + 502 + 502 + 48 + 3000 + 3000 + 24 + 24 + 24 + 24 + 24 + 24 + 1201 + 86400 + 40000 + 1536 + 9600 + 57600 + 1200 + 24 + 28 + 115200 + 700 + 700 + 700 + 700 + 700 + 700 + 131072 + 131072 + 1297 + 24 + 20000 + 401 + 401 + 8 + 60 + 60 + 60 + 1440 + 1440 + 1440 + 1440 + 1201 + 1201 ≤ KS - qu S from hlg.s1 hv299.2) dX14_init_452 (fun q300 cA9 H hK9 hP hD hS => ?_)
  obtain rfl := cls_new2 hR.K hK9 (k := 1) rfl (fun _ h => by cases h)
  have hw8 := hR.w
  have hR := hR.new (t := 2) (n := 1201) (k := 1201) hTX (by decide) (fun q9 => absurd q9 (by decide)) wN_cI hP hD hS
  have hk8 : adk am295 (adx am295 (qn S298) q300) S298 := adk.rf.new (Nat.le_refl _) hTX
  have hak := hak.new (q := q300) hlg.2.2.1 hTX
  have hE := hE.ad hk8
  have hlg : lg S (wN S298 2 1201 1201) (0 + 1 + 1 + 1 + 1 + 1 + 1 + 1 + 1 + 1 + 1 + 1 + 1 + 1 + 1 + 1 + 1 + 1 + 1 + 1 + 1 + 1 + 1 + 1 + 1 + 1 + 1 + 1 + 1 + 1 + 1 + 1 + 1 + 1 + 1 + 1 + 1 + 1 + 1 + 1 + 1 + 1 + 1 + 1 + 1 + 1 + 1 + 1 + 1 + 1 + 1) (0 + 12 + 16000 + 6 + 502 + 502 + 502 + 502 + 502 + 48 + 3000 + 3000 + 24 + 24 + 24 + 24 + 24 + 24 + 1201 + 86400 + 40000 + 1536 + 9600 + 57600 + 1200 + 24 + 28 + 115200 + 700 + 700 + 700 + 700 + 700 + 700 + 131072 + 131072 + 1297 + 24 + 20000 + 401 + 401 + 8 + 60 + 60 + 60 + 1440 + 1440 + 1440 + 1440 + 1201 + 1201) := hlg.new (t := 2) (n := 1201) ⟨hv299.1, hv299.2⟩
  have hs8 : shx S298 (wN S298 2 1201 1201) := shx.newZ (t := 2) (n := 1201) (k := 1201) shx.rf hw8 hTX
  obtain ⟨am301, eam301⟩ : ∃ z, z = adx am295 (qn S298) q300 := ⟨_, rfl⟩
  have eq_q300 : am301 (qn S298) = q300 := by rw [eam301]; exact if_pos rfl
  rw [← eam301] at hR hk8 hak hE
  obtain ⟨S302, eS302⟩ : ∃ z, z = wN S298 2 1201 1201 := ⟨_, rfl⟩
  rw [← eS302] at hR hlg hs8
  replace h := h S302 eS302
  have hsh := hsh.tr hs8
  have hT_b303 : qT S302 (qn S298) = 2 := by rw [eS302]; exact if_pos rfl
  have ea_0 : am301 0 = am295 0 := hk8 _ (hw8.hd hw8.1 (by decide) (by decide))
  have hl : lv_has ls 1 [(0, .ref (am301 0))] := by simp only [ea_0]; exact hl
  refine W.eq (g2 := F0 m 454 ls [.ref (am301 (qn S298)), .ref (am301 0)]) (by simp only [ea_0, eq_q300]) ?_
  clear hw8 hk8 hs8 hP hD hS e9 e8 e7 hTX
  refine va_putF (D := rD g) (ci := 13) (v := .ref (am301 (qn S298))) (ty := (.array .int)) (C := RX14) (T := TX14) (N := 143) hx hb hts in2X14 tyX14 tyX14_ok nmX14 hown hR.K hR.P hR.D hR.sS 0 (hR.at14 hR.w.1) rfl 104 (by decide) (hts _ kx_669) (fun _ h9 => h9) rfl hin9 rfl (by decide +kernel) rfl rfl (Nat.le_of_ble_eq_true rfl) dX14_init_454 (fun H locs hP hD hS => ?_)
  have hw9 : wfMZ (wR S302 0 104 (some (qn S298))) := hR.w.put (fun b q9 => by cases q9; exact (hT_b303).trans (by rw [hR.w.1]; rfl)) (fun _ _ h9 => absurd h9 List.not_mem_nil) (by rw [hR.w.1]; decide)
  have hR : RepZ g am301 A s (wR S302 0 104 (some (qn S298))) H locs := hR.pR hR.w.1 F14_s104 hw9 hP hD hS
  obtain ⟨S304, eS304⟩ : ∃ z, z = wR S302 0 104 (some (qn S298)) := ⟨_, rfl⟩
  rw [← eS304] at hR
  replace h := h S304 eS304
  have hsh : shx S S304 := by rw [eS304]; exact hsh
  have hlg : lg S S304 (0 + 1 + 1 + 1 + 1 + 1 + 1 + 1 + 1 + 1 + 1 + 1 + 1 + 1 + 1 + 1 + 1 + 1 + 1 + 1 + 1 + 1 + 1 + 1 + 1 + 1 + 1 + 1 + 1 + 1 + 1 + 1 + 1 + 1 + 1 + 1 + 1 + 1 + 1 + 1 + 1 + 1 + 1 + 1 + 1 + 1 + 1 + 1 + 1 + 1 + 1) (0 + 12 + 16000 + 6 + 502 + 502 + 502 + 502 + 502 + 48 + 3000 + 3000 + 24 + 24 + 24 + 24 + 24 + 24 + 1201 + 86400 + 40000 + 1536 + 9600 + 57600 + 1200 + 24 + 28 + 115200 + 700 + 700 + 700 + 700 + 700 + 700 + 131072 + 131072 + 1297 + 24 + 20000 + 401 + 401 + 8 + 60 + 60 + 60 + 1440 + 1440 + 1440 + 1440 + 1201 + 1201) := by rw [eS304]; exact hlg
  refine lv_aload_n hx hb dX14_init_457 rfl (lv_at hl 0 rfl) ?_
  refine lv_iconst (v := (-1)) hx hb dX14_init_458 (by decide) ?_
  refine va_put (D := rD g) (ci := 13) (v := .int (-1)) (ty := .int) (C := RX14) (T := TX14) (N := 143) hx hb hts in2X14 tyX14 tyX14_ok nmX14 hown hR.K hR.P hR.D hR.sS 0 (hR.at14 hR.w.1) rfl 106 (by decide) (hts _ kx_690) (fun _ h9 => h9) rfl (by decide +kernel) rfl rfl (Nat.le_of_ble_eq_true rfl) dX14_init_459 (fun H locs hP hD hS => ?_)
  have hR : RepZ g am301 A s (wI S304 0 106 (-1)) H locs := hR.pI hR.w.1 F14_s106 hP hD hS
  obtain ⟨S305, eS305⟩ : ∃ z, z = wI S304 0 106 (-1) := ⟨_, rfl⟩
  rw [← eS305] at hR
  replace h := h S305 eS305
  have hsh : shx S S305 := by rw [eS305]; exact hsh
  have hlg : lg S S305 (0 + 1 + 1 + 1 + 1 + 1 + 1 + 1 + 1 + 1 + 1 + 1 + 1 + 1 + 1 + 1 + 1 + 1 + 1 + 1 + 1 + 1 + 1 + 1 + 1 + 1 + 1 + 1 + 1 + 1 + 1 + 1 + 1 + 1 + 1 + 1 + 1 + 1 + 1 + 1 + 1 + 1 + 1 + 1 + 1 + 1 + 1 + 1 + 1 + 1 + 1) (0 + 12 + 16000 + 6 + 502 + 502 + 502 + 502 + 502 + 48 + 3000 + 3000 + 24 + 24 + 24 + 24 + 24 + 24 + 1201 + 86400 + 40000 + 1536 + 9600 + 57600 + 1200 + 24 + 28 + 115200 + 700 + 700 + 700 + 700 + 700 + 700 + 131072 + 131072 + 1297 + 24 + 20000 + 401 + 401 + 8 + 60 + 60 + 60 + 1440 + 1440 + 1440 + 1440 + 1201 + 1201) := by rw [eS305]; exact hlg
  refine lv_aload_n hx hb dX14_init_462 rfl (lv_at hl 0 rfl) ?_
  refine lv_sipush (v := 1202) hx hb dX14_init_463 (by decide) ?_
  obtain ⟨hv306, h⟩ := h
  have e9 : KC = 300000 := rfl
  have e8 : KS = 3720000 := rfl
  have e7 : TXB = 10000000 := rfl
  have hTX : qn S305 < TXB := by have := hv306.1; omega
  refine va_newa (atype := .int) (ty := .int) (a0 := (1202, .inl (fun _ => 0))) (N' := 1202) hx hb (hts (.arrayClass .int) kx_346) rfl hR.K hR.P hR.D hR.sS hA (fun _ => rfl) (by decide) (by decide) (by show 1202 * 4 ≤ 536870912; have := hv306.2; omega) (show 0 + 1 + 1 + 1 + 1 + 1 + 1 + 1 + 1 + 1 + 1 + 1 + 1 + 1 + 1 + 1 + 1 + 1 + 1 + 1 + 1 + 1 + 1 + 1 + 1 + 1 + 1 + 1 + 1 + 1 + 1 + 1 + 1 + 1 + 1 + 1 + 1 + 1 + 1 + 1 + 1 + 1 + 1 + 1 + 1 + 1 + 1 + 1 + 1 + 1 + 1 + 1 ≤ KC - qn S from hlg.c1 hv306.1) (show 0 + 12 + 16000 + 6 + 502 + 502 + 502 + 502 + 502 + 48 + 3000 + 3000 + 24 + 24 + 24 + 24 + 24 + 24 + 1201 + 86400 + 40000 + 1536 + 9600 + 57600 + 1200 + 24 + 28 + 115200 + 700 + 700 + 700 + 700 + 700 + 700 + 131072 + 131072 + 1297 + 24 + 20000 + 401 + 401 + 8 + 60 + 60 + 60 + 1440 + 1440 + 1440 + 1440 + 1201 + 1201 + 1202 ≤ KS - qu S from hlg.s1 hv306.2) dX14_init_466 (fun q307 cA9 H hK9 hP hD hS => ?_)
  obtain rfl := cls_new2 hR.K hK9 (k := 1) rfl (fun _ h => by cases h)
  have hw8 := hR.w
  have hR := hR.new (t := 2) (n := 1202) (k := 1202) hTX (by decide) (fun q9 => absurd q9 (by decide)) wN_cI hP hD hS
  have hk8 : adk am301 (adx am301 (qn S305) q307) S305 := adk.rf.new (Nat.le_refl _) hTX
  have hak := hak.new (q := q307) hlg.2.2.1 hTX
  have hE := hE.ad hk8
  have hlg : lg S (wN S305 2 1202 1202) (0 + 1 + 1 + 1 + 1 + 1 + 1 + 1 + 1 + 1 + 1 + 1 + 1 + 1 + 1 + 1 + 1 + 1 + 1 + 1 + 1 + 1 + 1 + 1 + 1 + 1 + 1 + 1 + 1 + 1 + 1 + 1 + 1 + 1 + 1 + 1 + 1 + 1 + 1 + 1 + 1 + 1 + 1 + 1 + 1 + 1 + 1 + 1 + 1 + 1 + 1 + 1) (0 + 12 + 16000 + 6 + 502 + 502 + 502 + 502 + 502 + 48 + 3000 + 3000 + 24 + 24 + 24 + 24 + 24 + 24 + 1201 + 86400 + 40000 + 1536 + 9600 + 57600 + 1200 + 24 + 28 + 115200 + 700 + 700 + 700 + 700 + 700 + 700 + 131072 + 131072 + 1297 + 24 + 20000 + 401 + 401 + 8 + 60 + 60 + 60 + 1440 + 1440 + 1440 + 1440 + 1201 + 1201 + 1202) := hlg.new (t := 2) (n := 1202) ⟨hv306.1, hv306.2⟩
  have hs8 : shx S305 (wN S305 2 1202 1202) := shx.newZ (t := 2) (n := 1202) (k := 1202) shx.rf hw8 hTX
  obtain ⟨am308, eam308⟩ : ∃ z, z = adx am301 (qn S305) q307 := ⟨_, rfl⟩
  have eq_q307 : am308 (qn S305) = q307 := by rw [eam308]; exact if_pos rfl
  rw [← eam308] at hR hk8 hak hE
  obtain ⟨S309, eS309⟩ : ∃ z, z = wN S305 2 1202 1202 := ⟨_, rfl⟩
  rw [← eS309] at hR hlg hs8
  replace h := h S309 eS309
  have hsh := hsh.tr hs8
  have hT_b310 : qT S309 (qn S305) = 2 := by rw [eS309]; exact if_pos rfl
  have ea_0 : am308 0 = am301 0 := hk8 _ (hw8.hd hw8.1 (by decide) (by decide))
  have hl : lv_has ls 1 [(0, .ref (am308 0))] := by simp only [ea_0]; exact hl
  refine W.eq (g2 := F0 m 468 ls [.ref (am308 (qn S305)), .ref (am308 0)]) (by simp only [ea_0, eq_q307]) ?_
  clear hw8 hk8 hs8 hP hD hS e9 e8 e7 hTX
  refine va_putF (D := rD g) (ci := 13) (v := .ref (am308 (qn S305))) (ty := (.array .int)) (C := RX14) (T := TX14) (N := 143) hx hb hts in2X14 tyX14 tyX14_ok nmX14 hown hR.K hR.P hR.D hR.sS 0 (hR.at14 hR.w.1) rfl 108 (by decide) (hts _ kx_672) (fun _ h9 => h9) rfl hin9 rfl (by decide +kernel) rfl rfl (Nat.le_of_ble_eq_true rfl) dX14_init_468 (fun H locs hP hD hS => ?_)
  have hw9 : wfMZ (wR S309 0 108 (some (qn S305))) := hR.w.put (fun b q9 => by cases q9; exact (hT_b310).trans (by rw [hR.w.1]; rfl)) (fun _ _ h9 => absurd h9 List.not_mem_nil) (by rw [hR.w.1]; decide)
  have hR : RepZ g am308 A s (wR S309 0 108 (some (qn S305))) H locs := hR.pR hR.w.1 F14_s108 hw9 hP hD hS
  obtain ⟨S311, eS311⟩ : ∃ z, z = wR S309 0 108 (some (qn S305)) := ⟨_, rfl⟩
  rw [← eS311] at hR
  replace h := h S311 eS311
  have hsh : shx S S311 := by rw [eS311]; exact hsh
  have hlg : lg S S311 (0 + 1 + 1 + 1 + 1 + 1 + 1 + 1 + 1 + 1 + 1 + 1 + 1 + 1 + 1 + 1 + 1 + 1 + 1 + 1 + 1 + 1 + 1 + 1 + 1 + 1 + 1 + 1 + 1 + 1 + 1 + 1 + 1 + 1 + 1 + 1 + 1 + 1 + 1 + 1 + 1 + 1 + 1 + 1 + 1 + 1 + 1 + 1 + 1 + 1 + 1 + 1) (0 + 12 + 16000 + 6 + 502 + 502 + 502 + 502 + 502 + 48 + 3000 + 3000 + 24 + 24 + 24 + 24 + 24 + 24 + 1201 + 86400 + 40000 + 1536 + 9600 + 57600 + 1200 + 24 + 28 + 115200 + 700 + 700 + 700 + 700 + 700 + 700 + 131072 + 131072 + 1297 + 24 + 20000 + 401 + 401 + 8 + 60 + 60 + 60 + 1440 + 1440 + 1440 + 1440 + 1201 + 1201 + 1202) := by rw [eS311]; exact hlg
  refine lv_aload_n hx hb dX14_init_471 rfl (lv_at hl 0 rfl) ?_
  refine lv_sipush (v := 24000) hx hb dX14_init_472 (by decide) ?_
  obtain ⟨hv312, h⟩ := h
  have e9 : KC = 300000 := rfl
  have e8 : KS = 3720000 := rfl
  have e7 : TXB = 10000000 := rfl
  have hTX : qn S311 < TXB := by have := hv312.1; omega
  refine va_newa (atype := .int) (ty := .int) (a0 := (24000, .inl (fun _ => 0))) (N' := 24000) hx hb (hts (.arrayClass .int) kx_346) rfl hR.K hR.P hR.D hR.sS hA (fun _ => rfl) (by decide) (by decide) (by show 24000 * 4 ≤ 536870912; have := hv312.2; omega) (show 0 + 1 + 1 + 1 + 1 + 1 + 1 + 1 + 1 + 1 + 1 + 1 + 1 + 1 + 1 + 1 + 1 + 1 + 1 + 1 + 1 + 1 + 1 + 1 + 1 + 1 + 1 + 1 + 1 + 1 + 1 + 1 + 1 + 1 + 1 + 1 + 1 + 1 + 1 + 1 + 1 + 1 + 1 + 1 + 1 + 1 + 1 + 1 + 1 + 1 + 1 + 1 + 1 ≤ KC - qn S from hlg.c1 hv312.1) (show 0 + 12 + 16000 + 6 + 502 + 502 + 502 + 502 + 502 + 48 + 3000 + 3000 + 24 + 24 + 24 + 24 + 24 + 24 + 1201 + 86400 + 40000 + 1536 + 9600 + 57600 + 1200 + 24 + 28 + 115200 + 700 + 700 + 700 + 700 + 700 + 700 + 131072 + 131072 + 1297 + 24 + 20000 + 401 + 401 + 8 + 60 + 60 + 60 + 1440 + 1440 + 1440 + 1440 + 1201 + 1201 + 1202 + 24000 ≤ KS - qu S from hlg.s1 hv312.2) dX14_init_475 (fun q313 cA9 H hK9 hP hD hS => ?_)
  obtain rfl := cls_new2 hR.K hK9 (k := 1) rfl (fun _ h => by cases h)
  have hw8 := hR.w
  have hR := hR.new (t := 2) (n := 24000) (k := 24000) hTX (by decide) (fun q9 => absurd q9 (by decide)) wN_cI hP hD hS
  have hk8 : adk am308 (adx am308 (qn S311) q313) S311 := adk.rf.new (Nat.le_refl _) hTX
  have hak := hak.new (q := q313) hlg.2.2.1 hTX
  have hE := hE.ad hk8
  have hlg : lg S (wN S311 2 24000 24000) (0 + 1 + 1 + 1 + 1 + 1 + 1 + 1 + 1 + 1 + 1 + 1 + 1 + 1 + 1 + 1 + 1 + 1 + 1 + 1 + 1 + 1 + 1 + 1 + 1 + 1 + 1 + 1 + 1 + 1 + 1 + 1 + 1 + 1 + 1 + 1 + 1 + 1 + 1 + 1 + 1 + 1 + 1 + 1 + 1 + 1 + 1 + 1 + 1 + 1 + 1 + 1 + 1) (0 + 12 + 16000 + 6 + 502 + 502 + 502 + 502 + 502 + 48 + 3000 + 3000 + 24 + 24 + 24 + 24 + 24 + 24 + 1201 + 86400 + 40000 + 1536 + 9600 + 57600 + 1200 + 24 + 28 + 115200 + 700 + 700 + 700 + 700 + 700 + 700 + 131072 + 131072 + 1297 + 24 + 20000 + 401 + 401 + 8 + 60 + 60 + 60 + 1440 + 1440 + 1440 + 1440 + 1201 + 1201 + 1202 + 24000) := hlg.new (t := 2) (n := 24000) ⟨hv312.1, hv312.2⟩
  have hs8 : shx S311 (wN S311 2 24000 24000) := shx.newZ (t := 2) (n := 24000) (k := 24000) shx.rf hw8 hTX
  obtain ⟨am314, eam314⟩ : ∃ z, z = adx am308 (qn S311) q313 := ⟨_, rfl⟩
  have eq_q313 : am314 (qn S311) = q313 := by rw [eam314]; exact if_pos rfl
  rw [← eam314] at hR hk8 hak hE
  obtain ⟨S315, eS315⟩ : ∃ z, z = wN S311 2 24000 24000 := ⟨_, rfl⟩
  rw [← eS315] at hR hlg hs8
  replace h := h S315 eS315
  have hsh := hsh.tr hs8
  have hT_b316 : qT S315 (qn S311) = 2 := by rw [eS315]; exact if_pos rfl
  have ea_0 : am314 0 = am308 0 := hk8 _ (hw8.hd hw8.1 (by decide) (by decide))
  have hl : lv_has ls 1 [(0, .ref (am314 0))] := by simp only [ea_0]; exact hl
  refine W.eq (g2 := F0 m 477 ls [.ref (am314 (qn S311)), .ref (am314 0)]) (by simp only [ea_0, eq_q313]) ?_
  clear hw8 hk8 hs8 hP hD hS e9 e8 e7 hTX
  refine va_putF (D := rD g) (ci := 13) (v := .ref (am314 (qn S311))) (ty := (.array .int)) (C := RX14) (T := TX14) (N := 143) hx hb hts in2X14 tyX14 tyX14_ok nmX14 hown hR.K hR.P hR.D hR.sS 0 (hR.at14 hR.w.1) rfl 109 (by decide) (hts _ kx_674) (fun _ h9 => h9) rfl hin9 rfl (by decide +kernel) rfl rfl (Nat.le_of_ble_eq_true rfl) dX14_init_477 (fun H locs hP hD hS => ?_)
  have hw9 : wfMZ (wR S315 0 109 (some (qn S311))) := hR.w.put (fun b q9 => by cases q9; exact (hT_b316).trans (by rw [hR.w.1]; rfl)) (fun _ _ h9 => absurd h9 List.not_mem_nil) (by rw [hR.w.1]; decide)
  have hR : RepZ g am314 A s (wR S315 0 109 (some (qn S311))) H locs := hR.pR hR.w.1 F14_s109 hw9 hP hD hS
  obtain ⟨S317, eS317⟩ : ∃ z, z = wR S315 0 109 (some (qn S311)) := ⟨_, rfl⟩
  rw [← eS317] at hR
  replace h := h S317 eS317
  have hsh : shx S S317 := by rw [eS317]; exact hsh
  have hlg : lg S S317 (0 + 1 + 1 + 1 + 1 + 1 + 1 + 1 + 1 + 1 + 1 + 1 + 1 + 1 + 1 + 1 + 1 + 1 + 1 + 1 + 1 + 1 + 1 + 1 + 1 + 1 + 1 + 1 + 1 + 1 + 1 + 1 + 1 + 1 + 1 + 1 + 1 + 1 + 1 + 1 + 1 + 1 + 1 + 1 + 1 + 1 + 1 + 1 + 1 + 1 + 1 + 1 + 1) (0 + 12 + 16000 + 6 + 502 + 502 + 502 + 502 + 502 + 48 + 3000 + 3000 + 24 + 24 + 24 + 24 + 24 + 24 + 1201 + 86400 + 40000 + 1536 + 9600 + 57600 + 1200 + 24 + 28 + 115200 + 700 + 700 + 700 + 700 + 700 + 700 + 131072 + 131072 + 1297 + 24 + 20000 + 401 + 401 + 8 + 60 + 60 + 60 + 1440 + 1440 + 1440 + 1440 + 1201 + 1201 + 1202 + 24000) := by rw [eS317]; exact hlg
  refine lv_aload_n hx hb dX14_init_480 rfl (lv_at hl 0 rfl) ?_
  refine lv_sipush (v := 1200) hx hb dX14_init_481 (by decide) ?_
  obtain ⟨hv318, h⟩ := h
  have e9 : KC = 300000 := rfl
  have e8 : KS = 3720000 := rfl
  have e7 : TXB = 10000000 := rfl
  have hTX : qn S317 < TXB := by have := hv318.1; omega
  refine va_newa (atype := .boolean) (ty := .boolean) (a0 := (1200, .inl (fun _ => 0))) (N' := 1200) hx hb (hts (.arrayClass .boolean) kx_1223) rfl hR.K hR.P hR.D hR.sS hA (fun _ => rfl) (by decide) (by decide) (by show 1200 * 1 ≤ 536870912; have := hv318.2; omega) (show 0 + 1 + 1 + 1 + 1 + 1 + 1 + 1 + 1 + 1 + 1 + 1 + 1 + 1 + 1 + 1 + 1 + 1 + 1 + 1 + 1 + 1 + 1 + 1 + 1 + 1 + 1 + 1 + 1 + 1 + 1 + 1 + 1 + 1 + 1 + 1 + 1 + 1 + 1 + 1 + 1 + 1 + 1 + 1 + 1 + 1 + 1 + 1 + 1 + 1 + 1 + 1 + 1 + 1 ≤ KC - qn S from hlg.c1 hv318.1) (show 0 + 12 + 16000 + 6 + 502 + 502 + 502 + 502 + 502 + 48 + 3000 + 3000 + 24 + 24 + 24 + 24 + 24 + 24 + 1201 + 86400 + 40000 + 1536 + 9600 + 57600 + 1200 + 24 + 28 + 115200 + 700 + 700 + 700 + 700 + 700 + 700 + 131072 + 131072 + 1297 + 24 + 20000 + 401 + 401 + 8 + 60 + 60 + 60 + 1440 + 1440 + 1440 + 1440 + 1201 + 1201 + 1202 + 24000 + 1200 ≤ KS - qu S from hlg.s1 hv318.2) dX14_init_484 (fun q319 cA9 H hK9 hP hD hS => ?_)
  obtain rfl := cls_new2 hR.K hK9 (k := 2) rfl (fun _ h => by cases h)
  have hw8 := hR.w
  have hR := hR.new (t := 3) (n := 1200) (k := 1200) hTX (by decide) (fun q9 => absurd q9 (by decide)) wN_cZ hP hD hS
  have hk8 : adk am314 (adx am314 (qn S317) q319) S317 := adk.rf.new (Nat.le_refl _) hTX
  have hak := hak.new (q := q319) hlg.2.2.1 hTX
  have hE := hE.ad hk8
  have hlg : lg S (wN S317 3 1200 1200) (0 + 1 + 1 + 1 + 1 + 1 + 1 + 1 + 1 + 1 + 1 + 1 + 1 + 1 + 1 + 1 + 1 + 1 + 1 + 1 + 1 + 1 + 1 + 1 + 1 + 1 + 1 + 1 + 1 + 1 + 1 + 1 + 1 + 1 + 1 + 1 + 1 + 1 + 1 + 1 + 1 + 1 + 1 + 1 + 1 + 1 + 1 + 1 + 1 + 1 + 1 + 1 + 1 + 1) (0 + 12 + 16000 + 6 + 502 + 502 + 502 + 502 + 502 + 48 + 3000 + 3000 + 24 + 24 + 24 + 24 + 24 + 24 + 1201 + 86400 + 40000 + 1536 + 9600 + 57600 + 1200 + 24 + 28 + 115200 + 700 + 700 + 700 + 700 + 700 + 700 + 131072 + 131072 + 1297 + 24 + 20000 + 401 + 401 + 8 + 60 + 60 + 60 + 1440 + 1440 + 1440 + 1440 + 1201 + 1201 + 1202 + 24000 + 1200) := hlg.new (t := 3) (n := 1200) ⟨hv318.1, hv318.2⟩
  have hs8 : shx S317 (wN S317 3 1200 1200) := shx.newZ (t := 3) (n := 1200) (k := 1200) shx.rf hw8 hTX
  obtain ⟨am320, eam320⟩ : ∃ z, z = adx am314 (qn S317) q319 := ⟨_, rfl⟩
  have eq_q319 : am320 (qn S317) = q319 := by rw [eam320]; exact if_pos rfl
  rw [← eam320] at hR hk8 hak hE
  obtain ⟨S321, eS321⟩ : ∃ z, z = wN S317 3 1200 1200 := ⟨_, rfl⟩
  rw [← eS321] at hR hlg hs8
  replace h := h S321 eS321
  have hsh := hsh.tr hs8
  have hT_b322 : qT S321 (qn S317) = 3 := by rw [eS321]; exact if_pos rfl
  have ea_0 : am320 0 = am314 0 := hk8 _ (hw8.hd hw8.1 (by decide) (by decide))
  have hl : lv_has ls 1 [(0, .ref (am320 0))] := by simp only [ea_0]; exact hl
  refine W.eq (g2 := F0 m 486 ls [.ref (am320 (qn S317)), .ref (am320 0)]) (by simp only [ea_0, eq_q319]) ?_
  clear hw8 hk8 hs8 hP hD hS e9 e8 e7 hTX
  refine va_putF (D := rD g) (ci := 13) (v := .ref (am320 (qn S317))) (ty := (.array .boolean)) (C := RX14) (T := TX14) (N := 143) hx hb hts in2X14 tyX14 tyX14_ok nmX14 hown hR.K hR.P hR.D hR.sS 0 (hR.at14 hR.w.1) rfl 111 (by decide) (hts _ kx_679) (fun _ h9 => h9) rfl hin9 rfl (by decide +kernel) rfl rfl (Nat.le_of_ble_eq_true rfl) dX14_init_486 (fun H locs hP hD hS => ?_)
  have hw9 : wfMZ (wR S321 0 111 (some (qn S317))) := hR.w.put (fun b q9 => by cases q9; exact (hT_b322).trans (by rw [hR.w.1]; rfl)) (fun _ _ h9 => absurd h9 List.not_mem_nil) (by rw [hR.w.1]; decide)
  have hR : RepZ g am320 A s (wR S321 0 111 (some (qn S317))) H locs := hR.pR hR.w.1 F14_s111 hw9 hP hD hS
  obtain ⟨S323, eS323⟩ : ∃ z, z = wR S321 0 111 (some (qn S317)) := ⟨_, rfl⟩
  rw [← eS323] at hR
  replace h := h S323 eS323
  have hsh : shx S S323 := by rw [eS323]; exact hsh
  have hlg : lg S S323 (0 + 1 + 1 + 1 + 1 + 1 + 1 + 1 + 1 + 1 + 1 + 1 + 1 + 1 + 1 + 1 + 1 + 1 + 1 + 1 + 1 + 1 + 1 + 1 + 1 + 1 + 1 + 1 + 1 + 1 + 1 + 1 + 1 + 1 + 1 + 1 + 1 + 1 + 1 + 1 + 1 + 1 + 1 + 1 + 1 + 1 + 1 + 1 + 1 + 1 + 1 + 1 + 1 + 1) (0 + 12 + 16000 + 6 + 502 + 502 + 502 + 502 + 502 + 48 + 3000 + 3000 + 24 + 24 + 24 + 24 + 24 + 24 + 1201 + 86400 + 40000 + 1536 + 9600 + 57600 + 1200 + 24 + 28 + 115200 + 700 + 700 + 700 + 700 + 700 + 700 + 131072 + 131072 + 1297 + 24 + 20000 + 401 + 401 + 8 + 60 + 60 + 60 + 1440 + 1440 + 1440 + 1440 + 1201 + 1201 + 1202 + 24000 + 1200) := by rw [eS323]; exact hlg
  refine lv_aload_n hx hb dX14_init_489 rfl (lv_at hl 0 rfl) ?_
  refine lv_ldc hx hb hown (hts _ kx_1227) dX14_init_490 ?_
  obtain ⟨hv324, h⟩ := h
  have e9 : KC = 300000 := rfl
  have e8 : KS = 3720000 := rfl
  have e7 : TXB = 10000000 := rfl
  have hTX : qn S323 < TXB := by have := hv324.1; omega
  refine va_newa (atype := .int) (ty := .int) (a0 := (45600, .inl (fun _ => 0))) (N' := 45600) hx hb (hts (.arrayClass .int) kx_346) rfl hR.K hR.P hR.D hR.sS hA (fun _ => rfl) (by decide) (by decide) (by show 45600 * 4 ≤ 536870912; have := hv324.2; omega) (show 0 + 1 + 1 + 1 + 1 + 1 + 1 + 1 + 1 + 1 + 1 + 1 + 1 + 1 + 1 + 1 + 1 + 1 + 1 + 1 + 1 + 1 + 1 + 1 + 1 + 1 + 1 + 1 + 1 + 1 + 1 + 1 + 1 + 1 + 1 + 1 + 1 + 1 + 1 + 1 + 1 + 1 + 1 + 1 + 1 + 1 + 1 + 1 + 1 + 1 + 1 + 1 + 1 + 1 + 1 ≤ KC - qn S from hlg.c1 hv324.1) (show 0 + 12 + 16000 + 6 + 502 + 502 + 502 + 502 + 502 + 48 + 3000 + 3000 + 24 + 24 + 24 + 24 + 24 + 24 + 1201 + 86400 + 40000 + 1536 + 9600 + 57600 + 1200 + 24 + 28 + 115200 + 700 + 700 + 700 + 700 + 700 + 700 + 131072 + 131072 + 1297 + 24 + 20000 + 401 + 401 + 8 + 60 + 60 + 60 + 1440 + 1440 + 1440 + 1440 + 1201 + 1201 + 1202 + 24000 + 1200 + 45600 ≤ KS - qu S from hlg.s1 hv324.2) dX14_init_492 (fun q325 cA9 H hK9 hP hD hS => ?_)
  obtain rfl := cls_new2 hR.K hK9 (k := 1) rfl (fun _ h => by cases h)
  have hw8 := hR.w
  have hR := hR.new (t := 2) (n := 45600) (k := 45600) hTX (by decide) (fun q9 => absurd q9 (by decide)) wN_cI hP hD hS
  have hk8 : adk am320 (adx am320 (qn S323) q325) S323 := adk.rf.new (Nat.le_refl _) hTX
  have hak := hak.new (q := q325) hlg.2.2.1 hTX
  have hE := hE.ad hk8
  have hlg : lg S (wN S323 2 45600 45600) (0 + 1 + 1 + 1 + 1 + 1 + 1 + 1 + 1 + 1 + 1 + 1 + 1 + 1 + 1 + 1 + 1 + 1 + 1 + 1 + 1 + 1 + 1 + 1 + 1 + 1 + 1 + 1 + 1 + 1 + 1 + 1 + 1 + 1 + 1 + 1 + 1 + 1 + 1 + 1 + 1 + 1 + 1 + 1 + 1 + 1 + 1 + 1 + 1 + 1 + 1 + 1 + 1 + 1 + 1) (0 + 12 + 16000 + 6 + 502 + 502 + 502 + 502 + 502 + 48 + 3000 + 3000 + 24 + 24 + 24 + 24 + 24 + 24 + 1201 + 86400 + 40000 + 1536 + 9600 + 57600 + 1200 + 24 + 28 + 115200 + 700 + 700 + 700 + 700 + 700 + 700 + 131072 + 131072 + 1297 + 24 + 20000 + 401 + 401 + 8 + 60 + 60 + 60 + 1440 + 1440 + 1440 + 1440 + 1201 + 1201 + 1202 + 24000 + 1200 + 45600) := hlg.new (t := 2) (n := 45600) ⟨hv324.1, hv324.2⟩
  have hs8 : shx S323 (wN S323 2 45600 45600) := shx.newZ (t := 2) (n := 45600) (k := 45600) shx.rf hw8 hTX
  obtain ⟨am326, eam326⟩ : ∃ z, z = adx am320 (qn S323) q325 := ⟨_, rfl⟩
  have eq_q325 : am326 (qn S323) = q325 := by rw [eam326]; exact if_pos rfl
  rw [← eam326] at hR hk8 hak hE
  obtain ⟨S327, eS327⟩ : ∃ z, z = wN S323 2 45600 45600 := ⟨_, rfl⟩
  rw [← eS327] at hR hlg hs8
  replace h := h S327 eS327
  have hsh := hsh.tr hs8
  have hT_b328 : qT S327 (qn S323) = 2 := by rw [eS327]; exact if_pos rfl
  have ea_0 : am326 0 = am320 0 := hk8 _ (hw8.hd hw8.1 (by decide) (by decide))
  have hl : lv_has ls 1 [(0, .ref (am326 0))] := by simp only [ea_0]; exact hl
  refine W.eq (g2 := F0 m 494 ls [.ref (am326 (qn S323)), .ref (am326 0)]) (by simp only [ea_0, eq_q325]) ?_
  clear hw8 hk8 hs8 hP hD hS e9 e8 e7 hTX
  refine va_putF (D := rD g) (ci := 13) (v := .ref (am326 (qn S323))) (ty := (.array .int)) (C := RX14) (T := TX14) (N := 143) hx hb hts in2X14 tyX14 tyX14_ok nmX14 hown hR.K hR.P hR.D hR.sS 0 (hR.at14 hR.w.1) rfl 112 (by decide) (hts _ kx_680) (fun _ h9 => h9) rfl hin9 rfl (by decide +kernel) rfl rfl (Nat.le_of_ble_eq_true rfl) dX14_init_494 (fun H locs hP hD hS => ?_)
  have hw9 : wfMZ (wR S327 0 112 (some (qn S323))) := hR.w.put (fun b q9 => by cases q9; exact (hT_b328).trans (by rw [hR.w.1]; rfl)) (fun _ _ h9 => absurd h9 List.not_mem_nil) (by rw [hR.w.1]; decide)
  have hR : RepZ g am326 A s (wR S327 0 112 (some (qn S323))) H locs := hR.pR hR.w.1 F14_s112 hw9 hP hD hS
  obtain ⟨S329, eS329⟩ : ∃ z, z = wR S327 0 112 (some (qn S323)) := ⟨_, rfl⟩
  rw [← eS329] at hR
  replace h := h S329 eS329
  have hsh : shx S S329 := by rw [eS329]; exact hsh
  have hlg : lg S S329 (0 + 1 + 1 + 1 + 1 + 1 + 1 + 1 + 1 + 1 + 1 + 1 + 1 + 1 + 1 + 1 + 1 + 1 + 1 + 1 + 1 + 1 + 1 + 1 + 1 + 1 + 1 + 1 + 1 + 1 + 1 + 1 + 1 + 1 + 1 + 1 + 1 + 1 + 1 + 1 + 1 + 1 + 1 + 1 + 1 + 1 + 1 + 1 + 1 + 1 + 1 + 1 + 1 + 1 + 1) (0 + 12 + 16000 + 6 + 502 + 502 + 502 + 502 + 502 + 48 + 3000 + 3000 + 24 + 24 + 24 + 24 + 24 + 24 + 1201 + 86400 + 40000 + 1536 + 9600 + 57600 + 1200 + 24 + 28 + 115200 + 700 + 700 + 700 + 700 + 700 + 700 + 131072 + 131072 + 1297 + 24 + 20000 + 401 + 401 + 8 + 60 + 60 + 60 + 1440 + 1440 + 1440 + 1440 + 1201 + 1201 + 1202 + 24000 + 1200 + 45600) := by rw [eS329]; exact hlg
  refine lv_aload_n hx hb dX14_init_497 rfl (lv_at hl 0 rfl) ?_
  refine lv_sipush (v := 1200) hx hb dX14_init_498 (by decide) ?_
  obtain ⟨hv330, h⟩ := h
  have e9 : KC = 300000 := rfl
  have e8 : KS = 3720000 := rfl
  have e7 : TXB = 10000000 := rfl
  have hTX : qn S329 < TXB := by have := hv330.1; omega
  refine va_newa (atype := .int) (ty := .int) (a0 := (1200, .inl (fun _ => 0))) (N' := 1200) hx hb (hts (.arrayClass .int) kx_346) rfl hR.K hR.P hR.D hR.sS hA (fun _ => rfl) (by decide) (by decide) (by show 1200 * 4 ≤ 536870912; have := hv330.2; omega) (show 0 + 1 + 1 + 1 + 1 + 1 + 1 + 1 + 1 + 1 + 1 + 1 + 1 + 1 + 1 + 1 + 1 + 1 + 1 + 1 + 1 + 1 + 1 + 1 + 1 + 1 + 1 + 1 + 1 + 1 + 1 + 1 + 1 + 1 + 1 + 1 + 1 + 1 + 1 + 1 + 1 + 1 + 1 + 1 + 1 + 1 + 1 + 1 + 1 + 1 + 1 + 1 + 1 + 1 + 1 + 1 ≤ KC - qn S from hlg.c1 hv330.1) (show 0 + 12 + 16000 + 6 + 502 + 502 + 502 + 502 + 502 + 48 + 3000 + 3000 + 24 + 24 + 24 + 24 + 24 + 24 + 1201 + 86400 + 40000 + 1536 + 9600 + 57600 + 1200 + 24 + 28 + 115200 + 700 + 700 + 700 + 700 + 700 + 700 + 131072 + 131072 + 1297 + 24 + 20000 + 401 + 401 + 8 + 60 + 60 + 60 + 1440 + 1440 + 1440 + 1440 + 1201 + 1201 + 1202 + 24000 + 1200 + 45600 + 1200 ≤ KS - qu S from hlg.s1 hv330.2) dX14_init_501 (fun q331 cA9 H hK9 hP hD hS => ?_)
  obtain rfl := cls_new2 hR.K hK9 (k := 1) rfl (fun _ h => by cases h)
  have hw8 := hR.w
  have hR := hR.new (t := 2) (n := 1200) (k := 1200) hTX (by decide) (fun q9 => absurd q9 (by decide)) wN_cI hP hD hS
  have hk8 : adk am326 (adx am326 (qn S329) q331) S329 := adk.rf.new (Nat.le_refl _) hTX
  have hak := hak.new (q := q331) hlg.2.2.1 hTX
  have hE := hE.ad hk8
  have hlg : lg S (wN S329 2 1200 1200) (0 + 1 + 1 + 1 + 1 + 1 + 1 + 1 + 1 + 1 + 1 + 1 + 1 + 1 + 1 + 1 + 1 + 1 + 1 + 1 + 1 + 1 + 1 + 1 + 1 + 1 + 1 + 1 + 1 + 1 + 1 + 1 + 1 + 1 + 1 + 1 + 1 + 1 + 1 + 1 + 1 + 1 + 1 + 1 + 1 + 1 + 1 + 1 + 1 + 1 + 1 + 1 + 1 + 1 + 1 + 1) (0 + 12 + 16000 + 6 + 502 + 502 + 502 + 502 + 502 + 48 + 3000 + 3000 + 24 + 24 + 24 + 24 + 24 + 24 + 1201 + 86400 + 40000 + 1536 + 9600 + 57600 + 1200 + 24 + 28 + 115200 + 700 + 700 + 700 + 700 + 700 + 700 + 131072 + 131072 + 1297 + 24 + 20000 + 401 + 401 + 8 + 60 + 60 + 60 + 1440 + 1440 + 1440 + 1440 + 1201 + 1201 + 1202 + 24000 + 1200 + 45600 + 1200) := hlg.new (t := 2) (n := 1200) ⟨hv330.1, hv330.2⟩
  have hs8 : shx S329 (wN S329 2 1200 1200) := shx.newZ (t := 2) (n := 1200) (k := 1200) shx.rf hw8 hTX
  obtain ⟨am332, eam332⟩ : ∃ z, z = adx am326 (qn S329) q331 := ⟨_, rfl⟩
  have eq_q331 : am332 (qn S329) = q331 := by rw [eam332]; exact if_pos rfl
  rw [← eam332] at hR hk8 hak hE
  obtain ⟨S333, eS333⟩ : ∃ z, z = wN S329 2 1200 1200 := ⟨_, rfl⟩
  rw [← eS333] at hR hlg hs8
  replace h := h S333 eS333
  have hsh := hsh.tr hs8
  have hT_b334 : qT S333 (qn S329) = 2 := by rw [eS333]; exact if_pos rfl
  have ea_0 : am332 0 = am326 0 := hk8 _ (hw8.hd hw8.1 (by decide) (by decide))
  have hl : lv_has ls 1 [(0, .ref (am332 0))] := by simp only [ea_0]; exact hl
  refine W.eq (g2 := F0 m 503 ls [.ref (am332 (qn S329)), .ref (am332 0)]) (by simp only [ea_0, eq_q331]) ?_
  clear hw8 hk8 hs8 hP hD hS e9 e8 e7 hTX
  refine va_putF (D := rD g) (ci := 13) (v := .ref (am332 (qn S329))) (ty := (.array .int)) (C := RX14) (T := TX14) (N := 143) hx hb hts in2X14 tyX14 tyX14_ok nmX14 hown hR.K hR.P hR.D hR.sS 0 (hR.at14 hR.w.1) rfl 113 (by decide) (hts _ kx_681) (fun _ h9 => h9) rfl hin9 rfl (by decide +kernel) rfl rfl (Nat.le_of_ble_eq_true rfl) dX14_init_503 (fun H locs hP hD hS => ?_)
  have hw9 : wfMZ (wR S333 0 113 (some (qn S329))) := hR.w.put (fun b q9 => by cases q9; exact (hT_b334).trans (by rw [hR.w.1]; rfl)) (fun _ _ h9 => absurd h9 List.not_mem_nil) (by rw [hR.w.1]; decide)
  have hR : RepZ g am332 A s (wR S333 0 113 (some (qn S329))) H locs := hR.pR hR.w.1 F14_s113 hw9 hP hD hS
  obtain ⟨S335, eS335⟩ : ∃ z, z = wR S333 0 113 (some (qn S329)) := ⟨_, rfl⟩
  rw [← eS335] at hR
  replace h := h S335 eS335
  have hsh : shx S S335 := by rw [eS335]; exact hsh
  have hlg : lg S S335 (0 + 1 + 1 + 1 + 1 + 1 + 1 + 1 + 1 + 1 + 1 + 1 + 1 + 1 + 1 + 1 + 1 + 1 + 1 + 1 + 1 + 1 + 1 + 1 + 1 + 1 + 1 + 1 + 1 + 1 + 1 + 1 + 1 + 1 + 1 + 1 + 1 + 1 + 1 + 1 + 1 + 1 + 1 + 1 + 1 + 1 + 1 + 1 + 1 + 1 + 1 + 1 + 1 + 1 + 1 + 1) (0 + 12 + 16000 + 6 + 502 + 502 + 502 + 502 + 502 + 48 + 3000 + 3000 + 24 + 24 + 24 + 24 + 24 + 24 + 1201 + 86400 + 40000 + 1536 + 9600 + 57600 + 1200 + 24 + 28 + 115200 + 700 + 700 + 700 + 700 + 700 + 700 + 131072 + 131072 + 1297 + 24 + 20000 + 401 + 401 + 8 + 60 + 60 + 60 + 1440 + 1440 + 1440 + 1440 + 1201 + 1201 + 1202 + 24000 + 1200 + 45600 + 1200) := by rw [eS335]; exact hlg
  refine lv_aload_n hx hb dX14_init_506 rfl (lv_at hl 0 rfl) ?_
  refine lv_sipush (v := 1200) hx hb dX14_init_507 (by decide) ?_
  obtain ⟨hv336, h⟩ := h
  have e9 : KC = 300000 := rfl
  have e8 : KS = 3720000 := rfl
  have e7 : TXB = 10000000 := rfl
  have hTX : qn S335 < TXB := by have := hv336.1; omega
  refine va_newa (atype := .boolean) (ty := .boolean) (a0 := (1200, .inl (fun _ => 0))) (N' := 1200) hx hb (hts (.arrayClass .boolean) kx_1223) rfl hR.K hR.P hR.D hR.sS hA (fun _ => rfl) (by decide) (by decide) (by show 1200 * 1 ≤ 536870912; have := hv336.2; omega) (show 0 + 1 + 1 + 1 + 1 + 1 + 1 + 1 + 1 + 1 + 1 + 1 + 1 + 1 + 1 + 1 + 1 + 1 + 1 + 1 + 1 + 1 + 1 + 1 + 1 + 1 + 1 + 1 + 1 + 1 + 1 + 1 + 1 + 1 + 1 + 1 + 1 + 1 + 1 + 1 + 1 + 1 + 1 + 1 + 1 + 1 + 1 + 1 + 1 + 1 + 1 + 1 + 1 + 1 + 1 + 1 + 1 ≤ KC - qn S from hlg.c1 hv336.1) (show 0 + 12 + 16000 + 6 + 502 + 502 + 502 + 502 + 502 + 48 + 3000 + 3000 + 24 + 24 + 24 + 24 + 24 + 24 + 1201 + 86400 + 40000 + 1536 + 9600 + 57600 + 1200 + 24 + 28 + 115200 + 700 + 700 + 700 + 700 + 700 + 700 + 131072 + 131072 + 1297 + 24 + 20000 + 401 + 401 + 8 + 60 + 60 + 60 + 1440 + 1440 + 1440 + 1440 + 1201 + 1201 + 1202 + 24000 + 1200 + 45600 + 1200 + 1200 ≤ KS - qu S from hlg.s1 hv336.2) dX14_init_510 (fun q337 cA9 H hK9 hP hD hS => ?_)
  obtain rfl := cls_new2 hR.K hK9 (k := 2) rfl (fun _ h => by cases h)
  have hw8 := hR.w
  have hR := hR.new (t := 3) (n := 1200) (k := 1200) hTX (by decide) (fun q9 => absurd q9 (by decide)) wN_cZ hP hD hS
  have hk8 : adk am332 (adx am332 (qn S335) q337) S335 := adk.rf.new (Nat.le_refl _) hTX
  have hak := hak.new (q := q337) hlg.2.2.1 hTX
  have hE := hE.ad hk8
  have hlg : lg S (wN S335 3 1200 1200) (0 + 1 + 1 + 1 + 1 + 1 + 1 + 1 + 1 + 1 + 1 + 1 + 1 + 1 + 1 + 1 + 1 + 1 + 1 + 1 + 1 + 1 + 1 + 1 + 1 + 1 + 1 + 1 + 1 + 1 + 1 + 1 + 1 + 1 + 1 + 1 + 1 + 1 + 1 + 1 + 1 + 1 + 1 + 1 + 1 + 1 + 1 + 1 + 1 + 1 + 1 + 1 + 1 + 1 + 1 + 1 + 1) (0 + 12 + 16000 + 6 + 502 + 502 + 502 + 502 + 502 + 48 + 3000 + 3000 + 24 + 24 + 24 + 24 + 24 + 24 + 1201 + 86400 + 40000 + 1536 + 9600 + 57600 + 1200 + 24 + 28 + 115200 + 700 + 700 + 700 + 700 + 700 + 700 + 131072 + 131072 + 1297 + 24 + 20000 + 401 + 401 + 8 + 60 + 60 + 60 + 1440 + 1440 + 1440 + 1440 + 1201 + 1201 + 1202 + 24000 + 1200 + 45600 + 1200 + 1200) := hlg.new (t := 3) (n := 1200) ⟨hv336.1, hv336.2⟩
  have hs8 : shx S335 (wN S335 3 1200 1200) := shx.newZ (t := 3) (n := 1200) (k := 1200) shx.rf hw8 hTX
  obtain ⟨am338, eam338⟩ : ∃ z, z = adx am332 (qn S335) q337 := ⟨_, rfl⟩
  have eq_q337 : am338 (qn S335) = q337 := by rw [eam338]; exact if_pos rfl
  rw [← eam338] at hR hk8 hak hE
  obtain ⟨S339, eS339⟩ : ∃ z, z = wN S335 3 1200 1200 := ⟨_, rfl⟩
  rw [← eS339] at hR hlg hs8
  replace h := h S339 eS339
  have hsh := hsh.tr hs8
  have hT_b340 : qT S339 (qn S335) = 3 := by rw [eS339]; exact if_pos rfl
  have ea_0 : am338 0 = am332 0 := hk8 _ (hw8.hd hw8.1 (by decide) (by decide))
  have hl : lv_has ls 1 [(0, .ref (am338 0))] := by simp only [ea_0]; exact hl
  refine W.eq (g2 := F0 m 512 ls [.ref (am338 (qn S335)), .ref (am338 0)]) (by simp only [ea_0, eq_q337]) ?_
  clear hw8 hk8 hs8 hP hD hS e9 e8 e7 hTX
  refine va_putF (D := rD g) (ci := 13) (v := .ref (am338 (qn S335))) (ty := (.array .boolean)) (C := RX14) (T := TX14) (N := 143) hx hb hts in2X14 tyX14 tyX14_ok nmX14 hown hR.K hR.P hR.D hR.sS 0 (hR.at14 hR.w.1) rfl 114 (by decide) (hts _ kx_687) (fun _ h9 => h9) rfl hin9 rfl (by decide +kernel) rfl rfl (Nat.le_of_ble_eq_true rfl) dX14_init_512 (fun H locs hP hD hS => ?_)
  have hw9 : wfMZ (wR S339 0 114 (some (qn S335))) := hR.w.put (fun b q9 => by cases q9; exact (hT_b340).trans (by rw [hR.w.1]; rfl)) (fun _ _ h9 => absurd h9 List.not_mem_nil) (by rw [hR.w.1]; decide)
  have hR : RepZ g am338 A s (wR S339 0 114 (some (qn S335))) H locs := hR.pR hR.w.1 F14_s114 hw9 hP hD hS
  obtain ⟨S341, eS341⟩ : ∃ z, z = wR S339 0 114 (some (qn S335)) := ⟨_, rfl⟩
  rw [← eS341] at hR
  replace h := h S341 eS341
  have hsh : shx S S341 := by rw [eS341]; exact hsh
  have hlg : lg S S341 (0 + 1 + 1 + 1 + 1 + 1 + 1 + 1 + 1 + 1 + 1 + 1 + 1 + 1 + 1 + 1 + 1 + 1 + 1 + 1 + 1 + 1 + 1 + 1 + 1 + 1 + 1 + 1 + 1 + 1 + 1 + 1 + 1 + 1 + 1 + 1 + 1 + 1 + 1 + 1 + 1 + 1 + 1 + 1 + 1 + 1 + 1 + 1 + 1 + 1 + 1 + 1 + 1 + 1 + 1 + 1 + 1) (0 + 12 + 16000 + 6 + 502 + 502 + 502 + 502 + 502 + 48 + 3000 + 3000 + 24 + 24 + 24 + 24 + 24 + 24 + 1201 + 86400 + 40000 + 1536 + 9600 + 57600 + 1200 + 24 + 28 + 115200 + 700 + 700 + 700 + 700 + 700 + 700 + 131072 + 131072 + 1297 + 24 + 20000 + 401 + 401 + 8 + 60 + 60 + 60 + 1440 + 1440 + 1440 + 1440 + 1201 + 1201 + 1202 + 24000 + 1200 + 45600 + 1200 + 1200) := by rw [eS341]; exact hlg
  refine lv_aload_n hx hb dX14_init_515 rfl (lv_at hl 0 rfl) ?_
  refine lv_sipush (v := 1200) hx hb dX14_init_516 (by decide) ?_
  obtain ⟨hv342, h⟩ := h
  have e9 : KC = 300000 := rfl
  have e8 : KS = 3720000 := rfl
  have e7 : TXB = 10000000 := rfl
  have hTX : qn S341 < TXB := by have := hv342.1; omega
  refine va_newa (atype := .int) (ty := .int) (a0 := (1200, .inl (fun _ => 0))) (N' := 1200) hx hb (hts (.arrayClass .int) kx_346) rfl hR.K hR.P hR.D hR.sS hA (fun _ => rfl) (by decide) (by decide) (by show 1200 * 4 ≤ 536870912; have := hv342.2; omega) (show 0 + 1 + 1 + 1 + 1 + 1 + 1 + 1 + 1 + 1 + 1 + 1 + 1 + 1 + 1 + 1 + 1 + 1 + 1 + 1 + 1 + 1 + 1 + 1 + 1 + 1 + 1 + 1 + 1 + 1 + 1 + 1 + 1 + 1 + 1 + 1 + 1 + 1 + 1 + 1 + 1 + 1 + 1 + 1 + 1 + 1 + 1 + 1 + 1 + 1 + 1 + 1 + 1 + 1 + 1 + 1 + 1 + 1 ≤ KC - qn S from hlg.c1 hv342.1) (show 0 + 12 + 16000 + 6 + 502 + 502 + 502 + 502 + 502 + 48 + 3000 + 3000 + 24 + 24 + 24 + 24 + 24 + 24 + 1201 + 86400 + 40000 + 1536 + 9600 + 57600 + 1200 + 24 + 28 + 115200 + 700 + 700 + 700 + 700 + 700 + 700 + 131072 + 131072 + 1297 + 24 + 20000 + 401 + 401 + 8 + 60 + 60 + 60 + 1440 + 1440 + 1440 + 1440 + 1201 + 1201 + 1202 + 24000 + 1200 + 45600 + 1200 + 1200 + 1200 ≤ KS - qu S from hlg.s1 hv342.2) dX14_init_519 (fun q343 cA9 H hK9 hP hD hS => ?_)
  obtain rfl := cls_new2 hR.K hK9 (k := 1) rfl (fun _ h => by cases h)
  have hw8 := hR.w
  have hR := hR.new (t := 2) (n := 1200) (k := 1200) hTX (by decide) (fun q9 => absurd q9 (by decide)) wN_cI hP hD hS
  have hk8 : adk am338 (adx am338 (qn S341) q343) S341 := adk.rf.new (Nat.le_refl _) hTX
  have hak := hak.new (q := q343) hlg.2.2.1 hTX
  have hE := hE.ad hk8
  have hlg : lg S (wN S341 2 1200 1200) (0 + 1 + 1 + 1 + 1 + 1 + 1 + 1 + 1 + 1 + 1 + 1 + 1 + 1 + 1 + 1 + 1 + 1 + 1 + 1 + 1 + 1 + 1 + 1 + 1 + 1 + 1 + 1 + 1 + 1 + 1 + 1 + 1 + 1 + 1 + 1 + 1 + 1 + 1 + 1 + 1 + 1 + 1 + 1 + 1 + 1 + 1 + 1 + 1 + 1 + 1 + 1 + 1 + 1 + 1 + 1 + 1 + 1) (0 + 12 + 16000 + 6 + 502 + 502 + 502 + 502 + 502 + 48 + 3000 + 3000 + 24 + 24 + 24 + 24 + 24 + 24 + 1201 + 86400 + 40000 + 1536 + 9600 + 57600 + 1200 + 24 + 28 + 115200 + 700 + 700 + 700 + 700 + 700 + 700 + 131072 + 131072 + 1297 + 24 + 20000 + 401 + 401 + 8 + 60 + 60 + 60 + 1440 + 1440 + 1440 + 1440 + 1201 + 1201 + 1202 + 24000 + 1200 + 45600 + 1200 + 1200 + 1200) := hlg.new (t := 2) (n := 1200) ⟨hv342.1, hv342.2⟩
  have hs8 : shx S341 (wN S341 2 1200 1200) := shx.newZ (t := 2) (n := 1200) (k := 1200) shx.rf hw8 hTX
  obtain ⟨am344, eam344⟩ : ∃ z, z = adx am338 (qn S341) q343 := ⟨_, rfl⟩
  have eq_q343 : am344 (qn S341) = q343 := by rw [eam344]; exact if_pos rfl
  rw [← eam344] at hR hk8 hak hE
  obtain ⟨S345, eS345⟩ : ∃ z, z = wN S341 2 1200 1200 := ⟨_, rfl⟩
  rw [← eS345] at hR hlg hs8
  replace h := h S345 eS345
  have hsh := hsh.tr hs8
  have hT_b346 : qT S345 (qn S341) = 2 := by rw [eS345]; exact if_pos rfl
  have ea_0 : am344 0 = am338 0 := hk8 _ (hw8.hd hw8.1 (by decide) (by decide))
  have hl : lv_has ls 1 [(0, .ref (am344 0))] := by simp only [ea_0]; exact hl
  refine W.eq (g2 := F0 m 521 ls [.ref (am344 (qn S341)), .ref (am344 0)]) (by simp only [ea_0, eq_q343]) ?_
  clear hw8 hk8 hs8 hP hD hS e9 e8 e7 hTX
  refine va_putF (D := rD g) (ci := 13) (v := .ref (am344 (qn S341))) (ty := (.array .int)) (C := RX14) (T := TX14) (N := 143) hx hb hts in2X14 tyX14 tyX14_ok nmX14 hown hR.K hR.P hR.D hR.sS 0 (hR.at14 hR.w.1) rfl 115 (by decide) (hts _ kx_689) (fun _ h9 => h9) rfl hin9 rfl (by decide +kernel) rfl rfl (Nat.le_of_ble_eq_true rfl) dX14_init_521 (fun H locs hP hD hS => ?_)
  have hw9 : wfMZ (wR S345 0 115 (some (qn S341))) := hR.w.put (fun b q9 => by cases q9; exact (hT_b346).trans (by rw [hR.w.1]; rfl)) (fun _ _ h9 => absurd h9 List.not_mem_nil) (by rw [hR.w.1]; decide)
  have hR : RepZ g am344 A s (wR S345 0 115 (some (qn S341))) H locs := hR.pR hR.w.1 F14_s115 hw9 hP hD hS
  obtain ⟨S347, eS347⟩ : ∃ z, z = wR S345 0 115 (some (qn S341)) := ⟨_, rfl⟩
  rw [← eS347] at hR
  replace h := h S347 eS347
  have hsh : shx S S347 := by rw [eS347]; exact hsh
  have hlg : lg S S347 (0 + 1 + 1 + 1 + 1 + 1 + 1 + 1 + 1 + 1 + 1 + 1 + 1 + 1 + 1 + 1 + 1 + 1 + 1 + 1 + 1 + 1 + 1 + 1 + 1 + 1 + 1 + 1 + 1 + 1 + 1 + 1 + 1 + 1 + 1 + 1 + 1 + 1 + 1 + 1 + 1 + 1 + 1 + 1 + 1 + 1 + 1 + 1 + 1 + 1 + 1 + 1 + 1 + 1 + 1 + 1 + 1 + 1) (0 + 12 + 16000 + 6 + 502 + 502 + 502 + 502 + 502 + 48 + 3000 + 3000 + 24 + 24 + 24 + 24 + 24 + 24 + 1201 + 86400 + 40000 + 1536 + 9600 + 57600 + 1200 + 24 + 28 + 115200 + 700 + 700 + 700 + 700 + 700 + 700 + 131072 + 131072 + 1297 + 24 + 20000 + 401 + 401 + 8 + 60 + 60 + 60 + 1440 + 1440 + 1440 + 1440 + 1201 + 1201 + 1202 + 24000 + 1200 + 45600 + 1200 + 1200 + 1200) := by rw [eS347]; exact hlg
  refine lv_aload_n hx hb dX14_init_524 rfl (lv_at hl 0 rfl) ?_
  refine lv_sipush (v := 1200) hx hb dX14_init_525 (by decide) ?_
  obtain ⟨hv348, h⟩ := h
  have e9 : KC = 300000 := rfl
  have e8 : KS = 3720000 := rfl
  have e7 : TXB = 10000000 := rfl
  have hTX : qn S347 < TXB := by have := hv348.1; omega
  refine va_newa (atype := .boolean) (ty := .boolean) (a0 := (1200, .inl (fun _ => 0))) (N' := 1200) hx hb (hts (.arrayClass .boolean) kx_1223) rfl hR.K hR.P hR.D hR.sS hA (fun _ => rfl) (by decide) (by decide) (by show 1200 * 1 ≤ 536870912; have := hv348.2; omega) (show 0 + 1 + 1 + 1 + 1 + 1 + 1 + 1 + 1 + 1 + 1 + 1 + 1 + 1 + 1 + 1 + 1 + 1 + 1 + 1 + 1 + 1 + 1 + 1 + 1 + 1 + 1 + 1 + 1 + 1 + 1 + 1 + 1 + 1 + 1 + 1 + 1 + 1 + 1 + 1 + 1 + 1 + 1 + 1 + 1 + 1 + 1 + 1 + 1 + 1 + 1 + 1 + 1 + 1 + 1 + 1 + 1 + 1 + 1 ≤ KC - qn S from hlg.c1 hv348.1) (show 0 + 12 + 16000 + 6 + 502 + 502 + 502 + 502 + 502 + 48 + 3000 + 3000 + 24 + 24 + 24 + 24 + 24 + 24 + 1201 + 86400 + 40000 + 1536 + 9600 + 57600 + 1200 + 24 + 28 + 115200 + 700 + 700 + 700 + 700 + 700 + 700 + 131072 + 131072 + 1297 + 24 + 20000 + 401 + 401 + 8 + 60 + 60 + 60 + 1440 + 1440 + 1440 + 1440 + 1201 + 1201 + 1202 + 24000 + 1200 + 45600 + 1200 + 1200 + 1200 + 1200 ≤ KS - qu S from hlg.s1 hv348.2) dX14_init_528 (fun q349 cA9 H hK9 hP hD hS => ?_)
  obtain rfl := cls_new2 hR.K hK9 (k := 2) rfl (fun _ h => by cases h)
  have hw8 := hR.w
  have hR := hR.new (t := 3) (n := 1200) (k := 1200) hTX (by decide) (fun q9 => absurd q9 (by decide)) wN_cZ hP hD hS
  have hk8 : adk am344 (adx am344 (qn S347) q349) S347 := adk.rf.new (Nat.le_refl _) hTX
  have hak := hak.new (q := q349) hlg.2.2.1 hTX
  have hE := hE.ad hk8
  have hlg : lg S (wN S347 3 1200 1200) (0 + 1 + 1 + 1 + 1 + 1 + 1 + 1 + 1 + 1 + 1 + 1 + 1 + 1 + 1 + 1 + 1 + 1 + 1 + 1 + 1 + 1 + 1 + 1 + 1 + 1 + 1 + 1 + 1 + 1 + 1 + 1 + 1 + 1 + 1 + 1 + 1 + 1 + 1 + 1 + 1 + 1 + 1 + 1 + 1 + 1 + 1 + 1 + 1 + 1 + 1 + 1 + 1 + 1 + 1 + 1 + 1 + 1 + 1) (0 + 12 + 16000 + 6 + 502 + 502 + 502 + 502 + 502 + 48 + 3000 + 3000 + 24 + 24 + 24 + 24 + 24 + 24 + 1201 + 86400 + 40000 + 1536 + 9600 + 57600 + 1200 + 24 + 28 + 115200 + 700 + 700 + 700 + 700 + 700 + 700 + 131072 + 131072 + 1297 + 24 + 20000 + 401 + 401 + 8 + 60 + 60 + 60 + 1440 + 1440 + 1440 + 1440 + 1201 + 1201 + 1202 + 24000 + 1200 + 45600 + 1200 + 1200 + 1200 + 1200) := hlg.new (t := 3) (n := 1200) ⟨hv348.1, hv348.2⟩
  have hs8 : shx S347 (wN S347 3 1200 1200) := shx.newZ (t := 3) (n := 1200) (k := 1200) shx.rf hw8 hTX
  obtain ⟨am350, eam350⟩ : ∃ z, z = adx am344 (qn S347) q349 := ⟨_, rfl⟩
  have eq_q349 : am350 (qn S347) = q349 := by rw [eam350]; exact if_pos rfl
  rw [← eam350] at hR hk8 hak hE
  obtain ⟨S351, eS351⟩ : ∃ z, z = wN S347 3 1200 1200 := ⟨_, rfl⟩
  rw [← eS351] at hR hlg hs8
  replace h := h S351 eS351
  have hsh := hsh.tr hs8
  have hT_b352 : qT S351 (qn S347) = 3 := by rw [eS351]; exact if_pos rfl
  have ea_0 : am350 0 = am344 0 := hk8 _ (hw8.hd hw8.1 (by decide) (by decide))
  have hl : lv_has ls 1 [(0, .ref (am350 0))] := by simp only [ea_0]; exact hl
  refine W.eq (g2 := F0 m 530 ls [.ref (am350 (qn S347)), .ref (am350 0)]) (by simp only [ea_0, eq_q349]) ?_
  clear hw8 hk8 hs8 hP hD hS e9 e8 e7 hTX
  refine va_putF (D := rD g) (ci := 13) (v := .ref (am350 (qn S347))) (ty := (.array .boolean)) (C := RX14) (T := TX14) (N := 143) hx hb hts in2X14 tyX14 tyX14_ok nmX14 hown hR.K hR.P hR.D hR.sS 0 (hR.at14 hR.w.1) rfl 116 (by decide) (hts _ kx_688) (fun _ h9 => h9) rfl hin9 rfl (by decide +kernel) rfl rfl (Nat.le_of_ble_eq_true rfl) dX14_init_530 (fun H locs hP hD hS => ?_)
  have hw9 : wfMZ (wR S351 0 116 (some (qn S347))) := hR.w.put (fun b q9 => by cases q9; exact (hT_b352).trans (by rw [hR.w.1]; rfl)) (fun _ _ h9 => absurd h9 List.not_mem_nil) (by rw [hR.w.1]; decide)
  have hR : RepZ g am350 A s (wR S351 0 116 (some (qn S347))) H locs := hR.pR hR.w.1 F14_s116 hw9 hP hD hS
  obtain ⟨S353, eS353⟩ : ∃ z, z = wR S351 0 116 (some (qn S347)) := ⟨_, rfl⟩
  rw [← eS353] at hR
  replace h := h S353 eS353
  have hsh : shx S S353 := by rw [eS353]; exact hsh
  have hlg : lg S S353 (0 + 1 + 1 + 1 + 1 + 1 + 1 + 1 + 1 + 1 + 1 + 1 + 1 + 1 + 1 + 1 + 1 + 1 + 1 + 1 + 1 + 1 + 1 + 1 + 1 + 1 + 1 + 1 + 1 + 1 + 1 + 1 + 1 + 1 + 1 + 1 + 1 + 1 + 1 + 1 + 1 + 1 + 1 + 1 + 1 + 1 + 1 + 1 + 1 + 1 + 1 + 1 + 1 + 1 + 1 + 1 + 1 + 1 + 1) (0 + 12 + 16000 + 6 + 502 + 502 + 502 + 502 + 502 + 48 + 3000 + 3000 + 24 + 24 + 24 + 24 + 24 + 24 + 1201 + 86400 + 40000 + 1536 + 9600 + 57600 + 1200 + 24 + 28 + 115200 + 700 + 700 + 700 + 700 + 700 + 700 + 131072 + 131072 + 1297 + 24 + 20000 + 401 + 401 + 8 + 60 + 60 + 60 + 1440 + 1440 + 1440 + 1440 + 1201 + 1201 + 1202 + 24000 + 1200 + 45600 + 1200 + 1200 + 1200 + 1200) := by rw [eS353]; exact hlg
  refine lv_aload_n hx hb dX14_init_533 rfl (lv_at hl 0 rfl) ?_
  refine lv_sipush (v := 1200) hx hb dX14_init_534 (by decide) ?_
  obtain ⟨hv354, h⟩ := h
  have e9 : KC = 300000 := rfl
  have e8 : KS = 3720000 := rfl
  have e7 : TXB = 10000000 := rfl
  have hTX : qn S353 < TXB := by have := hv354.1; omega
  refine va_newa (atype := .int) (ty := .int) (a0 := (1200, .inl (fun _ => 0))) (N' := 1200) hx hb (hts (.arrayClass .int) kx_346) rfl hR.K hR.P hR.D hR.sS hA (fun _ => rfl) (by decide) (by decide) (by show 1200 * 4 ≤ 536870912; have := hv354.2; omega) (show 0 + 1 + 1 + 1 + 1 + 1 + 1 + 1 + 1 + 1 + 1 + 1 + 1 + 1 + 1 + 1 + 1 + 1 + 1 + 1 + 1 + 1 + 1 + 1 + 1 + 1 + 1 + 1 + 1 + 1 + 1 + 1 + 1 + 1 + 1 + 1 + 1 + 1 + 1 + 1 + 1 + 1 + 1 + 1 + 1 + 1 + 1 + 1 + 1 + 1 + 1 + 1 + 1 + 1 + 1 + 1 + 1 + 1 + 1 + 1 ≤ KC - qn S from hlg.c1 hv354.1) (show 0 + 12 + 16000 + 6 + 502 + 502 + 502 + 502 + 502 + 48 + 3000 + 3000 + 24 + 24 + 24 + 24 + 24 + 24 + 1201 + 86400 + 40000 + 1536 + 9600 + 57600 + 1200 + 24 + 28 + 115200 + 700 + 700 + 700 + 700 + 700 + 700 + 131072 + 131072 + 1297 + 24 + 20000 + 401 + 401 + 8 + 60 + 60 + 60 + 1440 + 1440 + 1440 + 1440 + 1201 + 1201 + 1202 + 24000 + 1200 + 45600 + 1200 + 1200 + 1200 + 1200 + 1200 ≤ KS - qu S from hlg.s1 hv354.2) dX14_init_537 (fun q355 cA9 H hK9 hP hD hS => ?_)
  obtain rfl := cls_new2 hR.K hK9 (k := 1) rfl (fun _ h => by cases h)
  have hw8 := hR.w
  have hR := hR.new (t := 2) (n := 1200) (k := 1200) hTX (by decide) (fun q9 => absurd q9 (by decide)) wN_cI hP hD hS
  have hk8 : adk am350 (adx am350 (qn S353) q355) S353 := adk.rf.new (Nat.le_refl _) hTX
  have hak := hak.new (q := q355) hlg.2.2.1 hTX
  have hE := hE.ad hk8
  have hlg : lg S (wN S353 2 1200 1200) (0 + 1 + 1 + 1 + 1 + 1 + 1 + 1 + 1 + 1 + 1 + 1 + 1 + 1 + 1 + 1 + 1 + 1 + 1 + 1 + 1 + 1 + 1 + 1 + 1 + 1 + 1 + 1 + 1 + 1 + 1 + 1 + 1 + 1 + 1 + 1 + 1 + 1 + 1 + 1 + 1 + 1 + 1 + 1 + 1 + 1 + 1 + 1 + 1 + 1 + 1 + 1 + 1 + 1 + 1 + 1 + 1 + 1 + 1 + 1) (0 + 12 + 16000 + 6 + 502 + 502 + 502 + 502 + 502 + 48 + 3000 + 3000 + 24 + 24 + 24 + 24 + 24 + 24 + 1201 + 86400 + 40000 + 1536 + 9600 + 57600 + 1200 + 24 + 28 + 115200 + 700 + 700 + 700 + 700 + 700 + 700 + 131072 + 131072 + 1297 + 24 + 20000 + 401 + 401 + 8 + 60 + 60 + 60 + 1440 + 1440 + 1440 + 1440 + 1201 + 1201 + 1202 + 24000 + 1200 + 45600 + 1200 + 1200 + 1200 + 1200 + 1200) := hlg.new (t := 2) (n := 1200) ⟨hv354.1, hv354.2⟩
  have hs8 : shx S353 (wN S353 2 1200 1200) := shx.newZ (t := 2) (n := 1200) (k := 1200) shx.rf hw8 hTX
  obtain ⟨am356, eam356⟩ : ∃ z, z = adx am350 (qn S353) q355 := ⟨_, rfl⟩
  have eq_q355 : am356 (qn S353) = q355 := by rw [eam356]; exact if_pos rfl
  rw [← eam356] at hR hk8 hak hE
  obtain ⟨S357, eS357⟩ : ∃ z, z = wN S353 2 1200 1200 := ⟨_, rfl⟩
  rw [← eS357] at hR hlg hs8
  replace h := h S357 eS357
  have hsh := hsh.tr hs8
  have hT_b358 : qT S357 (qn S353) = 2 := by rw [eS357]; exact if_pos rfl
  have ea_0 : am356 0 = am350 0 := hk8 _ (hw8.hd hw8.1 (by decide) (by decide))
  have hl : lv_has ls 1 [(0, .ref (am356 0))] := by simp only [ea_0]; exact hl
  refine W.eq (g2 := F0 m 539 ls [.ref (am356 (qn S353)), .ref (am356 0)]) (by simp only [ea_0, eq_q355]) ?_
  clear hw8 hk8 hs8 hP hD hS e9 e8 e7 hTX
  refine va_putF (D := rD g) (ci := 13) (v := .ref (am356 (qn S353))) (ty := (.array .int)) (C := RX14) (T := TX14) (N := 143) hx hb hts in2X14 tyX14 tyX14_ok nmX14 hown hR.K hR.P hR.D hR.sS 0 (hR.at14 hR.w.1) rfl 117 (by decide) (hts _ kx_686) (fun _ h9 => h9) rfl hin9 rfl (by decide +kernel) rfl rfl (Nat.le_of_ble_eq_true rfl) dX14_init_539 (fun H locs hP hD hS => ?_)
  have hw9 : wfMZ (wR S357 0 117 (some (qn S353))) := hR.w.put (fun b q9 => by cases q9; exact (hT_b358).trans (by rw [hR.w.1]; rfl)) (fun _ _ h9 => absurd h9 List.not_mem_nil) (by rw [hR.w.1]; decide)
  have hR : RepZ g am356 A s (wR S357 0 117 (some (qn S353))) H locs := hR.pR hR.w.1 F14_s117 hw9 hP hD hS
  obtain ⟨S359, eS359⟩ : ∃ z, z = wR S357 0 117 (some (qn S353)) := ⟨_, rfl⟩
  rw [← eS359] at hR
  replace h := h S359 eS359
  have hsh : shx S S359 := by rw [eS359]; exact hsh
  have hlg : lg S S359 (0 + 1 + 1 + 1 + 1 + 1 + 1 + 1 + 1 + 1 + 1 + 1 + 1 + 1 + 1 + 1 + 1 + 1 + 1 + 1 + 1 + 1 + 1 + 1 + 1 + 1 + 1 + 1 + 1 + 1 + 1 + 1 + 1 + 1 + 1 + 1 + 1 + 1 + 1 + 1 + 1 + 1 + 1 + 1 + 1 + 1 + 1 + 1 + 1 + 1 + 1 + 1 + 1 + 1 + 1 + 1 + 1 + 1 + 1 + 1) (0 + 12 + 16000 + 6 + 502 + 502 + 502 + 502 + 502 + 48 + 3000 + 3000 + 24 + 24 + 24 + 24 + 24 + 24 + 1201 + 86400 + 40000 + 1536 + 9600 + 57600 + 1200 + 24 + 28 + 115200 + 700 + 700 + 700 + 700 + 700 + 700 + 131072 + 131072 + 1297 + 24 + 20000 + 401 + 401 + 8 + 60 + 60 + 60 + 1440 + 1440 + 1440 + 1440 + 1201 + 1201 + 1202 + 24000 + 1200 + 45600 + 1200 + 1200 + 1200 + 1200 + 1200) := by rw [eS359]; exact hlg
  refine lv_aload_n hx hb dX14_init_542 rfl (lv_at hl 0 rfl) ?_
  obtain ⟨hv360, h⟩ := h
  have e9 : KC = 300000 := rfl
  have e8 : KS = 3720000 := rfl
  have e7 : TXB = 10000000 := rfl
  have hTX : qn S359 < TXB := by have := hv360.1; omega
  refine va_new (ci := 12) (fs := dfX13) (C := RX13) (T := TX13) (N := 23) hx hb hts in2X13 tyX13 tyX13_ok hown (hts _ kx_1069) (hts _ kx_1070) (hts _ kx_1071) hR.K hR.P hR.D hR.sS hA rfl dfX13_ok (show 0 + 1 + 1 + 1 + 1 + 1 + 1 + 1 + 1 + 1 + 1 + 1 + 1 + 1 + 1 + 1 + 1 + 1 + 1 + 1 + 1 + 1 + 1 + 1 + 1 + 1 + 1 + 1 + 1 + 1 + 1 + 1 + 1 + 1 + 1 + 1 + 1 + 1 + 1 + 1 + 1 + 1 + 1 + 1 + 1 + 1 + 1 + 1 + 1 + 1 + 1 + 1 + 1 + 1 + 1 + 1 + 1 + 1 + 1 + 1 + 1 ≤ KC - qn S from hlg.c1 hv360.1) (show 0 + 12 + 16000 + 6 + 502 + 502 + 502 + 502 + 502 + 48 + 3000 + 3000 + 24 + 24 + 24 + 24 + 24 + 24 + 1201 + 86400 + 40000 + 1536 + 9600 + 57600 + 1200 + 24 + 28 + 115200 + 700 + 700 + 700 + 700 + 700 + 700 + 131072 + 131072 + 1297 + 24 + 20000 + 401 + 401 + 8 + 60 + 60 + 60 + 1440 + 1440 + 1440 + 1440 + 1201 + 1201 + 1202 + 24000 + 1200 + 45600 + 1200 + 1200 + 1200 + 1200 + 1200 + 23 ≤ KS - qu S from hlg.s1 hv360.2) dX14_init_543 (fun q361 H hP hD hS => ?_)
  have hw8 := hR.w
  have hR := hR.new (t := 11) (n := 0) (k := 23) hTX (by decide) (fun q9 => absurd q9 (by decide)) wN_c13 hP hD hS
  have hk8 : adk am356 (adx am356 (qn S359) q361) S359 := adk.rf.new (Nat.le_refl _) hTX
  have hak := hak.new (q := q361) hlg.2.2.1 hTX
  have hE := hE.ad hk8
  have hlg : lg S (wN S359 11 0 23) (0 + 1 + 1 + 1 + 1 + 1 + 1 + 1 + 1 + 1 + 1 + 1 + 1 + 1 + 1 + 1 + 1 + 1 + 1 + 1 + 1 + 1 + 1 + 1 + 1 + 1 + 1 + 1 + 1 + 1 + 1 + 1 + 1 + 1 + 1 + 1 + 1 + 1 + 1 + 1 + 1 + 1 + 1 + 1 + 1 + 1 + 1 + 1 + 1 + 1 + 1 + 1 + 1 + 1 + 1 + 1 + 1 + 1 + 1 + 1 + 1) (0 + 12 + 16000 + 6 + 502 + 502 + 502 + 502 + 502 + 48 + 3000 + 3000 + 24 + 24 + 24 + 24 + 24 + 24 + 1201 + 86400 + 40000 + 1536 + 9600 + 57600 + 1200 + 24 + 28 + 115200 + 700 + 700 + 700 + 700 + 700 + 700 + 131072 + 131072 + 1297 + 24 + 20000 + 401 + 401 + 8 + 60 + 60 + 60 + 1440 + 1440 + 1440 + 1440 + 1201 + 1201 + 1202 + 24000 + 1200 + 45600 + 1200 + 1200 + 1200 + 1200 + 1200 + 23) := hlg.new (t := 11) (n := 0) ⟨hv360.1, hv360.2⟩
  have hs8 : shx S359 (wN S359 11 0 23) := shx.newZ (t := 11) (n := 0) (k := 23) shx.rf hw8 hTX
  obtain ⟨am362, eam362⟩ : ∃ z, z = adx am356 (qn S359) q361 := ⟨_, rfl⟩
  have eq_q361 : am362 (qn S359) = q361 := by rw [eam362]; exact if_pos rfl
  rw [← eam362] at hR hk8 hak hE
  obtain ⟨S363, eS363⟩ : ∃ z, z = wN S359 11 0 23 := ⟨_, rfl⟩
  rw [← eS363] at hR hlg hs8
  replace h := h S363 eS363
  have hsh := hsh.tr hs8
  have hT_b364 : qT S363 (qn S359) = 11 := by rw [eS363]; exact if_pos rfl
  have ea_0 : am362 0 = am356 0 := hk8 _ (hw8.hd hw8.1 (by decide) (by decide))
  have hl : lv_has ls 1 [(0, .ref (am362 0))] := by simp only [ea_0]; exact hl
  refine W.eq (g2 := F0 m 546 ls [.ref (am362 (qn S359)), .ref (am362 0)]) (by simp only [ea_0, eq_q361]) ?_
  clear hw8 hk8 hs8 hP hD hS e9 e8 e7 hTX
  refine lv_dup hx hb dX14_init_546 rfl ?_
  obtain ⟨Q365, h0, h⟩ := h
  have hFc := rfreeZ hR hA
  refine W_led2 (fun hL0 => ?_)
  refine va_callv (va_runIN (As := []) (rest := [.ref (am362 (qn S359)), .ref (am362 0)]) ⟨hx, hb, hml, hown, hts⟩ (r_initZ l g am362 H S363 (qn S359) hR.w hT_b364 Q365 h0) ⟨va_cnB 0 hts (gd2_I kx_1072) rfl rfl rfl (nw_of (by exact nn_X14_222) hex) (hts _ kx_1071) (by decide +kernel) ⟨Nat.le_of_ble_eq_true rfl, Nat.le_of_ble_eq_true rfl⟩, rfl, hts _ kx_1073⟩ ⟨rblindH, fun U hU hW9 => rmkHZ hU hW9 hR hex hE hFc⟩ rfl rfl hl.1 rfl (lv_room (Nat.le_of_ble_eq_true rfl)) dX14_init_547 ⟨(show 0 + 1 + 1 + 1 + 1 + 1 + 1 + 1 + 1 + 1 + 1 + 1 + 1 + 1 + 1 + 1 + 1 + 1 + 1 + 1 + 1 + 1 + 1 + 1 + 1 + 1 + 1 + 1 + 1 + 1 + 1 + 1 + 1 + 1 + 1 + 1 + 1 + 1 + 1 + 1 + 1 + 1 + 1 + 1 + 1 + 1 + 1 + 1 + 1 + 1 + 1 + 1 + 1 + 1 + 1 + 1 + 1 + 1 + 1 + 1 + 1 + (KC - qn S363) ≤ KC - qn S from hlg.cm), (show 0 + 12 + 16000 + 6 + 502 + 502 + 502 + 502 + 502 + 48 + 3000 + 3000 + 24 + 24 + 24 + 24 + 24 + 24 + 1201 + 86400 + 40000 + 1536 + 9600 + 57600 + 1200 + 24 + 28 + 115200 + 700 + 700 + 700 + 700 + 700 + 700 + 131072 + 131072 + 1297 + 24 + 20000 + 401 + 401 + 8 + 60 + 60 + 60 + 1440 + 1440 + 1440 + 1440 + 1201 + 1201 + 1202 + 24000 + 1200 + 45600 + 1200 + 1200 + 1200 + 1200 + 1200 + 23 + (KS - qu S363) ≤ KS - qu S from hlg.sm)⟩) hR.sS (fun q _ h => hFc q h) hFc (fun  S366 t9 H1 locs ht9 hvm9 hw9 hB9 hz9 hk9 hS => ?_)
  rcases S366 with ⟨S366, ak368⟩
  obtain ⟨hB9, dc9, ds9, hL9, hl9⟩ := hB9
  dsimp only at hw9 hB9 hl9
  rw [ht9] at hL9
  obtain ⟨hq367, hw9, hs9, hk8⟩ := hw9
  have hw8 := hR.w
  have hak := hak.tr hk8 hlg.2.2.1
  have hE := hE.ad hk8
  have hR : RepZ g ak368 A s S366 H1 locs := hR.callH ht9 hB9 hw9 hS hFc
  have hsh := hsh.tr hs9
  refine W_tight2 (hL0.tr hL9).1 (hL0.tr hL9).2.1 ?_
  have hlg := hlg.call hl9
  replace h := h  S366 hq367
  have ea_0 : ak368 0 = am362 0 := hk8 _ (hw8.hd hw8.1 (by decide) (by decide))
  have ea_1 : ak368 (qn S359) = am362 (qn S359) := hk8 _ (hw8.hd hT_b364 (by decide) (by decide))
  have hl : lv_has ls 1 [(0, .ref (ak368 0))] := by simp only [ea_0, ea_1]; exact hl
  refine W.eq (g2 := F0 m 550 ls ([.ref (ak368 (qn S359)), .ref (ak368 0)])) (by first | (simp only [ea_0, ea_1]; rfl) | simp only [ea_0, ea_1]) ?_
  have hT_b364 := hs9.T hT_b364 (by decide)
  clear hB9 hz9 hk9 hvm9 ht9 hw9 hs9 hS hL0 hL9
  generalize H1 = H at hR ⊢
  generalize dc9 = dc_ak368, ds9 = ds_ak368 at hlg ⊢
  refine va_putF (D := rD g) (ci := 13) (v := .ref (ak368 (qn S359))) (ty := (.object "CodeFoundryModel$File")) (C := RX14) (T := TX14) (N := 143) hx hb hts in2X14 tyX14 tyX14_ok nmX14 hown hR.K hR.P hR.D hR.sS 0 (hR.at14 hR.w.1) rfl 118 (by decide) (hts _ kx_802) (fun _ h9 => h9) rfl hin9 rfl (by decide +kernel) rfl rfl (Nat.le_of_ble_eq_true rfl) dX14_init_550 (fun H locs hP hD hS => ?_)
  have hw9 : wfMZ (wR S366 0 118 (some (qn S359))) := hR.w.put (fun b q9 => by cases q9; exact (hT_b364).trans (by rw [hR.w.1]; rfl)) (fun _ _ h9 => absurd h9 List.not_mem_nil) (by rw [hR.w.1]; decide)
  have hR : RepZ g ak368 A s (wR S366 0 118 (some (qn S359))) H locs := hR.pR hR.w.1 F14_s118 hw9 hP hD hS
  obtain ⟨S369, eS369⟩ : ∃ z, z = wR S366 0 118 (some (qn S359)) := ⟨_, rfl⟩
  rw [← eS369] at hR
  replace h := h S369 eS369
  have hsh : shx S S369 := by rw [eS369]; exact hsh
  have hlg : lg S S369 (0 + 1 + 1 + 1 + 1 + 1 + 1 + 1 + 1 + 1 + 1 + 1 + 1 + 1 + 1 + 1 + 1 + 1 + 1 + 1 + 1 + 1 + 1 + 1 + 1 + 1 + 1 + 1 + 1 + 1 + 1 + 1 + 1 + 1 + 1 + 1 + 1 + 1 + 1 + 1 + 1 + 1 + 1 + 1 + 1 + 1 + 1 + 1 + 1 + 1 + 1 + 1 + 1 + 1 + 1 + 1 + 1 + 1 + 1 + 1 + 1 + dc_ak368) (0 + 12 + 16000 + 6 + 502 + 502 + 502 + 502 + 502 + 48 + 3000 + 3000 + 24 + 24 + 24 + 24 + 24 + 24 + 1201 + 86400 + 40000 + 1536 + 9600 + 57600 + 1200 + 24 + 28 + 115200 + 700 + 700 + 700 + 700 + 700 + 700 + 131072 + 131072 + 1297 + 24 + 20000 + 401 + 401 + 8 + 60 + 60 + 60 + 1440 + 1440 + 1440 + 1440 + 1201 + 1201 + 1202 + 24000 + 1200 + 45600 + 1200 + 1200 + 1200 + 1200 + 1200 + 23 + ds_ak368) := by rw [eS369]; exact hlg
  refine lv_aload_n hx hb dX14_init_553 rfl (lv_at hl 0 rfl) ?_
  refine lv_ldc hx hb hown (hts _ kx_1228) dX14_init_554 ?_
  obtain ⟨hv370, h⟩ := h
  have e9 : KC = 300000 := rfl
  have e8 : KS = 3720000 := rfl
  have e7 : TXB = 10000000 := rfl
  have hTX : qn S369 < TXB := by have := hv370.1; omega
  refine va_newa (atype := .int) (ty := .int) (a0 := (87000, .inl (fun _ => 0))) (N' := 87000) hx hb (hts (.arrayClass .int) kx_346) rfl hR.K hR.P hR.D hR.sS hA (fun _ => rfl) (by decide) (by decide) (by show 87000 * 4 ≤ 536870912; have := hv370.2; omega) (show 0 + 1 + 1 + 1 + 1 + 1 + 1 + 1 + 1 + 1 + 1 + 1 + 1 + 1 + 1 + 1 + 1 + 1 + 1 + 1 + 1 + 1 + 1 + 1 + 1 + 1 + 1 + 1 + 1 + 1 + 1 + 1 + 1 + 1 + 1 + 1 + 1 + 1 + 1 + 1 + 1 + 1 + 1 + 1 + 1 + 1 + 1 + 1 + 1 + 1 + 1 + 1 + 1 + 1 + 1 + 1 + 1 + 1 + 1 + 1 + 1 + dc_ak368 + 1 ≤ KC - qn S from hlg.c1 hv370.1) (show 0 + 12 + 16000 + 6 + 502 + 502 + 502 + 502 + 502 + 48 + 3000 + 3000 + 24 + 24 + 24 + 24 + 24 + 24 + 1201 + 86400 + 40000 + 1536 + 9600 + 57600 + 1200 + 24 + 28 + 115200 + 700 + 700 + 700 + 700 + 700 + 700 + 131072 + 131072 + 1297 + 24 + 20000 + 401 + 401 + 8 + 60 + 60 + 60 + 1440 + 1440 + 1440 + 1440 + 1201 + 1201 + 1202 + 24000 + 1200 + 45600 + 1200 + 1200 + 1200 + 1200 + 1200 + 23 + ds_ak368 + 87000 ≤ KS - qu S from hlg.s1 hv370.2) dX14_init_556 (fun q371 cA9 H hK9 hP hD hS => ?_)
  obtain rfl := cls_new2 hR.K hK9 (k := 1) rfl (fun _ h => by cases h)
  have hw8 := hR.w
  have hR := hR.new (t := 2) (n := 87000) (k := 87000) hTX (by decide) (fun q9 => absurd q9 (by decide)) wN_cI hP hD hS
  have hk8 : adk ak368 (adx ak368 (qn S369) q371) S369 := adk.rf.new (Nat.le_refl _) hTX
  have hak := hak.new (q := q371) hlg.2.2.1 hTX
  have hE := hE.ad hk8
  have hlg : lg S (wN S369 2 87000 87000) (0 + 1 + 1 + 1 + 1 + 1 + 1 + 1 + 1 + 1 + 1 + 1 + 1 + 1 + 1 + 1 + 1 + 1 + 1 + 1 + 1 + 1 + 1 + 1 + 1 + 1 + 1 + 1 + 1 + 1 + 1 + 1 + 1 + 1 + 1 + 1 + 1 + 1 + 1 + 1 + 1 + 1 + 1 + 1 + 1 + 1 + 1 + 1 + 1 + 1 + 1 + 1 + 1 + 1 + 1 + 1 + 1 + 1 + 1 + 1 + 1 + dc_ak368 + 1) (0 + 12 + 16000 + 6 + 502 + 502 + 502 + 502 + 502 + 48 + 3000 + 3000 + 24 + 24 + 24 + 24 + 24 + 24 + 1201 + 86400 + 40000 + 1536 + 9600 + 57600 + 1200 + 24 + 28 + 115200 + 700 + 700 + 700 + 700 + 700 + 700 + 131072 + 131072 + 1297 + 24 + 20000 + 401 + 401 + 8 + 60 + 60 + 60 + 1440 + 1440 + 1440 + 1440 + 1201 + 1201 + 1202 + 24000 + 1200 + 45600 + 1200 + 1200 + 1200 + 1200 + 1200 + 23 + ds_ak368 + 87000) := hlg.new (t := 2) (n := 87000) ⟨hv370.1, hv370.2⟩
  have hs8 : shx S369 (wN S369 2 87000 87000) := shx.newZ (t := 2) (n := 87000) (k := 87000) shx.rf hw8 hTX
  obtain ⟨am372, eam372⟩ : ∃ z, z = adx ak368 (qn S369) q371 := ⟨_, rfl⟩
  have eq_q371 : am372 (qn S369) = q371 := by rw [eam372]; exact if_pos rfl
  rw [← eam372] at hR hk8 hak hE
  obtain ⟨S373, eS373⟩ : ∃ z, z = wN S369 2 87000 87000 := ⟨_, rfl⟩
  rw [← eS373] at hR hlg hs8
  replace h := h S373 eS373
  have hsh := hsh.tr hs8
  have hT_b374 : qT S373 (qn S369) = 2 := by rw [eS373]; exact if_pos rfl
  have ea_0 : am372 0 = ak368 0 := hk8 _ (hw8.hd hw8.1 (by decide) (by decide))
  have hl : lv_has ls 1 [(0, .ref (am372 0))] := by simp only [ea_0]; exact hl
  refine W.eq (g2 := F0 m 558 ls [.ref (am372 (qn S369)), .ref (am372 0)]) (by simp only [ea_0, eq_q371]) ?_
  clear hw8 hk8 hs8 hP hD hS e9 e8 e7 hTX
  refine va_putF (D := rD g) (ci := 13) (v := .ref (am372 (qn S369))) (ty := (.array .int)) (C := RX14) (T := TX14) (N := 143) hx hb hts in2X14 tyX14 tyX14_ok nmX14 hown hR.K hR.P hR.D hR.sS 0 (hR.at14 hR.w.1) rfl 119 (by decide) (hts _ kx_803) (fun _ h9 => h9) rfl hin9 rfl (by decide +kernel) rfl rfl (Nat.le_of_ble_eq_true rfl) dX14_init_558 (fun H locs hP hD hS => ?_)
  have hw9 : wfMZ (wR S373 0 119 (some (qn S369))) := hR.w.put (fun b q9 => by cases q9; exact (hT_b374).trans (by rw [hR.w.1]; rfl)) (fun _ _ h9 => absurd h9 List.not_mem_nil) (by rw [hR.w.1]; decide)
  have hR : RepZ g am372 A s (wR S373 0 119 (some (qn S369))) H locs := hR.pR hR.w.1 F14_s119 hw9 hP hD hS
  obtain ⟨S375, eS375⟩ : ∃ z, z = wR S373 0 119 (some (qn S369)) := ⟨_, rfl⟩
  rw [← eS375] at hR
  replace h := h S375 eS375
  have hsh : shx S S375 := by rw [eS375]; exact hsh
  have hlg : lg S S375 (0 + 1 + 1 + 1 + 1 + 1 + 1 + 1 + 1 + 1 + 1 + 1 + 1 + 1 + 1 + 1 + 1 + 1 + 1 + 1 + 1 + 1 + 1 + 1 + 1 + 1 + 1 + 1 + 1 + 1 + 1 + 1 + 1 + 1 + 1 + 1 + 1 + 1 + 1 + 1 + 1 + 1 + 1 + 1 + 1 + 1 + 1 + 1 + 1 + 1 + 1 + 1 + 1 + 1 + 1 + 1 + 1 + 1 + 1 + 1 + 1 + dc_ak368 + 1) (0 + 12 + 16000 + 6 + 502 + 502 + 502 + 502 + 502 + 48 + 3000 + 3000 + 24 + 24 + 24 + 24 + 24 + 24 + 1201 + 86400 + 40000 + 1536 + 9600 + 57600 + 1200 + 24 + 28 + 115200 + 700 + 700 + 700 + 700 + 700 + 700 + 131072 + 131072 + 1297 + 24 + 20000 + 401 + 401 + 8 + 60 + 60 + 60 + 1440 + 1440 + 1440 + 1440 + 1201 + 1201 + 1202 + 24000 + 1200 + 45600 + 1200 + 1200 + 1200 + 1200 + 1200 + 23 + ds_ak368 + 87000) := by rw [eS375]; exact hlg
  refine lv_aload_n hx hb dX14_init_561 rfl (lv_at hl 0 rfl) ?_
  refine lv_ldc hx hb hown (hts _ kx_1221) dX14_init_562 ?_
  obtain ⟨hv376, h⟩ := h
  have e9 : KC = 300000 := rfl
  have e8 : KS = 3720000 := rfl
  have e7 : TXB = 10000000 := rfl
  have hTX : qn S375 < TXB := by have := hv376.1; omega
  refine va_newa (atype := .int) (ty := .int) (a0 := (40000, .inl (fun _ => 0))) (N' := 40000) hx hb (hts (.arrayClass .int) kx_346) rfl hR.K hR.P hR.D hR.sS hA (fun _ => rfl) (by decide) (by decide) (by show 40000 * 4 ≤ 536870912; have := hv376.2; omega) (show 0 + 1 + 1 + 1 + 1 + 1 + 1 + 1 + 1 + 1 + 1 + 1 + 1 + 1 + 1 + 1 + 1 + 1 + 1 + 1 + 1 + 1 + 1 + 1 + 1 + 1 + 1 + 1 + 1 + 1 + 1 + 1 + 1 + 1 + 1 + 1 + 1 + 1 + 1 + 1 + 1 + 1 + 1 + 1 + 1 + 1 + 1 + 1 + 1 + 1 + 1 + 1 + 1 + 1 + 1 + 1 + 1 + 1 + 1 + 1 + 1 + dc_ak368 + 1 + 1 ≤ KC - qn S from hlg.c1 hv376.1) (show 0 + 12 + 16000 + 6 + 502 + 502 + 502 + 502 + 502 + 48 + 3000 + 3000 + 24 + 24 + 24 + 24 + 24 + 24 + 1201 + 86400 + 40000 + 1536 + 9600 + 57600 + 1200 + 24 + 28 + 115200 + 700 + 700 + 700 + 700 + 700 + 700 + 131072 + 131072 + 1297 + 24 + 20000 + 401 + 401 + 8 + 60 + 60 + 60 + 1440 + 1440 + 1440 + 1440 + 1201 + 1201 + 1202 + 24000 + 1200 + 45600 + 1200 + 1200 + 1200 + 1200 + 1200 + 23 + ds_ak368 + 87000 + 40000 ≤ KS - qu S from hlg.s1 hv376.2) dX14_init_564 (fun q377 cA9 H hK9 hP hD hS => ?_)
  obtain rfl := cls_new2 hR.K hK9 (k := 1) rfl (fun _ h => by cases h)
  have hw8 := hR.w
  have hR := hR.new (t := 2) (n := 40000) (k := 40000) hTX (by decide) (fun q9 => absurd q9 (by decide)) wN_cI hP hD hS
  have hk8 : adk am372 (adx am372 (qn S375) q377) S375 := adk.rf.new (Nat.le_refl _) hTX
  have hak := hak.new (q := q377) hlg.2.2.1 hTX
  have hE := hE.ad hk8
  have hlg : lg S (wN S375 2 40000 40000) (0 + 1 + 1 + 1 + 1 + 1 + 1 + 1 + 1 + 1 + 1 + 1 + 1 + 1 + 1 + 1 + 1 + 1 + 1 + 1 + 1 + 1 + 1 + 1 + 1 + 1 + 1 + 1 + 1 + 1 + 1 + 1 + 1 + 1 + 1 + 1 + 1 + 1 + 1 + 1 + 1 + 1 + 1 + 1 + 1 + 1 + 1 + 1 + 1 + 1 + 1 + 1 + 1 + 1 + 1 + 1 + 1 + 1 + 1 + 1 + 1 + dc_ak368 + 1 + 1) (0 + 12 + 16000 + 6 + 502 + 502 + 502 + 502 + 502 + 48 + 3000 + 3000 + 24 + 24 + 24 + 24 + 24 + 24 + 1201 + 86400 + 40000 + 1536 + 9600 + 57600 + 1200 + 24 + 28 + 115200 + 700 + 700 + 700 + 700 + 700 + 700 + 131072 + 131072 + 1297 + 24 + 20000 + 401 + 401 + 8 + 60 + 60 + 60 + 1440 + 1440 + 1440 + 1440 + 1201 + 1201 + 1202 + 24000 + 1200 + 45600 + 1200 + 1200 + 1200 + 1200 + 1200 + 23 + ds_ak368 + 87000 + 40000) := hlg.new (t := 2) (n := 40000) ⟨hv376.1, hv376.2⟩
  have hs8 : shx S375 (wN S375 2 40000 40000) := shx.newZ (t := 2) (n := 40000) (k := 40000) shx.rf hw8 hTX
  obtain ⟨am378, eam378⟩ : ∃ z, z = adx am372 (qn S375) q377 := ⟨_, rfl⟩
  have eq_q377 : am378 (qn S375) = q377 := by rw [eam378]; exact if_pos rfl
  rw [← eam378] at hR hk8 hak hE
  obtain ⟨S379, eS379⟩ : ∃ z, z = wN S375 2 40000 40000 := ⟨_, rfl⟩
  rw [← eS379] at hR hlg hs8
  replace h := h S379 eS379
  have hsh := hsh.tr hs8
  have hT_b380 : qT S379 (qn S375) = 2 := by rw [eS379]; exact if_pos rfl
  have ea_0 : am378 0 = am372 0 := hk8 _ (hw8.hd hw8.1 (by decide) (by decide))
  have hl : lv_has ls 1 [(0, .ref (am378 0))] := by simp only [ea_0]; exact hl
  refine W.eq (g2 := F0 m 566 ls [.ref (am378 (qn S375)), .ref (am378 0)]) (by simp only [ea_0, eq_q377]) ?_
  clear hw8 hk8 hs8 hP hD hS e9 e8 e7 hTX
  refine va_putF (D := rD g) (ci := 13) (v := .ref (am378 (qn S375))) (ty := (.array .int)) (C := RX14) (T := TX14) (N := 143) hx hb hts in2X14 tyX14 tyX14_ok nmX14 hown hR.K hR.P hR.D hR.sS 0 (hR.at14 hR.w.1) rfl 120 (by decide) (hts _ kx_699) (fun _ h9 => h9) rfl hin9 rfl (by decide +kernel) rfl rfl (Nat.le_of_ble_eq_true rfl) dX14_init_566 (fun H locs hP hD hS => ?_)
  have hw9 : wfMZ (wR S379 0 120 (some (qn S375))) := hR.w.put (fun b q9 => by cases q9; exact (hT_b380).trans (by rw [hR.w.1]; rfl)) (fun _ _ h9 => absurd h9 List.not_mem_nil) (by rw [hR.w.1]; decide)
  have hR : RepZ g am378 A s (wR S379 0 120 (some (qn S375))) H locs := hR.pR hR.w.1 F14_s120 hw9 hP hD hS
  obtain ⟨S381, eS381⟩ : ∃ z, z = wR S379 0 120 (some (qn S375)) := ⟨_, rfl⟩
  rw [← eS381] at hR
  replace h := h S381 eS381
  have hsh : shx S S381 := by rw [eS381]; exact hsh
  have hlg : lg S S381 (0 + 1 + 1 + 1 + 1 + 1 + 1 + 1 + 1 + 1 + 1 + 1 + 1 + 1 + 1 + 1 + 1 + 1 + 1 + 1 + 1 + 1 + 1 + 1 + 1 + 1 + 1 + 1 + 1 + 1 + 1 + 1 + 1 + 1 + 1 + 1 + 1 + 1 + 1 + 1 + 1 + 1 + 1 + 1 + 1 + 1 + 1 + 1 + 1 + 1 + 1 + 1 + 1 + 1 + 1 + 1 + 1 + 1 + 1 + 1 + 1 + dc_ak368 + 1 + 1) (0 + 12 + 16000 + 6 + 502 + 502 + 502 + 502 + 502 + 48 + 3000 + 3000 + 24 + 24 + 24 + 24 + 24 + 24 + 1201 + 86400 + 40000 + 1536 + 9600 + 57600 + 1200 + 24 + 28 + 115200 + 700 + 700 + 700 + 700 + 700 + 700 + 131072 + 131072 + 1297 + 24 + 20000 + 401 + 401 + 8 + 60 + 60 + 60 + 1440 + 1440 + 1440 + 1440 + 1201 + 1201 + 1202 + 24000 + 1200 + 45600 + 1200 + 1200 + 1200 + 1200 + 1200 + 23 + ds_ak368 + 87000 + 40000) := by rw [eS381]; exact hlg
  refine lv_aload_n hx hb dX14_init_569 rfl (lv_at hl 0 rfl) ?_
  refine lv_sipush (v := 1536) hx hb dX14_init_570 (by decide) ?_
  obtain ⟨hv382, h⟩ := h
  have e9 : KC = 300000 := rfl
  have e8 : KS = 3720000 := rfl
  have e7 : TXB = 10000000 := rfl
  have hTX : qn S381 < TXB := by have := hv382.1; omega
  refine va_newa (atype := .int) (ty := .int) (a0 := (1536, .inl (fun _ => 0))) (N' := 1536) hx hb (hts (.arrayClass .int) kx_346) rfl hR.K hR.P hR.D hR.sS hA (fun _ => rfl) (by decide) (by decide) (by show 1536 * 4 ≤ 536870912; have := hv382.2; omega) (show 0 + 1 + 1 + 1 + 1 + 1 + 1 + 1 + 1 + 1 + 1 + 1 + 1 + 1 + 1 + 1 + 1 + 1 + 1 + 1 + 1 + 1 + 1 + 1 + 1 + 1 + 1 + 1 + 1 + 1 + 1 + 1 + 1 + 1 + 1 + 1 + 1 + 1 + 1 + 1 + 1 + 1 + 1 + 1 + 1 + 1 + 1 + 1 + 1 + 1 + 1 + 1 + 1 + 1 + 1 + 1 + 1 + 1 + 1 + 1 + 1 + dc_ak368 + 1 + 1 + 1 ≤ KC - qn S from hlg.c1 hv382.1) (show 0 + 12 + 16000 + 6 + 502 + 502 + 502 + 502 + 502 + 48 + 3000 + 3000 + 24 + 24 + 24 + 24 + 24 + 24 + 1201 + 86400 + 40000 + 1536 + 9600 + 57600 + 1200 + 24 + 28 + 115200 + 700 + 700 + 700 + 700 + 700 + 700 + 131072 + 131072 + 1297 + 24 + 20000 + 401 + 401 + 8 + 60 + 60 + 60 + 1440 + 1440 + 1440 + 1440 + 1201 + 1201 + 1202 + 24000 + 1200 + 45600 + 1200 + 1200 + 1200 + 1200 + 1200 + 23 + ds_ak368 + 87000 + 40000 + 1536 ≤ KS - qu S from hlg.s1 hv382.2) dX14_init_573 (fun q383 cA9 H hK9 hP hD hS => ?_)
  obtain rfl := cls_new2 hR.K hK9 (k := 1) rfl (fun _ h => by cases h)
  have hw8 := hR.w
  have hR := hR.new (t := 2) (n := 1536) (k := 1536) hTX (by decide) (fun q9 => absurd q9 (by decide)) wN_cI hP hD hS
  have hk8 : adk am378 (adx am378 (qn S381) q383) S381 := adk.rf.new (Nat.le_refl _) hTX
  have hak := hak.new (q := q383) hlg.2.2.1 hTX
  have hE := hE.ad hk8
  have hlg : lg S (wN S381 2 1536 1536) (0 + 1 + 1 + 1 + 1 + 1 + 1 + 1 + 1 + 1 + 1 + 1 + 1 + 1 + 1 + 1 + 1 + 1 + 1 + 1 + 1 + 1 + 1 + 1 + 1 + 1 + 1 + 1 + 1 + 1 + 1 + 1 + 1 + 1 + 1 + 1 + 1 + 1 + 1 + 1 + 1 + 1 + 1 + 1 + 1 + 1 + 1 + 1 + 1 + 1 + 1 + 1 + 1 + 1 + 1 + 1 + 1 + 1 + 1 + 1 + 1 + dc_ak368 + 1 + 1 + 1) (0 + 12 + 16000 + 6 + 502 + 502 + 502 + 502 + 502 + 48 + 3000 + 3000 + 24 + 24 + 24 + 24 + 24 + 24 + 1201 + 86400 + 40000 + 1536 + 9600 + 57600 + 1200 + 24 + 28 + 115200 + 700 + 700 + 700 + 700 + 700 + 700 + 131072 + 131072 + 1297 + 24 + 20000 + 401 + 401 + 8 + 60 + 60 + 60 + 1440 + 1440 + 1440 + 1440 + 1201 + 1201 + 1202 + 24000 + 1200 + 45600 + 1200 + 1200 + 1200 + 1200 + 1200 + 23 + ds_ak368 + 87000 + 40000 + 1536) := hlg.new (t := 2) (n := 1536) ⟨hv382.1, hv382.2⟩
  have hs8 : shx S381 (wN S381 2 1536 1536) := shx.newZ (t := 2) (n := 1536) (k := 1536) shx.rf hw8 hTX
  obtain ⟨am384, eam384⟩ : ∃ z, z = adx am378 (qn S381) q383 := ⟨_, rfl⟩
  have eq_q383 : am384 (qn S381) = q383 := by rw [eam384]; exact if_pos rfl
  rw [← eam384] at hR hk8 hak hE
  obtain ⟨S385, eS385⟩ : ∃ z, z = wN S381 2 1536 1536 := ⟨_, rfl⟩
  rw [← eS385] at hR hlg hs8
  replace h := h S385 eS385
  have hsh := hsh.tr hs8
  have hT_b386 : qT S385 (qn S381) = 2 := by rw [eS385]; exact if_pos rfl
  have ea_0 : am384 0 = am378 0 := hk8 _ (hw8.hd hw8.1 (by decide) (by decide))
  have hl : lv_has ls 1 [(0, .ref (am384 0))] := by simp only [ea_0]; exact hl
  refine W.eq (g2 := F0 m 575 ls [.ref (am384 (qn S381)), .ref (am384 0)]) (by simp only [ea_0, eq_q383]) ?_
  clear hw8 hk8 hs8 hP hD hS e9 e8 e7 hTX
  refine va_putF (D := rD g) (ci := 13) (v := .ref (am384 (qn S381))) (ty := (.array .int)) (C := RX14) (T := TX14) (N := 143) hx hb hts in2X14 tyX14 tyX14_ok nmX14 hown hR.K hR.P hR.D hR.sS 0 (hR.at14 hR.w.1) rfl 121 (by decide) (hts _ kx_804) (fun _ h9 => h9) rfl hin9 rfl (by decide +kernel) rfl rfl (Nat.le_of_ble_eq_true rfl) dX14_init_575 (fun H locs hP hD hS => ?_)
  have hw9 : wfMZ (wR S385 0 121 (some (qn S381))) := hR.w.put (fun b q9 => by cases q9; exact (hT_b386).trans (by rw [hR.w.1]; rfl)) (fun _ _ h9 => absurd h9 List.not_mem_nil) (by rw [hR.w.1]; decide)
  have hR : RepZ g am384 A s (wR S385 0 121 (some (qn S381))) H locs := hR.pR hR.w.1 F14_s121 hw9 hP hD hS
  obtain ⟨S387, eS387⟩ : ∃ z, z = wR S385 0 121 (some (qn S381)) := ⟨_, rfl⟩
  rw [← eS387] at hR
  replace h := h S387 eS387
  have hsh : shx S S387 := by rw [eS387]; exact hsh
  have hlg : lg S S387 (0 + 1 + 1 + 1 + 1 + 1 + 1 + 1 + 1 + 1 + 1 + 1 + 1 + 1 + 1 + 1 + 1 + 1 + 1 + 1 + 1 + 1 + 1 + 1 + 1 + 1 + 1 + 1 + 1 + 1 + 1 + 1 + 1 + 1 + 1 + 1 + 1 + 1 + 1 + 1 + 1 + 1 + 1 + 1 + 1 + 1 + 1 + 1 + 1 + 1 + 1 + 1 + 1 + 1 + 1 + 1 + 1 + 1 + 1 + 1 + 1 + dc_ak368 + 1 + 1 + 1) (0 + 12 + 16000 + 6 + 502 + 502 + 502 + 502 + 502 + 48 + 3000 + 3000 + 24 + 24 + 24 + 24 + 24 + 24 + 1201 + 86400 + 40000 + 1536 + 9600 + 57600 + 1200 + 24 + 28 + 115200 + 700 + 700 + 700 + 700 + 700 + 700 + 131072 + 131072 + 1297 + 24 + 20000 + 401 + 401 + 8 + 60 + 60 + 60 + 1440 + 1440 + 1440 + 1440 + 1201 + 1201 + 1202 + 24000 + 1200 + 45600 + 1200 + 1200 + 1200 + 1200 + 1200 + 23 + ds_ak368 + 87000 + 40000 + 1536) := by rw [eS387]; exact hlg
  refine lv_aload_n hx hb dX14_init_578 rfl (lv_at hl 0 rfl) ?_
  refine lv_bipush (v := 12) hx hb dX14_init_579 (by decide) ?_
  obtain ⟨hv388, h⟩ := h
  have e9 : KC = 300000 := rfl
  have e8 : KS = 3720000 := rfl
  have e7 : TXB = 10000000 := rfl
  have hTX : qn S387 < TXB := by have := hv388.1; omega
  refine va_newa (atype := .int) (ty := .int) (a0 := (12, .inl (fun _ => 0))) (N' := 12) hx hb (hts (.arrayClass .int) kx_346) rfl hR.K hR.P hR.D hR.sS hA (fun _ => rfl) (by decide) (by decide) (by show 12 * 4 ≤ 536870912; have := hv388.2; omega) (show 0 + 1 + 1 + 1 + 1 + 1 + 1 + 1 + 1 + 1 + 1 + 1 + 1 + 1 + 1 + 1 + 1 + 1 + 1 + 1 + 1 + 1 + 1 + 1 + 1 + 1 + 1 + 1 + 1 + 1 + 1 + 1 + 1 + 1 + 1 + 1 + 1 + 1 + 1 + 1 + 1 + 1 + 1 + 1 + 1 + 1 + 1 + 1 + 1 + 1 + 1 + 1 + 1 + 1 + 1 + 1 + 1 + 1 + 1 + 1 + 1 + dc_ak368 + 1 + 1 + 1 + 1 ≤ KC - qn S from hlg.c1 hv388.1) (show 0 + 12 + 16000 + 6 + 502 + 502 + 502 + 502 + 502 + 48 + 3000 + 3000 + 24 + 24 + 24 + 24 + 24 + 24 + 1201 + 86400 + 40000 + 1536 + 9600 + 57600 + 1200 + 24 + 28 + 115200 + 700 + 700 + 700 + 700 + 700 + 700 + 131072 + 131072 + 1297 + 24 + 20000 + 401 + 401 + 8 + 60 + 60 + 60 + 1440 + 1440 + 1440 + 1440 + 1201 + 1201 + 1202 + 24000 + 1200 + 45600 + 1200 + 1200 + 1200 + 1200 + 1200 + 23 + ds_ak368 + 87000 + 40000 + 1536 + 12 ≤ KS - qu S from hlg.s1 hv388.2) dX14_init_581 (fun q389 cA9 H hK9 hP hD hS => ?_)
  obtain rfl := cls_new2 hR.K hK9 (k := 1) rfl (fun _ h => by cases h)
  have hw8 := hR.w
  have hR := hR.new (t := 2) (n := 12) (k := 12) hTX (by decide) (fun q9 => absurd q9 (by decide)) wN_cI hP hD hS
  have hk8 : adk am384 (adx am384 (qn S387) q389) S387 := adk.rf.new (Nat.le_refl _) hTX
  have hak := hak.new (q := q389) hlg.2.2.1 hTX
  have hE := hE.ad hk8
  have hlg : lg S (wN S387 2 12 12) (0 + 1 + 1 + 1 + 1 + 1 + 1 + 1 + 1 + 1 + 1 + 1 + 1 + 1 + 1 + 1 + 1 + 1 + 1 + 1 + 1 + 1 + 1 + 1 + 1 + 1 + 1 + 1 + 1 + 1 + 1 + 1 + 1 + 1 + 1 + 1 + 1 + 1 + 1 + 1 + 1 + 1 + 1 + 1 + 1 + 1 + 1 + 1 + 1 + 1 + 1 + 1 + 1 + 1 + 1 + 1 + 1 + 1 + 1 + 1 + 1 + dc_ak368 + 1 + 1 + 1 + 1) (0 + 12 + 16000 + 6 + 502 + 502 + 502 + 502 + 502 + 48 + 3000 + 3000 + 24 + 24 + 24 + 24 + 24 + 24 + 1201 + 86400 + 40000 + 1536 + 9600 + 57600 + 1200 + 24 + 28 + 115200 + 700 + 700 + 700 + 700 + 700 + 700 + 131072 + 131072 + 1297 + 24 + 20000 + 401 + 401 + 8 + 60 + 60 + 60 + 1440 + 1440 + 1440 + 1440 + 1201 + 1201 + 1202 + 24000 + 1200 + 45600 + 1200 + 1200 + 1200 + 1200 + 1200 + 23 + ds_ak368 + 87000 + 40000 + 1536 + 12) := hlg.new (t := 2) (n := 12) ⟨hv388.1, hv388.2⟩
  have hs8 : shx S387 (wN S387 2 12 12) := shx.newZ (t := 2) (n := 12) (k := 12) shx.rf hw8 hTX
  obtain ⟨am390, eam390⟩ : ∃ z, z = adx am384 (qn S387) q389 := ⟨_, rfl⟩
  have eq_q389 : am390 (qn S387) = q389 := by rw [eam390]; exact if_pos rfl
  rw [← eam390] at hR hk8 hak hE
  obtain ⟨S391, eS391⟩ : ∃ z, z = wN S387 2 12 12 := ⟨_, rfl⟩
  rw [← eS391] at hR hlg hs8
  replace h := h S391 eS391
  have hsh := hsh.tr hs8
  have hT_b392 : qT S391 (qn S387) = 2 := by rw [eS391]; exact if_pos rfl
  have ea_0 : am390 0 = am384 0 := hk8 _ (hw8.hd hw8.1 (by decide) (by decide))
  have hl : lv_has ls 1 [(0, .ref (am390 0))] := by simp only [ea_0]; exact hl
  refine W.eq (g2 := F0 m 583 ls [.ref (am390 (qn S387)), .ref (am390 0)]) (by simp only [ea_0, eq_q389]) ?_
  clear hw8 hk8 hs8 hP hD hS e9 e8 e7 hTX
  refine va_putF (D := rD g) (ci := 13) (v := .ref (am390 (qn S387))) (ty := (.array .int)) (C := RX14) (T := TX14) (N := 143) hx hb hts in2X14 tyX14 tyX14_ok nmX14 hown hR.K hR.P hR.D hR.sS 0 (hR.at14 hR.w.1) rfl 124 (by decide) (hts _ kx_728) (fun _ h9 => h9) rfl hin9 rfl (by decide +kernel) rfl rfl (Nat.le_of_ble_eq_true rfl) dX14_init_583 (fun H locs hP hD hS => ?_)
  have hw9 : wfMZ (wR S391 0 124 (some (qn S387))) := hR.w.put (fun b q9 => by cases q9; exact (hT_b392).trans (by rw [hR.w.1]; rfl)) (fun _ _ h9 => absurd h9 List.not_mem_nil) (by rw [hR.w.1]; decide)
  have hR : RepZ g am390 A s (wR S391 0 124 (some (qn S387))) H locs := hR.pR hR.w.1 F14_s124 hw9 hP hD hS
  obtain ⟨S393, eS393⟩ : ∃ z, z = wR S391 0 124 (some (qn S387)) := ⟨_, rfl⟩
  rw [← eS393] at hR
  replace h := h S393 eS393
  have hsh : shx S S393 := by rw [eS393]; exact hsh
  have hlg : lg S S393 (0 + 1 + 1 + 1 + 1 + 1 + 1 + 1 + 1 + 1 + 1 + 1 + 1 + 1 + 1 + 1 + 1 + 1 + 1 + 1 + 1 + 1 + 1 + 1 + 1 + 1 + 1 + 1 + 1 + 1 + 1 + 1 + 1 + 1 + 1 + 1 + 1 + 1 + 1 + 1 + 1 + 1 + 1 + 1 + 1 + 1 + 1 + 1 + 1 + 1 + 1 + 1 + 1 + 1 + 1 + 1 + 1 + 1 + 1 + 1 + 1 + dc_ak368 + 1 + 1 + 1 + 1) (0 + 12 + 16000 + 6 + 502 + 502 + 502 + 502 + 502 + 48 + 3000 + 3000 + 24 + 24 + 24 + 24 + 24 + 24 + 1201 + 86400 + 40000 + 1536 + 9600 + 57600 + 1200 + 24 + 28 + 115200 + 700 + 700 + 700 + 700 + 700 + 700 + 131072 + 131072 + 1297 + 24 + 20000 + 401 + 401 + 8 + 60 + 60 + 60 + 1440 + 1440 + 1440 + 1440 + 1201 + 1201 + 1202 + 24000 + 1200 + 45600 + 1200 + 1200 + 1200 + 1200 + 1200 + 23 + ds_ak368 + 87000 + 40000 + 1536 + 12) := by rw [eS393]; exact hlg
  refine lv_aload_n hx hb dX14_init_586 rfl (lv_at hl 0 rfl) ?_
  refine lv_sipush (v := 1200) hx hb dX14_init_587 (by decide) ?_
  obtain ⟨hv394, h⟩ := h
  have e9 : KC = 300000 := rfl
  have e8 : KS = 3720000 := rfl
  have e7 : TXB = 10000000 := rfl
  have hTX : qn S393 < TXB := by have := hv394.1; omega
  refine va_newa (atype := .int) (ty := .int) (a0 := (1200, .inl (fun _ => 0))) (N' := 1200) hx hb (hts (.arrayClass .int) kx_346) rfl hR.K hR.P hR.D hR.sS hA (fun _ => rfl) (by decide) (by decide) (by show 1200 * 4 ≤ 536870912; have := hv394.2; omega) (show 0 + 1 + 1 + 1 + 1 + 1 + 1 + 1 + 1 + 1 + 1 + 1 + 1 + 1 + 1 + 1 + 1 + 1 + 1 + 1 + 1 + 1 + 1 + 1 + 1 + 1 + 1 + 1 + 1 + 1 + 1 + 1 + 1 + 1 + 1 + 1 + 1 + 1 + 1 + 1 + 1 + 1 + 1 + 1 + 1 + 1 + 1 + 1 + 1 + 1 + 1 + 1 + 1 + 1 + 1 + 1 + 1 + 1 + 1 + 1 + 1 + dc_ak368 + 1 + 1 + 1 + 1 + 1 ≤ KC - qn S from hlg.c1 hv394.1) (show 0 + 12 + 16000 + 6 + 502 + 502 + 502 + 502 + 502 + 48 + 3000 + 3000 + 24 + 24 + 24 + 24 + 24 + 24 + 1201 + 86400 + 40000 + 1536 + 9600 + 57600 + 1200 + 24 + 28 + 115200 + 700 + 700 + 700 + 700 + 700 + 700 + 131072 + 131072 + 1297 + 24 + 20000 + 401 + 401 + 8 + 60 + 60 + 60 + 1440 + 1440 + 1440 + 1440 + 1201 + 1201 + 1202 + 24000 + 1200 + 45600 + 1200 + 1200 + 1200 + 1200 + 1200 + 23 + ds_ak368 + 87000 + 40000 + 1536 + 12 + 1200 ≤ KS - qu S from hlg.s1 hv394.2) dX14_init_590 (fun q395 cA9 H hK9 hP hD hS => ?_)
  obtain rfl := cls_new2 hR.K hK9 (k := 1) rfl (fun _ h => by cases h)
  have hw8 := hR.w
  have hR := hR.new (t := 2) (n := 1200) (k := 1200) hTX (by decide) (fun q9 => absurd q9 (by decide)) wN_cI hP hD hS
  have hk8 : adk am390 (adx am390 (qn S393) q395) S393 := adk.rf.new (Nat.le_refl _) hTX
  have hak := hak.new (q := q395) hlg.2.2.1 hTX
  have hE := hE.ad hk8
  have hlg : lg S (wN S393 2 1200 1200) (0 + 1 + 1 + 1 + 1 + 1 + 1 + 1 + 1 + 1 + 1 + 1 + 1 + 1 + 1 + 1 + 1 + 1 + 1 + 1 + 1 + 1 + 1 + 1 + 1 + 1 + 1 + 1 + 1 + 1 + 1 + 1 + 1 + 1 + 1 + 1 + 1 + 1 + 1 + 1 + 1 + 1 + 1 + 1 + 1 + 1 + 1 + 1 + 1 + 1 + 1 + 1 + 1 + 1 + 1 + 1 + 1 + 1 + 1 + 1 + 1 + dc_ak368 + 1 + 1 + 1 + 1 + 1) (0 + 12 + 16000 + 6 + 502 + 502 + 502 + 502 + 502 + 48 + 3000 + 3000 + 24 + 24 + 24 + 24 + 24 + 24 + 1201 + 86400 + 40000 + 1536 + 9600 + 57600 + 1200 + 24 + 28 + 115200 + 700 + 700 + 700 + 700 + 700 + 700 + 131072 + 131072 + 1297 + 24 + 20000 + 401 + 401 + 8 + 60 + 60 + 60 + 1440 + 1440 + 1440 + 1440 + 1201 + 1201 + 1202 + 24000 + 1200 + 45600 + 1200 + 1200 + 1200 + 1200 + 1200 + 23 + ds_ak368 + 87000 + 40000 + 1536 + 12 + 1200) := hlg.new (t := 2) (n := 1200) ⟨hv394.1, hv394.2⟩
  have hs8 : shx S393 (wN S393 2 1200 1200) := shx.newZ (t := 2) (n := 1200) (k := 1200) shx.rf hw8 hTX
  obtain ⟨am396, eam396⟩ : ∃ z, z = adx am390 (qn S393) q395 := ⟨_, rfl⟩
  have eq_q395 : am396 (qn S393) = q395 := by rw [eam396]; exact if_pos rfl
  rw [← eam396] at hR hk8 hak hE
  obtain ⟨S397, eS397⟩ : ∃ z, z = wN S393 2 1200 1200 := ⟨_, rfl⟩
  rw [← eS397] at hR hlg hs8
  replace h := h S397 eS397
  have hsh := hsh.tr hs8
  have hT_b398 : qT S397 (qn S393) = 2 := by rw [eS397]; exact if_pos rfl
  have ea_0 : am396 0 = am390 0 := hk8 _ (hw8.hd hw8.1 (by decide) (by decide))
  have hl : lv_has ls 1 [(0, .ref (am396 0))] := by simp only [ea_0]; exact hl
  refine W.eq (g2 := F0 m 592 ls [.ref (am396 (qn S393)), .ref (am396 0)]) (by simp only [ea_0, eq_q395]) ?_
  clear hw8 hk8 hs8 hP hD hS e9 e8 e7 hTX
  refine va_putF (D := rD g) (ci := 13) (v := .ref (am396 (qn S393))) (ty := (.array .int)) (C := RX14) (T := TX14) (N := 143) hx hb hts in2X14 tyX14 tyX14_ok nmX14 hown hR.K hR.P hR.D hR.sS 0 (hR.at14 hR.w.1) rfl 125 (by decide) (hts _ kx_697) (fun _ h9 => h9) rfl hin9 rfl (by decide +kernel) rfl rfl (Nat.le_of_ble_eq_true rfl) dX14_init_592 (fun H locs hP hD hS => ?_)
  have hw9 : wfMZ (wR S397 0 125 (some (qn S393))) := hR.w.put (fun b q9 => by cases q9; exact (hT_b398).trans (by rw [hR.w.1]; rfl)) (fun _ _ h9 => absurd h9 List.not_mem_nil) (by rw [hR.w.1]; decide)
  have hR : RepZ g am396 A s (wR S397 0 125 (some (qn S393))) H locs := hR.pR hR.w.1 F14_s125 hw9 hP hD hS
  obtain ⟨S399, eS399⟩ : ∃ z, z = wR S397 0 125 (some (qn S393)) := ⟨_, rfl⟩
  rw [← eS399] at hR
  replace h := h S399 eS399
  have hsh : shx S S399 := by rw [eS399]; exact hsh
  have hlg : lg S S399 (0 + 1 + 1 + 1 + 1 + 1 + 1 + 1 + 1 + 1 + 1 + 1 + 1 + 1 + 1 + 1 + 1 + 1 + 1 + 1 + 1 + 1 + 1 + 1 + 1 + 1 + 1 + 1 + 1 + 1 + 1 + 1 + 1 + 1 + 1 + 1 + 1 + 1 + 1 + 1 + 1 + 1 + 1 + 1 + 1 + 1 + 1 + 1 + 1 + 1 + 1 + 1 + 1 + 1 + 1 + 1 + 1 + 1 + 1 + 1 + 1 + dc_ak368 + 1 + 1 + 1 + 1 + 1) (0 + 12 + 16000 + 6 + 502 + 502 + 502 + 502 + 502 + 48 + 3000 + 3000 + 24 + 24 + 24 + 24 + 24 + 24 + 1201 + 86400 + 40000 + 1536 + 9600 + 57600 + 1200 + 24 + 28 + 115200 + 700 + 700 + 700 + 700 + 700 + 700 + 131072 + 131072 + 1297 + 24 + 20000 + 401 + 401 + 8 + 60 + 60 + 60 + 1440 + 1440 + 1440 + 1440 + 1201 + 1201 + 1202 + 24000 + 1200 + 45600 + 1200 + 1200 + 1200 + 1200 + 1200 + 23 + ds_ak368 + 87000 + 40000 + 1536 + 12 + 1200) := by rw [eS399]; exact hlg
  refine lv_aload_n hx hb dX14_init_595 rfl (lv_at hl 0 rfl) ?_
  refine lv_sipush (v := 1200) hx hb dX14_init_596 (by decide) ?_
  obtain ⟨hv400, h⟩ := h
  have e9 : KC = 300000 := rfl
  have e8 : KS = 3720000 := rfl
  have e7 : TXB = 10000000 := rfl
  have hTX : qn S399 < TXB := by have := hv400.1; omega
  refine va_newa (atype := .int) (ty := .int) (a0 := (1200, .inl (fun _ => 0))) (N' := 1200) hx hb (hts (.arrayClass .int) kx_346) rfl hR.K hR.P hR.D hR.sS hA (fun _ => rfl) (by decide) (by decide) (by show 1200 * 4 ≤ 536870912; have := hv400.2; omega) (show 0 + 1 + 1 + 1 + 1 + 1 + 1 + 1 + 1 + 1 + 1 + 1 + 1 + 1 + 1 + 1 + 1 + 1 + 1 + 1 + 1 + 1 + 1 + 1 + 1 + 1 + 1 + 1 + 1 + 1 + 1 + 1 + 1 + 1 + 1 + 1 + 1 + 1 + 1 + 1 + 1 + 1 + 1 + 1 + 1 + 1 + 1 + 1 + 1 + 1 + 1 + 1 + 1 + 1 + 1 + 1 + 1 + 1 + 1 + 1 + 1 + dc_ak368 + 1 + 1 + 1 + 1 + 1 + 1 ≤ KC - qn S from hlg.c1 hv400.1) (show 0 + 12 + 16000 + 6 + 502 + 502 + 502 + 502 + 502 + 48 + 3000 + 3000 + 24 + 24 + 24 + 24 + 24 + 24 + 1201 + 86400 + 40000 + 1536 + 9600 + 57600 + 1200 + 24 + 28 + 115200 + 700 + 700 + 700 + 700 + 700 + 700 + 131072 + 131072 + 1297 + 24 + 20000 + 401 + 401 + 8 + 60 + 60 + 60 + 1440 + 1440 + 1440 + 1440 + 1201 + 1201 + 1202 + 24000 + 1200 + 45600 + 1200 + 1200 + 1200 + 1200 + 1200 + 23 + ds_ak368 + 87000 + 40000 + 1536 + 12 + 1200 + 1200 ≤ KS - qu S from hlg.s1 hv400.2) dX14_init_599 (fun q401 cA9 H hK9 hP hD hS => ?_)
  obtain rfl := cls_new2 hR.K hK9 (k := 1) rfl (fun _ h => by cases h)
  have hw8 := hR.w
  have hR := hR.new (t := 2) (n := 1200) (k := 1200) hTX (by decide) (fun q9 => absurd q9 (by decide)) wN_cI hP hD hS
  have hk8 : adk am396 (adx am396 (qn S399) q401) S399 := adk.rf.new (Nat.le_refl _) hTX
  have hak := hak.new (q := q401) hlg.2.2.1 hTX
  have hE := hE.ad hk8
  have hlg : lg S (wN S399 2 1200 1200) (0 + 1 + 1 + 1 + 1 + 1 + 1 + 1 + 1 + 1 + 1 + 1 + 1 + 1 + 1 + 1 + 1 + 1 + 1 + 1 + 1 + 1 + 1 + 1 + 1 + 1 + 1 + 1 + 1 + 1 + 1 + 1 + 1 + 1 + 1 + 1 + 1 + 1 + 1 + 1 + 1 + 1 + 1 + 1 + 1 + 1 + 1 + 1 + 1 + 1 + 1 + 1 + 1 + 1 + 1 + 1 + 1 + 1 + 1 + 1 + 1 + dc_ak368 + 1 + 1 + 1 + 1 + 1 + 1) (0 + 12 + 16000 + 6 + 502 + 502 + 502 + 502 + 502 + 48 + 3000 + 3000 + 24 + 24 + 24 + 24 + 24 + 24 + 1201 + 86400 + 40000 + 1536 + 9600 + 57600 + 1200 + 24 + 28 + 115200 + 700 + 700 + 700 + 700 + 700 + 700 + 131072 + 131072 + 1297 + 24 + 20000 + 401 + 401 + 8 + 60 + 60 + 60 + 1440 + 1440 + 1440 + 1440 + 1201 + 1201 + 1202 + 24000 + 1200 + 45600 + 1200 + 1200 + 1200 + 1200 + 1200 + 23 + ds_ak368 + 87000 + 40000 + 1536 + 12 + 1200 + 1200) := hlg.new (t := 2) (n := 1200) ⟨hv400.1, hv400.2⟩
  have hs8 : shx S399 (wN S399 2 1200 1200) := shx.newZ (t := 2) (n := 1200) (k := 1200) shx.rf hw8 hTX
  obtain ⟨am402, eam402⟩ : ∃ z, z = adx am396 (qn S399) q401 := ⟨_, rfl⟩
  have eq_q401 : am402 (qn S399) = q401 := by rw [eam402]; exact if_pos rfl
  rw [← eam402] at hR hk8 hak hE
  obtain ⟨S403, eS403⟩ : ∃ z, z = wN S399 2 1200 1200 := ⟨_, rfl⟩
  rw [← eS403] at hR hlg hs8
  replace h := h S403 eS403
  have hsh := hsh.tr hs8
  have hT_b404 : qT S403 (qn S399) = 2 := by rw [eS403]; exact if_pos rfl
  have ea_0 : am402 0 = am396 0 := hk8 _ (hw8.hd hw8.1 (by decide) (by decide))
  have hl : lv_has ls 1 [(0, .ref (am402 0))] := by simp only [ea_0]; exact hl
  refine W.eq (g2 := F0 m 601 ls [.ref (am402 (qn S399)), .ref (am402 0)]) (by simp only [ea_0, eq_q401]) ?_
  clear hw8 hk8 hs8 hP hD hS e9 e8 e7 hTX
  refine va_putF (D := rD g) (ci := 13) (v := .ref (am402 (qn S399))) (ty := (.array .int)) (C := RX14) (T := TX14) (N := 143) hx hb hts in2X14 tyX14 tyX14_ok nmX14 hown hR.K hR.P hR.D hR.sS 0 (hR.at14 hR.w.1) rfl 126 (by decide) (hts _ kx_700) (fun _ h9 => h9) rfl hin9 rfl (by decide +kernel) rfl rfl (Nat.le_of_ble_eq_true rfl) dX14_init_601 (fun H locs hP hD hS => ?_)
  have hw9 : wfMZ (wR S403 0 126 (some (qn S399))) := hR.w.put (fun b q9 => by cases q9; exact (hT_b404).trans (by rw [hR.w.1]; rfl)) (fun _ _ h9 => absurd h9 List.not_mem_nil) (by rw [hR.w.1]; decide)
  have hR : RepZ g am402 A s (wR S403 0 126 (some (qn S399))) H locs := hR.pR hR.w.1 F14_s126 hw9 hP hD hS
  obtain ⟨S405, eS405⟩ : ∃ z, z = wR S403 0 126 (some (qn S399)) := ⟨_, rfl⟩
  rw [← eS405] at hR
  replace h := h S405 eS405
  have hsh : shx S S405 := by rw [eS405]; exact hsh
  have hlg : lg S S405 (0 + 1 + 1 + 1 + 1 + 1 + 1 + 1 + 1 + 1 + 1 + 1 + 1 + 1 + 1 + 1 + 1 + 1 + 1 + 1 + 1 + 1 + 1 + 1 + 1 + 1 + 1 + 1 + 1 + 1 + 1 + 1 + 1 + 1 + 1 + 1 + 1 + 1 + 1 + 1 + 1 + 1 + 1 + 1 + 1 + 1 + 1 + 1 + 1 + 1 + 1 + 1 + 1 + 1 + 1 + 1 + 1 + 1 + 1 + 1 + 1 + dc_ak368 + 1 + 1 + 1 + 1 + 1 + 1) (0 + 12 + 16000 + 6 + 502 + 502 + 502 + 502 + 502 + 48 + 3000 + 3000 + 24 + 24 + 24 + 24 + 24 + 24 + 1201 + 86400 + 40000 + 1536 + 9600 + 57600 + 1200 + 24 + 28 + 115200 + 700 + 700 + 700 + 700 + 700 + 700 + 131072 + 131072 + 1297 + 24 + 20000 + 401 + 401 + 8 + 60 + 60 + 60 + 1440 + 1440 + 1440 + 1440 + 1201 + 1201 + 1202 + 24000 + 1200 + 45600 + 1200 + 1200 + 1200 + 1200 + 1200 + 23 + ds_ak368 + 87000 + 40000 + 1536 + 12 + 1200 + 1200) := by rw [eS405]; exact hlg
  refine lv_aload_n hx hb dX14_init_604 rfl (lv_at hl 0 rfl) ?_
  refine lv_sipush (v := 1200) hx hb dX14_init_605 (by decide) ?_
  obtain ⟨hv406, h⟩ := h
  have e9 : KC = 300000 := rfl
  have e8 : KS = 3720000 := rfl
  have e7 : TXB = 10000000 := rfl
  have hTX : qn S405 < TXB := by have := hv406.1; omega
  refine va_newa (atype := .int) (ty := .int) (a0 := (1200, .inl (fun _ => 0))) (N' := 1200) hx hb (hts (.arrayClass .int) kx_346) rfl hR.K hR.P hR.D hR.sS hA (fun _ => rfl) (by decide) (by decide) (by show 1200 * 4 ≤ 536870912; have := hv406.2; omega) (show 0 + 1 + 1 + 1 + 1 + 1 + 1 + 1 + 1 + 1 + 1 + 1 + 1 + 1 + 1 + 1 + 1 + 1 + 1 + 1 + 1 + 1 + 1 + 1 + 1 + 1 + 1 + 1 + 1 + 1 + 1 + 1 + 1 + 1 + 1 + 1 + 1 + 1 + 1 + 1 + 1 + 1 + 1 + 1 + 1 + 1 + 1 + 1 + 1 + 1 + 1 + 1 + 1 + 1 + 1 + 1 + 1 + 1 + 1 + 1 + 1 + dc_ak368 + 1 + 1 + 1 + 1 + 1 + 1 + 1 ≤ KC - qn S from hlg.c1 hv406.1) (show 0 + 12 + 16000 + 6 + 502 + 502 + 502 + 502 + 502 + 48 + 3000 + 3000 + 24 + 24 + 24 + 24 + 24 + 24 + 1201 + 86400 + 40000 + 1536 + 9600 + 57600 + 1200 + 24 + 28 + 115200 + 700 + 700 + 700 + 700 + 700 + 700 + 131072 + 131072 + 1297 + 24 + 20000 + 401 + 401 + 8 + 60 + 60 + 60 + 1440 + 1440 + 1440 + 1440 + 1201 + 1201 + 1202 + 24000 + 1200 + 45600 + 1200 + 1200 + 1200 + 1200 + 1200 + 23 + ds_ak368 + 87000 + 40000 + 1536 + 12 + 1200 + 1200 + 1200 ≤ KS - qu S from hlg.s1 hv406.2) dX14_init_608 (fun q407 cA9 H hK9 hP hD hS => ?_)
  obtain rfl := cls_new2 hR.K hK9 (k := 1) rfl (fun _ h => by cases h)
  have hw8 := hR.w
  have hR := hR.new (t := 2) (n := 1200) (k := 1200) hTX (by decide) (fun q9 => absurd q9 (by decide)) wN_cI hP hD hS
  have hk8 : adk am402 (adx am402 (qn S405) q407) S405 := adk.rf.new (Nat.le_refl _) hTX
  have hak := hak.new (q := q407) hlg.2.2.1 hTX
  have hE := hE.ad hk8
  have hlg : lg S (wN S405 2 1200 1200) (0 + 1 + 1 + 1 + 1 + 1 + 1 + 1 + 1 + 1 + 1 + 1 + 1 + 1 + 1 + 1 + 1 + 1 + 1 + 1 + 1 + 1 + 1 + 1 + 1 + 1 + 1 + 1 + 1 + 1 + 1 + 1 + 1 + 1 + 1 + 1 + 1 + 1 + 1 + 1 + 1 + 1 + 1 + 1 + 1 + 1 + 1 + 1 + 1 + 1 + 1 + 1 + 1 + 1 + 1 + 1 + 1 + 1 + 1 + 1 + 1 + dc_ak368 + 1 + 1 + 1 + 1 + 1 + 1 + 1) (0 + 12 + 16000 + 6 + 502 + 502 + 502 + 502 + 502 + 48 + 3000 + 3000 + 24 + 24 + 24 + 24 + 24 + 24 + 1201 + 86400 + 40000 + 1536 + 9600 + 57600 + 1200 + 24 + 28 + 115200 + 700 + 700 + 700 + 700 + 700 + 700 + 131072 + 131072 + 1297 + 24 + 20000 + 401 + 401 + 8 + 60 + 60 + 60 + 1440 + 1440 + 1440 + 1440 + 1201 + 1201 + 1202 + 24000 + 1200 + 45600 + 1200 + 1200 + 1200 + 1200 + 1200 + 23 + ds_ak368 + 87000 + 40000 + 1536 + 12 + 1200 + 1200 + 1200) := hlg.new (t := 2) (n := 1200) ⟨hv406.1, hv406.2⟩
  have hs8 : shx S405 (wN S405 2 1200 1200) := shx.newZ (t := 2) (n := 1200) (k := 1200) shx.rf hw8 hTX
  obtain ⟨am408, eam408⟩ : ∃ z, z = adx am402 (qn S405) q407 := ⟨_, rfl⟩
  have eq_q407 : am408 (qn S405) = q407 := by rw [eam408]; exact if_pos rfl
  rw [← eam408] at hR hk8 hak hE
  obtain ⟨S409, eS409⟩ : ∃ z, z = wN S405 2 1200 1200 := ⟨_, rfl⟩
  rw [← eS409] at hR hlg hs8
  replace h := h S409 eS409
  have hsh := hsh.tr hs8
  have hT_b410 : qT S409 (qn S405) = 2 := by rw [eS409]; exact if_pos rfl
  have ea_0 : am408 0 = am402 0 := hk8 _ (hw8.hd hw8.1 (by decide) (by decide))
  have hl : lv_has ls 1 [(0, .ref (am408 0))] := by simp only [ea_0]; exact hl
  refine W.eq (g2 := F0 m 610 ls [.ref (am408 (qn S405)), .ref (am408 0)]) (by simp only [ea_0, eq_q407]) ?_
  clear hw8 hk8 hs8 hP hD hS e9 e8 e7 hTX
  refine va_putF (D := rD g) (ci := 13) (v := .ref (am408 (qn S405))) (ty := (.array .int)) (C := RX14) (T := TX14) (N := 143) hx hb hts in2X14 tyX14 tyX14_ok nmX14 hown hR.K hR.P hR.D hR.sS 0 (hR.at14 hR.w.1) rfl 127 (by decide) (hts _ kx_698) (fun _ h9 => h9) rfl hin9 rfl (by decide +kernel) rfl rfl (Nat.le_of_ble_eq_true rfl) dX14_init_610 (fun H locs hP hD hS => ?_)
  have hw9 : wfMZ (wR S409 0 127 (some (qn S405))) := hR.w.put (fun b q9 => by cases q9; exact (hT_b410).trans (by rw [hR.w.1]; rfl)) (fun _ _ h9 => absurd h9 List.not_mem_nil) (by rw [hR.w.1]; decide)
  have hR : RepZ g am408 A s (wR S409 0 127 (some (qn S405))) H locs := hR.pR hR.w.1 F14_s127 hw9 hP hD hS
  obtain ⟨S411, eS411⟩ : ∃ z, z = wR S409 0 127 (some (qn S405)) := ⟨_, rfl⟩
  rw [← eS411] at hR
  replace h := h S411 eS411
  have hsh : shx S S411 := by rw [eS411]; exact hsh
  have hlg : lg S S411 (0 + 1 + 1 + 1 + 1 + 1 + 1 + 1 + 1 + 1 + 1 + 1 + 1 + 1 + 1 + 1 + 1 + 1 + 1 + 1 + 1 + 1 + 1 + 1 + 1 + 1 + 1 + 1 + 1 + 1 + 1 + 1 + 1 + 1 + 1 + 1 + 1 + 1 + 1 + 1 + 1 + 1 + 1 + 1 + 1 + 1 + 1 + 1 + 1 + 1 + 1 + 1 + 1 + 1 + 1 + 1 + 1 + 1 + 1 + 1 + 1 + dc_ak368 + 1 + 1 + 1 + 1 + 1 + 1 + 1) (0 + 12 + 16000 + 6 + 502 + 502 + 502 + 502 + 502 + 48 + 3000 + 3000 + 24 + 24 + 24 + 24 + 24 + 24 + 1201 + 86400 + 40000 + 1536 + 9600 + 57600 + 1200 + 24 + 28 + 115200 + 700 + 700 + 700 + 700 + 700 + 700 + 131072 + 131072 + 1297 + 24 + 20000 + 401 + 401 + 8 + 60 + 60 + 60 + 1440 + 1440 + 1440 + 1440 + 1201 + 1201 + 1202 + 24000 + 1200 + 45600 + 1200 + 1200 + 1200 + 1200 + 1200 + 23 + ds_ak368 + 87000 + 40000 + 1536 + 12 + 1200 + 1200 + 1200) := by rw [eS411]; exact hlg
  refine lv_aload_n hx hb dX14_init_613 rfl (lv_at hl 0 rfl) ?_
  refine lv_sipush (v := 1200) hx hb dX14_init_614 (by decide) ?_
  obtain ⟨hv412, h⟩ := h
  have e9 : KC = 300000 := rfl
  have e8 : KS = 3720000 := rfl
  have e7 : TXB = 10000000 := rfl
  have hTX : qn S411 < TXB := by have := hv412.1; omega
  refine va_newa (atype := .boolean) (ty := .boolean) (a0 := (1200, .inl (fun _ => 0))) (N' := 1200) hx hb (hts (.arrayClass .boolean) kx_1223) rfl hR.K hR.P hR.D hR.sS hA (fun _ => rfl) (by decide) (by decide) (by show 1200 * 1 ≤ 536870912; have := hv412.2; omega) (show 0 + 1 + 1 + 1 + 1 + 1 + 1 + 1 + 1 + 1 + 1 + 1 + 1 + 1 + 1 + 1 + 1 + 1 + 1 + 1 + 1 + 1 + 1 + 1 + 1 + 1 + 1 + 1 + 1 + 1 + 1 + 1 + 1 + 1 + 1 + 1 + 1 + 1 + 1 + 1 + 1 + 1 + 1 + 1 + 1 + 1 + 1 + 1 + 1 + 1 + 1 + 1 + 1 + 1 + 1 + 1 + 1 + 1 + 1 + 1 + 1 + dc_ak368 + 1 + 1 + 1 + 1 + 1 + 1 + 1 + 1 ≤ KC - qn S from hlg.c1 hv412.1) (show 0 + 12 + 16000 + 6 + 502 + 502 + 502 + 502 + 502 + 48 + 3000 + 3000 + 24 + 24 + 24 + 24 + 24 + 24 + 1201 + 86400 + 40000 + 1536 + 9600 + 57600 + 1200 + 24 + 28 + 115200 + 700 + 700 + 700 + 700 + 700 + 700 + 131072 + 131072 + 1297 + 24 + 20000 + 401 + 401 + 8 + 60 + 60 + 60 + 1440 + 1440 + 1440 + 1440 + 1201 + 1201 + 1202 + 24000 + 1200 + 45600 + 1200 + 1200 + 1200 + 1200 + 1200 + 23 + ds_ak368 + 87000 + 40000 + 1536 + 12 + 1200 + 1200 + 1200 + 1200 ≤ KS - qu S from hlg.s1 hv412.2) dX14_init_617 (fun q413 cA9 H hK9 hP hD hS => ?_)
  obtain rfl := cls_new2 hR.K hK9 (k := 2) rfl (fun _ h => by cases h)
  have hw8 := hR.w
  have hR := hR.new (t := 3) (n := 1200) (k := 1200) hTX (by decide) (fun q9 => absurd q9 (by decide)) wN_cZ hP hD hS
  have hk8 : adk am408 (adx am408 (qn S411) q413) S411 := adk.rf.new (Nat.le_refl _) hTX
  have hak := hak.new (q := q413) hlg.2.2.1 hTX
  have hE := hE.ad hk8
  have hlg : lg S (wN S411 3 1200 1200) (0 + 1 + 1 + 1 + 1 + 1 + 1 + 1 + 1 + 1 + 1 + 1 + 1 + 1 + 1 + 1 + 1 + 1 + 1 + 1 + 1 + 1 + 1 + 1 + 1 + 1 + 1 + 1 + 1 + 1 + 1 + 1 + 1 + 1 + 1 + 1 + 1 + 1 + 1 + 1 + 1 + 1 + 1 + 1 + 1 + 1 + 1 + 1 + 1 + 1 + 1 + 1 + 1 + 1 + 1 + 1 + 1 + 1 + 1 + 1 + 1 + dc_ak368 + 1 + 1 + 1 + 1 + 1 + 1 + 1 + 1) (0 + 12 + 16000 + 6 + 502 + 502 + 502 + 502 + 502 + 48 + 3000 + 3000 + 24 + 24 + 24 + 24 + 24 + 24 + 1201 + 86400 + 40000 + 1536 + 9600 + 57600 + 1200 + 24 + 28 + 115200 + 700 + 700 + 700 + 700 + 700 + 700 + 131072 + 131072 + 1297 + 24 + 20000 + 401 + 401 + 8 + 60 + 60 + 60 + 1440 + 1440 + 1440 + 1440 + 1201 + 1201 + 1202 + 24000 + 1200 + 45600 + 1200 + 1200 + 1200 + 1200 + 1200 + 23 + ds_ak368 + 87000 + 40000 + 1536 + 12 + 1200 + 1200 + 1200 + 1200) := hlg.new (t := 3) (n := 1200) ⟨hv412.1, hv412.2⟩
  have hs8 : shx S411 (wN S411 3 1200 1200) := shx.newZ (t := 3) (n := 1200) (k := 1200) shx.rf hw8 hTX
  obtain ⟨am414, eam414⟩ : ∃ z, z = adx am408 (qn S411) q413 := ⟨_, rfl⟩
  have eq_q413 : am414 (qn S411) = q413 := by rw [eam414]; exact if_pos rfl
  rw [← eam414] at hR hk8 hak hE
  obtain ⟨S415, eS415⟩ : ∃ z, z = wN S411 3 1200 1200 := ⟨_, rfl⟩
  rw [← eS415] at hR hlg hs8
  replace h := h S415 eS415
  have hsh := hsh.tr hs8
  have hT_b416 : qT S415 (qn S411) = 3 := by rw [eS415]; exact if_pos rfl
  have ea_0 : am414 0 = am408 0 := hk8 _ (hw8.hd hw8.1 (by decide) (by decide))
  have hl : lv_has ls 1 [(0, .ref (am414 0))] := by simp only [ea_0]; exact hl
  refine W.eq (g2 := F0 m 619 ls [.ref (am414 (qn S411)), .ref (am414 0)]) (by simp only [ea_0, eq_q413]) ?_
  clear hw8 hk8 hs8 hP hD hS e9 e8 e7 hTX
  refine va_putF (D := rD g) (ci := 13) (v := .ref (am414 (qn S411))) (ty := (.array .boolean)) (C := RX14) (T := TX14) (N := 143) hx hb hts in2X14 tyX14 tyX14_ok nmX14 hown hR.K hR.P hR.D hR.sS 0 (hR.at14 hR.w.1) rfl 128 (by decide) (hts _ kx_692) (fun _ h9 => h9) rfl hin9 rfl (by decide +kernel) rfl rfl (Nat.le_of_ble_eq_true rfl) dX14_init_619 (fun H locs hP hD hS => ?_)
  have hw9 : wfMZ (wR S415 0 128 (some (qn S411))) := hR.w.put (fun b q9 => by cases q9; exact (hT_b416).trans (by rw [hR.w.1]; rfl)) (fun _ _ h9 => absurd h9 List.not_mem_nil) (by rw [hR.w.1]; decide)
  have hR : RepZ g am414 A s (wR S415 0 128 (some (qn S411))) H locs := hR.pR hR.w.1 F14_s128 hw9 hP hD hS
  obtain ⟨S417, eS417⟩ : ∃ z, z = wR S415 0 128 (some (qn S411)) := ⟨_, rfl⟩
  rw [← eS417] at hR
  replace h := h S417 eS417
  have hsh : shx S S417 := by rw [eS417]; exact hsh
  have hlg : lg S S417 (0 + 1 + 1 + 1 + 1 + 1 + 1 + 1 + 1 + 1 + 1 + 1 + 1 + 1 + 1 + 1 + 1 + 1 + 1 + 1 + 1 + 1 + 1 + 1 + 1 + 1 + 1 + 1 + 1 + 1 + 1 + 1 + 1 + 1 + 1 + 1 + 1 + 1 + 1 + 1 + 1 + 1 + 1 + 1 + 1 + 1 + 1 + 1 + 1 + 1 + 1 + 1 + 1 + 1 + 1 + 1 + 1 + 1 + 1 + 1 + 1 + dc_ak368 + 1 + 1 + 1 + 1 + 1 + 1 + 1 + 1) (0 + 12 + 16000 + 6 + 502 + 502 + 502 + 502 + 502 + 48 + 3000 + 3000 + 24 + 24 + 24 + 24 + 24 + 24 + 1201 + 86400 + 40000 + 1536 + 9600 + 57600 + 1200 + 24 + 28 + 115200 + 700 + 700 + 700 + 700 + 700 + 700 + 131072 + 131072 + 1297 + 24 + 20000 + 401 + 401 + 8 + 60 + 60 + 60 + 1440 + 1440 + 1440 + 1440 + 1201 + 1201 + 1202 + 24000 + 1200 + 45600 + 1200 + 1200 + 1200 + 1200 + 1200 + 23 + ds_ak368 + 87000 + 40000 + 1536 + 12 + 1200 + 1200 + 1200 + 1200) := by rw [eS417]; exact hlg
  refine lv_aload_n hx hb dX14_init_622 rfl (lv_at hl 0 rfl) ?_
  refine lv_bipush (v := 16) hx hb dX14_init_623 (by decide) ?_
  obtain ⟨hv418, h⟩ := h
  have e9 : KC = 300000 := rfl
  have e8 : KS = 3720000 := rfl
  have e7 : TXB = 10000000 := rfl
  have hTX : qn S417 < TXB := by have := hv418.1; omega
  refine va_newa (atype := .int) (ty := .int) (a0 := (16, .inl (fun _ => 0))) (N' := 16) hx hb (hts (.arrayClass .int) kx_346) rfl hR.K hR.P hR.D hR.sS hA (fun _ => rfl) (by decide) (by decide) (by show 16 * 4 ≤ 536870912; have := hv418.2; omega) (show 0 + 1 + 1 + 1 + 1 + 1 + 1 + 1 + 1 + 1 + 1 + 1 + 1 + 1 + 1 + 1 + 1 + 1 + 1 + 1 + 1 + 1 + 1 + 1 + 1 + 1 + 1 + 1 + 1 + 1 + 1 + 1 + 1 + 1 + 1 + 1 + 1 + 1 + 1 + 1 + 1 + 1 + 1 + 1 + 1 + 1 + 1 + 1 + 1 + 1 + 1 + 1 + 1 + 1 + 1 + 1 + 1 + 1 + 1 + 1 + 1 + dc_ak368 + 1 + 1 + 1 + 1 + 1 + 1 + 1 + 1 + 1 ≤ KC - qn S from hlg.c1 hv418.1) (show 0 + 12 + 16000 + 6 + 502 + 502 + 502 + 502 + 502 + 48 + 3000 + 3000 + 24 + 24 + 24 + 24 + 24 + 24 + 1201 + 86400 + 40000 + 1536 + 9600 + 57600 + 1200 + 24 + 28 + 115200 + 700 + 700 + 700 + 700 + 700 + 700 + 131072 + 131072 + 1297 + 24 + 20000 + 401 + 401 + 8 + 60 + 60 + 60 + 1440 + 1440 + 1440 + 1440 + 1201 + 1201 + 1202 + 24000 + 1200 + 45600 + 1200 + 1200 + 1200 + 1200 + 1200 + 23 + ds_ak368 + 87000 + 40000 + 1536 + 12 + 1200 + 1200 + 1200 + 1200 + 16 ≤ KS - qu S from hlg.s1 hv418.2) dX14_init_625 (fun q419 cA9 H hK9 hP hD hS => ?_)
  obtain rfl := cls_new2 hR.K hK9 (k := 1) rfl (fun _ h => by cases h)
  have hw8 := hR.w
  have hR := hR.new (t := 2) (n := 16) (k := 16) hTX (by decide) (fun q9 => absurd q9 (by decide)) wN_cI hP hD hS
  have hk8 : adk am414 (adx am414 (qn S417) q419) S417 := adk.rf.new (Nat.le_refl _) hTX
  have hak := hak.new (q := q419) hlg.2.2.1 hTX
  have hE := hE.ad hk8
  have hlg : lg S (wN S417 2 16 16) (0 + 1 + 1 + 1 + 1 + 1 + 1 + 1 + 1 + 1 + 1 + 1 + 1 + 1 + 1 + 1 + 1 + 1 + 1 + 1 + 1 + 1 + 1 + 1 + 1 + 1 + 1 + 1 + 1 + 1 + 1 + 1 + 1 + 1 + 1 + 1 + 1 + 1 + 1 + 1 + 1 + 1 + 1 + 1 + 1 + 1 + 1 + 1 + 1 + 1 + 1 + 1 + 1 + 1 + 1 + 1 + 1 + 1 + 1 + 1 + 1 + dc_ak368 + 1 + 1 + 1 + 1 + 1 + 1 + 1 + 1 + 1) (0 + 12 + 16000 + 6 + 502 + 502 + 502 + 502 + 502 + 48 + 3000 + 3000 + 24 + 24 + 24 + 24 + 24 + 24 + 1201 + 86400 + 40000 + 1536 + 9600 + 57600 + 1200 + 24 + 28 + 115200 + 700 + 700 + 700 + 700 + 700 + 700 + 131072 + 131072 + 1297 + 24 + 20000 + 401 + 401 + 8 + 60 + 60 + 60 + 1440 + 1440 + 1440 + 1440 + 1201 + 1201 + 1202 + 24000 + 1200 + 45600 + 1200 + 1200 + 1200 + 1200 + 1200 + 23 + ds_ak368 + 87000 + 40000 + 1536 + 12 + 1200 + 1200 + 1200 + 1200 + 16) := hlg.new (t := 2) (n := 16) ⟨hv418.1, hv418.2⟩
  have hs8 : shx S417 (wN S417 2 16 16) := shx.newZ (t := 2) (n := 16) (k := 16) shx.rf hw8 hTX
  obtain ⟨am420, eam420⟩ : ∃ z, z = adx am414 (qn S417) q419 := ⟨_, rfl⟩
  have eq_q419 : am420 (qn S417) = q419 := by rw [eam420]; exact if_pos rfl
  rw [← eam420] at hR hk8 hak hE
  obtain ⟨S421, eS421⟩ : ∃ z, z = wN S417 2 16 16 := ⟨_, rfl⟩
  rw [← eS421] at hR hlg hs8
  replace h := h S421 eS421
  have hsh := hsh.tr hs8
  have hT_b422 : qT S421 (qn S417) = 2 := by rw [eS421]; exact if_pos rfl
  have ea_0 : am420 0 = am414 0 := hk8 _ (hw8.hd hw8.1 (by decide) (by decide))
  have hl : lv_has ls 1 [(0, .ref (am420 0))] := by simp only [ea_0]; exact hl
  refine W.eq (g2 := F0 m 627 ls [.ref (am420 (qn S417)), .ref (am420 0)]) (by simp only [ea_0, eq_q419]) ?_
  clear hw8 hk8 hs8 hP hD hS e9 e8 e7 hTX
  refine va_putF (D := rD g) (ci := 13) (v := .ref (am420 (qn S417))) (ty := (.array .int)) (C := RX14) (T := TX14) (N := 143) hx hb hts in2X14 tyX14 tyX14_ok nmX14 hown hR.K hR.P hR.D hR.sS 0 (hR.at14 hR.w.1) rfl 130 (by decide) (hts _ kx_702) (fun _ h9 => h9) rfl hin9 rfl (by decide +kernel) rfl rfl (Nat.le_of_ble_eq_true rfl) dX14_init_627 (fun H locs hP hD hS => ?_)
  have hw9 : wfMZ (wR S421 0 130 (some (qn S417))) := hR.w.put (fun b q9 => by cases q9; exact (hT_b422).trans (by rw [hR.w.1]; rfl)) (fun _ _ h9 => absurd h9 List.not_mem_nil) (by rw [hR.w.1]; decide)
  have hR : RepZ g am420 A s (wR S421 0 130 (some (qn S417))) H locs := hR.pR hR.w.1 F14_s130 hw9 hP hD hS
  obtain ⟨S423, eS423⟩ : ∃ z, z = wR S421 0 130 (some (qn S417)) := ⟨_, rfl⟩
  rw [← eS423] at hR
  replace h := h S423 eS423
  have hsh : shx S S423 := by rw [eS423]; exact hsh
  have hlg : lg S S423 (0 + 1 + 1 + 1 + 1 + 1 + 1 + 1 + 1 + 1 + 1 + 1 + 1 + 1 + 1 + 1 + 1 + 1 + 1 + 1 + 1 + 1 + 1 + 1 + 1 + 1 + 1 + 1 + 1 + 1 + 1 + 1 + 1 + 1 + 1 + 1 + 1 + 1 + 1 + 1 + 1 + 1 + 1 + 1 + 1 + 1 + 1 + 1 + 1 + 1 + 1 + 1 + 1 + 1 + 1 + 1 + 1 + 1 + 1 + 1 + 1 + dc_ak368 + 1 + 1 + 1 + 1 + 1 + 1 + 1 + 1 + 1) (0 + 12 + 16000 + 6 + 502 + 502 + 502 + 502 + 502 + 48 + 3000 + 3000 + 24 + 24 + 24 + 24 + 24 + 24 + 1201 + 86400 + 40000 + 1536 + 9600 + 57600 + 1200 + 24 + 28 + 115200 + 700 + 700 + 700 + 700 + 700 + 700 + 131072 + 131072 + 1297 + 24 + 20000 + 401 + 401 + 8 + 60 + 60 + 60 + 1440 + 1440 + 1440 + 1440 + 1201 + 1201 + 1202 + 24000 + 1200 + 45600 + 1200 + 1200 + 1200 + 1200 + 1200 + 23 + ds_ak368 + 87000 + 40000 + 1536 + 12 + 1200 + 1200 + 1200 + 1200 + 16) := by rw [eS423]; exact hlg
  refine lv_aload_n hx hb dX14_init_630 rfl (lv_at hl 0 rfl) ?_
  refine lv_bipush (v := 16) hx hb dX14_init_631 (by decide) ?_
  obtain ⟨hv424, h⟩ := h
  have e9 : KC = 300000 := rfl
  have e8 : KS = 3720000 := rfl
  have e7 : TXB = 10000000 := rfl
  have hTX : qn S423 < TXB := by have := hv424.1; omega
  refine va_newa (atype := .int) (ty := .int) (a0 := (16, .inl (fun _ => 0))) (N' := 16) hx hb (hts (.arrayClass .int) kx_346) rfl hR.K hR.P hR.D hR.sS hA (fun _ => rfl) (by decide) (by decide) (by show 16 * 4 ≤ 536870912; have := hv424.2; omega) (show 0 + 1 + 1 + 1 + 1 + 1 + 1 + 1 + 1 + 1 + 1 + 1 + 1 + 1 + 1 + 1 + 1 + 1 + 1 + 1 + 1 + 1 + 1 + 1 + 1 + 1 + 1 + 1 + 1 + 1 + 1 + 1 + 1 + 1 + 1 + 1 + 1 + 1 + 1 + 1 + 1 + 1 + 1 + 1 + 1 + 1 + 1 + 1 + 1 + 1 + 1 + 1 + 1 + 1 + 1 + 1 + 1 + 1 + 1 + 1 + 1 + dc_ak368 + 1 + 1 + 1 + 1 + 1 + 1 + 1 + 1 + 1 + 1 ≤ KC - qn S from hlg.c1 hv424.1) (show 0 + 12 + 16000 + 6 + 502 + 502 + 502 + 502 + 502 + 48 + 3000 + 3000 + 24 + 24 + 24 + 24 + 24 + 24 + 1201 + 86400 + 40000 + 1536 + 9600 + 57600 + 1200 + 24 + 28 + 115200 + 700 + 700 + 700 + 700 + 700 + 700 + 131072 + 131072 + 1297 + 24 + 20000 + 401 + 401 + 8 + 60 + 60 + 60 + 1440 + 1440 + 1440 + 1440 + 1201 + 1201 + 1202 + 24000 + 1200 + 45600 + 1200 + 1200 + 1200 + 1200 + 1200 + 23 + ds_ak368 + 87000 + 40000 + 1536 + 12 + 1200 + 1200 + 1200 + 1200 + 16 + 16 ≤ KS - qu S from hlg.s1 hv424.2) dX14_init_633 (fun q425 cA9 H hK9 hP hD hS => ?_)
  obtain rfl := cls_new2 hR.K hK9 (k := 1) rfl (fun _ h => by cases h)
  have hw8 := hR.w
  have hR := hR.new (t := 2) (n := 16) (k := 16) hTX (by decide) (fun q9 => absurd q9 (by decide)) wN_cI hP hD hS
  have hk8 : adk am420 (adx am420 (qn S423) q425) S423 := adk.rf.new (Nat.le_refl _) hTX
  have hak := hak.new (q := q425) hlg.2.2.1 hTX
  have hE := hE.ad hk8
  have hlg : lg S (wN S423 2 16 16) (0 + 1 + 1 + 1 + 1 + 1 + 1 + 1 + 1 + 1 + 1 + 1 + 1 + 1 + 1 + 1 + 1 + 1 + 1 + 1 + 1 + 1 + 1 + 1 + 1 + 1 + 1 + 1 + 1 + 1 + 1 + 1 + 1 + 1 + 1 + 1 + 1 + 1 + 1 + 1 + 1 + 1 + 1 + 1 + 1 + 1 + 1 + 1 + 1 + 1 + 1 + 1 + 1 + 1 + 1 + 1 + 1 + 1 + 1 + 1 + 1 + dc_ak368 + 1 + 1 + 1 + 1 + 1 + 1 + 1 + 1 + 1 + 1) (0 + 12 + 16000 + 6 + 502 + 502 + 502 + 502 + 502 + 48 + 3000 + 3000 + 24 + 24 + 24 + 24 + 24 + 24 + 1201 + 86400 + 40000 + 1536 + 9600 + 57600 + 1200 + 24 + 28 + 115200 + 700 + 700 + 700 + 700 + 700 + 700 + 131072 + 131072 + 1297 + 24 + 20000 + 401 + 401 + 8 + 60 + 60 + 60 + 1440 + 1440 + 1440 + 1440 + 1201 + 1201 + 1202 + 24000 + 1200 + 45600 + 1200 + 1200 + 1200 + 1200 + 1200 + 23 + ds_ak368 + 87000 + 40000 + 1536 + 12 + 1200 + 1200 + 1200 + 1200 + 16 + 16) := hlg.new (t := 2) (n := 16) ⟨hv424.1, hv424.2⟩
  have hs8 : shx S423 (wN S423 2 16 16) := shx.newZ (t := 2) (n := 16) (k := 16) shx.rf hw8 hTX
  obtain ⟨am426, eam426⟩ : ∃ z, z = adx am420 (qn S423) q425 := ⟨_, rfl⟩
  have eq_q425 : am426 (qn S423) = q425 := by rw [eam426]; exact if_pos rfl
  rw [← eam426] at hR hk8 hak hE
  obtain ⟨S427, eS427⟩ : ∃ z, z = wN S423 2 16 16 := ⟨_, rfl⟩
  rw [← eS427] at hR hlg hs8
  replace h := h S427 eS427
  have hsh := hsh.tr hs8
  have hT_b428 : qT S427 (qn S423) = 2 := by rw [eS427]; exact if_pos rfl
  have ea_0 : am426 0 = am420 0 := hk8 _ (hw8.hd hw8.1 (by decide) (by decide))
  have hl : lv_has ls 1 [(0, .ref (am426 0))] := by simp only [ea_0]; exact hl
  refine W.eq (g2 := F0 m 635 ls [.ref (am426 (qn S423)), .ref (am426 0)]) (by simp only [ea_0, eq_q425]) ?_
  clear hw8 hk8 hs8 hP hD hS e9 e8 e7 hTX
  refine va_putF (D := rD g) (ci := 13) (v := .ref (am426 (qn S423))) (ty := (.array .int)) (C := RX14) (T := TX14) (N := 143) hx hb hts in2X14 tyX14 tyX14_ok nmX14 hown hR.K hR.P hR.D hR.sS 0 (hR.at14 hR.w.1) rfl 131 (by decide) (hts _ kx_703) (fun _ h9 => h9) rfl hin9 rfl (by decide +kernel) rfl rfl (Nat.le_of_ble_eq_true rfl) dX14_init_635 (fun H locs hP hD hS => ?_)
  have hw9 : wfMZ (wR S427 0 131 (some (qn S423))) := hR.w.put (fun b q9 => by cases q9; exact (hT_b428).trans (by rw [hR.w.1]; rfl)) (fun _ _ h9 => absurd h9 List.not_mem_nil) (by rw [hR.w.1]; decide)
  have hR : RepZ g am426 A s (wR S427 0 131 (some (qn S423))) H locs := hR.pR hR.w.1 F14_s131 hw9 hP hD hS
  obtain ⟨S429, eS429⟩ : ∃ z, z = wR S427 0 131 (some (qn S423)) := ⟨_, rfl⟩
  rw [← eS429] at hR
  replace h := h S429 eS429
  have hsh : shx S S429 := by rw [eS429]; exact hsh
  have hlg : lg S S429 (0 + 1 + 1 + 1 + 1 + 1 + 1 + 1 + 1 + 1 + 1 + 1 + 1 + 1 + 1 + 1 + 1 + 1 + 1 + 1 + 1 + 1 + 1 + 1 + 1 + 1 + 1 + 1 + 1 + 1 + 1 + 1 + 1 + 1 + 1 + 1 + 1 + 1 + 1 + 1 + 1 + 1 + 1 + 1 + 1 + 1 + 1 + 1 + 1 + 1 + 1 + 1 + 1 + 1 + 1 + 1 + 1 + 1 + 1 + 1 + 1 + dc_ak368 + 1 + 1 + 1 + 1 + 1 + 1 + 1 + 1 + 1 + 1) (0 + 12 + 16000 + 6 + 502 + 502 + 502 + 502 + 502 + 48 + 3000 + 3000 + 24 + 24 + 24 + 24 + 24 + 24 + 1201 + 86400 + 40000 + 1536 + 9600 + 57600 + 1200 + 24 + 28 + 115200 + 700 + 700 + 700 + 700 + 700 + 700 + 131072 + 131072 + 1297 + 24 + 20000 + 401 + 401 + 8 + 60 + 60 + 60 + 1440 + 1440 + 1440 + 1440 + 1201 + 1201 + 1202 + 24000 + 1200 + 45600 + 1200 + 1200 + 1200 + 1200 + 1200 + 23 + ds_ak368 + 87000 + 40000 + 1536 + 12 + 1200 + 1200 + 1200 + 1200 + 16 + 16) := by rw [eS429]; exact hlg
  refine lv_aload_n hx hb dX14_init_638 rfl (lv_at hl 0 rfl) ?_
  refine lv_bipush (v := 16) hx hb dX14_init_639 (by decide) ?_
  obtain ⟨hv430, h⟩ := h
  have e9 : KC = 300000 := rfl
  have e8 : KS = 3720000 := rfl
  have e7 : TXB = 10000000 := rfl
  have hTX : qn S429 < TXB := by have := hv430.1; omega
  refine va_newa (atype := .int) (ty := .int) (a0 := (16, .inl (fun _ => 0))) (N' := 16) hx hb (hts (.arrayClass .int) kx_346) rfl hR.K hR.P hR.D hR.sS hA (fun _ => rfl) (by decide) (by decide) (by show 16 * 4 ≤ 536870912; have := hv430.2; omega) (show 0 + 1 + 1 + 1 + 1 + 1 + 1 + 1 + 1 + 1 + 1 + 1 + 1 + 1 + 1 + 1 + 1 + 1 + 1 + 1 + 1 + 1 + 1 + 1 + 1 + 1 + 1 + 1 + 1 + 1 + 1 + 1 + 1 + 1 + 1 + 1 + 1 + 1 + 1 + 1 + 1 + 1 + 1 + 1 + 1 + 1 + 1 + 1 + 1 + 1 + 1 + 1 + 1 + 1 + 1 + 1 + 1 + 1 + 1 + 1 + 1 + dc_ak368 + 1 + 1 + 1 + 1 + 1 + 1 + 1 + 1 + 1 + 1 + 1 ≤ KC - qn S from hlg.c1 hv430.1) (show 0 + 12 + 16000 + 6 + 502 + 502 + 502 + 502 + 502 + 48 + 3000 + 3000 + 24 + 24 + 24 + 24 + 24 + 24 + 1201 + 86400 + 40000 + 1536 + 9600 + 57600 + 1200 + 24 + 28 + 115200 + 700 + 700 + 700 + 700 + 700 + 700 + 131072 + 131072 + 1297 + 24 + 20000 + 401 + 401 + 8 + 60 + 60 + 60 + 1440 + 1440 + 1440 + 1440 + 1201 + 1201 + 1202 + 24000 + 1200 + 45600 + 1200 + 1200 + 1200 + 1200 + 1200 + 23 + ds_ak368 + 87000 + 40000 + 1536 + 12 + 1200 + 1200 + 1200 + 1200 + 16 + 16 + 16 ≤ KS - qu S from hlg.s1 hv430.2) dX14_init_641 (fun q431 cA9 H hK9 hP hD hS => ?_)
  obtain rfl := cls_new2 hR.K hK9 (k := 1) rfl (fun _ h => by cases h)
  have hw8 := hR.w
  have hR := hR.new (t := 2) (n := 16) (k := 16) hTX (by decide) (fun q9 => absurd q9 (by decide)) wN_cI hP hD hS
  have hk8 : adk am426 (adx am426 (qn S429) q431) S429 := adk.rf.new (Nat.le_refl _) hTX
  have hak := hak.new (q := q431) hlg.2.2.1 hTX
  have hE := hE.ad hk8
  have hlg : lg S (wN S429 2 16 16) (0 + 1 + 1 + 1 + 1 + 1 + 1 + 1 + 1 + 1 + 1 + 1 + 1 + 1 + 1 + 1 + 1 + 1 + 1 + 1 + 1 + 1 + 1 + 1 + 1 + 1 + 1 + 1 + 1 + 1 + 1 + 1 + 1 + 1 + 1 + 1 + 1 + 1 + 1 + 1 + 1 + 1 + 1 + 1 + 1 + 1 + 1 + 1 + 1 + 1 + 1 + 1 + 1 + 1 + 1 + 1 + 1 + 1 + 1 + 1 + 1 + dc_ak368 + 1 + 1 + 1 + 1 + 1 + 1 + 1 + 1 + 1 + 1 + 1) (0 + 12 + 16000 + 6 + 502 + 502 + 502 + 502 + 502 + 48 + 3000 + 3000 + 24 + 24 + 24 + 24 + 24 + 24 + 1201 + 86400 + 40000 + 1536 + 9600 + 57600 + 1200 + 24 + 28 + 115200 + 700 + 700 + 700 + 700 + 700 + 700 + 131072 + 131072 + 1297 + 24 + 20000 + 401 + 401 + 8 + 60 + 60 + 60 + 1440 + 1440 + 1440 + 1440 + 1201 + 1201 + 1202 + 24000 + 1200 + 45600 + 1200 + 1200 + 1200 + 1200 + 1200 + 23 + ds_ak368 + 87000 + 40000 + 1536 + 12 + 1200 + 1200 + 1200 + 1200 + 16 + 16 + 16) := hlg.new (t := 2) (n := 16) ⟨hv430.1, hv430.2⟩
  have hs8 : shx S429 (wN S429 2 16 16) := shx.newZ (t := 2) (n := 16) (k := 16) shx.rf hw8 hTX
  obtain ⟨am432, eam432⟩ : ∃ z, z = adx am426 (qn S429) q431 := ⟨_, rfl⟩
  have eq_q431 : am432 (qn S429) = q431 := by rw [eam432]; exact if_pos rfl
  rw [← eam432] at hR hk8 hak hE
  obtain ⟨S433, eS433⟩ : ∃ z, z = wN S429 2 16 16 := ⟨_, rfl⟩
  rw [← eS433] at hR hlg hs8
  replace h := h S433 eS433
  have hsh := hsh.tr hs8
  have hT_b434 : qT S433 (qn S429) = 2 := by rw [eS433]; exact if_pos rfl
  have ea_0 : am432 0 = am426 0 := hk8 _ (hw8.hd hw8.1 (by decide) (by decide))
  have hl : lv_has ls 1 [(0, .ref (am432 0))] := by simp only [ea_0]; exact hl
  refine W.eq (g2 := F0 m 643 ls [.ref (am432 (qn S429)), .ref (am432 0)]) (by simp only [ea_0, eq_q431]) ?_
  clear hw8 hk8 hs8 hP hD hS e9 e8 e7 hTX
  refine va_putF (D := rD g) (ci := 13) (v := .ref (am432 (qn S429))) (ty := (.array .int)) (C := RX14) (T := TX14) (N := 143) hx hb hts in2X14 tyX14 tyX14_ok nmX14 hown hR.K hR.P hR.D hR.sS 0 (hR.at14 hR.w.1) rfl 132 (by decide) (hts _ kx_706) (fun _ h9 => h9) rfl hin9 rfl (by decide +kernel) rfl rfl (Nat.le_of_ble_eq_true rfl) dX14_init_643 (fun H locs hP hD hS => ?_)
  have hw9 : wfMZ (wR S433 0 132 (some (qn S429))) := hR.w.put (fun b q9 => by cases q9; exact (hT_b434).trans (by rw [hR.w.1]; rfl)) (fun _ _ h9 => absurd h9 List.not_mem_nil) (by rw [hR.w.1]; decide)
  have hR : RepZ g am432 A s (wR S433 0 132 (some (qn S429))) H locs := hR.pR hR.w.1 F14_s132 hw9 hP hD hS
  obtain ⟨S435, eS435⟩ : ∃ z, z = wR S433 0 132 (some (qn S429)) := ⟨_, rfl⟩
  rw [← eS435] at hR
  replace h := h S435 eS435
  have hsh : shx S S435 := by rw [eS435]; exact hsh
  have hlg : lg S S435 (0 + 1 + 1 + 1 + 1 + 1 + 1 + 1 + 1 + 1 + 1 + 1 + 1 + 1 + 1 + 1 + 1 + 1 + 1 + 1 + 1 + 1 + 1 + 1 + 1 + 1 + 1 + 1 + 1 + 1 + 1 + 1 + 1 + 1 + 1 + 1 + 1 + 1 + 1 + 1 + 1 + 1 + 1 + 1 + 1 + 1 + 1 + 1 + 1 + 1 + 1 + 1 + 1 + 1 + 1 + 1 + 1 + 1 + 1 + 1 + 1 + dc_ak368 + 1 + 1 + 1 + 1 + 1 + 1 + 1 + 1 + 1 + 1 + 1) (0 + 12 + 16000 + 6 + 502 + 502 + 502 + 502 + 502 + 48 + 3000 + 3000 + 24 + 24 + 24 + 24 + 24 + 24 + 1201 + 86400 + 40000 + 1536 + 9600 + 57600 + 1200 + 24 + 28 + 115200 + 700 + 700 + 700 + 700 + 700 + 700 + 131072 + 131072 + 1297 + 24 + 20000 + 401 + 401 + 8 + 60 + 60 + 60 + 1440 + 1440 + 1440 + 1440 + 1201 + 1201 + 1202 + 24000 + 1200 + 45600 + 1200 + 1200 + 1200 + 1200 + 1200 + 23 + ds_ak368 + 87000 + 40000 + 1536 + 12 + 1200 + 1200 + 1200 + 1200 + 16 + 16 + 16) := by rw [eS435]; exact hlg
  refine lv_aload_n hx hb dX14_init_646 rfl (lv_at hl 0 rfl) ?_
  refine lv_bipush (v := 16) hx hb dX14_init_647 (by decide) ?_
  obtain ⟨hv436, h⟩ := h
  have e9 : KC = 300000 := rfl
  have e8 : KS = 3720000 := rfl
  have e7 : TXB = 10000000 := rfl
  have hTX : qn S435 < TXB := by have := hv436.1; omega
  refine va_newa (atype := .int) (ty := .int) (a0 := (16, .inl (fun _ => 0))) (N' := 16) hx hb (hts (.arrayClass .int) kx_346) rfl hR.K hR.P hR.D hR.sS hA (fun _ => rfl) (by decide) (by decide) (by show 16 * 4 ≤ 536870912; have := hv436.2; omega) (show 0 + 1 + 1 + 1 + 1 + 1 + 1 + 1 + 1 + 1 + 1 + 1 + 1 + 1 + 1 + 1 + 1 + 1 + 1 + 1 + 1 + 1 + 1 + 1 + 1 + 1 + 1 + 1 + 1 + 1 + 1 + 1 + 1 + 1 + 1 + 1 + 1 + 1 + 1 + 1 + 1 + 1 + 1 + 1 + 1 + 1 + 1 + 1 + 1 + 1 + 1 + 1 + 1 + 1 + 1 + 1 + 1 + 1 + 1 + 1 + 1 + dc_ak368 + 1 + 1 + 1 + 1 + 1 + 1 + 1 + 1 + 1 + 1 + 1 + 1 ≤ KC - qn S from hlg.c1 hv436.1) (show 0 + 12 + 16000 + 6 + 502 + 502 + 502 + 502 + 502 + 48 + 3000 + 3000 + 24 + 24 + 24 + 24 + 24 + 24 + 1201 + 86400 + 40000 + 1536 + 9600 + 57600 + 1200 + 24 + 28 + 115200 + 700 + 700 + 700 + 700 + 700 + 700 + 131072 + 131072 + 1297 + 24 + 20000 + 401 + 401 + 8 + 60 + 60 + 60 + 1440 + 1440 + 1440 + 1440 + 1201 + 1201 + 1202 + 24000 + 1200 + 45600 + 1200 + 1200 + 1200 + 1200 + 1200 + 23 + ds_ak368 + 87000 + 40000 + 1536 + 12 + 1200 + 1200 + 1200 + 1200 + 16 + 16 + 16 + 16 ≤ KS - qu S from hlg.s1 hv436.2) dX14_init_649 (fun q437 cA9 H hK9 hP hD hS => ?_)
  obtain rfl := cls_new2 hR.K hK9 (k := 1) rfl (fun _ h => by cases h)
  have hw8 := hR.w
  have hR := hR.new (t := 2) (n := 16) (k := 16) hTX (by decide) (fun q9 => absurd q9 (by decide)) wN_cI hP hD hS
  have hk8 : adk am432 (adx am432 (qn S435) q437) S435 := adk.rf.new (Nat.le_refl _) hTX
  have hak := hak.new (q := q437) hlg.2.2.1 hTX
  have hE := hE.ad hk8
  have hlg : lg S (wN S435 2 16 16) (0 + 1 + 1 + 1 + 1 + 1 + 1 + 1 + 1 + 1 + 1 + 1 + 1 + 1 + 1 + 1 + 1 + 1 + 1 + 1 + 1 + 1 + 1 + 1 + 1 + 1 + 1 + 1 + 1 + 1 + 1 + 1 + 1 + 1 + 1 + 1 + 1 + 1 + 1 + 1 + 1 + 1 + 1 + 1 + 1 + 1 + 1 + 1 + 1 + 1 + 1 + 1 + 1 + 1 + 1 + 1 + 1 + 1 + 1 + 1 + 1 + dc_ak368 + 1 + 1 + 1 + 1 + 1 + 1 + 1 + 1 + 1 + 1 + 1 + 1) (0 + 12 + 16000 + 6 + 502 + 502 + 502 + 502 + 502 + 48 + 3000 + 3000 + 24 + 24 + 24 + 24 + 24 + 24 + 1201 + 86400 + 40000 + 1536 + 9600 + 57600 + 1200 + 24 + 28 + 115200 + 700 + 700 + 700 + 700 + 700 + 700 + 131072 + 131072 + 1297 + 24 + 20000 + 401 + 401 + 8 + 60 + 60 + 60 + 1440 + 1440 + 1440 + 1440 + 1201 + 1201 + 1202 + 24000 + 1200 + 45600 + 1200 + 1200 + 1200 + 1200 + 1200 + 23 + ds_ak368 + 87000 + 40000 + 1536 + 12 + 1200 + 1200 + 1200 + 1200 + 16 + 16 + 16 + 16) := hlg.new (t := 2) (n := 16) ⟨hv436.1, hv436.2⟩
  have hs8 : shx S435 (wN S435 2 16 16) := shx.newZ (t := 2) (n := 16) (k := 16) shx.rf hw8 hTX
  obtain ⟨am438, eam438⟩ : ∃ z, z = adx am432 (qn S435) q437 := ⟨_, rfl⟩
  have eq_q437 : am438 (qn S435) = q437 := by rw [eam438]; exact if_pos rfl
  rw [← eam438] at hR hk8 hak hE
  obtain ⟨S439, eS439⟩ : ∃ z, z = wN S435 2 16 16 := ⟨_, rfl⟩
  rw [← eS439] at hR hlg hs8
  replace h := h S439 eS439
  have hsh := hsh.tr hs8
  have hT_b440 : qT S439 (qn S435) = 2 := by rw [eS439]; exact if_pos rfl
  have ea_0 : am438 0 = am432 0 := hk8 _ (hw8.hd hw8.1 (by decide) (by decide))
  have hl : lv_has ls 1 [(0, .ref (am438 0))] := by simp only [ea_0]; exact hl
  refine W.eq (g2 := F0 m 651 ls [.ref (am438 (qn S435)), .ref (am438 0)]) (by simp only [ea_0, eq_q437]) ?_
  clear hw8 hk8 hs8 hP hD hS e9 e8 e7 hTX
  refine va_putF (D := rD g) (ci := 13) (v := .ref (am438 (qn S435))) (ty := (.array .int)) (C := RX14) (T := TX14) (N := 143) hx hb hts in2X14 tyX14 tyX14_ok nmX14 hown hR.K hR.P hR.D hR.sS 0 (hR.at14 hR.w.1) rfl 133 (by decide) (hts _ kx_715) (fun _ h9 => h9) rfl hin9 rfl (by decide +kernel) rfl rfl (Nat.le_of_ble_eq_true rfl) dX14_init_651 (fun H locs hP hD hS => ?_)
  have hw9 : wfMZ (wR S439 0 133 (some (qn S435))) := hR.w.put (fun b q9 => by cases q9; exact (hT_b440).trans (by rw [hR.w.1]; rfl)) (fun _ _ h9 => absurd h9 List.not_mem_nil) (by rw [hR.w.1]; decide)
  have hR : RepZ g am438 A s (wR S439 0 133 (some (qn S435))) H locs := hR.pR hR.w.1 F14_s133 hw9 hP hD hS
  obtain ⟨S441, eS441⟩ : ∃ z, z = wR S439 0 133 (some (qn S435)) := ⟨_, rfl⟩
  rw [← eS441] at hR
  replace h := h S441 eS441
  have hsh : shx S S441 := by rw [eS441]; exact hsh
  have hlg : lg S S441 (0 + 1 + 1 + 1 + 1 + 1 + 1 + 1 + 1 + 1 + 1 + 1 + 1 + 1 + 1 + 1 + 1 + 1 + 1 + 1 + 1 + 1 + 1 + 1 + 1 + 1 + 1 + 1 + 1 + 1 + 1 + 1 + 1 + 1 + 1 + 1 + 1 + 1 + 1 + 1 + 1 + 1 + 1 + 1 + 1 + 1 + 1 + 1 + 1 + 1 + 1 + 1 + 1 + 1 + 1 + 1 + 1 + 1 + 1 + 1 + 1 + dc_ak368 + 1 + 1 + 1 + 1 + 1 + 1 + 1 + 1 + 1 + 1 + 1 + 1) (0 + 12 + 16000 + 6 + 502 + 502 + 502 + 502 + 502 + 48 + 3000 + 3000 + 24 + 24 + 24 + 24 + 24 + 24 + 1201 + 86400 + 40000 + 1536 + 9600 + 57600 + 1200 + 24 + 28 + 115200 + 700 + 700 + 700 + 700 + 700 + 700 + 131072 + 131072 + 1297 + 24 + 20000 + 401 + 401 + 8 + 60 + 60 + 60 + 1440 + 1440 + 1440 + 1440 + 1201 + 1201 + 1202 + 24000 + 1200 + 45600 + 1200 + 1200 + 1200 + 1200 + 1200 + 23 + ds_ak368 + 87000 + 40000 + 1536 + 12 + 1200 + 1200 + 1200 + 1200 + 16 + 16 + 16 + 16) := by rw [eS441]; exact hlg
  refine lv_aload_n hx hb dX14_init_654 rfl (lv_at hl 0 rfl) ?_
  refine lv_bipush (v := 16) hx hb dX14_init_655 (by decide) ?_
  obtain ⟨hv442, h⟩ := h
  have e9 : KC = 300000 := rfl
  have e8 : KS = 3720000 := rfl
  have e7 : TXB = 10000000 := rfl
  have hTX : qn S441 < TXB := by have := hv442.1; omega
  refine va_newa (atype := .boolean) (ty := .boolean) (a0 := (16, .inl (fun _ => 0))) (N' := 16) hx hb (hts (.arrayClass .boolean) kx_1223) rfl hR.K hR.P hR.D hR.sS hA (fun _ => rfl) (by decide) (by decide) (by show 16 * 1 ≤ 536870912; have := hv442.2; omega) (show 0 + 1 + 1 + 1 + 1 + 1 + 1 + 1 + 1 + 1 + 1 + 1 + 1 + 1 + 1 + 1 + 1 + 1 + 1 + 1 + 1 + 1 + 1 + 1 + 1 + 1 + 1 + 1 + 1 + 1 + 1 + 1 + 1 + 1 + 1 + 1 + 1 + 1 + 1 + 1 + 1 + 1 + 1 + 1 + 1 + 1 + 1 + 1 + 1 + 1 + 1 + 1 + 1 + 1 + 1 + 1 + 1 + 1 + 1 + 1 + 1 + dc_ak368 + 1 + 1 + 1 + 1 + 1 + 1 + 1 + 1 + 1 + 1 + 1 + 1 + 1 ≤ KC - qn S from hlg.c1 hv442.1) (show 0 + 12 + 16000 + 6 + 502 + 502 + 502 + 502 + 502 + 48 + 3000 + 3000 + 24 + 24 + 24 + 24 + 24 + 24 + 1201 + 86400 + 40000 + 1536 + 9600 + 57600 + 1200 + 24 + 28 + 115200 + 700 + 700 + 700 + 700 + 700 + 700 + 131072 + 131072 + 1297 + 24 + 20000 + 401 + 401 + 8 + 60 + 60 + 60 + 1440 + 1440 + 1440 + 1440 + 1201 + 1201 + 1202 + 24000 + 1200 + 45600 + 1200 + 1200 + 1200 + 1200 + 1200 + 23 + ds_ak368 + 87000 + 40000 + 1536 + 12 + 1200 + 1200 + 1200 + 1200 + 16 + 16 + 16 + 16 + 16 ≤ KS - qu S from hlg.s1 hv442.2) dX14_init_657 (fun q443 cA9 H hK9 hP hD hS => ?_)
  obtain rfl := cls_new2 hR.K hK9 (k := 2) rfl (fun _ h => by cases h)
  have hw8 := hR.w
  have hR := hR.new (t := 3) (n := 16) (k := 16) hTX (by decide) (fun q9 => absurd q9 (by decide)) wN_cZ hP hD hS
  have hk8 : adk am438 (adx am438 (qn S441) q443) S441 := adk.rf.new (Nat.le_refl _) hTX
  have hak := hak.new (q := q443) hlg.2.2.1 hTX
  have hE := hE.ad hk8
  have hlg : lg S (wN S441 3 16 16) (0 + 1 + 1 + 1 + 1 + 1 + 1 + 1 + 1 + 1 + 1 + 1 + 1 + 1 + 1 + 1 + 1 + 1 + 1 + 1 + 1 + 1 + 1 + 1 + 1 + 1 + 1 + 1 + 1 + 1 + 1 + 1 + 1 + 1 + 1 + 1 + 1 + 1 + 1 + 1 + 1 + 1 + 1 + 1 + 1 + 1 + 1 + 1 + 1 + 1 + 1 + 1 + 1 + 1 + 1 + 1 + 1 + 1 + 1 + 1 + 1 + dc_ak368 + 1 + 1 + 1 + 1 + 1 + 1 + 1 + 1 + 1 + 1 + 1 + 1 + 1) (0 + 12 + 16000 + 6 + 502 + 502 + 502 + 502 + 502 + 48 + 3000 + 3000 + 24 + 24 + 24 + 24 + 24 + 24 + 1201 + 86400 + 40000 + 1536 + 9600 + 57600 + 1200 + 24 + 28 + 115200 + 700 + 700 + 700 + 700 + 700 + 700 + 131072 + 131072 + 1297 + 24 + 20000 + 401 + 401 + 8 + 60 + 60 + 60 + 1440 + 1440 + 1440 + 1440 + 1201 + 1201 + 1202 + 24000 + 1200 + 45600 + 1200 + 1200 + 1200 + 1200 + 1200 + 23 + ds_ak368 + 87000 + 40000 + 1536 + 12 + 1200 + 1200 + 1200 + 1200 + 16 + 16 + 16 + 16 + 16) := hlg.new (t := 3) (n := 16) ⟨hv442.1, hv442.2⟩
  have hs8 : shx S441 (wN S441 3 16 16) := shx.newZ (t := 3) (n := 16) (k := 16) shx.rf hw8 hTX
  obtain ⟨am444, eam444⟩ : ∃ z, z = adx am438 (qn S441) q443 := ⟨_, rfl⟩
  have eq_q443 : am444 (qn S441) = q443 := by rw [eam444]; exact if_pos rfl
  rw [← eam444] at hR hk8 hak hE
  obtain ⟨S445, eS445⟩ : ∃ z, z = wN S441 3 16 16 := ⟨_, rfl⟩
  rw [← eS445] at hR hlg hs8
  replace h := h S445 eS445
  have hsh := hsh.tr hs8
  have hT_b446 : qT S445 (qn S441) = 3 := by rw [eS445]; exact if_pos rfl
  have ea_0 : am444 0 = am438 0 := hk8 _ (hw8.hd hw8.1 (by decide) (by decide))
  have hl : lv_has ls 1 [(0, .ref (am444 0))] := by simp only [ea_0]; exact hl
  refine W.eq (g2 := F0 m 659 ls [.ref (am444 (qn S441)), .ref (am444 0)]) (by simp only [ea_0, eq_q443]) ?_
  clear hw8 hk8 hs8 hP hD hS e9 e8 e7 hTX
  refine va_putF (D := rD g) (ci := 13) (v := .ref (am444 (qn S441))) (ty := (.array .boolean)) (C := RX14) (T := TX14) (N := 143) hx hb hts in2X14 tyX14 tyX14_ok nmX14 hown hR.K hR.P hR.D hR.sS 0 (hR.at14 hR.w.1) rfl 134 (by decide) (hts _ kx_701) (fun _ h9 => h9) rfl hin9 rfl (by decide +kernel) rfl rfl (Nat.le_of_ble_eq_true rfl) dX14_init_659 (fun H locs hP hD hS => ?_)
  have hw9 : wfMZ (wR S445 0 134 (some (qn S441))) := hR.w.put (fun b q9 => by cases q9; exact (hT_b446).trans (by rw [hR.w.1]; rfl)) (fun _ _ h9 => absurd h9 List.not_mem_nil) (by rw [hR.w.1]; decide)
  have hR : RepZ g am444 A s (wR S445 0 134 (some (qn S441))) H locs := hR.pR hR.w.1 F14_s134 hw9 hP hD hS
  obtain ⟨S447, eS447⟩ : ∃ z, z = wR S445 0 134 (some (qn S441)) := ⟨_, rfl⟩
  rw [← eS447] at hR
  replace h := h S447 eS447
  have hsh : shx S S447 := by rw [eS447]; exact hsh
  have hlg : lg S S447 (0 + 1 + 1 + 1 + 1 + 1 + 1 + 1 + 1 + 1 + 1 + 1 + 1 + 1 + 1 + 1 + 1 + 1 + 1 + 1 + 1 + 1 + 1 + 1 + 1 + 1 + 1 + 1 + 1 + 1 + 1 + 1 + 1 + 1 + 1 + 1 + 1 + 1 + 1 + 1 + 1 + 1 + 1 + 1 + 1 + 1 + 1 + 1 + 1 + 1 + 1 + 1 + 1 + 1 + 1 + 1 + 1 + 1 + 1 + 1 + 1 + dc_ak368 + 1 + 1 + 1 + 1 + 1 + 1 + 1 + 1 + 1 + 1 + 1 + 1 + 1) (0 + 12 + 16000 + 6 + 502 + 502 + 502 + 502 + 502 + 48 + 3000 + 3000 + 24 + 24 + 24 + 24 + 24 + 24 + 1201 + 86400 + 40000 + 1536 + 9600 + 57600 + 1200 + 24 + 28 + 115200 + 700 + 700 + 700 + 700 + 700 + 700 + 131072 + 131072 + 1297 + 24 + 20000 + 401 + 401 + 8 + 60 + 60 + 60 + 1440 + 1440 + 1440 + 1440 + 1201 + 1201 + 1202 + 24000 + 1200 + 45600 + 1200 + 1200 + 1200 + 1200 + 1200 + 23 + ds_ak368 + 87000 + 40000 + 1536 + 12 + 1200 + 1200 + 1200 + 1200 + 16 + 16 + 16 + 16 + 16) := by rw [eS447]; exact hlg
  refine lv_aload_n hx hb dX14_init_662 rfl (lv_at hl 0 rfl) ?_
  refine lv_sipush (v := 1201) hx hb dX14_init_663 (by decide) ?_
  obtain ⟨hv448, h⟩ := h
  have e9 : KC = 300000 := rfl
  have e8 : KS = 3720000 := rfl
  have e7 : TXB = 10000000 := rfl
  have hTX : qn S447 < TXB := by have := hv448.1; omega
  refine va_newa (atype := .boolean) (ty := .boolean) (a0 := (1201, .inl (fun _ => 0))) (N' := 1201) hx hb (hts (.arrayClass .boolean) kx_1223) rfl hR.K hR.P hR.D hR.sS hA (fun _ => rfl) (by decide) (by decide) (by show 1201 * 1 ≤ 536870912; have := hv448.2; omega) (show 0 + 1 + 1 + 1 + 1 + 1 + 1 + 1 + 1 + 1 + 1 + 1 + 1 + 1 + 1 + 1 + 1 + 1 + 1 + 1 + 1 + 1 + 1 + 1 + 1 + 1 + 1 + 1 + 1 + 1 + 1 + 1 + 1 + 1 + 1 + 1 + 1 + 1 + 1 + 1 + 1 + 1 + 1 + 1 + 1 + 1 + 1 + 1 + 1 + 1 + 1 + 1 + 1 + 1 + 1 + 1 + 1 + 1 + 1 + 1 + 1 + dc_ak368 + 1 + 1 + 1 + 1 + 1 + 1 + 1 + 1 + 1 + 1 + 1 + 1 + 1 + 1 ≤ KC - qn S from hlg.c1 hv448.1) (show 0 + 12 + 16000 + 6 + 502 + 502 + 502 + 502 + 502 + 48 + 3000 + 3000 + 24 + 24 + 24 + 24 + 24 + 24 + 1201 + 86400 + 40000 + 1536 + 9600 + 57600 + 1200 + 24 + 28 + 115200 + 700 + 700 + 700 + 700 + 700 + 700 + 131072 + 131072 + 1297 + 24 + 20000 + 401 + 401 + 8 + 60 + 60 + 60 + 1440 + 1440 + 1440 + 1440 + 1201 + 1201 + 1202 + 24000 + 1200 + 45600 + 1200 + 1200 + 1200 + 1200 + 1200 + 23 + ds_ak368 + 87000 + 40000 + 1536 + 12 + 1200 + 1200 + 1200 + 1200 + 16 + 16 + 16 + 16 + 16 + 1201 ≤ KS - qu S from hlg.s1 hv448.2) dX14_init_666 (fun q449 cA9 H hK9 hP hD hS => ?_)
  obtain rfl := cls_new2 hR.K hK9 (k := 2) rfl (fun _ h => by cases h)
  have hw8 := hR.w
  have hR := hR.new (t := 3) (n := 1201) (k := 1201) hTX (by decide) (fun q9 => absurd q9 (by decide)) wN_cZ hP hD hS
  have hk8 : adk am444 (adx am444 (qn S447) q449) S447 := adk.rf.new (Nat.le_refl _) hTX
  have hak := hak.new (q := q449) hlg.2.2.1 hTX
  have hE := hE.ad hk8
  have hlg : lg S (wN S447 3 1201 1201) (0 + 1 + 1 + 1 + 1 + 1 + 1 + 1 + 1 + 1 + 1 + 1 + 1 + 1 + 1 + 1 + 1 + 1 + 1 + 1 + 1 + 1 + 1 + 1 + 1 + 1 + 1 + 1 + 1 + 1 + 1 + 1 + 1 + 1 + 1 + 1 + 1 + 1 + 1 + 1 + 1 + 1 + 1 + 1 + 1 + 1 + 1 + 1 + 1 + 1 + 1 + 1 + 1 + 1 + 1 + 1 + 1 + 1 + 1 + 1 + 1 + dc_ak368 + 1 + 1 + 1 + 1 + 1 + 1 + 1 + 1 + 1 + 1 + 1 + 1 + 1 + 1) (0 + 12 + 16000 + 6 + 502 + 502 + 502 + 502 + 502 + 48 + 3000 + 3000 + 24 + 24 + 24 + 24 + 24 + 24 + 1201 + 86400 + 40000 + 1536 + 9600 + 57600 + 1200 + 24 + 28 + 115200 + 700 + 700 + 700 + 700 + 700 + 700 + 131072 + 131072 + 1297 + 24 + 20000 + 401 + 401 + 8 + 60 + 60 + 60 + 1440 + 1440 + 1440 + 1440 + 1201 + 1201 + 1202 + 24000 + 1200 + 45600 + 1200 + 1200 + 1200 + 1200 + 1200 + 23 + ds_ak368 + 87000 + 40000 + 1536 + 12 + 1200 + 1200 + 1200 + 1200 + 16 + 16 + 16 + 16 + 16 + 1201) := hlg.new (t := 3) (n := 1201) ⟨hv448.1, hv448.2⟩
  have hs8 : shx S447 (wN S447 3 1201 1201) := shx.newZ (t := 3) (n := 1201) (k := 1201) shx.rf hw8 hTX
  obtain ⟨am450, eam450⟩ : ∃ z, z = adx am444 (qn S447) q449 := ⟨_, rfl⟩
  have eq_q449 : am450 (qn S447) = q449 := by rw [eam450]; exact if_pos rfl
  rw [← eam450] at hR hk8 hak hE
  obtain ⟨S451, eS451⟩ : ∃ z, z = wN S447 3 1201 1201 := ⟨_, rfl⟩
  rw [← eS451] at hR hlg hs8
  replace h := h S451 eS451
  have hsh := hsh.tr hs8
  have hT_b452 : qT S451 (qn S447) = 3 := by rw [eS451]; exact if_pos rfl
  have ea_0 : am450 0 = am444 0 := hk8 _ (hw8.hd hw8.1 (by decide) (by decide))
  have hl : lv_has ls 1 [(0, .ref (am450 0))] := by simp only [ea_0]; exact hl
  refine W.eq (g2 := F0 m 668 ls [.ref (am450 (qn S447)), .ref (am450 0)]) (by simp only [ea_0, eq_q449]) ?_
  clear hw8 hk8 hs8 hP hD hS e9 e8 e7 hTX
  refine va_putF (D := rD g) (ci := 13) (v := .ref (am450 (qn S447))) (ty := (.array .boolean)) (C := RX14) (T := TX14) (N := 143) hx hb hts in2X14 tyX14 tyX14_ok nmX14 hown hR.K hR.P hR.D hR.sS 0 (hR.at14 hR.w.1) rfl 136 (by decide) (hts _ kx_705) (fun _ h9 => h9) rfl hin9 rfl (by decide +kernel) rfl rfl (Nat.le_of_ble_eq_true rfl) dX14_init_668 (fun H locs hP hD hS => ?_)
  have hw9 : wfMZ (wR S451 0 136 (some (qn S447))) := hR.w.put (fun b q9 => by cases q9; exact (hT_b452).trans (by rw [hR.w.1]; rfl)) (fun _ _ h9 => absurd h9 List.not_mem_nil) (by rw [hR.w.1]; decide)
  have hR : RepZ g am450 A s (wR S451 0 136 (some (qn S447))) H locs := hR.pR hR.w.1 F14_s136 hw9 hP hD hS
  obtain ⟨S453, eS453⟩ : ∃ z, z = wR S451 0 136 (some (qn S447)) := ⟨_, rfl⟩
  rw [← eS453] at hR
  replace h := h S453 eS453
  have hsh : shx S S453 := by rw [eS453]; exact hsh
  have hlg : lg S S453 (0 + 1 + 1 + 1 + 1 + 1 + 1 + 1 + 1 + 1 + 1 + 1 + 1 + 1 + 1 + 1 + 1 + 1 + 1 + 1 + 1 + 1 + 1 + 1 + 1 + 1 + 1 + 1 + 1 + 1 + 1 + 1 + 1 + 1 + 1 + 1 + 1 + 1 + 1 + 1 + 1 + 1 + 1 + 1 + 1 + 1 + 1 + 1 + 1 + 1 + 1 + 1 + 1 + 1 + 1 + 1 + 1 + 1 + 1 + 1 + 1 + dc_ak368 + 1 + 1 + 1 + 1 + 1 + 1 + 1 + 1 + 1 + 1 + 1 + 1 + 1 + 1) (0 + 12 + 16000 + 6 + 502 + 502 + 502 + 502 + 502 + 48 + 3000 + 3000 + 24 + 24 + 24 + 24 + 24 + 24 + 1201 + 86400 + 40000 + 1536 + 9600 + 57600 + 1200 + 24 + 28 + 115200 + 700 + 700 + 700 + 700 + 700 + 700 + 131072 + 131072 + 1297 + 24 + 20000 + 401 + 401 + 8 + 60 + 60 + 60 + 1440 + 1440 + 1440 + 1440 + 1201 + 1201 + 1202 + 24000 + 1200 + 45600 + 1200 + 1200 + 1200 + 1200 + 1200 + 23 + ds_ak368 + 87000 + 40000 + 1536 + 12 + 1200 + 1200 + 1200 + 1200 + 16 + 16 + 16 + 16 + 16 + 1201) := by rw [eS453]; exact hlg
  refine lv_aload_n hx hb dX14_init_671 rfl (lv_at hl 0 rfl) ?_
  refine lv_sipush (v := 1200) hx hb dX14_init_672 (by decide) ?_
  obtain ⟨hv454, h⟩ := h
  have e9 : KC = 300000 := rfl
  have e8 : KS = 3720000 := rfl
  have e7 : TXB = 10000000 := rfl
  have hTX : qn S453 < TXB := by have := hv454.1; omega
  refine va_newa (atype := .boolean) (ty := .boolean) (a0 := (1200, .inl (fun _ => 0))) (N' := 1200) hx hb (hts (.arrayClass .boolean) kx_1223) rfl hR.K hR.P hR.D hR.sS hA (fun _ => rfl) (by decide) (by decide) (by show 1200 * 1 ≤ 536870912; have := hv454.2; omega) (show 0 + 1 + 1 + 1 + 1 + 1 + 1 + 1 + 1 + 1 + 1 + 1 + 1 + 1 + 1 + 1 + 1 + 1 + 1 + 1 + 1 + 1 + 1 + 1 + 1 + 1 + 1 + 1 + 1 + 1 + 1 + 1 + 1 + 1 + 1 + 1 + 1 + 1 + 1 + 1 + 1 + 1 + 1 + 1 + 1 + 1 + 1 + 1 + 1 + 1 + 1 + 1 + 1 + 1 + 1 + 1 + 1 + 1 + 1 + 1 + 1 + dc_ak368 + 1 + 1 + 1 + 1 + 1 + 1 + 1 + 1 + 1 + 1 + 1 + 1 + 1 + 1 + 1 ≤ KC - qn S from hlg.c1 hv454.1) (show 0 + 12 + 16000 + 6 + 502 + 502 + 502 + 502 + 502 + 48 + 3000 + 3000 + 24 + 24 + 24 + 24 + 24 + 24 + 1201 + 86400 + 40000 + 1536 + 9600 + 57600 + 1200 + 24 + 28 + 115200 + 700 + 700 + 700 + 700 + 700 + 700 + 131072 + 131072 + 1297 + 24 + 20000 + 401 + 401 + 8 + 60 + 60 + 60 + 1440 + 1440 + 1440 + 1440 + 1201 + 1201 + 1202 + 24000 + 1200 + 45600 + 1200 + 1200 + 1200 + 1200 + 1200 + 23 + ds_ak368 + 87000 + 40000 + 1536 + 12 + 1200 + 1200 + 1200 + 1200 + 16 + 16 + 16 + 16 + 16 + 1201 + 1200 ≤ KS - qu S from hlg.s1 hv454.2) dX14_init_675 (fun q455 cA9 H hK9 hP hD hS => ?_)
  obtain rfl := cls_new2 hR.K hK9 (k := 2) rfl (fun _ h => by cases h)
  have hw8 := hR.w
  have hR := hR.new (t := 3) (n := 1200) (k := 1200) hTX (by decide) (fun q9 => absurd q9 (by decide)) wN_cZ hP hD hS
  have hk8 : adk am450 (adx am450 (qn S453) q455) S453 := adk.rf.new (Nat.le_refl _) hTX
  have hak := hak.new (q := q455) hlg.2.2.1 hTX
  have hE := hE.ad hk8
  have hlg : lg S (wN S453 3 1200 1200) (0 + 1 + 1 + 1 + 1 + 1 + 1 + 1 + 1 + 1 + 1 + 1 + 1 + 1 + 1 + 1 + 1 + 1 + 1 + 1 + 1 + 1 + 1 + 1 + 1 + 1 + 1 + 1 + 1 + 1 + 1 + 1 + 1 + 1 + 1 + 1 + 1 + 1 + 1 + 1 + 1 + 1 + 1 + 1 + 1 + 1 + 1 + 1 + 1 + 1 + 1 + 1 + 1 + 1 + 1 + 1 + 1 + 1 + 1 + 1 + 1 + dc_ak368 + 1 + 1 + 1 + 1 + 1 + 1 + 1 + 1 + 1 + 1 + 1 + 1 + 1 + 1 + 1) (0 + 12 + 16000 + 6 + 502 + 502 + 502 + 502 + 502 + 48 + 3000 + 3000 + 24 + 24 + 24 + 24 + 24 + 24 + 1201 + 86400 + 40000 + 1536 + 9600 + 57600 + 1200 + 24 + 28 + 115200 + 700 + 700 + 700 + 700 + 700 + 700 + 131072 + 131072 + 1297 + 24 + 20000 + 401 + 401 + 8 + 60 + 60 + 60 + 1440 + 1440 + 1440 + 1440 + 1201 + 1201 + 1202 + 24000 + 1200 + 45600 + 1200 + 1200 + 1200 + 1200 + 1200 + 23 + ds_ak368 + 87000 + 40000 + 1536 + 12 + 1200 + 1200 + 1200 + 1200 + 16 + 16 + 16 + 16 + 16 + 1201 + 1200) := hlg.new (t := 3) (n := 1200) ⟨hv454.1, hv454.2⟩
  have hs8 : shx S453 (wN S453 3 1200 1200) := shx.newZ (t := 3) (n := 1200) (k := 1200) shx.rf hw8 hTX
  obtain ⟨am456, eam456⟩ : ∃ z, z = adx am450 (qn S453) q455 := ⟨_, rfl⟩
  have eq_q455 : am456 (qn S453) = q455 := by rw [eam456]; exact if_pos rfl
  rw [← eam456] at hR hk8 hak hE
  obtain ⟨S457, eS457⟩ : ∃ z, z = wN S453 3 1200 1200 := ⟨_, rfl⟩
  rw [← eS457] at hR hlg hs8
  replace h := h S457 eS457
  have hsh := hsh.tr hs8
  have hT_b458 : qT S457 (qn S453) = 3 := by rw [eS457]; exact if_pos rfl
  have ea_0 : am456 0 = am450 0 := hk8 _ (hw8.hd hw8.1 (by decide) (by decide))
  have hl : lv_has ls 1 [(0, .ref (am456 0))] := by simp only [ea_0]; exact hl
  refine W.eq (g2 := F0 m 677 ls [.ref (am456 (qn S453)), .ref (am456 0)]) (by simp only [ea_0, eq_q455]) ?_
  clear hw8 hk8 hs8 hP hD hS e9 e8 e7 hTX
  refine va_putF (D := rD g) (ci := 13) (v := .ref (am456 (qn S453))) (ty := (.array .boolean)) (C := RX14) (T := TX14) (N := 143) hx hb hts in2X14 tyX14 tyX14_ok nmX14 hown hR.K hR.P hR.D hR.sS 0 (hR.at14 hR.w.1) rfl 137 (by decide) (hts _ kx_729) (fun _ h9 => h9) rfl hin9 rfl (by decide +kernel) rfl rfl (Nat.le_of_ble_eq_true rfl) dX14_init_677 (fun H locs hP hD hS => ?_)
  have hw9 : wfMZ (wR S457 0 137 (some (qn S453))) := hR.w.put (fun b q9 => by cases q9; exact (hT_b458).trans (by rw [hR.w.1]; rfl)) (fun _ _ h9 => absurd h9 List.not_mem_nil) (by rw [hR.w.1]; decide)
  have hR : RepZ g am456 A s (wR S457 0 137 (some (qn S453))) H locs := hR.pR hR.w.1 F14_s137 hw9 hP hD hS
  obtain ⟨S459, eS459⟩ : ∃ z, z = wR S457 0 137 (some (qn S453)) := ⟨_, rfl⟩
  rw [← eS459] at hR
  replace h := h S459 eS459
  have hsh : shx S S459 := by rw [eS459]; exact hsh
  have hlg : lg S S459 (0 + 1 + 1 + 1 + 1 + 1 + 1 + 1 + 1 + 1 + 1 + 1 + 1 + 1 + 1 + 1 + 1 + 1 + 1 + 1 + 1 + 1 + 1 + 1 + 1 + 1 + 1 + 1 + 1 + 1 + 1 + 1 + 1 + 1 + 1 + 1 + 1 + 1 + 1 + 1 + 1 + 1 + 1 + 1 + 1 + 1 + 1 + 1 + 1 + 1 + 1 + 1 + 1 + 1 + 1 + 1 + 1 + 1 + 1 + 1 + 1 + dc_ak368 + 1 + 1 + 1 + 1 + 1 + 1 + 1 + 1 + 1 + 1 + 1 + 1 + 1 + 1 + 1) (0 + 12 + 16000 + 6 + 502 + 502 + 502 + 502 + 502 + 48 + 3000 + 3000 + 24 + 24 + 24 + 24 + 24 + 24 + 1201 + 86400 + 40000 + 1536 + 9600 + 57600 + 1200 + 24 + 28 + 115200 + 700 + 700 + 700 + 700 + 700 + 700 + 131072 + 131072 + 1297 + 24 + 20000 + 401 + 401 + 8 + 60 + 60 + 60 + 1440 + 1440 + 1440 + 1440 + 1201 + 1201 + 1202 + 24000 + 1200 + 45600 + 1200 + 1200 + 1200 + 1200 + 1200 + 23 + ds_ak368 + 87000 + 40000 + 1536 + 12 + 1200 + 1200 + 1200 + 1200 + 16 + 16 + 16 + 16 + 16 + 1201 + 1200) := by rw [eS459]; exact hlg
  refine lv_aload_n hx hb dX14_init_680 rfl (lv_at hl 0 rfl) ?_
  refine lv_sipush (v := 1200) hx hb dX14_init_681 (by decide) ?_
  obtain ⟨hv460, h⟩ := h
  have e9 : KC = 300000 := rfl
  have e8 : KS = 3720000 := rfl
  have e7 : TXB = 10000000 := rfl
  have hTX : qn S459 < TXB := by have := hv460.1; omega
  refine va_newa (atype := .int) (ty := .int) (a0 := (1200, .inl (fun _ => 0))) (N' := 1200) hx hb (hts (.arrayClass .int) kx_346) rfl hR.K hR.P hR.D hR.sS hA (fun _ => rfl) (by decide) (by decide) (by show 1200 * 4 ≤ 536870912; have := hv460.2; omega) (show 0 + 1 + 1 + 1 + 1 + 1 + 1 + 1 + 1 + 1 + 1 + 1 + 1 + 1 + 1 + 1 + 1 + 1 + 1 + 1 + 1 + 1 + 1 + 1 + 1 + 1 + 1 + 1 + 1 + 1 + 1 + 1 + 1 + 1 + 1 + 1 + 1 + 1 + 1 + 1 + 1 + 1 + 1 + 1 + 1 + 1 + 1 + 1 + 1 + 1 + 1 + 1 + 1 + 1 + 1 + 1 + 1 + 1 + 1 + 1 + 1 + dc_ak368 + 1 + 1 + 1 + 1 + 1 + 1 + 1 + 1 + 1 + 1 + 1 + 1 + 1 + 1 + 1 + 1 ≤ KC - qn S from hlg.c1 hv460.1) (show 0 + 12 + 16000 + 6 + 502 + 502 + 502 + 502 + 502 + 48 + 3000 + 3000 + 24 + 24 + 24 + 24 + 24 + 24 + 1201 + 86400 + 40000 + 1536 + 9600 + 57600 + 1200 + 24 + 28 + 115200 + 700 + 700 + 700 + 700 + 700 + 700 + 131072 + 131072 + 1297 + 24 + 20000 + 401 + 401 + 8 + 60 + 60 + 60 + 1440 + 1440 + 1440 + 1440 + 1201 + 1201 + 1202 + 24000 + 1200 + 45600 + 1200 + 1200 + 1200 + 1200 + 1200 + 23 + ds_ak368 + 87000 + 40000 + 1536 + 12 + 1200 + 1200 + 1200 + 1200 + 16 + 16 + 16 + 16 + 16 + 1201 + 1200 + 1200 ≤ KS - qu S from hlg.s1 hv460.2) dX14_init_684 (fun q461 cA9 H hK9 hP hD hS => ?_)
  obtain rfl := cls_new2 hR.K hK9 (k := 1) rfl (fun _ h => by cases h)
  have hw8 := hR.w
  have hR := hR.new (t := 2) (n := 1200) (k := 1200) hTX (by decide) (fun q9 => absurd q9 (by decide)) wN_cI hP hD hS
  have hk8 : adk am456 (adx am456 (qn S459) q461) S459 := adk.rf.new (Nat.le_refl _) hTX
  have hak := hak.new (q := q461) hlg.2.2.1 hTX
  have hE := hE.ad hk8
  have hlg : lg S (wN S459 2 1200 1200) (0 + 1 + 1 + 1 + 1 + 1 + 1 + 1 + 1 + 1 + 1 + 1 + 1 + 1 + 1 + 1 + 1 + 1 + 1 + 1 + 1 + 1 + 1 + 1 + 1 + 1 + 1 + 1 + 1 + 1 + 1 + 1 + 1 + 1 + 1 + 1 + 1 + 1 + 1 + 1 + 1 + 1 + 1 + 1 + 1 + 1 + 1 + 1 + 1 + 1 + 1 + 1 + 1 + 1 + 1 + 1 + 1 + 1 + 1 + 1 + 1 + dc_ak368 + 1 + 1 + 1 + 1 + 1 + 1 + 1 + 1 + 1 + 1 + 1 + 1 + 1 + 1 + 1 + 1) (0 + 12 + 16000 + 6 + 502 + 502 + 502 + 502 + 502 + 48 + 3000 + 3000 + 24 + 24 + 24 + 24 + 24 + 24 + 1201 + 86400 + 40000 + 1536 + 9600 + 57600 + 1200 + 24 + 28 + 115200 + 700 + 700 + 700 + 700 + 700 + 700 + 131072 + 131072 + 1297 + 24 + 20000 + 401 + 401 + 8 + 60 + 60 + 60 + 1440 + 1440 + 1440 + 1440 + 1201 + 1201 + 1202 + 24000 + 1200 + 45600 + 1200 + 1200 + 1200 + 1200 + 1200 + 23 + ds_ak368 + 87000 + 40000 + 1536 + 12 + 1200 + 1200 + 1200 + 1200 + 16 + 16 + 16 + 16 + 16 + 1201 + 1200 + 1200) := hlg.new (t := 2) (n := 1200) ⟨hv460.1, hv460.2⟩
  have hs8 : shx S459 (wN S459 2 1200 1200) := shx.newZ (t := 2) (n := 1200) (k := 1200) shx.rf hw8 hTX
  obtain ⟨am462, eam462⟩ : ∃ z, z = adx am456 (qn S459) q461 := ⟨_, rfl⟩
  have eq_q461 : am462 (qn S459) = q461 := by rw [eam462]; exact if_pos rfl
  rw [← eam462] at hR hk8 hak hE
  obtain ⟨S463, eS463⟩ : ∃ z, z = wN S459 2 1200 1200 := ⟨_, rfl⟩
  rw [← eS463] at hR hlg hs8
  replace h := h S463 eS463
  have hsh := hsh.tr hs8
  have hT_b464 : qT S463 (qn S459) = 2 := by rw [eS463]; exact if_pos rfl
  have ea_0 : am462 0 = am456 0 := hk8 _ (hw8.hd hw8.1 (by decide) (by decide))
  have hl : lv_has ls 1 [(0, .ref (am462 0))] := by simp only [ea_0]; exact hl
  refine W.eq (g2 := F0 m 686 ls [.ref (am462 (qn S459)), .ref (am462 0)]) (by simp only [ea_0, eq_q461]) ?_
  clear hw8 hk8 hs8 hP hD hS e9 e8 e7 hTX
  refine va_putF (D := rD g) (ci := 13) (v := .ref (am462 (qn S459))) (ty := (.array .int)) (C := RX14) (T := TX14) (N := 143) hx hb hts in2X14 tyX14 tyX14_ok nmX14 hown hR.K hR.P hR.D hR.sS 0 (hR.at14 hR.w.1) rfl 138 (by decide) (hts _ kx_743) (fun _ h9 => h9) rfl hin9 rfl (by decide +kernel) rfl rfl (Nat.le_of_ble_eq_true rfl) dX14_init_686 (fun H locs hP hD hS => ?_)
  have hw9 : wfMZ (wR S463 0 138 (some (qn S459))) := hR.w.put (fun b q9 => by cases q9; exact (hT_b464).trans (by rw [hR.w.1]; rfl)) (fun _ _ h9 => absurd h9 List.not_mem_nil) (by rw [hR.w.1]; decide)
  have hR : RepZ g am462 A s (wR S463 0 138 (some (qn S459))) H locs := hR.pR hR.w.1 F14_s138 hw9 hP hD hS
  obtain ⟨S465, eS465⟩ : ∃ z, z = wR S463 0 138 (some (qn S459)) := ⟨_, rfl⟩
  rw [← eS465] at hR
  replace h := h S465 eS465
  have hsh : shx S S465 := by rw [eS465]; exact hsh
  have hlg : lg S S465 (0 + 1 + 1 + 1 + 1 + 1 + 1 + 1 + 1 + 1 + 1 + 1 + 1 + 1 + 1 + 1 + 1 + 1 + 1 + 1 + 1 + 1 + 1 + 1 + 1 + 1 + 1 + 1 + 1 + 1 + 1 + 1 + 1 + 1 + 1 + 1 + 1 + 1 + 1 + 1 + 1 + 1 + 1 + 1 + 1 + 1 + 1 + 1 + 1 + 1 + 1 + 1 + 1 + 1 + 1 + 1 + 1 + 1 + 1 + 1 + 1 + dc_ak368 + 1 + 1 + 1 + 1 + 1 + 1 + 1 + 1 + 1 + 1 + 1 + 1 + 1 + 1 + 1 + 1) (0 + 12 + 16000 + 6 + 502 + 502 + 502 + 502 + 502 + 48 + 3000 + 3000 + 24 + 24 + 24 + 24 + 24 + 24 + 1201 + 86400 + 40000 + 1536 + 9600 + 57600 + 1200 + 24 + 28 + 115200 + 700 + 700 + 700 + 700 + 700 + 700 + 131072 + 131072 + 1297 + 24 + 20000 + 401 + 401 + 8 + 60 + 60 + 60 + 1440 + 1440 + 1440 + 1440 + 1201 + 1201 + 1202 + 24000 + 1200 + 45600 + 1200 + 1200 + 1200 + 1200 + 1200 + 23 + ds_ak368 + 87000 + 40000 + 1536 + 12 + 1200 + 1200 + 1200 + 1200 + 16 + 16 + 16 + 16 + 16 + 1201 + 1200 + 1200) := by rw [eS465]; exact hlg
  refine lv_aload_n hx hb dX14_init_689 rfl (lv_at hl 0 rfl) ?_
  refine lv_sipush (v := 1200) hx hb dX14_init_690 (by decide) ?_
  obtain ⟨hv466, h⟩ := h
  have e9 : KC = 300000 := rfl
  have e8 : KS = 3720000 := rfl
  have e7 : TXB = 10000000 := rfl
  have hTX : qn S465 < TXB := by have := hv466.1; omega
  refine va_newa (atype := .int) (ty := .int) (a0 := (1200, .inl (fun _ => 0))) (N' := 1200) hx hb (hts (.arrayClass .int) kx_346) rfl hR.K hR.P hR.D hR.sS hA (fun _ => rfl) (by decide) (by decide) (by show 1200 * 4 ≤ 536870912; have := hv466.2; omega) (show 0 + 1 + 1 + 1 + 1 + 1 + 1 + 1 + 1 + 1 + 1 + 1 + 1 + 1 + 1 + 1 + 1 + 1 + 1 + 1 + 1 + 1 + 1 + 1 + 1 + 1 + 1 + 1 + 1 + 1 + 1 + 1 + 1 + 1 + 1 + 1 + 1 + 1 + 1 + 1 + 1 + 1 + 1 + 1 + 1 + 1 + 1 + 1 + 1 + 1 + 1 + 1 + 1 + 1 + 1 + 1 + 1 + 1 + 1 + 1 + 1 + dc_ak368 + 1 + 1 + 1 + 1 + 1 + 1 + 1 + 1 + 1 + 1 + 1 + 1 + 1 + 1 + 1 + 1 + 1 ≤ KC - qn S from hlg.c1 hv466.1) (show 0 + 12 + 16000 + 6 + 502 + 502 + 502 + 502 + 502 + 48 + 3000 + 3000 + 24 + 24 + 24 + 24 + 24 + 24 + 1201 + 86400 + 40000 + 1536 + 9600 + 57600 + 1200 + 24 + 28 + 115200 + 700 + 700 + 700 + 700 + 700 + 700 + 131072 + 131072 + 1297 + 24 + 20000 + 401 + 401 + 8 + 60 + 60 + 60 + 1440 + 1440 + 1440 + 1440 + 1201 + 1201 + 1202 + 24000 + 1200 + 45600 + 1200 + 1200 + 1200 + 1200 + 1200 + 23 + ds_ak368 + 87000 + 40000 + 1536 + 12 + 1200 + 1200 + 1200 + 1200 + 16 + 16 + 16 + 16 + 16 + 1201 + 1200 + 1200 + 1200 ≤ KS - qu S from hlg.s1 hv466.2) dX14_init_693 (fun q467 cA9 H hK9 hP hD hS => ?_)
  obtain rfl := cls_new2 hR.K hK9 (k := 1) rfl (fun _ h => by cases h)
  have hw8 := hR.w
  have hR := hR.new (t := 2) (n := 1200) (k := 1200) hTX (by decide) (fun q9 => absurd q9 (by decide)) wN_cI hP hD hS
  have hk8 : adk am462 (adx am462 (qn S465) q467) S465 := adk.rf.new (Nat.le_refl _) hTX
  have hak := hak.new (q := q467) hlg.2.2.1 hTX
  have hE := hE.ad hk8
  have hlg : lg S (wN S465 2 1200 1200) (0 + 1 + 1 + 1 + 1 + 1 + 1 + 1 + 1 + 1 + 1 + 1 + 1 + 1 + 1 + 1 + 1 + 1 + 1 + 1 + 1 + 1 + 1 + 1 + 1 + 1 + 1 + 1 + 1 + 1 + 1 + 1 + 1 + 1 + 1 + 1 + 1 + 1 + 1 + 1 + 1 + 1 + 1 + 1 + 1 + 1 + 1 + 1 + 1 + 1 + 1 + 1 + 1 + 1 + 1 + 1 + 1 + 1 + 1 + 1 + 1 + dc_ak368 + 1 + 1 + 1 + 1 + 1 + 1 + 1 + 1 + 1 + 1 + 1 + 1 + 1 + 1 + 1 + 1 + 1) (0 + 12 + 16000 + 6 + 502 + 502 + 502 + 502 + 502 + 48 + 3000 + 3000 + 24 + 24 + 24 + 24 + 24 + 24 + 1201 + 86400 + 40000 + 1536 + 9600 + 57600 + 1200 + 24 + 28 + 115200 + 700 + 700 + 700 + 700 + 700 + 700 + 131072 + 131072 + 1297 + 24 + 20000 + 401 + 401 + 8 + 60 + 60 + 60 + 1440 + 1440 + 1440 + 1440 + 1201 + 1201 + 1202 + 24000 + 1200 + 45600 + 1200 + 1200 + 1200 + 1200 + 1200 + 23 + ds_ak368 + 87000 + 40000 + 1536 + 12 + 1200 + 1200 + 1200 + 1200 + 16 + 16 + 16 + 16 + 16 + 1201 + 1200 + 1200 + 1200) := hlg.new (t := 2) (n := 1200) ⟨hv466.1, hv466.2⟩
  have hs8 : shx S465 (wN S465 2 1200 1200) := shx.newZ (t := 2) (n := 1200) (k := 1200) shx.rf hw8 hTX
  obtain ⟨am468, eam468⟩ : ∃ z, z = adx am462 (qn S465) q467 := ⟨_, rfl⟩
  have eq_q467 : am468 (qn S465) = q467 := by rw [eam468]; exact if_pos rfl
  rw [← eam468] at hR hk8 hak hE
  obtain ⟨S469, eS469⟩ : ∃ z, z = wN S465 2 1200 1200 := ⟨_, rfl⟩
  rw [← eS469] at hR hlg hs8
  replace h := h S469 eS469
  have hsh := hsh.tr hs8
  have hT_b470 : qT S469 (qn S465) = 2 := by rw [eS469]; exact if_pos rfl
  have ea_0 : am468 0 = am462 0 := hk8 _ (hw8.hd hw8.1 (by decide) (by decide))
  have hl : lv_has ls 1 [(0, .ref (am468 0))] := by simp only [ea_0]; exact hl
  refine W.eq (g2 := F0 m 695 ls [.ref (am468 (qn S465)), .ref (am468 0)]) (by simp only [ea_0, eq_q467]) ?_
  clear hw8 hk8 hs8 hP hD hS e9 e8 e7 hTX
  refine va_putF (D := rD g) (ci := 13) (v := .ref (am468 (qn S465))) (ty := (.array .int)) (C := RX14) (T := TX14) (N := 143) hx hb hts in2X14 tyX14 tyX14_ok nmX14 hown hR.K hR.P hR.D hR.sS 0 (hR.at14 hR.w.1) rfl 140 (by decide) (hts _ kx_784) (fun _ h9 => h9) rfl hin9 rfl (by decide +kernel) rfl rfl (Nat.le_of_ble_eq_true rfl) dX14_init_695 (fun H locs hP hD hS => ?_)
  have hw9 : wfMZ (wR S469 0 140 (some (qn S465))) := hR.w.put (fun b q9 => by cases q9; exact (hT_b470).trans (by rw [hR.w.1]; rfl)) (fun _ _ h9 => absurd h9 List.not_mem_nil) (by rw [hR.w.1]; decide)
  have hR : RepZ g am468 A s (wR S469 0 140 (some (qn S465))) H locs := hR.pR hR.w.1 F14_s140 hw9 hP hD hS
  obtain ⟨S471, eS471⟩ : ∃ z, z = wR S469 0 140 (some (qn S465)) := ⟨_, rfl⟩
  rw [← eS471] at hR
  replace h := h S471 eS471
  have hsh : shx S S471 := by rw [eS471]; exact hsh
  have hlg : lg S S471 (0 + 1 + 1 + 1 + 1 + 1 + 1 + 1 + 1 + 1 + 1 + 1 + 1 + 1 + 1 + 1 + 1 + 1 + 1 + 1 + 1 + 1 + 1 + 1 + 1 + 1 + 1 + 1 + 1 + 1 + 1 + 1 + 1 + 1 + 1 + 1 + 1 + 1 + 1 + 1 + 1 + 1 + 1 + 1 + 1 + 1 + 1 + 1 + 1 + 1 + 1 + 1 + 1 + 1 + 1 + 1 + 1 + 1 + 1 + 1 + 1 + dc_ak368 + 1 + 1 + 1 + 1 + 1 + 1 + 1 + 1 + 1 + 1 + 1 + 1 + 1 + 1 + 1 + 1 + 1) (0 + 12 + 16000 + 6 + 502 + 502 + 502 + 502 + 502 + 48 + 3000 + 3000 + 24 + 24 + 24 + 24 + 24 + 24 + 1201 + 86400 + 40000 + 1536 + 9600 + 57600 + 1200 + 24 + 28 + 115200 + 700 + 700 + 700 + 700 + 700 + 700 + 131072 + 131072 + 1297 + 24 + 20000 + 401 + 401 + 8 + 60 + 60 + 60 + 1440 + 1440 + 1440 + 1440 + 1201 + 1201 + 1202 + 24000 + 1200 + 45600 + 1200 + 1200 + 1200 + 1200 + 1200 + 23 + ds_ak368 + 87000 + 40000 + 1536 + 12 + 1200 + 1200 + 1200 + 1200 + 16 + 16 + 16 + 16 + 16 + 1201 + 1200 + 1200 + 1200) := by rw [eS471]; exact hlg
  refine lv_aload_n hx hb dX14_init_698 rfl (lv_at hl 0 rfl) ?_
  refine lv_sipush (v := 1201) hx hb dX14_init_699 (by decide) ?_
  obtain ⟨hv472, h⟩ := h
  have e9 : KC = 300000 := rfl
  have e8 : KS = 3720000 := rfl
  have e7 : TXB = 10000000 := rfl
  have hTX : qn S471 < TXB := by have := hv472.1; omega
  refine va_newa (atype := .int) (ty := .int) (a0 := (1201, .inl (fun _ => 0))) (N' := 1201) hx hb (hts (.arrayClass .int) kx_346) rfl hR.K hR.P hR.D hR.sS hA (fun _ => rfl) (by decide) (by decide) (by show 1201 * 4 ≤ 536870912; have := hv472.2; omega) (show 0 + 1 + 1 + 1 + 1 + 1 + 1 + 1 + 1 + 1 + 1 + 1 + 1 + 1 + 1 + 1 + 1 + 1 + 1 + 1 + 1 + 1 + 1 + 1 + 1 + 1 + 1 + 1 + 1 + 1 + 1 + 1 + 1 + 1 + 1 + 1 + 1 + 1 + 1 + 1 + 1 + 1 + 1 + 1 + 1 + 1 + 1 + 1 + 1 + 1 + 1 + 1 + 1 + 1 + 1 + 1 + 1 + 1 + 1 + 1 + 1 + dc_ak368 + 1 + 1 + 1 + 1 + 1 + 1 + 1 + 1 + 1 + 1 + 1 + 1 + 1 + 1 + 1 + 1 + 1 + 1 ≤ KC - qn S from hlg.c1 hv472.1) (show 0 + 12 + 16000 + 6 + 502 + 502 + 502 + 502 + 502 + 48 + 3000 + 3000 + 24 + 24 + 24 + 24 + 24 + 24 + 1201 + 86400 + 40000 + 1536 + 9600 + 57600 + 1200 + 24 + 28 + 115200 + 700 + 700 + 700 + 700 + 700 + 700 + 131072 + 131072 + 1297 + 24 + 20000 + 401 + 401 + 8 + 60 + 60 + 60 + 1440 + 1440 + 1440 + 1440 + 1201 + 1201 + 1202 + 24000 + 1200 + 45600 + 1200 + 1200 + 1200 + 1200 + 1200 + 23 + ds_ak368 + 87000 + 40000 + 1536 + 12 + 1200 + 1200 + 1200 + 1200 + 16 + 16 + 16 + 16 + 16 + 1201 + 1200 + 1200 + 1200 + 1201 ≤ KS - qu S from hlg.s1 hv472.2) dX14_init_702 (fun q473 cA9 H hK9 hP hD hS => ?_)
  obtain rfl := cls_new2 hR.K hK9 (k := 1) rfl (fun _ h => by cases h)
  have hw8 := hR.w
  have hR := hR.new (t := 2) (n := 1201) (k := 1201) hTX (by decide) (fun q9 => absurd q9 (by decide)) wN_cI hP hD hS
  have hk8 : adk am468 (adx am468 (qn S471) q473) S471 := adk.rf.new (Nat.le_refl _) hTX
  have hak := hak.new (q := q473) hlg.2.2.1 hTX
  have hE := hE.ad hk8
  have hlg : lg S (wN S471 2 1201 1201) (0 + 1 + 1 + 1 + 1 + 1 + 1 + 1 + 1 + 1 + 1 + 1 + 1 + 1 + 1 + 1 + 1 + 1 + 1 + 1 + 1 + 1 + 1 + 1 + 1 + 1 + 1 + 1 + 1 + 1 + 1 + 1 + 1 + 1 + 1 + 1 + 1 + 1 + 1 + 1 + 1 + 1 + 1 + 1 + 1 + 1 + 1 + 1 + 1 + 1 + 1 + 1 + 1 + 1 + 1 + 1 + 1 + 1 + 1 + 1 + 1 + dc_ak368 + 1 + 1 + 1 + 1 + 1 + 1 + 1 + 1 + 1 + 1 + 1 + 1 + 1 + 1 + 1 + 1 + 1 + 1) (0 + 12 + 16000 + 6 + 502 + 502 + 502 + 502 + 502 + 48 + 3000 + 3000 + 24 + 24 + 24 + 24 + 24 + 24 + 1201 + 86400 + 40000 + 1536 + 9600 + 57600 + 1200 + 24 + 28 + 115200 + 700 + 700 + 700 + 700 + 700 + 700 + 131072 + 131072 + 1297 + 24 + 20000 + 401 + 401 + 8 + 60 + 60 + 60 + 1440 + 1440 + 1440 + 1440 + 1201 + 1201 + 1202 + 24000 + 1200 + 45600 + 1200 + 1200 + 1200 + 1200 + 1200 + 23 + ds_ak368 + 87000 + 40000 + 1536 + 12 + 1200 + 1200 + 1200 + 1200 + 16 + 16 + 16 + 16 + 16 + 1201 + 1200 + 1200 + 1200 + 1201) := hlg.new (t := 2) (n := 1201) ⟨hv472.1, hv472.2⟩
  have hs8 : shx S471 (wN S471 2 1201 1201) := shx.newZ (t := 2) (n := 1201) (k := 1201) shx.rf hw8 hTX
  obtain ⟨am474, eam474⟩ : ∃ z, z = adx am468 (qn S471) q473 := ⟨_, rfl⟩
  have eq_q473 : am474 (qn S471) = q473 := by rw [eam474]; exact if_pos rfl
  rw [← eam474] at hR hk8 hak hE
  obtain ⟨S475, eS475⟩ : ∃ z, z = wN S471 2 1201 1201 := ⟨_, rfl⟩
  rw [← eS475] at hR hlg hs8
  replace h := h S475 eS475
  have hsh := hsh.tr hs8
  have hT_b476 : qT S475 (qn S471) = 2 := by rw [eS475]; exact if_pos rfl
  have ea_0 : am474 0 = am468 0 := hk8 _ (hw8.hd hw8.1 (by decide) (by decide))
  have hl : lv_has ls 1 [(0, .ref (am474 0))] := by simp only [ea_0]; exact hl
  refine W.eq (g2 := F0 m 704 ls [.ref (am474 (qn S471)), .ref (am474 0)]) (by simp only [ea_0, eq_q473]) ?_
  clear hw8 hk8 hs8 hP hD hS e9 e8 e7 hTX
  refine va_putF (D := rD g) (ci := 13) (v := .ref (am474 (qn S471))) (ty := (.array .int)) (C := RX14) (T := TX14) (N := 143) hx hb hts in2X14 tyX14 tyX14_ok nmX14 hown hR.K hR.P hR.D hR.sS 0 (hR.at14 hR.w.1) rfl 141 (by decide) (hts _ kx_807) (fun _ h9 => h9) rfl hin9 rfl (by decide +kernel) rfl rfl (Nat.le_of_ble_eq_true rfl) dX14_init_704 (fun H locs hP hD hS => ?_)
  have hw9 : wfMZ (wR S475 0 141 (some (qn S471))) := hR.w.put (fun b q9 => by cases q9; exact (hT_b476).trans (by rw [hR.w.1]; rfl)) (fun _ _ h9 => absurd h9 List.not_mem_nil) (by rw [hR.w.1]; decide)
  have hR : RepZ g am474 A s (wR S475 0 141 (some (qn S471))) H locs := hR.pR hR.w.1 F14_s141 hw9 hP hD hS
  obtain ⟨S477, eS477⟩ : ∃ z, z = wR S475 0 141 (some (qn S471)) := ⟨_, rfl⟩
  rw [← eS477] at hR
  replace h := h S477 eS477
  have hsh : shx S S477 := by rw [eS477]; exact hsh
  have hlg : lg S S477 (0 + 1 + 1 + 1 + 1 + 1 + 1 + 1 + 1 + 1 + 1 + 1 + 1 + 1 + 1 + 1 + 1 + 1 + 1 + 1 + 1 + 1 + 1 + 1 + 1 + 1 + 1 + 1 + 1 + 1 + 1 + 1 + 1 + 1 + 1 + 1 + 1 + 1 + 1 + 1 + 1 + 1 + 1 + 1 + 1 + 1 + 1 + 1 + 1 + 1 + 1 + 1 + 1 + 1 + 1 + 1 + 1 + 1 + 1 + 1 + 1 + dc_ak368 + 1 + 1 + 1 + 1 + 1 + 1 + 1 + 1 + 1 + 1 + 1 + 1 + 1 + 1 + 1 + 1 + 1 + 1) (0 + 12 + 16000 + 6 + 502 + 502 + 502 + 502 + 502 + 48 + 3000 + 3000 + 24 + 24 + 24 + 24 + 24 + 24 + 1201 + 86400 + 40000 + 1536 + 9600 + 57600 + 1200 + 24 + 28 + 115200 + 700 + 700 + 700 + 700 + 700 + 700 + 131072 + 131072 + 1297 + 24 + 20000 + 401 + 401 + 8 + 60 + 60 + 60 + 1440 + 1440 + 1440 + 1440 + 1201 + 1201 + 1202 + 24000 + 1200 + 45600 + 1200 + 1200 + 1200 + 1200 + 1200 + 23 + ds_ak368 + 87000 + 40000 + 1536 + 12 + 1200 + 1200 + 1200 + 1200 + 16 + 16 + 16 + 16 + 16 + 1201 + 1200 + 1200 + 1200 + 1201) := by rw [eS477]; exact hlg
  refine lv_aload_n hx hb dX14_init_707 rfl (lv_at hl 0 rfl) ?_
  refine lv_sipush (v := 1200) hx hb dX14_init_708 (by decide) ?_
  obtain ⟨hv478, h⟩ := h
  have e9 : KC = 300000 := rfl
  have e8 : KS = 3720000 := rfl
  have e7 : TXB = 10000000 := rfl
  have hTX : qn S477 < TXB := by have := hv478.1; omega
  refine va_newa (atype := .int) (ty := .int) (a0 := (1200, .inl (fun _ => 0))) (N' := 1200) hx hb (hts (.arrayClass .int) kx_346) rfl hR.K hR.P hR.D hR.sS hA (fun _ => rfl) (by decide) (by decide) (by show 1200 * 4 ≤ 536870912; have := hv478.2; omega) (show 0 + 1 + 1 + 1 + 1 + 1 + 1 + 1 + 1 + 1 + 1 + 1 + 1 + 1 + 1 + 1 + 1 + 1 + 1 + 1 + 1 + 1 + 1 + 1 + 1 + 1 + 1 + 1 + 1 + 1 + 1 + 1 + 1 + 1 + 1 + 1 + 1 + 1 + 1 + 1 + 1 + 1 + 1 + 1 + 1 + 1 + 1 + 1 + 1 + 1 + 1 + 1 + 1 + 1 + 1 + 1 + 1 + 1 + 1 + 1 + 1 + dc_ak368 + 1 + 1 + 1 + 1 + 1 + 1 + 1 + 1 + 1 + 1 + 1 + 1 + 1 + 1 + 1 + 1 + 1 + 1 + 1 ≤ KC - qn S from hlg.c1 hv478.1) (show 0 + 12 + 16000 + 6 + 502 + 502 + 502 + 502 + 502 + 48 + 3000 + 3000 + 24 + 24 + 24 + 24 + 24 + 24 + 1201 + 86400 + 40000 + 1536 + 9600 + 57600 + 1200 + 24 + 28 + 115200 + 700 + 700 + 700 + 700 + 700 + 700 + 131072 + 131072 + 1297 + 24 + 20000 + 401 + 401 + 8 + 60 + 60 + 60 + 1440 + 1440 + 1440 + 1440 + 1201 + 1201 + 1202 + 24000 + 1200 + 45600 + 1200 + 1200 + 1200 + 1200 + 1200 + 23 + ds_ak368 + 87000 + 40000 + 1536 + 12 + 1200 + 1200 + 1200 + 1200 + 16 + 16 + 16 + 16 + 16 + 1201 + 1200 + 1200 + 1200 + 1201 + 1200 ≤ KS - qu S from hlg.s1 hv478.2) dX14_init_711 (fun q479 cA9 H hK9 hP hD hS => ?_)
  obtain rfl := cls_new2 hR.K hK9 (k := 1) rfl (fun _ h => by cases h)
  have hw8 := hR.w
  have hR := hR.new (t := 2) (n := 1200) (k := 1200) hTX (by decide) (fun q9 => absurd q9 (by decide)) wN_cI hP hD hS
  have hk8 : adk am474 (adx am474 (qn S477) q479) S477 := adk.rf.new (Nat.le_refl _) hTX
  have hak := hak.new (q := q479) hlg.2.2.1 hTX
  have hE := hE.ad hk8
  have hlg : lg S (wN S477 2 1200 1200) (0 + 1 + 1 + 1 + 1 + 1 + 1 + 1 + 1 + 1 + 1 + 1 + 1 + 1 + 1 + 1 + 1 + 1 + 1 + 1 + 1 + 1 + 1 + 1 + 1 + 1 + 1 + 1 + 1 + 1 + 1 + 1 + 1 + 1 + 1 + 1 + 1 + 1 + 1 + 1 + 1 + 1 + 1 + 1 + 1 + 1 + 1 + 1 + 1 + 1 + 1 + 1 + 1 + 1 + 1 + 1 + 1 + 1 + 1 + 1 + 1 + dc_ak368 + 1 + 1 + 1 + 1 + 1 + 1 + 1 + 1 + 1 + 1 + 1 + 1 + 1 + 1 + 1 + 1 + 1 + 1 + 1) (0 + 12 + 16000 + 6 + 502 + 502 + 502 + 502 + 502 + 48 + 3000 + 3000 + 24 + 24 + 24 + 24 + 24 + 24 + 1201 + 86400 + 40000 + 1536 + 9600 + 57600 + 1200 + 24 + 28 + 115200 + 700 + 700 + 700 + 700 + 700 + 700 + 131072 + 131072 + 1297 + 24 + 20000 + 401 + 401 + 8 + 60 + 60 + 60 + 1440 + 1440 + 1440 + 1440 + 1201 + 1201 + 1202 + 24000 + 1200 + 45600 + 1200 + 1200 + 1200 + 1200 + 1200 + 23 + ds_ak368 + 87000 + 40000 + 1536 + 12 + 1200 + 1200 + 1200 + 1200 + 16 + 16 + 16 + 16 + 16 + 1201 + 1200 + 1200 + 1200 + 1201 + 1200) := hlg.new (t := 2) (n := 1200) ⟨hv478.1, hv478.2⟩
  have hs8 : shx S477 (wN S477 2 1200 1200) := shx.newZ (t := 2) (n := 1200) (k := 1200) shx.rf hw8 hTX
  obtain ⟨am480, eam480⟩ : ∃ z, z = adx am474 (qn S477) q479 := ⟨_, rfl⟩
  have eq_q479 : am480 (qn S477) = q479 := by rw [eam480]; exact if_pos rfl
  rw [← eam480] at hR hk8 hak hE
  obtain ⟨S481, eS481⟩ : ∃ z, z = wN S477 2 1200 1200 := ⟨_, rfl⟩
  rw [← eS481] at hR hlg hs8
  replace h := h S481 eS481
  have hsh := hsh.tr hs8
  have hT_b482 : qT S481 (qn S477) = 2 := by rw [eS481]; exact if_pos rfl
  have ea_0 : am480 0 = am474 0 := hk8 _ (hw8.hd hw8.1 (by decide) (by decide))
  have hl : lv_has ls 1 [(0, .ref (am480 0))] := by simp only [ea_0]; exact hl
  refine W.eq (g2 := F0 m 713 ls [.ref (am480 (qn S477)), .ref (am480 0)]) (by simp only [ea_0, eq_q479]) ?_
  clear hw8 hk8 hs8 hP hD hS e9 e8 e7 hTX
  refine va_putF (D := rD g) (ci := 13) (v := .ref (am480 (qn S477))) (ty := (.array .int)) (C := RX14) (T := TX14) (N := 143) hx hb hts in2X14 tyX14 tyX14_ok nmX14 hown hR.K hR.P hR.D hR.sS 0 (hR.at14 hR.w.1) rfl 142 (by decide) (hts _ kx_812) (fun _ h9 => h9) rfl hin9 rfl (by decide +kernel) rfl rfl (Nat.le_of_ble_eq_true rfl) dX14_init_713 (fun H locs hP hD hS => ?_)
  have hw9 : wfMZ (wR S481 0 142 (some (qn S477))) := hR.w.put (fun b q9 => by cases q9; exact (hT_b482).trans (by rw [hR.w.1]; rfl)) (fun _ _ h9 => absurd h9 List.not_mem_nil) (by rw [hR.w.1]; decide)
  have hR : RepZ g am480 A s (wR S481 0 142 (some (qn S477))) H locs := hR.pR hR.w.1 F14_s142 hw9 hP hD hS
  obtain ⟨S483, eS483⟩ : ∃ z, z = wR S481 0 142 (some (qn S477)) := ⟨_, rfl⟩
  rw [← eS483] at hR
  replace h := h S483 eS483
  have hsh : shx S S483 := by rw [eS483]; exact hsh
  have hlg : lg S S483 (0 + 1 + 1 + 1 + 1 + 1 + 1 + 1 + 1 + 1 + 1 + 1 + 1 + 1 + 1 + 1 + 1 + 1 + 1 + 1 + 1 + 1 + 1 + 1 + 1 + 1 + 1 + 1 + 1 + 1 + 1 + 1 + 1 + 1 + 1 + 1 + 1 + 1 + 1 + 1 + 1 + 1 + 1 + 1 + 1 + 1 + 1 + 1 + 1 + 1 + 1 + 1 + 1 + 1 + 1 + 1 + 1 + 1 + 1 + 1 + 1 + dc_ak368 + 1 + 1 + 1 + 1 + 1 + 1 + 1 + 1 + 1 + 1 + 1 + 1 + 1 + 1 + 1 + 1 + 1 + 1 + 1) (0 + 12 + 16000 + 6 + 502 + 502 + 502 + 502 + 502 + 48 + 3000 + 3000 + 24 + 24 + 24 + 24 + 24 + 24 + 1201 + 86400 + 40000 + 1536 + 9600 + 57600 + 1200 + 24 + 28 + 115200 + 700 + 700 + 700 + 700 + 700 + 700 + 131072 + 131072 + 1297 + 24 + 20000 + 401 + 401 + 8 + 60 + 60 + 60 + 1440 + 1440 + 1440 + 1440 + 1201 + 1201 + 1202 + 24000 + 1200 + 45600 + 1200 + 1200 + 1200 + 1200 + 1200 + 23 + ds_ak368 + 87000 + 40000 + 1536 + 12 + 1200 + 1200 + 1200 + 1200 + 16 + 16 + 16 + 16 + 16 + 1201 + 1200 + 1200 + 1200 + 1201 + 1200) := by rw [eS483]; exact hlg
  refine W_led2 (fun hLd => ?_)
  refine W.widen (k := KC - qn S) (n := KS - qu S) hlg.c hlg.s ?_
  exact W.vret hx hb hr (fun t9 ht9 hW9 => ⟨⟨(S483, am480), rfl, ⟨h, hR.w, hsh, hak⟩, ⟨⟨by rw [ht9]; exact hR.P, hR.D⟩, _, _, by rw [ht9]; exact hLd, hlg⟩⟩, hR.sS.F ht9⟩) hR.sS.2.2 dX14_init_716
