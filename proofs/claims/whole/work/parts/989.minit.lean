/-! ===== the reference is made ===== -/
section
variable {f : Nat → q_Sh} {g : q_G} {T : List Nat} {L c d : Nat} {m : q_M} {xs : Nat → Int32} {a0 a1 : Option Value} {K : Option Value → q_G → q_M → Prop}
theorem is_h {k n : Nat} (hs : g.1 k = .inl n) (hk : k < 900) (hn : n < 2 ^ 31) {i : Nat} {F : Prop} (hi : i < n) : q_is g k (nI i) F ↔ F := is_g hs hk hn hi
theorem q_zero_n {k p : Nat} (h : p ≠ k) : q_zero m k p = m p := by
  funext i
  show (if p = k then 0 else m p i) = m p i
  rw [if_neg h]
theorem ZU {k a b : Nat} {v : Int32} (h : (a = k) = False) : q_zero (q_up m a b v) k = q_up (q_zero m k) a b v := by
  funext k' i
  show (if k' = k then 0 else if k' = a ∧ i = b then v else m k' i) = if k' = a ∧ i = b then v else if k' = k then 0 else m k' i
  by_cases q : k' = k
  · rw [if_pos q, if_neg (fun e => of_eq_false h (e.1.symm.trans q)), if_pos q]
  · rw [if_neg q, if_neg q]
set_option maxRecDepth 20000 in
theorem w_law_0 (hg : g.1 50 = .inl 41) (h : ∀ i, i < 0 → m 50 i = nI (y_ft i)) (hK : ∀ m', (∀ p, p ≠ 50 → m' p = m p) → (∀ i, i < 9 → m' 50 i = nI (y_ft i)) → q_R 115 162 d [a0, a1] [.ref 50, .ref 38] g m' K) : q_R 115 114 d [a0, a1] [.ref 50, .ref 38] g m K := by
  simp only [u115_114, u115_114r, u115_115, u115_116, u115_118, u115_119, u115_119r, u115_120, u115_121, u115_123, u115_124, u115_124r, u115_125, u115_126, u115_128, u115_129, u115_129r, u115_130, u115_131, u115_133, u115_134, u115_134r, u115_135, u115_136, u115_138, u115_139, u115_139r, u115_140, u115_141, u115_143, u115_144, u115_144r, u115_145, u115_147, u115_149, u115_150, u115_150r, u115_151, u115_153, u115_155, u115_156, u115_156r, u115_157, u115_159, u115_161, q_push_s, q_push_n, q_sm_0, q_sm_i, q_sm_r, q_sm_n, q_sm_l, q_c1_0, q_c1_i, q_c1_r, q_c1_n, Nat.zero_add, Nat.reduceAdd, Nat.reduceMul, Nat.reduceSub, Nat.reduceLeDiff, Nat.reduceLT, Nat.reduceEqDiff, true_and, and_true, not_false_eq_true, if_true, if_false, ite_true, ite_false, or_true, true_or, or_false, false_or, not_true_eq_false, is_h hg (by decide) (by decide), n_cl, Nat.reducePow]
  refine hK _ (fun p hp => ?_) (fun i hi => ?_)
  · rw [q_up_f _ _ _ hp, q_up_f _ _ _ hp, q_up_f _ _ _ hp, q_up_f _ _ _ hp, q_up_f _ _ _ hp, q_up_f _ _ _ hp, q_up_f _ _ _ hp, q_up_f _ _ _ hp, q_up_f _ _ _ hp]
  · rcases (show i = 0 ∨ i = 1 ∨ i = 2 ∨ i = 3 ∨ i = 4 ∨ i = 5 ∨ i = 6 ∨ i = 7 ∨ i = 8 by omega) with rfl | rfl | rfl | rfl | rfl | rfl | rfl | rfl | rfl
    · rfl
    · rfl
    · rfl
    · rfl
    · rfl
    · rfl
    · rfl
    · rfl
    · rfl
set_option maxRecDepth 20000 in
theorem w_law_9 (hg : g.1 50 = .inl 41) (h : ∀ i, i < 9 → m 50 i = nI (y_ft i)) (hK : ∀ m', (∀ p, p ≠ 50 → m' p = m p) → (∀ i, i < 18 → m' 50 i = nI (y_ft i)) → q_R 115 216 d [a0, a1] [.ref 50, .ref 38] g m' K) : q_R 115 162 d [a0, a1] [.ref 50, .ref 38] g m K := by
  simp only [u115_162, u115_162r, u115_163, u115_165, u115_167, u115_168, u115_168r, u115_169, u115_171, u115_173, u115_174, u115_174r, u115_175, u115_177, u115_179, u115_180, u115_180r, u115_181, u115_183, u115_185, u115_186, u115_186r, u115_187, u115_189, u115_191, u115_192, u115_192r, u115_193, u115_195, u115_197, u115_198, u115_198r, u115_199, u115_201, u115_203, u115_204, u115_204r, u115_205, u115_207, u115_209, u115_210, u115_210r, u115_211, u115_213, u115_215, q_push_s, q_push_n, q_sm_0, q_sm_i, q_sm_r, q_sm_n, q_sm_l, q_c1_0, q_c1_i, q_c1_r, q_c1_n, Nat.zero_add, Nat.reduceAdd, Nat.reduceMul, Nat.reduceSub, Nat.reduceLeDiff, Nat.reduceLT, Nat.reduceEqDiff, true_and, and_true, not_false_eq_true, if_true, if_false, ite_true, ite_false, or_true, true_or, or_false, false_or, not_true_eq_false, is_h hg (by decide) (by decide), n_cl, Nat.reducePow]
  refine hK _ (fun p hp => ?_) (fun i hi => ?_)
  · rw [q_up_f _ _ _ hp, q_up_f _ _ _ hp, q_up_f _ _ _ hp, q_up_f _ _ _ hp, q_up_f _ _ _ hp, q_up_f _ _ _ hp, q_up_f _ _ _ hp, q_up_f _ _ _ hp, q_up_f _ _ _ hp]
  · rcases (show i < 9 ∨ i = 9 ∨ i = 10 ∨ i = 11 ∨ i = 12 ∨ i = 13 ∨ i = 14 ∨ i = 15 ∨ i = 16 ∨ i = 17 by omega) with q | rfl | rfl | rfl | rfl | rfl | rfl | rfl | rfl | rfl
    · rw [q_up_i _ _ (by omega), q_up_i _ _ (by omega), q_up_i _ _ (by omega), q_up_i _ _ (by omega), q_up_i _ _ (by omega), q_up_i _ _ (by omega), q_up_i _ _ (by omega), q_up_i _ _ (by omega), q_up_i _ _ (by omega)]; exact h i q
    · rfl
    · rfl
    · rfl
    · rfl
    · rfl
    · rfl
    · rfl
    · rfl
    · rfl
set_option maxRecDepth 20000 in
theorem w_law_18 (hg : g.1 50 = .inl 41) (h : ∀ i, i < 18 → m 50 i = nI (y_ft i)) (hK : ∀ m', (∀ p, p ≠ 50 → m' p = m p) → (∀ i, i < 27 → m' 50 i = nI (y_ft i)) → q_R 115 270 d [a0, a1] [.ref 50, .ref 38] g m' K) : q_R 115 216 d [a0, a1] [.ref 50, .ref 38] g m K := by
  simp only [u115_216, u115_216r, u115_217, u115_219, u115_221, u115_222, u115_222r, u115_223, u115_225, u115_227, u115_228, u115_228r, u115_229, u115_231, u115_233, u115_234, u115_234r, u115_235, u115_237, u115_239, u115_240, u115_240r, u115_241, u115_243, u115_245, u115_246, u115_246r, u115_247, u115_249, u115_251, u115_252, u115_252r, u115_253, u115_255, u115_257, u115_258, u115_258r, u115_259, u115_261, u115_263, u115_264, u115_264r, u115_265, u115_267, u115_269, q_push_s, q_push_n, q_sm_0, q_sm_i, q_sm_r, q_sm_n, q_sm_l, q_c1_0, q_c1_i, q_c1_r, q_c1_n, Nat.zero_add, Nat.reduceAdd, Nat.reduceMul, Nat.reduceSub, Nat.reduceLeDiff, Nat.reduceLT, Nat.reduceEqDiff, true_and, and_true, not_false_eq_true, if_true, if_false, ite_true, ite_false, or_true, true_or, or_false, false_or, not_true_eq_false, is_h hg (by decide) (by decide), n_cl, Nat.reducePow]
  refine hK _ (fun p hp => ?_) (fun i hi => ?_)
  · rw [q_up_f _ _ _ hp, q_up_f _ _ _ hp, q_up_f _ _ _ hp, q_up_f _ _ _ hp, q_up_f _ _ _ hp, q_up_f _ _ _ hp, q_up_f _ _ _ hp, q_up_f _ _ _ hp, q_up_f _ _ _ hp]
  · rcases (show i < 18 ∨ i = 18 ∨ i = 19 ∨ i = 20 ∨ i = 21 ∨ i = 22 ∨ i = 23 ∨ i = 24 ∨ i = 25 ∨ i = 26 by omega) with q | rfl | rfl | rfl | rfl | rfl | rfl | rfl | rfl | rfl
    · rw [q_up_i _ _ (by omega), q_up_i _ _ (by omega), q_up_i _ _ (by omega), q_up_i _ _ (by omega), q_up_i _ _ (by omega), q_up_i _ _ (by omega), q_up_i _ _ (by omega), q_up_i _ _ (by omega), q_up_i _ _ (by omega)]; exact h i q
    · rfl
    · rfl
    · rfl
    · rfl
    · rfl
    · rfl
    · rfl
    · rfl
    · rfl
set_option maxRecDepth 20000 in
theorem w_law_27 (hg : g.1 50 = .inl 41) (h : ∀ i, i < 27 → m 50 i = nI (y_ft i)) (hK : ∀ m', (∀ p, p ≠ 50 → m' p = m p) → (∀ i, i < 36 → m' 50 i = nI (y_ft i)) → q_R 115 324 d [a0, a1] [.ref 50, .ref 38] g m' K) : q_R 115 270 d [a0, a1] [.ref 50, .ref 38] g m K := by
  simp only [u115_270, u115_270r, u115_271, u115_273, u115_275, u115_276, u115_276r, u115_277, u115_279, u115_281, u115_282, u115_282r, u115_283, u115_285, u115_287, u115_288, u115_288r, u115_289, u115_291, u115_293, u115_294, u115_294r, u115_295, u115_297, u115_299, u115_300, u115_300r, u115_301, u115_303, u115_305, u115_306, u115_306r, u115_307, u115_309, u115_311, u115_312, u115_312r, u115_313, u115_315, u115_317, u115_318, u115_318r, u115_319, u115_321, u115_323, q_push_s, q_push_n, q_sm_0, q_sm_i, q_sm_r, q_sm_n, q_sm_l, q_c1_0, q_c1_i, q_c1_r, q_c1_n, Nat.zero_add, Nat.reduceAdd, Nat.reduceMul, Nat.reduceSub, Nat.reduceLeDiff, Nat.reduceLT, Nat.reduceEqDiff, true_and, and_true, not_false_eq_true, if_true, if_false, ite_true, ite_false, or_true, true_or, or_false, false_or, not_true_eq_false, is_h hg (by decide) (by decide), n_cl, Nat.reducePow]
  refine hK _ (fun p hp => ?_) (fun i hi => ?_)
  · rw [q_up_f _ _ _ hp, q_up_f _ _ _ hp, q_up_f _ _ _ hp, q_up_f _ _ _ hp, q_up_f _ _ _ hp, q_up_f _ _ _ hp, q_up_f _ _ _ hp, q_up_f _ _ _ hp, q_up_f _ _ _ hp]
  · rcases (show i < 27 ∨ i = 27 ∨ i = 28 ∨ i = 29 ∨ i = 30 ∨ i = 31 ∨ i = 32 ∨ i = 33 ∨ i = 34 ∨ i = 35 by omega) with q | rfl | rfl | rfl | rfl | rfl | rfl | rfl | rfl | rfl
    · rw [q_up_i _ _ (by omega), q_up_i _ _ (by omega), q_up_i _ _ (by omega), q_up_i _ _ (by omega), q_up_i _ _ (by omega), q_up_i _ _ (by omega), q_up_i _ _ (by omega), q_up_i _ _ (by omega), q_up_i _ _ (by omega)]; exact h i q
    · rfl
    · rfl
    · rfl
    · rfl
    · rfl
    · rfl
    · rfl
    · rfl
    · rfl
set_option maxRecDepth 20000 in
theorem w_law_36 (hg : g.1 50 = .inl 41) (h : ∀ i, i < 36 → m 50 i = nI (y_ft i)) (hK : ∀ m', (∀ p, p ≠ 50 → m' p = m p) → (∀ i, i < 41 → m' 50 i = nI (y_ft i)) → q_R 115 354 d [a0, a1] [.ref 50, .ref 38] g m' K) : q_R 115 324 d [a0, a1] [.ref 50, .ref 38] g m K := by
  simp only [u115_324, u115_324r, u115_325, u115_327, u115_329, u115_330, u115_330r, u115_331, u115_333, u115_335, u115_336, u115_336r, u115_337, u115_339, u115_341, u115_342, u115_342r, u115_343, u115_345, u115_347, u115_348, u115_348r, u115_349, u115_351, u115_353, q_push_s, q_push_n, q_sm_0, q_sm_i, q_sm_r, q_sm_n, q_sm_l, q_c1_0, q_c1_i, q_c1_r, q_c1_n, Nat.zero_add, Nat.reduceAdd, Nat.reduceMul, Nat.reduceSub, Nat.reduceLeDiff, Nat.reduceLT, Nat.reduceEqDiff, true_and, and_true, not_false_eq_true, if_true, if_false, ite_true, ite_false, or_true, true_or, or_false, false_or, not_true_eq_false, is_h hg (by decide) (by decide), n_cl, Nat.reducePow]
  refine hK _ (fun p hp => ?_) (fun i hi => ?_)
  · rw [q_up_f _ _ _ hp, q_up_f _ _ _ hp, q_up_f _ _ _ hp, q_up_f _ _ _ hp, q_up_f _ _ _ hp]
  · rcases (show i < 36 ∨ i = 36 ∨ i = 37 ∨ i = 38 ∨ i = 39 ∨ i = 40 by omega) with q | rfl | rfl | rfl | rfl | rfl
    · rw [q_up_i _ _ (by omega), q_up_i _ _ (by omega), q_up_i _ _ (by omega), q_up_i _ _ (by omega), q_up_i _ _ (by omega)]; exact h i q
    · rfl
    · rfl
    · rfl
    · rfl
    · rfl
theorem w_law (hg : g.1 50 = .inl 41) (hK : ∀ m', (∀ p, p ≠ 50 → m' p = m p) → (∀ i, i < 41 → m' 50 i = nI (y_ft i)) → q_R 115 354 d [a0, a1] [.ref 50, .ref 38] g m' K) : q_R 115 114 d [a0, a1] [.ref 50, .ref 38] g m K :=
  w_law_0 hg (fun i hi => absurd hi (Nat.not_lt_zero i)) (fun m0 f0 h0 => 
  w_law_9 hg (h0) (fun m1 f1 h1 => 
  w_law_18 hg (h1) (fun m2 f2 h2 => 
  w_law_27 hg (h2) (fun m3 f3 h3 => 
  w_law_36 hg (h3) (fun m4 f4 h4 => 
  hK m4 (fun p hp => ((((f4 p hp).trans (f3 p hp)).trans (f2 p hp)).trans (f1 p hp)).trans (f0 p hp)) h4)))))
set_option maxRecDepth 20000 in
theorem w_words_0 (hg : g.1 51 = .inl 96) (h : ∀ i, i < 0 → m 51 i = nI (y_wl i)) (hK : ∀ m', (∀ p, p ≠ 51 → m' p = m p) → (∀ i, i < 12 → m' 51 i = nI (y_wl i)) → q_R 115 428 d [a0, a1] [.ref 51, .ref 38] g m' K) : q_R 115 362 d [a0, a1] [.ref 51, .ref 38] g m K := by
  simp only [u115_362, u115_362r, u115_363, u115_364, u115_366, u115_367, u115_367r, u115_368, u115_369, u115_371, u115_372, u115_372r, u115_373, u115_374, u115_376, u115_377, u115_377r, u115_378, u115_379, u115_381, u115_382, u115_382r, u115_383, u115_384, u115_386, u115_387, u115_387r, u115_388, u115_389, u115_391, u115_392, u115_392r, u115_393, u115_395, u115_397, u115_398, u115_398r, u115_399, u115_401, u115_403, u115_404, u115_404r, u115_405, u115_407, u115_409, u115_410, u115_410r, u115_411, u115_413, u115_415, u115_416, u115_416r, u115_417, u115_419, u115_421, u115_422, u115_422r, u115_423, u115_425, u115_427, q_push_s, q_push_n, q_sm_0, q_sm_i, q_sm_r, q_sm_n, q_sm_l, q_c1_0, q_c1_i, q_c1_r, q_c1_n, Nat.zero_add, Nat.reduceAdd, Nat.reduceMul, Nat.reduceSub, Nat.reduceLeDiff, Nat.reduceLT, Nat.reduceEqDiff, true_and, and_true, not_false_eq_true, if_true, if_false, ite_true, ite_false, or_true, true_or, or_false, false_or, not_true_eq_false, is_h hg (by decide) (by decide), n_cl, Nat.reducePow]
  refine hK _ (fun p hp => ?_) (fun i hi => ?_)
  · rw [q_up_f _ _ _ hp, q_up_f _ _ _ hp, q_up_f _ _ _ hp, q_up_f _ _ _ hp, q_up_f _ _ _ hp, q_up_f _ _ _ hp, q_up_f _ _ _ hp, q_up_f _ _ _ hp, q_up_f _ _ _ hp, q_up_f _ _ _ hp, q_up_f _ _ _ hp, q_up_f _ _ _ hp]
  · rcases (show i = 0 ∨ i = 1 ∨ i = 2 ∨ i = 3 ∨ i = 4 ∨ i = 5 ∨ i = 6 ∨ i = 7 ∨ i = 8 ∨ i = 9 ∨ i = 10 ∨ i = 11 by omega) with rfl | rfl | rfl | rfl | rfl | rfl | rfl | rfl | rfl | rfl | rfl | rfl
    · rfl
    · rfl
    · rfl
    · rfl
    · rfl
    · rfl
    · rfl
    · rfl
    · rfl
    · rfl
    · rfl
    · rfl
set_option maxRecDepth 20000 in
theorem w_words_12 (hg : g.1 51 = .inl 96) (h : ∀ i, i < 12 → m 51 i = nI (y_wl i)) (hK : ∀ m', (∀ p, p ≠ 51 → m' p = m p) → (∀ i, i < 24 → m' 51 i = nI (y_wl i)) → q_R 115 500 d [a0, a1] [.ref 51, .ref 38] g m' K) : q_R 115 428 d [a0, a1] [.ref 51, .ref 38] g m K := by
  simp only [u115_428, u115_428r, u115_429, u115_431, u115_433, u115_434, u115_434r, u115_435, u115_437, u115_439, u115_440, u115_440r, u115_441, u115_443, u115_445, u115_446, u115_446r, u115_447, u115_449, u115_451, u115_452, u115_452r, u115_453, u115_455, u115_457, u115_458, u115_458r, u115_459, u115_461, u115_463, u115_464, u115_464r, u115_465, u115_467, u115_469, u115_470, u115_470r, u115_471, u115_473, u115_475, u115_476, u115_476r, u115_477, u115_479, u115_481, u115_482, u115_482r, u115_483, u115_485, u115_487, u115_488, u115_488r, u115_489, u115_491, u115_493, u115_494, u115_494r, u115_495, u115_497, u115_499, q_push_s, q_push_n, q_sm_0, q_sm_i, q_sm_r, q_sm_n, q_sm_l, q_c1_0, q_c1_i, q_c1_r, q_c1_n, Nat.zero_add, Nat.reduceAdd, Nat.reduceMul, Nat.reduceSub, Nat.reduceLeDiff, Nat.reduceLT, Nat.reduceEqDiff, true_and, and_true, not_false_eq_true, if_true, if_false, ite_true, ite_false, or_true, true_or, or_false, false_or, not_true_eq_false, is_h hg (by decide) (by decide), n_cl, Nat.reducePow]
  refine hK _ (fun p hp => ?_) (fun i hi => ?_)
  · rw [q_up_f _ _ _ hp, q_up_f _ _ _ hp, q_up_f _ _ _ hp, q_up_f _ _ _ hp, q_up_f _ _ _ hp, q_up_f _ _ _ hp, q_up_f _ _ _ hp, q_up_f _ _ _ hp, q_up_f _ _ _ hp, q_up_f _ _ _ hp, q_up_f _ _ _ hp, q_up_f _ _ _ hp]
  · rcases (show i < 12 ∨ i = 12 ∨ i = 13 ∨ i = 14 ∨ i = 15 ∨ i = 16 ∨ i = 17 ∨ i = 18 ∨ i = 19 ∨ i = 20 ∨ i = 21 ∨ i = 22 ∨ i = 23 by omega) with q | rfl | rfl | rfl | rfl | rfl | rfl | rfl | rfl | rfl | rfl | rfl | rfl
    · rw [q_up_i _ _ (by omega), q_up_i _ _ (by omega), q_up_i _ _ (by omega), q_up_i _ _ (by omega), q_up_i _ _ (by omega), q_up_i _ _ (by omega), q_up_i _ _ (by omega), q_up_i _ _ (by omega), q_up_i _ _ (by omega), q_up_i _ _ (by omega), q_up_i _ _ (by omega), q_up_i _ _ (by omega)]; exact h i q
    · rfl
    · rfl
    · rfl
    · rfl
    · rfl
    · rfl
    · rfl
    · rfl
    · rfl
    · rfl
    · rfl
    · rfl
set_option maxRecDepth 20000 in
theorem w_words_24 (hg : g.1 51 = .inl 96) (h : ∀ i, i < 24 → m 51 i = nI (y_wl i)) (hK : ∀ m', (∀ p, p ≠ 51 → m' p = m p) → (∀ i, i < 36 → m' 51 i = nI (y_wl i)) → q_R 115 572 d [a0, a1] [.ref 51, .ref 38] g m' K) : q_R 115 500 d [a0, a1] [.ref 51, .ref 38] g m K := by
  simp only [u115_500, u115_500r, u115_501, u115_503, u115_505, u115_506, u115_506r, u115_507, u115_509, u115_511, u115_512, u115_512r, u115_513, u115_515, u115_517, u115_518, u115_518r, u115_519, u115_521, u115_523, u115_524, u115_524r, u115_525, u115_527, u115_529, u115_530, u115_530r, u115_531, u115_533, u115_535, u115_536, u115_536r, u115_537, u115_539, u115_541, u115_542, u115_542r, u115_543, u115_545, u115_547, u115_548, u115_548r, u115_549, u115_551, u115_553, u115_554, u115_554r, u115_555, u115_557, u115_559, u115_560, u115_560r, u115_561, u115_563, u115_565, u115_566, u115_566r, u115_567, u115_569, u115_571, q_push_s, q_push_n, q_sm_0, q_sm_i, q_sm_r, q_sm_n, q_sm_l, q_c1_0, q_c1_i, q_c1_r, q_c1_n, Nat.zero_add, Nat.reduceAdd, Nat.reduceMul, Nat.reduceSub, Nat.reduceLeDiff, Nat.reduceLT, Nat.reduceEqDiff, true_and, and_true, not_false_eq_true, if_true, if_false, ite_true, ite_false, or_true, true_or, or_false, false_or, not_true_eq_false, is_h hg (by decide) (by decide), n_cl, Nat.reducePow]
  refine hK _ (fun p hp => ?_) (fun i hi => ?_)
  · rw [q_up_f _ _ _ hp, q_up_f _ _ _ hp, q_up_f _ _ _ hp, q_up_f _ _ _ hp, q_up_f _ _ _ hp, q_up_f _ _ _ hp, q_up_f _ _ _ hp, q_up_f _ _ _ hp, q_up_f _ _ _ hp, q_up_f _ _ _ hp, q_up_f _ _ _ hp, q_up_f _ _ _ hp]
  · rcases (show i < 24 ∨ i = 24 ∨ i = 25 ∨ i = 26 ∨ i = 27 ∨ i = 28 ∨ i = 29 ∨ i = 30 ∨ i = 31 ∨ i = 32 ∨ i = 33 ∨ i = 34 ∨ i = 35 by omega) with q | rfl | rfl | rfl | rfl | rfl | rfl | rfl | rfl | rfl | rfl | rfl | rfl
    · rw [q_up_i _ _ (by omega), q_up_i _ _ (by omega), q_up_i _ _ (by omega), q_up_i _ _ (by omega), q_up_i _ _ (by omega), q_up_i _ _ (by omega), q_up_i _ _ (by omega), q_up_i _ _ (by omega), q_up_i _ _ (by omega), q_up_i _ _ (by omega), q_up_i _ _ (by omega), q_up_i _ _ (by omega)]; exact h i q
    · rfl
    · rfl
    · rfl
    · rfl
    · rfl
    · rfl
    · rfl
    · rfl
    · rfl
    · rfl
    · rfl
    · rfl
set_option maxRecDepth 20000 in
theorem w_words_36 (hg : g.1 51 = .inl 96) (h : ∀ i, i < 36 → m 51 i = nI (y_wl i)) (hK : ∀ m', (∀ p, p ≠ 51 → m' p = m p) → (∀ i, i < 48 → m' 51 i = nI (y_wl i)) → q_R 115 644 d [a0, a1] [.ref 51, .ref 38] g m' K) : q_R 115 572 d [a0, a1] [.ref 51, .ref 38] g m K := by
  simp only [u115_572, u115_572r, u115_573, u115_575, u115_577, u115_578, u115_578r, u115_579, u115_581, u115_583, u115_584, u115_584r, u115_585, u115_587, u115_589, u115_590, u115_590r, u115_591, u115_593, u115_595, u115_596, u115_596r, u115_597, u115_599, u115_601, u115_602, u115_602r, u115_603, u115_605, u115_607, u115_608, u115_608r, u115_609, u115_611, u115_613, u115_614, u115_614r, u115_615, u115_617, u115_619, u115_620, u115_620r, u115_621, u115_623, u115_625, u115_626, u115_626r, u115_627, u115_629, u115_631, u115_632, u115_632r, u115_633, u115_635, u115_637, u115_638, u115_638r, u115_639, u115_641, u115_643, q_push_s, q_push_n, q_sm_0, q_sm_i, q_sm_r, q_sm_n, q_sm_l, q_c1_0, q_c1_i, q_c1_r, q_c1_n, Nat.zero_add, Nat.reduceAdd, Nat.reduceMul, Nat.reduceSub, Nat.reduceLeDiff, Nat.reduceLT, Nat.reduceEqDiff, true_and, and_true, not_false_eq_true, if_true, if_false, ite_true, ite_false, or_true, true_or, or_false, false_or, not_true_eq_false, is_h hg (by decide) (by decide), n_cl, Nat.reducePow]
  refine hK _ (fun p hp => ?_) (fun i hi => ?_)
  · rw [q_up_f _ _ _ hp, q_up_f _ _ _ hp, q_up_f _ _ _ hp, q_up_f _ _ _ hp, q_up_f _ _ _ hp, q_up_f _ _ _ hp, q_up_f _ _ _ hp, q_up_f _ _ _ hp, q_up_f _ _ _ hp, q_up_f _ _ _ hp, q_up_f _ _ _ hp, q_up_f _ _ _ hp]
  · rcases (show i < 36 ∨ i = 36 ∨ i = 37 ∨ i = 38 ∨ i = 39 ∨ i = 40 ∨ i = 41 ∨ i = 42 ∨ i = 43 ∨ i = 44 ∨ i = 45 ∨ i = 46 ∨ i = 47 by omega) with q | rfl | rfl | rfl | rfl | rfl | rfl | rfl | rfl | rfl | rfl | rfl | rfl
    · rw [q_up_i _ _ (by omega), q_up_i _ _ (by omega), q_up_i _ _ (by omega), q_up_i _ _ (by omega), q_up_i _ _ (by omega), q_up_i _ _ (by omega), q_up_i _ _ (by omega), q_up_i _ _ (by omega), q_up_i _ _ (by omega), q_up_i _ _ (by omega), q_up_i _ _ (by omega), q_up_i _ _ (by omega)]; exact h i q
    · rfl
    · rfl
    · rfl
    · rfl
    · rfl
    · rfl
    · rfl
    · rfl
    · rfl
    · rfl
    · rfl
    · rfl
set_option maxRecDepth 20000 in
theorem w_words_48 (hg : g.1 51 = .inl 96) (h : ∀ i, i < 48 → m 51 i = nI (y_wl i)) (hK : ∀ m', (∀ p, p ≠ 51 → m' p = m p) → (∀ i, i < 60 → m' 51 i = nI (y_wl i)) → q_R 115 716 d [a0, a1] [.ref 51, .ref 38] g m' K) : q_R 115 644 d [a0, a1] [.ref 51, .ref 38] g m K := by
  simp only [u115_644, u115_644r, u115_645, u115_647, u115_649, u115_650, u115_650r, u115_651, u115_653, u115_655, u115_656, u115_656r, u115_657, u115_659, u115_661, u115_662, u115_662r, u115_663, u115_665, u115_667, u115_668, u115_668r, u115_669, u115_671, u115_673, u115_674, u115_674r, u115_675, u115_677, u115_679, u115_680, u115_680r, u115_681, u115_683, u115_685, u115_686, u115_686r, u115_687, u115_689, u115_691, u115_692, u115_692r, u115_693, u115_695, u115_697, u115_698, u115_698r, u115_699, u115_701, u115_703, u115_704, u115_704r, u115_705, u115_707, u115_709, u115_710, u115_710r, u115_711, u115_713, u115_715, q_push_s, q_push_n, q_sm_0, q_sm_i, q_sm_r, q_sm_n, q_sm_l, q_c1_0, q_c1_i, q_c1_r, q_c1_n, Nat.zero_add, Nat.reduceAdd, Nat.reduceMul, Nat.reduceSub, Nat.reduceLeDiff, Nat.reduceLT, Nat.reduceEqDiff, true_and, and_true, not_false_eq_true, if_true, if_false, ite_true, ite_false, or_true, true_or, or_false, false_or, not_true_eq_false, is_h hg (by decide) (by decide), n_cl, Nat.reducePow]
  refine hK _ (fun p hp => ?_) (fun i hi => ?_)
  · rw [q_up_f _ _ _ hp, q_up_f _ _ _ hp, q_up_f _ _ _ hp, q_up_f _ _ _ hp, q_up_f _ _ _ hp, q_up_f _ _ _ hp, q_up_f _ _ _ hp, q_up_f _ _ _ hp, q_up_f _ _ _ hp, q_up_f _ _ _ hp, q_up_f _ _ _ hp, q_up_f _ _ _ hp]
  · rcases (show i < 48 ∨ i = 48 ∨ i = 49 ∨ i = 50 ∨ i = 51 ∨ i = 52 ∨ i = 53 ∨ i = 54 ∨ i = 55 ∨ i = 56 ∨ i = 57 ∨ i = 58 ∨ i = 59 by omega) with q | rfl | rfl | rfl | rfl | rfl | rfl | rfl | rfl | rfl | rfl | rfl | rfl
    · rw [q_up_i _ _ (by omega), q_up_i _ _ (by omega), q_up_i _ _ (by omega), q_up_i _ _ (by omega), q_up_i _ _ (by omega), q_up_i _ _ (by omega), q_up_i _ _ (by omega), q_up_i _ _ (by omega), q_up_i _ _ (by omega), q_up_i _ _ (by omega), q_up_i _ _ (by omega), q_up_i _ _ (by omega)]; exact h i q
    · rfl
    · rfl
    · rfl
    · rfl
    · rfl
    · rfl
    · rfl
    · rfl
    · rfl
    · rfl
    · rfl
    · rfl
set_option maxRecDepth 20000 in
theorem w_words_60 (hg : g.1 51 = .inl 96) (h : ∀ i, i < 60 → m 51 i = nI (y_wl i)) (hK : ∀ m', (∀ p, p ≠ 51 → m' p = m p) → (∀ i, i < 72 → m' 51 i = nI (y_wl i)) → q_R 115 788 d [a0, a1] [.ref 51, .ref 38] g m' K) : q_R 115 716 d [a0, a1] [.ref 51, .ref 38] g m K := by
  simp only [u115_716, u115_716r, u115_717, u115_719, u115_721, u115_722, u115_722r, u115_723, u115_725, u115_727, u115_728, u115_728r, u115_729, u115_731, u115_733, u115_734, u115_734r, u115_735, u115_737, u115_739, u115_740, u115_740r, u115_741, u115_743, u115_745, u115_746, u115_746r, u115_747, u115_749, u115_751, u115_752, u115_752r, u115_753, u115_755, u115_757, u115_758, u115_758r, u115_759, u115_761, u115_763, u115_764, u115_764r, u115_765, u115_767, u115_769, u115_770, u115_770r, u115_771, u115_773, u115_775, u115_776, u115_776r, u115_777, u115_779, u115_781, u115_782, u115_782r, u115_783, u115_785, u115_787, q_push_s, q_push_n, q_sm_0, q_sm_i, q_sm_r, q_sm_n, q_sm_l, q_c1_0, q_c1_i, q_c1_r, q_c1_n, Nat.zero_add, Nat.reduceAdd, Nat.reduceMul, Nat.reduceSub, Nat.reduceLeDiff, Nat.reduceLT, Nat.reduceEqDiff, true_and, and_true, not_false_eq_true, if_true, if_false, ite_true, ite_false, or_true, true_or, or_false, false_or, not_true_eq_false, is_h hg (by decide) (by decide), n_cl, Nat.reducePow]
  refine hK _ (fun p hp => ?_) (fun i hi => ?_)
  · rw [q_up_f _ _ _ hp, q_up_f _ _ _ hp, q_up_f _ _ _ hp, q_up_f _ _ _ hp, q_up_f _ _ _ hp, q_up_f _ _ _ hp, q_up_f _ _ _ hp, q_up_f _ _ _ hp, q_up_f _ _ _ hp, q_up_f _ _ _ hp, q_up_f _ _ _ hp, q_up_f _ _ _ hp]
  · rcases (show i < 60 ∨ i = 60 ∨ i = 61 ∨ i = 62 ∨ i = 63 ∨ i = 64 ∨ i = 65 ∨ i = 66 ∨ i = 67 ∨ i = 68 ∨ i = 69 ∨ i = 70 ∨ i = 71 by omega) with q | rfl | rfl | rfl | rfl | rfl | rfl | rfl | rfl | rfl | rfl | rfl | rfl
    · rw [q_up_i _ _ (by omega), q_up_i _ _ (by omega), q_up_i _ _ (by omega), q_up_i _ _ (by omega), q_up_i _ _ (by omega), q_up_i _ _ (by omega), q_up_i _ _ (by omega), q_up_i _ _ (by omega), q_up_i _ _ (by omega), q_up_i _ _ (by omega), q_up_i _ _ (by omega), q_up_i _ _ (by omega)]; exact h i q
    · rfl
    · rfl
    · rfl
    · rfl
    · rfl
    · rfl
    · rfl
    · rfl
    · rfl
    · rfl
    · rfl
    · rfl
set_option maxRecDepth 20000 in
theorem w_words_72 (hg : g.1 51 = .inl 96) (h : ∀ i, i < 72 → m 51 i = nI (y_wl i)) (hK : ∀ m', (∀ p, p ≠ 51 → m' p = m p) → (∀ i, i < 84 → m' 51 i = nI (y_wl i)) → q_R 115 860 d [a0, a1] [.ref 51, .ref 38] g m' K) : q_R 115 788 d [a0, a1] [.ref 51, .ref 38] g m K := by
  simp only [u115_788, u115_788r, u115_789, u115_791, u115_793, u115_794, u115_794r, u115_795, u115_797, u115_799, u115_800, u115_800r, u115_801, u115_803, u115_805, u115_806, u115_806r, u115_807, u115_809, u115_811, u115_812, u115_812r, u115_813, u115_815, u115_817, u115_818, u115_818r, u115_819, u115_821, u115_823, u115_824, u115_824r, u115_825, u115_827, u115_829, u115_830, u115_830r, u115_831, u115_833, u115_835, u115_836, u115_836r, u115_837, u115_839, u115_841, u115_842, u115_842r, u115_843, u115_845, u115_847, u115_848, u115_848r, u115_849, u115_851, u115_853, u115_854, u115_854r, u115_855, u115_857, u115_859, q_push_s, q_push_n, q_sm_0, q_sm_i, q_sm_r, q_sm_n, q_sm_l, q_c1_0, q_c1_i, q_c1_r, q_c1_n, Nat.zero_add, Nat.reduceAdd, Nat.reduceMul, Nat.reduceSub, Nat.reduceLeDiff, Nat.reduceLT, Nat.reduceEqDiff, true_and, and_true, not_false_eq_true, if_true, if_false, ite_true, ite_false, or_true, true_or, or_false, false_or, not_true_eq_false, is_h hg (by decide) (by decide), n_cl, Nat.reducePow]
  refine hK _ (fun p hp => ?_) (fun i hi => ?_)
  · rw [q_up_f _ _ _ hp, q_up_f _ _ _ hp, q_up_f _ _ _ hp, q_up_f _ _ _ hp, q_up_f _ _ _ hp, q_up_f _ _ _ hp, q_up_f _ _ _ hp, q_up_f _ _ _ hp, q_up_f _ _ _ hp, q_up_f _ _ _ hp, q_up_f _ _ _ hp, q_up_f _ _ _ hp]
  · rcases (show i < 72 ∨ i = 72 ∨ i = 73 ∨ i = 74 ∨ i = 75 ∨ i = 76 ∨ i = 77 ∨ i = 78 ∨ i = 79 ∨ i = 80 ∨ i = 81 ∨ i = 82 ∨ i = 83 by omega) with q | rfl | rfl | rfl | rfl | rfl | rfl | rfl | rfl | rfl | rfl | rfl | rfl
    · rw [q_up_i _ _ (by omega), q_up_i _ _ (by omega), q_up_i _ _ (by omega), q_up_i _ _ (by omega), q_up_i _ _ (by omega), q_up_i _ _ (by omega), q_up_i _ _ (by omega), q_up_i _ _ (by omega), q_up_i _ _ (by omega), q_up_i _ _ (by omega), q_up_i _ _ (by omega), q_up_i _ _ (by omega)]; exact h i q
    · rfl
    · rfl
    · rfl
    · rfl
    · rfl
    · rfl
    · rfl
    · rfl
    · rfl
    · rfl
    · rfl
    · rfl
set_option maxRecDepth 20000 in
theorem w_words_84 (hg : g.1 51 = .inl 96) (h : ∀ i, i < 84 → m 51 i = nI (y_wl i)) (hK : ∀ m', (∀ p, p ≠ 51 → m' p = m p) → (∀ i, i < 96 → m' 51 i = nI (y_wl i)) → q_R 115 932 d [a0, a1] [.ref 51, .ref 38] g m' K) : q_R 115 860 d [a0, a1] [.ref 51, .ref 38] g m K := by
  simp only [u115_860, u115_860r, u115_861, u115_863, u115_865, u115_866, u115_866r, u115_867, u115_869, u115_871, u115_872, u115_872r, u115_873, u115_875, u115_877, u115_878, u115_878r, u115_879, u115_881, u115_883, u115_884, u115_884r, u115_885, u115_887, u115_889, u115_890, u115_890r, u115_891, u115_893, u115_895, u115_896, u115_896r, u115_897, u115_899, u115_901, u115_902, u115_902r, u115_903, u115_905, u115_907, u115_908, u115_908r, u115_909, u115_911, u115_913, u115_914, u115_914r, u115_915, u115_917, u115_919, u115_920, u115_920r, u115_921, u115_923, u115_925, u115_926, u115_926r, u115_927, u115_929, u115_931, q_push_s, q_push_n, q_sm_0, q_sm_i, q_sm_r, q_sm_n, q_sm_l, q_c1_0, q_c1_i, q_c1_r, q_c1_n, Nat.zero_add, Nat.reduceAdd, Nat.reduceMul, Nat.reduceSub, Nat.reduceLeDiff, Nat.reduceLT, Nat.reduceEqDiff, true_and, and_true, not_false_eq_true, if_true, if_false, ite_true, ite_false, or_true, true_or, or_false, false_or, not_true_eq_false, is_h hg (by decide) (by decide), n_cl, Nat.reducePow]
  refine hK _ (fun p hp => ?_) (fun i hi => ?_)
  · rw [q_up_f _ _ _ hp, q_up_f _ _ _ hp, q_up_f _ _ _ hp, q_up_f _ _ _ hp, q_up_f _ _ _ hp, q_up_f _ _ _ hp, q_up_f _ _ _ hp, q_up_f _ _ _ hp, q_up_f _ _ _ hp, q_up_f _ _ _ hp, q_up_f _ _ _ hp, q_up_f _ _ _ hp]
  · rcases (show i < 84 ∨ i = 84 ∨ i = 85 ∨ i = 86 ∨ i = 87 ∨ i = 88 ∨ i = 89 ∨ i = 90 ∨ i = 91 ∨ i = 92 ∨ i = 93 ∨ i = 94 ∨ i = 95 by omega) with q | rfl | rfl | rfl | rfl | rfl | rfl | rfl | rfl | rfl | rfl | rfl | rfl
    · rw [q_up_i _ _ (by omega), q_up_i _ _ (by omega), q_up_i _ _ (by omega), q_up_i _ _ (by omega), q_up_i _ _ (by omega), q_up_i _ _ (by omega), q_up_i _ _ (by omega), q_up_i _ _ (by omega), q_up_i _ _ (by omega), q_up_i _ _ (by omega), q_up_i _ _ (by omega), q_up_i _ _ (by omega)]; exact h i q
    · rfl
    · rfl
    · rfl
    · rfl
    · rfl
    · rfl
    · rfl
    · rfl
    · rfl
    · rfl
    · rfl
    · rfl
theorem w_words (hg : g.1 51 = .inl 96) (hK : ∀ m', (∀ p, p ≠ 51 → m' p = m p) → (∀ i, i < 96 → m' 51 i = nI (y_wl i)) → q_R 115 932 d [a0, a1] [.ref 51, .ref 38] g m' K) : q_R 115 362 d [a0, a1] [.ref 51, .ref 38] g m K :=
  w_words_0 hg (fun i hi => absurd hi (Nat.not_lt_zero i)) (fun m0 f0 h0 => 
  w_words_12 hg (h0) (fun m1 f1 h1 => 
  w_words_24 hg (h1) (fun m2 f2 h2 => 
  w_words_36 hg (h2) (fun m3 f3 h3 => 
  w_words_48 hg (h3) (fun m4 f4 h4 => 
  w_words_60 hg (h4) (fun m5 f5 h5 => 
  w_words_72 hg (h5) (fun m6 f6 h6 => 
  w_words_84 hg (h6) (fun m7 f7 h7 => 
  hK m7 (fun p hp => (((((((f7 p hp).trans (f6 p hp)).trans (f5 p hp)).trans (f4 p hp)).trans (f3 p hp)).trans (f2 p hp)).trans (f1 p hp)).trans (f0 p hp)) h7))))))))
theorem qf_8 : q_fields 8 = [none, some .null, some .null, some .null, some .null, none, some .null, none, some .null, some .null, none, none, none, none, none, none, some .null, some .null, some .null, some .null, some .null, none, none, none, none, some .null, some .null, none, none, none, some .null, some .null, none, none, some .null, some .null, none, some .null] := rfl
set_option maxRecDepth 20000 in
theorem m_seg1 : q_R 115 0 d [some (.ref 38), none] [] (q_B f 38 ((.inr (.inr (8, [none, some .null, some .null, some .null, some .null, none, some .null, none, some .null, some .null, none, none, none, none, none, none, some .null, some .null, some .null, some .null, some .null, none, none, none, none, some .null, some .null, none, none, none, some .null, some .null, none, none, some .null, some .null, none, some .null])) : q_Sh) :: []) L c) (q_ZM 38 39 m) K ↔ q_R 115 114 d [some (.ref 38), none] [.ref 50, .ref 38] (q_B f 38 ((.inr (.inr (8, [none, some (.ref 39), some (.ref 40), some (.ref 41), some (.ref 42), none, some (.ref 43), none, some (.ref 44), some (.ref 45), none, none, none, none, none, none, some (.ref 46), some (.ref 47), some (.ref 48), some (.ref 49), some .null, none, none, none, none, some .null, some .null, none, none, none, some .null, some .null, none, none, some .null, some .null, none, some .null])) : q_Sh) :: (.inl 6 : q_Sh) :: (.inl 6 : q_Sh) :: (.inl 18 : q_Sh) :: (.inl 36 : q_Sh) :: (.inl 160 : q_Sh) :: (.inl 1200 : q_Sh) :: (.inl 24 : q_Sh) :: (.inl 54 : q_Sh) :: (.inl 4 : q_Sh) :: (.inl 4 : q_Sh) :: (.inl 160 : q_Sh) :: (.inl 41 : q_Sh) :: []) L (c + 1713)) (q_up (q_up (q_up (q_up (q_ZM 38 51 m) 47 0 (-1 : Int32)) 47 1 (-1 : Int32)) 47 2 (-1 : Int32)) 47 3 (-1 : Int32)) K := by
  simp only [u115_0, u115_1, u115_4, u115_5, u115_7, u115_9, u115_12, u115_13, u115_15, u115_17, u115_20, u115_21, u115_23, u115_25, u115_28, u115_29, u115_31, u115_33, u115_36, u115_37, u115_40, u115_42, u115_45, u115_46, u115_49, u115_51, u115_54, u115_55, u115_57, u115_59, u115_62, u115_63, u115_65, u115_67, u115_70, u115_71, u115_72, u115_74, u115_74r, u115_75, u115_76, u115_77, u115_78, u115_78r, u115_79, u115_80, u115_81, u115_82, u115_82r, u115_83, u115_84, u115_85, u115_86, u115_86r, u115_87, u115_88, u115_89, u115_90, u115_93, u115_94, u115_95, u115_97, u115_100, u115_101, u115_104, u115_106, u115_109, u115_110, u115_112, q_push_s, q_push_n, q_sm_0, q_sm_i, q_sm_r, q_sm_n, q_sm_l, q_c1_0, q_c1_i, q_c1_r, q_c1_n, Nat.zero_add, Nat.reduceAdd, Nat.reduceMul, Nat.reduceSub, Nat.reduceLeDiff, Nat.reduceLT, Nat.reduceEqDiff, true_and, and_true, not_false_eq_true, if_true, if_false, ite_true, ite_false, or_true, true_or, or_false, false_or, not_true_eq_false, B_1, B_n, B_new, B_sh, q_pf, q_gf, List.getElem?_cons_zero, List.getElem?_cons_succ, Option.getD_some, List.set_cons_zero, List.set_cons_succ, List.cons_append, List.nil_append, List.length_cons, List.length_nil, n_cl, n_ng, Nat.not_lt_zero, Nat.sub_zero, Nat.zero_le, Nat.add_assoc, Nat.reducePow, Bool.false_eq_true, false_imp_iff, false_implies, ZM_z, ZM_u, ZC, qf_0, qf_1, qf_2, qf_3, qf_4, qf_5, qf_6, qf_7, q_al, q_as, q_asn, q_vpI, q_ia, q_is, List.getElem?_nil, Option.getD_none, xs900, ZU]
set_option maxRecDepth 20000 in
theorem m_seg2 : q_R 115 354 d [some (.ref 38), none] [.ref 50, .ref 38] (q_B f 38 ((.inr (.inr (8, [none, some (.ref 39), some (.ref 40), some (.ref 41), some (.ref 42), none, some (.ref 43), none, some (.ref 44), some (.ref 45), none, none, none, none, none, none, some (.ref 46), some (.ref 47), some (.ref 48), some (.ref 49), some .null, none, none, none, none, some .null, some .null, none, none, none, some .null, some .null, none, none, some .null, some .null, none, some .null])) : q_Sh) :: (.inl 6 : q_Sh) :: (.inl 6 : q_Sh) :: (.inl 18 : q_Sh) :: (.inl 36 : q_Sh) :: (.inl 160 : q_Sh) :: (.inl 1200 : q_Sh) :: (.inl 24 : q_Sh) :: (.inl 54 : q_Sh) :: (.inl 4 : q_Sh) :: (.inl 4 : q_Sh) :: (.inl 160 : q_Sh) :: (.inl 41 : q_Sh) :: []) L c) m K ↔ q_R 115 362 d [some (.ref 38), none] [.ref 51, .ref 38] (q_B f 38 ((.inr (.inr (8, [none, some (.ref 39), some (.ref 40), some (.ref 41), some (.ref 42), none, some (.ref 43), none, some (.ref 44), some (.ref 45), none, none, none, none, none, none, some (.ref 46), some (.ref 47), some (.ref 48), some (.ref 49), some (.ref 50), none, none, none, none, some .null, some .null, none, none, none, some .null, some .null, none, none, some .null, some .null, none, some .null])) : q_Sh) :: (.inl 6 : q_Sh) :: (.inl 6 : q_Sh) :: (.inl 18 : q_Sh) :: (.inl 36 : q_Sh) :: (.inl 160 : q_Sh) :: (.inl 1200 : q_Sh) :: (.inl 24 : q_Sh) :: (.inl 54 : q_Sh) :: (.inl 4 : q_Sh) :: (.inl 4 : q_Sh) :: (.inl 160 : q_Sh) :: (.inl 41 : q_Sh) :: (.inl 96 : q_Sh) :: []) L (c + 96)) (q_zero m 51) K := by
  simp only [u115_354, u115_357, u115_358, u115_360, q_push_s, q_push_n, q_sm_0, q_sm_i, q_sm_r, q_sm_n, q_sm_l, q_c1_0, q_c1_i, q_c1_r, q_c1_n, Nat.zero_add, Nat.reduceAdd, Nat.reduceMul, Nat.reduceSub, Nat.reduceLeDiff, Nat.reduceLT, Nat.reduceEqDiff, true_and, and_true, not_false_eq_true, if_true, if_false, ite_true, ite_false, or_true, true_or, or_false, false_or, not_true_eq_false, B_1, B_n, B_new, B_sh, q_pf, q_gf, List.getElem?_cons_zero, List.getElem?_cons_succ, Option.getD_some, List.set_cons_zero, List.set_cons_succ, List.cons_append, List.nil_append, List.length_cons, List.length_nil, n_cl, n_ng, Nat.not_lt_zero, Nat.sub_zero, Nat.zero_le, Nat.add_assoc, Nat.reducePow, Bool.false_eq_true, false_imp_iff, false_implies, ZM_z, ZM_u, ZC, qf_0, qf_1, qf_2, qf_3, qf_4, qf_5, qf_6, qf_7, q_al, q_as, q_asn, q_vpI, q_ia, q_is, List.getElem?_nil, Option.getD_none, xs900, ZU]
set_option maxRecDepth 20000 in
theorem m_seg3 : q_R 115 932 d [some (.ref 38), none] [.ref 51, .ref 38] (q_B f 38 ((.inr (.inr (8, [none, some (.ref 39), some (.ref 40), some (.ref 41), some (.ref 42), none, some (.ref 43), none, some (.ref 44), some (.ref 45), none, none, none, none, none, none, some (.ref 46), some (.ref 47), some (.ref 48), some (.ref 49), some (.ref 50), none, none, none, none, some .null, some .null, none, none, none, some .null, some .null, none, none, some .null, some .null, none, some .null])) : q_Sh) :: (.inl 6 : q_Sh) :: (.inl 6 : q_Sh) :: (.inl 18 : q_Sh) :: (.inl 36 : q_Sh) :: (.inl 160 : q_Sh) :: (.inl 1200 : q_Sh) :: (.inl 24 : q_Sh) :: (.inl 54 : q_Sh) :: (.inl 4 : q_Sh) :: (.inl 4 : q_Sh) :: (.inl 160 : q_Sh) :: (.inl 41 : q_Sh) :: (.inl 96 : q_Sh) :: []) L c) m K ↔ q_R 115 985 d [some (.ref 38), none] [] (q_B f 38 ((.inr (.inr (8, [none, some (.ref 39), some (.ref 40), some (.ref 41), some (.ref 42), none, some (.ref 43), none, some (.ref 44), some (.ref 45), none, none, none, none, none, none, some (.ref 46), some (.ref 47), some (.ref 48), some (.ref 49), some (.ref 50), none, none, none, none, some (.ref 51), some (.ref 52), none, none, none, some (.ref 53), some (.ref 54), none, none, some (.ref 55), some (.ref 56), none, some (.ref 57)])) : q_Sh) :: (.inl 6 : q_Sh) :: (.inl 6 : q_Sh) :: (.inl 18 : q_Sh) :: (.inl 36 : q_Sh) :: (.inl 160 : q_Sh) :: (.inl 1200 : q_Sh) :: (.inl 24 : q_Sh) :: (.inl 54 : q_Sh) :: (.inl 4 : q_Sh) :: (.inl 4 : q_Sh) :: (.inl 160 : q_Sh) :: (.inl 41 : q_Sh) :: (.inl 96 : q_Sh) :: (.inl 200 : q_Sh) :: (.inl 200 : q_Sh) :: (.inl 6 : q_Sh) :: (.inl 6 : q_Sh) :: (.inl 6 : q_Sh) :: (.inl 6 : q_Sh) :: []) L (c + 424)) (q_zero (q_zero (q_zero (q_zero (q_zero (q_zero m 52) 53) 54) 55) 56) 57) K := by
  simp only [u115_932, u115_935, u115_936, u115_939, u115_941, u115_944, u115_945, u115_948, u115_950, u115_953, u115_954, u115_956, u115_958, u115_961, u115_962, u115_964, u115_966, u115_969, u115_970, u115_972, u115_974, u115_977, u115_978, u115_980, u115_982, q_push_s, q_push_n, q_sm_0, q_sm_i, q_sm_r, q_sm_n, q_sm_l, q_c1_0, q_c1_i, q_c1_r, q_c1_n, Nat.zero_add, Nat.reduceAdd, Nat.reduceMul, Nat.reduceSub, Nat.reduceLeDiff, Nat.reduceLT, Nat.reduceEqDiff, true_and, and_true, not_false_eq_true, if_true, if_false, ite_true, ite_false, or_true, true_or, or_false, false_or, not_true_eq_false, B_1, B_n, B_new, B_sh, q_pf, q_gf, List.getElem?_cons_zero, List.getElem?_cons_succ, Option.getD_some, List.set_cons_zero, List.set_cons_succ, List.cons_append, List.nil_append, List.length_cons, List.length_nil, n_cl, n_ng, Nat.not_lt_zero, Nat.sub_zero, Nat.zero_le, Nat.add_assoc, Nat.reducePow, Bool.false_eq_true, false_imp_iff, false_implies, ZM_z, ZM_u, ZC, qf_0, qf_1, qf_2, qf_3, qf_4, qf_5, qf_6, qf_7, q_al, q_as, q_asn, q_vpI, q_ia, q_is, List.getElem?_nil, Option.getD_none, xs900, ZU]
theorem B_GG (hf : ∀ k, k < 38 → f k = q_S [] L k) : q_B f 38 ((.inr (.inr (8, [none, some (.ref 39), some (.ref 40), some (.ref 41), some (.ref 42), none, some (.ref 43), none, some (.ref 44), some (.ref 45), none, none, none, none, none, none, some (.ref 46), some (.ref 47), some (.ref 48), some (.ref 49), some (.ref 50), none, none, none, none, some (.ref 51), some (.ref 52), none, none, none, some (.ref 53), some (.ref 54), none, none, some (.ref 55), some (.ref 56), none, some (.ref 57)])) : q_Sh) :: (.inl 6 : q_Sh) :: (.inl 6 : q_Sh) :: (.inl 18 : q_Sh) :: (.inl 36 : q_Sh) :: (.inl 160 : q_Sh) :: (.inl 1200 : q_Sh) :: (.inl 24 : q_Sh) :: (.inl 54 : q_Sh) :: (.inl 4 : q_Sh) :: (.inl 4 : q_Sh) :: (.inl 160 : q_Sh) :: (.inl 41 : q_Sh) :: (.inl 96 : q_Sh) :: (.inl 200 : q_Sh) :: (.inl 200 : q_Sh) :: (.inl 6 : q_Sh) :: (.inl 6 : q_Sh) :: (.inl 6 : q_Sh) :: (.inl 6 : q_Sh) :: []) L 3121 = GG [] L := by
  have h1 : (q_B f 38 ((.inr (.inr (8, [none, some (.ref 39), some (.ref 40), some (.ref 41), some (.ref 42), none, some (.ref 43), none, some (.ref 44), some (.ref 45), none, none, none, none, none, none, some (.ref 46), some (.ref 47), some (.ref 48), some (.ref 49), some (.ref 50), none, none, none, none, some (.ref 51), some (.ref 52), none, none, none, some (.ref 53), some (.ref 54), none, none, some (.ref 55), some (.ref 56), none, some (.ref 57)])) : q_Sh) :: (.inl 6 : q_Sh) :: (.inl 6 : q_Sh) :: (.inl 18 : q_Sh) :: (.inl 36 : q_Sh) :: (.inl 160 : q_Sh) :: (.inl 1200 : q_Sh) :: (.inl 24 : q_Sh) :: (.inl 54 : q_Sh) :: (.inl 4 : q_Sh) :: (.inl 4 : q_Sh) :: (.inl 160 : q_Sh) :: (.inl 41 : q_Sh) :: (.inl 96 : q_Sh) :: (.inl 200 : q_Sh) :: (.inl 200 : q_Sh) :: (.inl 6 : q_Sh) :: (.inl 6 : q_Sh) :: (.inl 6 : q_Sh) :: (.inl 6 : q_Sh) :: []) L 3121).1 = (GG [] L).1 := by
    funext k
    rw [B_1]
    by_cases q : k < 38
    · rw [if_pos q]; exact hf k q
    · rw [if_neg q]
      by_cases q2 : k < 58
      · rcases (show k = 38 ∨ k = 39 ∨ k = 40 ∨ k = 41 ∨ k = 42 ∨ k = 43 ∨ k = 44 ∨ k = 45 ∨ k = 46 ∨ k = 47 ∨ k = 48 ∨ k = 49 ∨ k = 50 ∨ k = 51 ∨ k = 52 ∨ k = 53 ∨ k = 54 ∨ k = 55 ∨ k = 56 ∨ k = 57 by omega) with rfl | rfl | rfl | rfl | rfl | rfl | rfl | rfl | rfl | rfl | rfl | rfl | rfl | rfl | rfl | rfl | rfl | rfl | rfl | rfl
        · rfl
        · rfl
        · rfl
        · rfl
        · rfl
        · rfl
        · rfl
        · rfl
        · rfl
        · rfl
        · rfl
        · rfl
        · rfl
        · rfl
        · rfl
        · rfl
        · rfl
        · rfl
        · rfl
        · rfl
      · rw [List.getElem?_eq_none (by simp only [List.length_cons, List.length_nil]; omega)]
        show q_xs L k = q_S [] L k
        rw [q_S_hi (by omega), if_neg (by simp only [List.length_nil]; omega)]
  exact Prod.ext h1 rfl
theorem l_tape (d : Nat) : ∀ c i (m : q_M), i + c = 41 → (∀ x, x < 41 → m 50 x = nI (y_ft x)) → (∀ x, x < i → m 43 x = nI (y_ft x)) → (∀ m', (∀ p, p ≠ 43 → m' p = m p) → (∀ x, x < 41 → m' 43 x = nI (y_ft x)) → q_R 115 1011 d [some (.ref 38), some (.int (nI 41))] [] (GG T L) m' K) → q_R 115 987 d [some (.ref 38), some (.int (nI i))] [] (GG T L) m K
  | 0, i, m, hi, hl, hd, hK => by
    have ei : i = 41 := by omega
    subst ei
    rw [u115_987]
    simp only [u115_988, u115_990, q_push_s, q_push_n, q_sm_0, q_sm_i, q_sm_r, q_sm_n, q_sm_l, q_c1_0, q_c1_i, q_c1_r, q_c1_n, Nat.zero_add, Nat.reduceAdd, Nat.reduceMul, Nat.reduceSub, Nat.reduceLeDiff, Nat.reduceLT, Nat.reduceEqDiff, true_and, and_true, not_false_eq_true, if_true, if_false, ite_true, ite_false, or_true, true_or, or_false, false_or, not_true_eq_false, n_lt (i := 41) (j := 41) (by decide) (by decide), Nat.lt_irrefl]
    exact hK m (fun _ _ => rfl) hd
  | c + 1, i, m, hi, hl, hd, hK => by
    have h41 : i < 41 := by omega
    have cl : (nI i).toNatClampNeg = i := n_cl (by omega)
    rw [u115_987]
    simp only [u115_988, u115_990, u115_993, u115_994, u115_997, u115_998, u115_999, u115_1002, u115_1003, u115_1004, u115_1005, u115_1008, q_push_s, q_push_n, q_sm_0, q_sm_i, q_sm_r, q_sm_n, q_sm_l, q_c1_0, q_c1_i, q_c1_r, q_c1_n, Nat.zero_add, Nat.reduceAdd, Nat.reduceMul, Nat.reduceSub, Nat.reduceLeDiff, Nat.reduceLT, Nat.reduceEqDiff, true_and, and_true, not_false_eq_true, if_true, if_false, ite_true, ite_false, or_true, true_or, or_false, false_or, not_true_eq_false, n_lt (i := i) (j := 41) (by omega) (by decide), h41, gf38_6, gf38_20, ia50 h41, is43 (show i < 160 by omega), cl, n_add, hl i h41]
    refine l_tape d c (i + 1) _ (by omega) (fun x hx => by rw [q_up_f _ _ _ (by decide)]; exact hl x hx) (fun x hx => ?_) (fun m' f1 f2 => hK m' (fun p hp => by rw [f1 p hp, q_up_f _ _ _ hp]) f2)
    by_cases q : x = i
    · rw [q]; exact q_up_eq _ _ _ _
    · rw [q_up_i _ _ q]; exact hd x (by omega)
set_option maxRecDepth 20000 in
theorem c_X8 (hf : ∀ k, k < 38 → f k = q_S [] L k)
    (hK : ∀ m', (∀ p, (p < 38 ∨ 58 ≤ p) → m' p = m p) → (∀ x, x < 21 → x ≠ 7 → x ≠ 10 → m' 38 x = 0) → m' 38 7 = nI 0 → m' 38 10 = nI 1 → (m' 45 0 = nI 0 ∧ m' 45 1 = nI 5 ∧ m' 45 2 = nI 6 ∧ m' 45 3 = nI 7) → y_cd 0 [100060, 0, 100003, 18, 16, 100010, 100005] m' → (∀ x, x < 4 → m' 47 x = (-1 : Int32) ∧ m' 48 x = 0) → (∀ x, m' 42 x = 0) → (∀ i, i < 96 → m' 51 i = nI (y_wl i)) → K none (GG [] L) m') :
    q_C 115 (d + 5) [.ref 38] (q_B f 38 ((.inr (.inr (8, [none, some .null, some .null, some .null, some .null, none, some .null, none, some .null, some .null, none, none, none, none, none, none, some .null, some .null, some .null, some .null, some .null, none, none, none, none, some .null, some .null, none, none, none, some .null, some .null, none, none, some .null, some .null, none, some .null])) : q_Sh) :: []) L 888) (q_ZM 38 39 m) K := by
  simp only [e115]
  rw [m_seg1]
  refine w_law rfl (fun m1 f1 h1 => ?_)
  rw [m_seg2]
  refine w_words rfl (fun m2 f2 h2 => ?_)
  rw [m_seg3, show (888 + 1713 + 96 + 424 : Nat) = 3121 from rfl, B_GG hf]
  simp only [u115_985, u115_986, q_push_s, q_push_n, q_sm_0, q_sm_i, q_sm_r, q_sm_n, q_sm_l, q_c1_0, q_c1_i, q_c1_r, q_c1_n, Nat.zero_add, Nat.reduceAdd, Nat.reduceMul, Nat.reduceSub, Nat.reduceLeDiff, Nat.reduceLT, Nat.reduceEqDiff, true_and, and_true, not_false_eq_true, if_true, if_false, ite_true, ite_false, or_true, true_or, or_false, false_or, not_true_eq_false]
  have f38 : ∀ p, p ≠ 43 ∧ (p < 50 ∨ 58 ≤ p) → q_zero (q_zero (q_zero (q_zero (q_zero (q_zero m2 52) 53) 54) 55) 56) 57 p = (q_up (q_up (q_up (q_up (q_ZM 38 51 m) 47 0 (-1 : Int32)) 47 1 (-1 : Int32)) 47 2 (-1 : Int32)) 47 3 (-1 : Int32)) p := fun p hp => by
    rw [q_zero_n (by omega), q_zero_n (by omega), q_zero_n (by omega), q_zero_n (by omega), q_zero_n (by omega), q_zero_n (by omega), f2 p (by omega), q_zero_n (by omega), f1 p (by omega)]
  have z51 : q_zero (q_zero (q_zero (q_zero (q_zero (q_zero m2 52) 53) 54) 55) 56) 57 51 = m2 51 := by
    rw [q_zero_n (by omega), q_zero_n (by omega), q_zero_n (by omega), q_zero_n (by omega), q_zero_n (by omega), q_zero_n (by omega)]
  refine l_tape (d + 5) 41 0 _ rfl (fun x hx => ?_) (fun x hx => absurd hx (Nat.not_lt_zero x)) (fun m3 f3 h3 => ?_)
  · rw [q_zero_n (by omega), q_zero_n (by omega), q_zero_n (by omega), q_zero_n (by omega), q_zero_n (by omega), q_zero_n (by omega), f2 50 (by omega), q_zero_n (by omega)]
    exact h1 x hx
  simp only [u115_1011, u115_1012, u115_1014, u115_1017, u115_1018, q_push_s, q_push_n, q_sm_0, q_sm_i, q_sm_r, q_sm_n, q_sm_l, q_c1_0, q_c1_i, q_c1_r, q_c1_n, Nat.zero_add, Nat.reduceAdd, Nat.reduceMul, Nat.reduceSub, Nat.reduceLeDiff, Nat.reduceLT, Nat.reduceEqDiff, true_and, and_true, not_false_eq_true, if_true, if_false, ite_true, ite_false, or_true, true_or, or_false, false_or, not_true_eq_false, pf38_7, io38]
  have ft256 : ∀ i, i < 41 → y_ft i < 256 := by decide
  refine c_text8S (d := d) (n := 0) ft_s0 ft_s1 ft_s2 ft_41 ⟨by decide, q_up_eq _ _ _ _, fun i hi => ⟨ft256 i hi, ?_⟩⟩ (fun i hi => ?_) ?_ (by decide) (fun m4 V v7 v10 x45 xcd => ?_)
  · rw [q_up_f _ _ _ (by decide)]; exact h3 i hi
  · rw [q_up_f _ _ _ (by decide), f3 51 (by decide), z51]; exact h2 i hi
  · rw [q_up_i _ _ (by decide), f3 38 (by decide), f38 38 (by omega)]; rfl
  simp only [u115_1021, u115_1022, q_push_s, q_push_n, q_sm_0, q_sm_i, q_sm_r, q_sm_n, q_sm_l, q_c1_0, q_c1_i, q_c1_r, q_c1_n, Nat.zero_add, Nat.reduceAdd, Nat.reduceMul, Nat.reduceSub, Nat.reduceLeDiff, Nat.reduceLT, Nat.reduceEqDiff, true_and, and_true, not_false_eq_true, if_true, if_false, ite_true, ite_false, or_true, true_or, or_false, false_or, not_true_eq_false]
  have fk : ∀ p, p ≠ 38 ∧ p ≠ 43 ∧ p ≠ 44 ∧ p ≠ 45 ∧ (p < 50 ∨ 58 ≤ p) → m4 p = (q_up (q_up (q_up (q_up (q_ZM 38 51 m) 47 0 (-1 : Int32)) 47 1 (-1 : Int32)) 47 2 (-1 : Int32)) 47 3 (-1 : Int32)) p := fun p hp => by
    rw [V.1 p (by omega) (by omega) (by omega) (by omega), q_up_f _ _ _ (by omega), f3 p (by omega), f38 p (by omega)]
  refine hK m4 (fun p hp => ?_) (fun x hx h7 h10 => ?_) v7 v10 x45 xcd (fun x hx => ⟨?_, ?_⟩) (fun x => ?_) (fun i hi => ?_)
  · rw [fk p (by omega), q_up_f _ _ _ (by omega), q_up_f _ _ _ (by omega), q_up_f _ _ _ (by omega), q_up_f _ _ _ (by omega)]
    funext i
    show (if 38 ≤ p ∧ p < 51 then 0 else m p i) = m p i
    rw [if_neg (by omega)]
  · rw [V.2.1 x hx h7 h10, q_up_i _ _ h7, f3 38 (by decide), f38 38 (by omega)]; rfl
  · rw [fk 47 (by omega)]
    rcases (show x = 0 ∨ x = 1 ∨ x = 2 ∨ x = 3 by omega) with rfl | rfl | rfl | rfl <;> rfl
  · rw [fk 48 (by omega)]; rfl
  · rw [fk 42 (by omega)]; rfl
  · rw [V.1 51 (by decide) (by decide) (by decide) (by decide), q_up_f _ _ _ (by decide), f3 51 (by decide), z51]; exact h2 i hi
end
