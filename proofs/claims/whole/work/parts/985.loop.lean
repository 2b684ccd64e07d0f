section
variable {T : List Nat} {L : Nat} {xs : Nat → Int32} {s : ZS} {tx : Nat → Nat → List Nat} {n : Nat} {tp : Nat → Nat} {z : Nat} {h : ZH} {wd : Nat → Int32} {m : q_M} {i : Nat} {K : Option Value → q_G → q_M → Prop}
theorem tu_text (hwd : ∀ i, i < 96 → wd i = nI (y_wl i)) (l : LJ T L xs s tx n tp z h wd m) (hi : i + 7 ≤ L) (hL : L ≤ 4000) (hN : y_nx L xs wd i K) : q_R 215 306 100 [some (.ref 905), some (.ref 0), some (.ref 38), some (.int (nI i))] [] (GG T L) m K := by
  simp only [u215_306, u215_306n, u215_307, q_push_s, q_push_n, q_sm_0, q_sm_i, q_sm_r, q_sm_n, q_sm_l, q_c1_0, q_c1_i, q_c1_r, q_c1_n, Nat.zero_add, Nat.reduceAdd, Nat.reduceMul, Nat.reduceSub, Nat.reduceLeDiff, Nat.reduceLT, Nat.reduceEqDiff, true_and, and_true, not_false_eq_true, if_true, if_false, ite_true, ite_false, or_true, true_or, or_false, false_or, not_true_eq_false, io0]
  refine y_bridge l (p_text (d := 52) l hwd (K := fun v v' g m => q_R 215 314 100 [some (.ref 905), some (.ref 0), some (.ref 38), some (.int (nI i))] (q_push v' (q_push v [])) g m K) (fun r z' m' l' => ?_) (fun _ r N tx' m' l' => ?_)) (fun v g' m' g9 x9 g38 hC => ?_)
  · simp only [u215_314, u215_317, u215_318, q_push_s, q_push_n, q_sm_0, q_sm_i, q_sm_r, q_sm_n, q_sm_l, q_c1_0, q_c1_i, q_c1_r, q_c1_n, Nat.zero_add, Nat.reduceAdd, Nat.reduceMul, Nat.reduceSub, Nat.reduceLeDiff, Nat.reduceLT, Nat.reduceEqDiff, true_and, and_true, not_false_eq_true, if_true, if_false, ite_true, ite_false, or_true, true_or, or_false, false_or, not_true_eq_false]
    exact hN _ _ _ _ _ _ _ _ l'
  · simp only [u215_314, u215_317, u215_318, q_push_s, q_push_n, q_sm_0, q_sm_i, q_sm_r, q_sm_n, q_sm_l, q_c1_0, q_c1_i, q_c1_r, q_c1_n, Nat.zero_add, Nat.reduceAdd, Nat.reduceMul, Nat.reduceSub, Nat.reduceLeDiff, Nat.reduceLT, Nat.reduceEqDiff, true_and, and_true, not_false_eq_true, if_true, if_false, ite_true, ite_false, or_true, true_or, or_false, false_or, not_true_eq_false]
    exact hN _ _ _ _ _ _ _ _ l'
  · simp only [u215_310, u215_310n, u215_311]
    exact ⟨y_sm1 v, g38, hC⟩
theorem tu_count (l : LJ T L xs s tx n tp z h wd m) (hi : i + 7 ≤ L) (hL : L ≤ 4000) (hN : y_nx L xs wd i K) : q_R 215 208 100 [some (.ref 905), some (.ref 0), some (.ref 38), some (.int (nI i))] [] (GG T L) m K := t_count l hi hL hN
theorem tu_switch (hwd : ∀ i, i < 96 → wd i = nI (y_wl i)) (l : LJ T L xs s tx n tp z h wd m) (hi : i + 7 ≤ L) (hL : L ≤ 4000) (hN : y_nx L xs wd i K) (v : Int32) : q_R 215 33 100 [some (.ref 905), some (.ref 0), some (.ref 38), some (.int (nI i))] [.int v] (GG T L) m K := by
  rw [u215_33]
  by_cases e900 : v.toInt = 0
  · rw [if_pos e900]; exact tu_count l hi hL hN
  rw [if_neg e900]
  by_cases e901 : v.toInt = 1
  · rw [if_pos e901]; exact tu_feed l hi hL hN
  rw [if_neg e901]
  by_cases e902 : v.toInt = 2
  · rw [if_pos e902]; exact tu_text hwd l hi hL hN
  rw [if_neg e902]
  by_cases e903 : v.toInt = 3
  · rw [if_pos e903]; exact tu_force l hi hL hN
  rw [if_neg e903]
  by_cases e904 : v.toInt = 4
  · rw [if_pos e904]; exact tu_asks l hi hL hN
  rw [if_neg e904]
  by_cases e905 : v.toInt = 5
  · rw [if_pos e905]; exact tu_guest l hi hL hN
  rw [if_neg e905]
  by_cases e906 : v.toInt = 6
  · rw [if_pos e906]; exact tu_told l hi hL hN
  rw [if_neg e906]
  by_cases e907 : v.toInt = 7
  · rw [if_pos e907]; exact tu_pair l hi hL hN
  rw [if_neg e907]
  by_cases e908 : v.toInt = 8
  · rw [if_pos e908]; exact tu_set l hi hL hN
  rw [if_neg e908]
  by_cases e909 : v.toInt = 9
  · rw [if_pos e909]; exact tu_does l hi hL hN
  rw [if_neg e909]
  by_cases e910 : v.toInt = 10
  · rw [if_pos e910]; exact tu_would l hi hL hN
  rw [if_neg e910]
  by_cases e911 : v.toInt = 11
  · rw [if_pos e911]; exact tu_known l hi hL hN
  rw [if_neg e911]
  by_cases e912 : v.toInt = 12
  · rw [if_pos e912]; exact tu_evening l hi hL hN
  rw [if_neg e912]
  by_cases e913 : v.toInt = 13
  · rw [if_pos e913]; exact tu_live l hi hL hN
  rw [if_neg e913]
  by_cases e914 : v.toInt = 14
  · rw [if_pos e914]; exact tu_may l hi hL hN
  rw [if_neg e914]
  by_cases e915 : v.toInt = 15
  · rw [if_pos e915]; exact tu_fits l hi hL hN
  rw [if_neg e915]
  by_cases e916 : v.toInt = 16
  · rw [if_pos e916]; exact tu_next l hi hL hN
  rw [if_neg e916]
  by_cases e917 : v.toInt = 17
  · rw [if_pos e917]; exact tu_fewest l hi hL hN
  rw [if_neg e917]
  by_cases e918 : v.toInt = 18
  · rw [if_pos e918]; exact tu_best l hi hL hN
  rw [if_neg e918]
  by_cases e919 : v.toInt = 19
  · rw [if_pos e919]; exact tu_chain l hi hL hN
  rw [if_neg e919]
  by_cases e920 : v.toInt = 20
  · rw [if_pos e920]; exact tu_ring l hi hL hN
  rw [if_neg e920]
  by_cases e921 : v.toInt = 21
  · rw [if_pos e921]; exact tu_asIf l hi hL hN
  rw [if_neg e921]
  by_cases e922 : v.toInt = 22
  · rw [if_pos e922]; exact tu_learns l hi hL hN
  rw [if_neg e922]
  by_cases e923 : v.toInt = 23
  · rw [if_pos e923]; exact tu_judge l hi hL hN
  rw [if_neg e923]
  by_cases e924 : v.toInt = 24
  · rw [if_pos e924]; exact tu_kinds l hi hL hN
  rw [if_neg e924]
  by_cases e925 : v.toInt = 25
  · rw [if_pos e925]; exact tu_manners l hi hL hN
  rw [if_neg e925]
  by_cases e926 : v.toInt = 26
  · rw [if_pos e926]; exact tu_whose l hi hL hN
  rw [if_neg e926]
  by_cases e927 : v.toInt = 27
  · rw [if_pos e927]; exact tu_laws l hi hL hN
  rw [if_neg e927]
  by_cases e928 : v.toInt = 28
  · rw [if_pos e928]; exact tu_film l hi hL hN
  rw [if_neg e928]
  by_cases e929 : v.toInt = 29
  · rw [if_pos e929]; exact tu_drawn l hi hL hN
  rw [if_neg e929]
  by_cases e930 : v.toInt = 30
  · rw [if_pos e930]; exact tu_lots l hi hL hN
  rw [if_neg e930]
  by_cases e931 : v.toInt = 31
  · rw [if_pos e931]; exact tu_odds l hi hL hN
  rw [if_neg e931]
  by_cases e932 : v.toInt = 32
  · rw [if_pos e932]; exact tu_chance l hi hL hN
  rw [if_neg e932]
  by_cases e933 : v.toInt = 33
  · rw [if_pos e933]; exact tu_image l hi hL hN
  rw [if_neg e933]
  by_cases e934 : v.toInt = 34
  · rw [if_pos e934]; exact tu_back l hi hL hN
  rw [if_neg e934]
  by_cases e935 : v.toInt = 35
  · rw [if_pos e935]; exact tu_sheet l hi hL hN
  rw [if_neg e935]
  by_cases e936 : v.toInt = 36
  · rw [if_pos e936]; exact tu_cell l hi hL hN
  rw [if_neg e936]
  by_cases e937 : v.toInt = 37
  · rw [if_pos e937]; exact tu_copy l hi hL hN
  rw [if_neg e937]
  by_cases e938 : v.toInt = 38
  · rw [if_pos e938]; exact tu_guestsBy l hi hL hN
  rw [if_neg e938]
  by_cases e939 : v.toInt = 39
  · rw [if_pos e939]; exact tu_taken l hi hL hN
  rw [if_neg e939]
  exact hN _ _ _ _ _ _ _ _ l
theorem y_L7 : ∀ L, L < 7 → (nI L - nI 7).toInt < 0 := by decide +kernel
theorem l_law (hwd : ∀ i, i < 96 → wd i = nI (y_wl i)) (hL : L ≤ 4000) (hK : ∀ T s tx n tp z h m, LJ T L xs s tx n tp z h wd m → K (some (.int (nI 1))) (GG T L) m) : ∀ c i T s tx n tp z h m, L + 1 ≤ i + c → i ≤ L + 7 → LJ T L xs s tx n tp z h wd m → q_R 215 18 100 [some (.ref 905), some (.ref 0), some (.ref 38), some (.int (nI i))] [] (GG T L) m K
  | c, i, T, s, tx, n, tp, z, h, m, hc, hi2, l => by
    have h905 : (GG T L).1 905 = .inl L := y_sh905 (by have := l.t; have := l.iw.2.2.2; omega)
    have hx : ∀ j, m 905 j = xs j := fun j => by rw [l.xm 905 (by decide)]; rfl
    rw [u215_18]
    by_cases q7 : L < 7
    · have hn : ¬ nI i ≤ nI L - nI 7 := by
        rw [Int32.le_iff_toInt_le, nI_toInt (by omega)]
        have := y_L7 L q7
        omega
      simp only [u215_19, u215_19n, u215_20, u215_21, u215_23, u215_24, u215_1538, u215_1539, q_push_s, q_push_n, q_sm_0, q_sm_i, q_sm_r, q_sm_n, q_sm_l, q_c1_0, q_c1_i, q_c1_r, q_c1_n, Nat.zero_add, Nat.reduceAdd, Nat.reduceMul, Nat.reduceSub, Nat.reduceLeDiff, Nat.reduceLT, Nat.reduceEqDiff, true_and, and_true, not_false_eq_true, if_true, if_false, ite_true, ite_false, or_true, true_or, or_false, false_or, not_true_eq_false, al_g h905, hn, y_11]
      exact hK _ _ _ _ _ _ _ _ l
    · have hle := n_le (i := i) (j := L - 7) (by omega) (by omega)
      by_cases q : i ≤ L - 7
      · match c, hc with
        | 0, hc => omega
        | c + 1, hc =>
          simp only [u215_19, u215_19n, u215_20, u215_21, u215_23, u215_24, u215_27, u215_27n, u215_28, u215_29, u215_30, u215_32, q_push_s, q_push_n, q_sm_0, q_sm_i, q_sm_r, q_sm_n, q_sm_l, q_c1_0, q_c1_i, q_c1_r, q_c1_n, Nat.zero_add, Nat.reduceAdd, Nat.reduceMul, Nat.reduceSub, Nat.reduceLeDiff, Nat.reduceLT, Nat.reduceEqDiff, true_and, and_true, not_false_eq_true, if_true, if_false, ite_true, ite_false, or_true, true_or, or_false, false_or, not_true_eq_false, al_g h905, n_sub (show 7 ≤ L by omega), hle, q, ia_g h905 (by decide) (show L < 2 ^ 31 by omega) (show i < L by omega), hx]
          refine tu_switch hwd l (by omega) hL (fun T' s' tx' n' tp' z' h' m' l' => ?_) _
          simp only [u215_1532, u215_1535, q_push_s, q_push_n, q_sm_0, q_sm_i, q_sm_r, q_sm_n, q_sm_l, q_c1_0, q_c1_i, q_c1_r, q_c1_n, Nat.zero_add, Nat.reduceAdd, Nat.reduceMul, Nat.reduceSub, Nat.reduceLeDiff, Nat.reduceLT, Nat.reduceEqDiff, true_and, and_true, not_false_eq_true, if_true, if_false, ite_true, ite_false, or_true, true_or, or_false, false_or, not_true_eq_false, n_add]
          exact l_law hwd hL hK c (i + 7) T' s' tx' n' tp' z' h' m' (by omega) (by omega) l'
      · simp only [u215_19, u215_19n, u215_20, u215_21, u215_23, u215_24, u215_1538, u215_1539, q_push_s, q_push_n, q_sm_0, q_sm_i, q_sm_r, q_sm_n, q_sm_l, q_c1_0, q_c1_i, q_c1_r, q_c1_n, Nat.zero_add, Nat.reduceAdd, Nat.reduceMul, Nat.reduceSub, Nat.reduceLeDiff, Nat.reduceLT, Nat.reduceEqDiff, true_and, and_true, not_false_eq_true, if_true, if_false, ite_true, ite_false, or_true, true_or, or_false, false_or, not_true_eq_false, al_g h905, n_sub (show 7 ≤ L by omega), hle, q, y_11]
        exact hK _ _ _ _ _ _ _ _ l
end
