/-! the law's helpers: the answer in a row of one, or the number of the exception -/
def OU (G : gT) (w : Nat) (fo : Nat → Int64) : va_W := [(w, .inl (G.2 4, 1, .inr (.inl fo)))]

set_option maxHeartbeats 4000000 in
set_option maxRecDepth 100000 in
theorem c_L_turnPeg (l : Launch) (G : gT) (x q w : Nat) (a S r H g p f h : Nat → Nat) (n kn : Nat) (d T : Nat → Nat → Nat) (fo : Nat → Int64) (hkn : kn ≤ 6) (hI : IV S) (c b : Nat) (hc : c < 32) (hb : b < 10) : CW l G yL_turnPeg wsL_turnPeg [(0, 17, 20, 13)] 6 150 4 [.ref x, .int (nI c), .int (nI b), .ref w] [XB x (a 0) (r 0) (p 0) (h 0) q, DW G a S, HI G h kn d, HD G d T, OU G w fo] 0 0 (fun rv u => rv = some (.int (nI 0)) ∧ u = [XB x (a 0) (r 0) (p 0) (h 0) q, DW G a (va_up S c (S c ^^^ 2 ^ b)), HI G h (aM kn + 1) (aD kn d), HD G (aD kn d) (hT kn S T), OU G w (vp_updL fo 0 (lN (bq (S c ^^^ 2 ^ b) b)))]) := by
  refine CW_of RL 5 126 rfl rfl (by decide) (by decide +kernel) (Nat.le_of_ble_eq_true rfl) (fun E A X hrt htb => ?_)
  generalize hQ : QM E G A _ _ _ = Q
  show V E G A 5 [XB x (a 0) (r 0) (p 0) (h 0) q, DW G a S, HI G h kn d, HD G d T, OU G w fo] 0 0 Q 0 [(0, .ref x), (1, .int (nI c)), (2, .int (nI b)), (3, .ref w)] []
  refine V_aload_n (pc' := 1) 3 X dL_turnPeg_0 rfl rfl rfl ?_
  refine V_iconst (pc' := 2) (nI 0) X dL_turnPeg_1 ki_0 rfl ?_
  refine V_aload_n (pc' := 3) 0 X dL_turnPeg_2 rfl rfl rfl ?_
  refine V_iload_n (pc' := 4) 1 X dL_turnPeg_3 rfl rfl rfl ?_
  refine V_iload_n (pc' := 5) 2 X dL_turnPeg_4 rfl rfl rfl ?_
  refine V_callV (pc' := 8) (As := [.int (nI c), .int (nI b)]) (st := [.int (nI 0), .ref w]) 5 0 [0, 1, 2, 3] [4] (show (List.range 5).Perm ([0, 1, 2, 3] ++ [4]) by decide) X (c_X5_turnPeg l G x (r 0) (p 0) q a S h kn d T hkn hI c b hc hb) rfl gL_turnPeg_X5_turnPeg rfl (by decide) rfl rfl rfl (Nat.le_of_ble_eq_true rfl) ⟨Nat.le_of_ble_eq_true rfl, Nat.le_of_ble_eq_true rfl⟩ ⟨Nat.le_of_ble_eq_true rfl, Nat.le_of_ble_eq_true rfl⟩ dL_turnPeg_5 rfl (fun v_ u_ hp_ => ?_)
  obtain ⟨rfl, rfl⟩ := hp_
  show V E G A 5 [OU G w fo, XB x (a 0) (r 0) (p 0) (h 0) q, DW G a (va_up S c (S c ^^^ 2 ^ b)), HI G h (aM kn + 1) (aD kn d), HD G (aD kn d) (hT kn S T)] 0 0 Q 8 [(0, .ref x), (1, .int (nI c)), (2, .int (nI b)), (3, .ref w)] [.int (nI (bq (S c ^^^ 2 ^ b) b)), .int (nI 0), .ref w]
  refine V_ord [1, 2, 3, 4, 0] [XB x (a 0) (r 0) (p 0) (h 0) q, DW G a (va_up S c (S c ^^^ 2 ^ b)), HI G h (aM kn + 1) (aD kn d), HD G (aD kn d) (hT kn S T), OU G w fo] (show (List.range 5).Perm [1, 2, 3, 4, 0] by decide) rfl ?_
  refine V_if_eq (pc' := 11) (C := (bq (S c ^^^ 2 ^ b) b) = 0) 15 X dL_turnPeg_8 (by decide) rfl (z_eq0 (Nat.lt_trans (bq_lt _ _) (by decide))) (fun h8 => ?_) (fun h8 => ?_)
  · refine V_lconst (pc' := 16) (lN 0) X dL_turnPeg_15 (by decide +kernel) rfl ?_
    rw [show lN 0 = lN (bq (S c ^^^ 2 ^ b) b) by rw [show bq (S c ^^^ 2 ^ b) b = 0 by have := bq_lt (S c ^^^ 2 ^ b) b; omega]]
    show V E G A 5 [XB x (a 0) (r 0) (p 0) (h 0) q, DW G a (va_up S c (S c ^^^ 2 ^ b)), HI G h (aM kn + 1) (aD kn d), HD G (aD kn d) (hT kn S T), OU G w fo] 0 0 Q 16 [(0, .ref x), (1, .int (nI c)), (2, .int (nI b)), (3, .ref w)] [.long (lN (bq (S c ^^^ 2 ^ b) b)), .int (nI 0), .ref w]
    refine V_ws [XB x (a 0) (r 0) (p 0) (h 0) q, DW G a (va_up S c (S c ^^^ 2 ^ b)), HI G h (aM kn + 1) (aD kn d), HD G (aD kn d) (hT kn S T), [(w, .inl (G.2 4, 1, .inr (.inl fo)))]] rfl ?_
    refine V_last (pc' := 17) 52 0 [XB x (a 0) (r 0) (p 0) (h 0) q, DW G a (va_up S c (S c ^^^ 2 ^ b)), HI G h (aM kn + 1) (aD kn d), HD G (aD kn d) (hT kn S T), [(w, .inl (G.2 4, 1, .inr (.inl (vp_updL fo 0 (lN (bq (S c ^^^ 2 ^ b) b))))))]] X rfl (by omega) (by decide) rfl dL_turnPeg_16 rfl ?_
    refine V_goto (pc' := 24) X dL_turnPeg_17 (by decide) ?_
    refine V_iconst (pc' := 25) (nI 0) X dL_turnPeg_24 ki_0 rfl ?_
    refine V_ws [XB x (a 0) (r 0) (p 0) (h 0) q, DW G a (va_up S c (S c ^^^ 2 ^ b)), HI G h (aM kn + 1) (aD kn d), HD G (aD kn d) (hT kn S T), OU G w (vp_updL fo 0 (lN (bq (S c ^^^ 2 ^ b) b)))] rfl ?_
    exact V_ireturn (v := nI 0) [XB x (a 0) (r 0) (p 0) (h 0) q, DW G a (va_up S c (S c ^^^ 2 ^ b)), HI G h (aM kn + 1) (aD kn d), HD G (aD kn d) (hT kn S T), OU G w (vp_updL fo 0 (lN (bq (S c ^^^ 2 ^ b) b)))] hQ X hrt rfl dL_turnPeg_25 (Nat.le_of_ble_eq_true rfl) (Nat.le_of_ble_eq_true rfl) (List.Perm.refl _) ⟨rfl, rfl⟩
  · refine V_lconst (pc' := 12) (lN 1) X dL_turnPeg_11 (by decide +kernel) rfl ?_
    refine V_goto (pc' := 16) X dL_turnPeg_12 (by decide) ?_
    rw [show lN 1 = lN (bq (S c ^^^ 2 ^ b) b) by rw [show bq (S c ^^^ 2 ^ b) b = 1 by have := bq_lt (S c ^^^ 2 ^ b) b; omega]]
    show V E G A 5 [XB x (a 0) (r 0) (p 0) (h 0) q, DW G a (va_up S c (S c ^^^ 2 ^ b)), HI G h (aM kn + 1) (aD kn d), HD G (aD kn d) (hT kn S T), OU G w fo] 0 0 Q 16 [(0, .ref x), (1, .int (nI c)), (2, .int (nI b)), (3, .ref w)] [.long (lN (bq (S c ^^^ 2 ^ b) b)), .int (nI 0), .ref w]
    refine V_ws [XB x (a 0) (r 0) (p 0) (h 0) q, DW G a (va_up S c (S c ^^^ 2 ^ b)), HI G h (aM kn + 1) (aD kn d), HD G (aD kn d) (hT kn S T), [(w, .inl (G.2 4, 1, .inr (.inl fo)))]] rfl ?_
    refine V_last (pc' := 17) 52 0 [XB x (a 0) (r 0) (p 0) (h 0) q, DW G a (va_up S c (S c ^^^ 2 ^ b)), HI G h (aM kn + 1) (aD kn d), HD G (aD kn d) (hT kn S T), [(w, .inl (G.2 4, 1, .inr (.inl (vp_updL fo 0 (lN (bq (S c ^^^ 2 ^ b) b))))))]] X rfl (by omega) (by decide) rfl dL_turnPeg_16 rfl ?_
    refine V_goto (pc' := 24) X dL_turnPeg_17 (by decide) ?_
    refine V_iconst (pc' := 25) (nI 0) X dL_turnPeg_24 ki_0 rfl ?_
    refine V_ws [XB x (a 0) (r 0) (p 0) (h 0) q, DW G a (va_up S c (S c ^^^ 2 ^ b)), HI G h (aM kn + 1) (aD kn d), HD G (aD kn d) (hT kn S T), OU G w (vp_updL fo 0 (lN (bq (S c ^^^ 2 ^ b) b)))] rfl ?_
    exact V_ireturn (v := nI 0) [XB x (a 0) (r 0) (p 0) (h 0) q, DW G a (va_up S c (S c ^^^ 2 ^ b)), HI G h (aM kn + 1) (aD kn d), HD G (aD kn d) (hT kn S T), OU G w (vp_updL fo 0 (lN (bq (S c ^^^ 2 ^ b) b)))] hQ X hrt rfl dL_turnPeg_25 (Nat.le_of_ble_eq_true rfl) (Nat.le_of_ble_eq_true rfl) (List.Perm.refl _) ⟨rfl, rfl⟩

set_option maxHeartbeats 4000000 in
set_option maxRecDepth 100000 in
theorem c_L_setColumn (l : Launch) (G : gT) (x q w : Nat) (a S r H g p f h : Nat → Nat) (n kn : Nat) (d T : Nat → Nat → Nat) (fo : Nat → Int64) (hkn : kn ≤ 6) (hI : IV S) (c v : Nat) (hc : c < 32) (hv : v < 1024) : CW l G yL_setColumn wsL_setColumn [(0, 10, 13, 13), (0, 10, 17, 19)] 6 151 4 [.ref x, .int (nI c), .int (nI v), .ref w] [XB x (a 0) (r 0) (p 0) (h 0) q, DW G a S, HI G h kn d, HD G d T, OU G w fo] 0 0 (fun rv u => rv = some (.int (nI 0)) ∧ u = [XB x (a 0) (r 0) (p 0) (h 0) q, DW G a (va_up S c v), HI G h (aM kn + 1) (aD kn d), HD G (aD kn d) (hT kn S T), OU G w (vp_updL fo 0 (((nI (sm (fun k => cnt (va_up S c v k ^^^ S k)) 32))).toInt64))]) := by
  refine CW_of RL 5 127 rfl rfl (by decide) (by decide +kernel) (Nat.le_of_ble_eq_true rfl) (fun E A X hrt htb => ?_)
  generalize hQ : QM E G A _ _ _ = Q
  show V E G A 5 [XB x (a 0) (r 0) (p 0) (h 0) q, DW G a S, HI G h kn d, HD G d T, OU G w fo] 0 0 Q 0 [(0, .ref x), (1, .int (nI c)), (2, .int (nI v)), (3, .ref w)] []
  refine V_aload_n (pc' := 1) 3 X dL_setColumn_0 rfl rfl rfl ?_
  refine V_iconst (pc' := 2) (nI 0) X dL_setColumn_1 ki_0 rfl ?_
  refine V_aload_n (pc' := 3) 0 X dL_setColumn_2 rfl rfl rfl ?_
  refine V_iload_n (pc' := 4) 1 X dL_setColumn_3 rfl rfl rfl ?_
  refine V_iload_n (pc' := 5) 2 X dL_setColumn_4 rfl rfl rfl ?_
  refine V_callV (pc' := 8) (As := [.int (nI c), .int (nI v)]) (st := [.int (nI 0), .ref w]) 5 0 [0, 1, 2, 3] [4] (show (List.range 5).Perm ([0, 1, 2, 3] ++ [4]) by decide) X (c_X5_setColumn l G x (r 0) (p 0) q a S h kn d T hkn hI c v hc hv) rfl gL_setColumn_X5_setColumn rfl (by decide) rfl rfl rfl (Nat.le_of_ble_eq_true rfl) ⟨Nat.le_of_ble_eq_true rfl, Nat.le_of_ble_eq_true rfl⟩ ⟨Nat.le_of_ble_eq_true rfl, Nat.le_of_ble_eq_true rfl⟩ dL_setColumn_5 rfl (fun v_ u_ hp_ => ?_)
  obtain ⟨rfl, rfl⟩ := hp_
  show V E G A 5 [OU G w fo, XB x (a 0) (r 0) (p 0) (h 0) q, DW G a (va_up S c v), HI G h (aM kn + 1) (aD kn d), HD G (aD kn d) (hT kn S T)] 0 0 Q 8 [(0, .ref x), (1, .int (nI c)), (2, .int (nI v)), (3, .ref w)] [.int (nI (sm (fun k => cnt (va_up S c v k ^^^ S k)) 32)), .int (nI 0), .ref w]
  refine V_ord [1, 2, 3, 4, 0] [XB x (a 0) (r 0) (p 0) (h 0) q, DW G a (va_up S c v), HI G h (aM kn + 1) (aD kn d), HD G (aD kn d) (hT kn S T), OU G w fo] (show (List.range 5).Perm [1, 2, 3, 4, 0] by decide) rfl ?_
  refine V_i2l (pc' := 9) (((nI (sm (fun k => cnt (va_up S c v k ^^^ S k)) 32))).toInt64) X dL_setColumn_8 rfl rfl ?_
  refine V_ws [XB x (a 0) (r 0) (p 0) (h 0) q, DW G a (va_up S c v), HI G h (aM kn + 1) (aD kn d), HD G (aD kn d) (hT kn S T), [(w, .inl (G.2 4, 1, .inr (.inl fo)))]] rfl ?_
  refine V_last (pc' := 10) 52 0 [XB x (a 0) (r 0) (p 0) (h 0) q, DW G a (va_up S c v), HI G h (aM kn + 1) (aD kn d), HD G (aD kn d) (hT kn S T), [(w, .inl (G.2 4, 1, .inr (.inl (vp_updL fo 0 (((nI (sm (fun k => cnt (va_up S c v k ^^^ S k)) 32))).toInt64)))))]] X rfl (by omega) (by decide) rfl dL_setColumn_9 rfl ?_
  refine V_goto (pc' := 21) X dL_setColumn_10 (by decide) ?_
  refine V_iconst (pc' := 22) (nI 0) X dL_setColumn_21 ki_0 rfl ?_
  refine V_ws [XB x (a 0) (r 0) (p 0) (h 0) q, DW G a (va_up S c v), HI G h (aM kn + 1) (aD kn d), HD G (aD kn d) (hT kn S T), OU G w (vp_updL fo 0 (((nI (sm (fun k => cnt (va_up S c v k ^^^ S k)) 32))).toInt64))] rfl ?_
  exact V_ireturn (v := nI 0) [XB x (a 0) (r 0) (p 0) (h 0) q, DW G a (va_up S c v), HI G h (aM kn + 1) (aD kn d), HD G (aD kn d) (hT kn S T), OU G w (vp_updL fo 0 (((nI (sm (fun k => cnt (va_up S c v k ^^^ S k)) 32))).toInt64))] hQ X hrt rfl dL_setColumn_22 (Nat.le_of_ble_eq_true rfl) (Nat.le_of_ble_eq_true rfl) (List.Perm.refl _) ⟨rfl, rfl⟩

set_option maxHeartbeats 4000000 in
set_option maxRecDepth 100000 in
theorem c_L_setTempo (l : Launch) (G : gT) (x q w : Nat) (a S r H g p f h : Nat → Nat) (n kn : Nat) (d T : Nat → Nat → Nat) (fo : Nat → Int64) (hkn : kn ≤ 6) (hI : IV S) (c v : Nat) (hc : c < 4) (hv1 : 1 ≤ v) (hv : v ≤ 9) : CW l G yL_setTempo wsL_setTempo [(0, 10, 13, 13), (0, 10, 17, 19)] 6 151 4 [.ref x, .int (nI c), .int (nI v), .ref w] [XB x (a 0) (r 0) (p 0) (h 0) q, DW G a S, HI G h kn d, HD G d T, OU G w fo] 0 0 (fun rv u => rv = some (.int (nI 0)) ∧ u = [XB x (a 0) (r 0) (p 0) (h 0) q, DW G a (va_up S (32 + c) v), HI G h (aM kn + 1) (aD kn d), HD G (aD kn d) (hT kn S T), OU G w (vp_updL fo 0 (((nI (S (32 + c)))).toInt64))]) := by
  refine CW_of RL 5 127 rfl rfl (by decide) (by decide +kernel) (Nat.le_of_ble_eq_true rfl) (fun E A X hrt htb => ?_)
  generalize hQ : QM E G A _ _ _ = Q
  show V E G A 5 [XB x (a 0) (r 0) (p 0) (h 0) q, DW G a S, HI G h kn d, HD G d T, OU G w fo] 0 0 Q 0 [(0, .ref x), (1, .int (nI c)), (2, .int (nI v)), (3, .ref w)] []
  refine V_aload_n (pc' := 1) 3 X dL_setTempo_0 rfl rfl rfl ?_
  refine V_iconst (pc' := 2) (nI 0) X dL_setTempo_1 ki_0 rfl ?_
  refine V_aload_n (pc' := 3) 0 X dL_setTempo_2 rfl rfl rfl ?_
  refine V_iload_n (pc' := 4) 1 X dL_setTempo_3 rfl rfl rfl ?_
  refine V_iload_n (pc' := 5) 2 X dL_setTempo_4 rfl rfl rfl ?_
  refine V_callV (pc' := 8) (As := [.int (nI c), .int (nI v)]) (st := [.int (nI 0), .ref w]) 5 0 [0, 1, 2, 3] [4] (show (List.range 5).Perm ([0, 1, 2, 3] ++ [4]) by decide) X (c_X5_setTempo l G x (r 0) (p 0) q a S h kn d T hkn hI c v hc hv1 hv) rfl gL_setTempo_X5_setTempo rfl (by decide) rfl rfl rfl (Nat.le_of_ble_eq_true rfl) ⟨Nat.le_of_ble_eq_true rfl, Nat.le_of_ble_eq_true rfl⟩ ⟨Nat.le_of_ble_eq_true rfl, Nat.le_of_ble_eq_true rfl⟩ dL_setTempo_5 rfl (fun v_ u_ hp_ => ?_)
  obtain ⟨rfl, rfl⟩ := hp_
  show V E G A 5 [OU G w fo, XB x (a 0) (r 0) (p 0) (h 0) q, DW G a (va_up S (32 + c) v), HI G h (aM kn + 1) (aD kn d), HD G (aD kn d) (hT kn S T)] 0 0 Q 8 [(0, .ref x), (1, .int (nI c)), (2, .int (nI v)), (3, .ref w)] [.int (nI (S (32 + c))), .int (nI 0), .ref w]
  refine V_ord [1, 2, 3, 4, 0] [XB x (a 0) (r 0) (p 0) (h 0) q, DW G a (va_up S (32 + c) v), HI G h (aM kn + 1) (aD kn d), HD G (aD kn d) (hT kn S T), OU G w fo] (show (List.range 5).Perm [1, 2, 3, 4, 0] by decide) rfl ?_
  refine V_i2l (pc' := 9) (((nI (S (32 + c)))).toInt64) X dL_setTempo_8 rfl rfl ?_
  refine V_ws [XB x (a 0) (r 0) (p 0) (h 0) q, DW G a (va_up S (32 + c) v), HI G h (aM kn + 1) (aD kn d), HD G (aD kn d) (hT kn S T), [(w, .inl (G.2 4, 1, .inr (.inl fo)))]] rfl ?_
  refine V_last (pc' := 10) 52 0 [XB x (a 0) (r 0) (p 0) (h 0) q, DW G a (va_up S (32 + c) v), HI G h (aM kn + 1) (aD kn d), HD G (aD kn d) (hT kn S T), [(w, .inl (G.2 4, 1, .inr (.inl (vp_updL fo 0 (((nI (S (32 + c)))).toInt64)))))]] X rfl (by omega) (by decide) rfl dL_setTempo_9 rfl ?_
  refine V_goto (pc' := 21) X dL_setTempo_10 (by decide) ?_
  refine V_iconst (pc' := 22) (nI 0) X dL_setTempo_21 ki_0 rfl ?_
  refine V_ws [XB x (a 0) (r 0) (p 0) (h 0) q, DW G a (va_up S (32 + c) v), HI G h (aM kn + 1) (aD kn d), HD G (aD kn d) (hT kn S T), OU G w (vp_updL fo 0 (((nI (S (32 + c)))).toInt64))] rfl ?_
  exact V_ireturn (v := nI 0) [XB x (a 0) (r 0) (p 0) (h 0) q, DW G a (va_up S (32 + c) v), HI G h (aM kn + 1) (aD kn d), HD G (aD kn d) (hT kn S T), OU G w (vp_updL fo 0 (((nI (S (32 + c)))).toInt64))] hQ X hrt rfl dL_setTempo_22 (Nat.le_of_ble_eq_true rfl) (Nat.le_of_ble_eq_true rfl) (List.Perm.refl _) ⟨rfl, rfl⟩

set_option maxHeartbeats 4000000 in
set_option maxRecDepth 100000 in
theorem c_L_setWeight (l : Launch) (G : gT) (x q w : Nat) (a S r H g p f h : Nat → Nat) (n kn : Nat) (d T : Nat → Nat → Nat) (fo : Nat → Int64) (hkn : kn ≤ 6) (hI : IV S) (c v : Nat) (hc : c < 10) (hv1 : 1 ≤ v) (hv : v ≤ 60) : CW l G yL_setWeight wsL_setWeight [(0, 10, 13, 13), (0, 10, 17, 19)] 6 151 4 [.ref x, .int (nI c), .int (nI v), .ref w] [XB x (a 0) (r 0) (p 0) (h 0) q, DW G a S, HI G h kn d, HD G d T, OU G w fo] 0 0 (fun rv u => rv = some (.int (nI 0)) ∧ u = [XB x (a 0) (r 0) (p 0) (h 0) q, DW G a (va_up S (36 + c) v), HI G h (aM kn + 1) (aD kn d), HD G (aD kn d) (hT kn S T), OU G w (vp_updL fo 0 (((nI (S (36 + c)))).toInt64))]) := by
  refine CW_of RL 5 127 rfl rfl (by decide) (by decide +kernel) (Nat.le_of_ble_eq_true rfl) (fun E A X hrt htb => ?_)
  generalize hQ : QM E G A _ _ _ = Q
  show V E G A 5 [XB x (a 0) (r 0) (p 0) (h 0) q, DW G a S, HI G h kn d, HD G d T, OU G w fo] 0 0 Q 0 [(0, .ref x), (1, .int (nI c)), (2, .int (nI v)), (3, .ref w)] []
  refine V_aload_n (pc' := 1) 3 X dL_setWeight_0 rfl rfl rfl ?_
  refine V_iconst (pc' := 2) (nI 0) X dL_setWeight_1 ki_0 rfl ?_
  refine V_aload_n (pc' := 3) 0 X dL_setWeight_2 rfl rfl rfl ?_
  refine V_iload_n (pc' := 4) 1 X dL_setWeight_3 rfl rfl rfl ?_
  refine V_iload_n (pc' := 5) 2 X dL_setWeight_4 rfl rfl rfl ?_
  refine V_callV (pc' := 8) (As := [.int (nI c), .int (nI v)]) (st := [.int (nI 0), .ref w]) 5 0 [0, 1, 2, 3] [4] (show (List.range 5).Perm ([0, 1, 2, 3] ++ [4]) by decide) X (c_X5_setWeight l G x (r 0) (p 0) q a S h kn d T hkn hI c v hc hv1 hv) rfl gL_setWeight_X5_setWeight rfl (by decide) rfl rfl rfl (Nat.le_of_ble_eq_true rfl) ⟨Nat.le_of_ble_eq_true rfl, Nat.le_of_ble_eq_true rfl⟩ ⟨Nat.le_of_ble_eq_true rfl, Nat.le_of_ble_eq_true rfl⟩ dL_setWeight_5 rfl (fun v_ u_ hp_ => ?_)
  obtain ⟨rfl, rfl⟩ := hp_
  show V E G A 5 [OU G w fo, XB x (a 0) (r 0) (p 0) (h 0) q, DW G a (va_up S (36 + c) v), HI G h (aM kn + 1) (aD kn d), HD G (aD kn d) (hT kn S T)] 0 0 Q 8 [(0, .ref x), (1, .int (nI c)), (2, .int (nI v)), (3, .ref w)] [.int (nI (S (36 + c))), .int (nI 0), .ref w]
  refine V_ord [1, 2, 3, 4, 0] [XB x (a 0) (r 0) (p 0) (h 0) q, DW G a (va_up S (36 + c) v), HI G h (aM kn + 1) (aD kn d), HD G (aD kn d) (hT kn S T), OU G w fo] (show (List.range 5).Perm [1, 2, 3, 4, 0] by decide) rfl ?_
  refine V_i2l (pc' := 9) (((nI (S (36 + c)))).toInt64) X dL_setWeight_8 rfl rfl ?_
  refine V_ws [XB x (a 0) (r 0) (p 0) (h 0) q, DW G a (va_up S (36 + c) v), HI G h (aM kn + 1) (aD kn d), HD G (aD kn d) (hT kn S T), [(w, .inl (G.2 4, 1, .inr (.inl fo)))]] rfl ?_
  refine V_last (pc' := 10) 52 0 [XB x (a 0) (r 0) (p 0) (h 0) q, DW G a (va_up S (36 + c) v), HI G h (aM kn + 1) (aD kn d), HD G (aD kn d) (hT kn S T), [(w, .inl (G.2 4, 1, .inr (.inl (vp_updL fo 0 (((nI (S (36 + c)))).toInt64)))))]] X rfl (by omega) (by decide) rfl dL_setWeight_9 rfl ?_
  refine V_goto (pc' := 21) X dL_setWeight_10 (by decide) ?_
  refine V_iconst (pc' := 22) (nI 0) X dL_setWeight_21 ki_0 rfl ?_
  refine V_ws [XB x (a 0) (r 0) (p 0) (h 0) q, DW G a (va_up S (36 + c) v), HI G h (aM kn + 1) (aD kn d), HD G (aD kn d) (hT kn S T), OU G w (vp_updL fo 0 (((nI (S (36 + c)))).toInt64))] rfl ?_
  exact V_ireturn (v := nI 0) [XB x (a 0) (r 0) (p 0) (h 0) q, DW G a (va_up S (36 + c) v), HI G h (aM kn + 1) (aD kn d), HD G (aD kn d) (hT kn S T), OU G w (vp_updL fo 0 (((nI (S (36 + c)))).toInt64))] hQ X hrt rfl dL_setWeight_22 (Nat.le_of_ble_eq_true rfl) (Nat.le_of_ble_eq_true rfl) (List.Perm.refl _) ⟨rfl, rfl⟩

set_option maxHeartbeats 4000000 in
set_option maxRecDepth 100000 in
theorem c_L_setBound (l : Launch) (G : gT) (x q w : Nat) (a S r H g p f h : Nat → Nat) (n kn : Nat) (d T : Nat → Nat → Nat) (fo : Nat → Int64) (hkn : kn ≤ 6) (hI : IV S) (v : Nat) (hv1 : 1 ≤ v) (hv : v ≤ 300) : CW l G yL_setBound wsL_setBound [(0, 9, 12, 19)] 6 149 3 [.ref x, .int (nI v), .ref w] [XB x (a 0) (r 0) (p 0) (h 0) q, DW G a S, HI G h kn d, HD G d T, OU G w fo] 0 0 (fun rv u => rv = some (.int (nI 0)) ∧ u = [XB x (a 0) (r 0) (p 0) (h 0) q, DW G a (va_up S 46 v), HI G h (aM kn + 1) (aD kn d), HD G (aD kn d) (hT kn S T), OU G w (vp_updL fo 0 (((nI (S 46))).toInt64))]) := by
  refine CW_of RL 5 126 rfl rfl (by decide) (by decide +kernel) (Nat.le_of_ble_eq_true rfl) (fun E A X hrt htb => ?_)
  generalize hQ : QM E G A _ _ _ = Q
  show V E G A 4 [XB x (a 0) (r 0) (p 0) (h 0) q, DW G a S, HI G h kn d, HD G d T, OU G w fo] 0 0 Q 0 [(0, .ref x), (1, .int (nI v)), (2, .ref w)] []
  refine V_aload_n (pc' := 1) 2 X dL_setBound_0 rfl rfl rfl ?_
  refine V_iconst (pc' := 2) (nI 0) X dL_setBound_1 ki_0 rfl ?_
  refine V_aload_n (pc' := 3) 0 X dL_setBound_2 rfl rfl rfl ?_
  refine V_iload_n (pc' := 4) 1 X dL_setBound_3 rfl rfl rfl ?_
  refine V_callV (pc' := 7) (As := [.int (nI v)]) (st := [.int (nI 0), .ref w]) 5 0 [0, 1, 2, 3] [4] (show (List.range 5).Perm ([0, 1, 2, 3] ++ [4]) by decide) X (c_X5_setBound l G x (r 0) (p 0) q a S h kn d T hkn hI v hv1 hv) rfl gL_setBound_X5_setBound rfl (by decide) rfl rfl rfl (Nat.le_of_ble_eq_true rfl) ⟨Nat.le_of_ble_eq_true rfl, Nat.le_of_ble_eq_true rfl⟩ ⟨Nat.le_of_ble_eq_true rfl, Nat.le_of_ble_eq_true rfl⟩ dL_setBound_4 rfl (fun v_ u_ hp_ => ?_)
  obtain ⟨rfl, rfl⟩ := hp_
  show V E G A 4 [OU G w fo, XB x (a 0) (r 0) (p 0) (h 0) q, DW G a (va_up S 46 v), HI G h (aM kn + 1) (aD kn d), HD G (aD kn d) (hT kn S T)] 0 0 Q 7 [(0, .ref x), (1, .int (nI v)), (2, .ref w)] [.int (nI (S 46)), .int (nI 0), .ref w]
  refine V_ord [1, 2, 3, 4, 0] [XB x (a 0) (r 0) (p 0) (h 0) q, DW G a (va_up S 46 v), HI G h (aM kn + 1) (aD kn d), HD G (aD kn d) (hT kn S T), OU G w fo] (show (List.range 5).Perm [1, 2, 3, 4, 0] by decide) rfl ?_
  refine V_i2l (pc' := 8) (((nI (S 46))).toInt64) X dL_setBound_7 rfl rfl ?_
  refine V_ws [XB x (a 0) (r 0) (p 0) (h 0) q, DW G a (va_up S 46 v), HI G h (aM kn + 1) (aD kn d), HD G (aD kn d) (hT kn S T), [(w, .inl (G.2 4, 1, .inr (.inl fo)))]] rfl ?_
  refine V_last (pc' := 9) 52 0 [XB x (a 0) (r 0) (p 0) (h 0) q, DW G a (va_up S 46 v), HI G h (aM kn + 1) (aD kn d), HD G (aD kn d) (hT kn S T), [(w, .inl (G.2 4, 1, .inr (.inl (vp_updL fo 0 (((nI (S 46))).toInt64)))))]] X rfl (by omega) (by decide) rfl dL_setBound_8 rfl ?_
  refine V_goto (pc' := 15) X dL_setBound_9 (by decide) ?_
  refine V_iconst (pc' := 16) (nI 0) X dL_setBound_15 ki_0 rfl ?_
  refine V_ws [XB x (a 0) (r 0) (p 0) (h 0) q, DW G a (va_up S 46 v), HI G h (aM kn + 1) (aD kn d), HD G (aD kn d) (hT kn S T), OU G w (vp_updL fo 0 (((nI (S 46))).toInt64))] rfl ?_
  exact V_ireturn (v := nI 0) [XB x (a 0) (r 0) (p 0) (h 0) q, DW G a (va_up S 46 v), HI G h (aM kn + 1) (aD kn d), HD G (aD kn d) (hT kn S T), OU G w (vp_updL fo 0 (((nI (S 46))).toInt64))] hQ X hrt rfl dL_setBound_16 (Nat.le_of_ble_eq_true rfl) (Nat.le_of_ble_eq_true rfl) (List.Perm.refl _) ⟨rfl, rfl⟩

set_option maxHeartbeats 4000000 in
set_option maxRecDepth 100000 in
theorem c_L_move (l : Launch) (G : gT) (x q w : Nat) (a S r H g p f h : Nat → Nat) (n kn : Nat) (d T : Nat → Nat → Nat) (fo : Nat → Int64) (hkn : kn ≤ 6) (hI : IV S) (v : Nat) (hv1 : 1 ≤ v) (hv : v < 32) : CW l G yL_move wsL_move [(0, 9, 12, 19)] 6 150 3 [.ref x, .int (nI v), .ref w] [XB x (a 0) (r 0) (p 0) (h 0) q, DW G a S, HI G h kn d, HD G d T, OU G w fo] 0 0 (fun rv u => rv = some (.int (nI 0)) ∧ u = [XB x (a 0) (r 0) (p 0) (h 0) q, DW G a (mvd v S), HI G h (aM kn + 1) (aD kn d), HD G (aD kn d) (hT kn S T), OU G w (vp_updL fo 0 (((nI (sm (fun k => cnt (mvd v S k ^^^ S k)) 32))).toInt64))]) := by
  refine CW_of RL 5 127 rfl rfl (by decide) (by decide +kernel) (Nat.le_of_ble_eq_true rfl) (fun E A X hrt htb => ?_)
  generalize hQ : QM E G A _ _ _ = Q
  show V E G A 4 [XB x (a 0) (r 0) (p 0) (h 0) q, DW G a S, HI G h kn d, HD G d T, OU G w fo] 0 0 Q 0 [(0, .ref x), (1, .int (nI v)), (2, .ref w)] []
  refine V_aload_n (pc' := 1) 2 X dL_move_0 rfl rfl rfl ?_
  refine V_iconst (pc' := 2) (nI 0) X dL_move_1 ki_0 rfl ?_
  refine V_aload_n (pc' := 3) 0 X dL_move_2 rfl rfl rfl ?_
  refine V_iload_n (pc' := 4) 1 X dL_move_3 rfl rfl rfl ?_
  refine V_callV (pc' := 7) (As := [.int (nI v)]) (st := [.int (nI 0), .ref w]) 5 0 [0, 1, 2, 3] [4] (show (List.range 5).Perm ([0, 1, 2, 3] ++ [4]) by decide) X (c_X5_move l G x (r 0) (p 0) q a S h kn d T hkn hI v hv1 hv) rfl gL_move_X5_move rfl (by decide) rfl rfl rfl (Nat.le_of_ble_eq_true rfl) ⟨Nat.le_of_ble_eq_true rfl, Nat.le_of_ble_eq_true rfl⟩ ⟨Nat.le_of_ble_eq_true rfl, Nat.le_of_ble_eq_true rfl⟩ dL_move_4 rfl (fun v_ u_ hp_ => ?_)
  obtain ⟨rfl, rfl⟩ := hp_
  show V E G A 4 [OU G w fo, XB x (a 0) (r 0) (p 0) (h 0) q, DW G a (mvd v S), HI G h (aM kn + 1) (aD kn d), HD G (aD kn d) (hT kn S T)] 0 0 Q 7 [(0, .ref x), (1, .int (nI v)), (2, .ref w)] [.int (nI (sm (fun k => cnt (mvd v S k ^^^ S k)) 32)), .int (nI 0), .ref w]
  refine V_ord [1, 2, 3, 4, 0] [XB x (a 0) (r 0) (p 0) (h 0) q, DW G a (mvd v S), HI G h (aM kn + 1) (aD kn d), HD G (aD kn d) (hT kn S T), OU G w fo] (show (List.range 5).Perm [1, 2, 3, 4, 0] by decide) rfl ?_
  refine V_i2l (pc' := 8) (((nI (sm (fun k => cnt (mvd v S k ^^^ S k)) 32))).toInt64) X dL_move_7 rfl rfl ?_
  refine V_ws [XB x (a 0) (r 0) (p 0) (h 0) q, DW G a (mvd v S), HI G h (aM kn + 1) (aD kn d), HD G (aD kn d) (hT kn S T), [(w, .inl (G.2 4, 1, .inr (.inl fo)))]] rfl ?_
  refine V_last (pc' := 9) 52 0 [XB x (a 0) (r 0) (p 0) (h 0) q, DW G a (mvd v S), HI G h (aM kn + 1) (aD kn d), HD G (aD kn d) (hT kn S T), [(w, .inl (G.2 4, 1, .inr (.inl (vp_updL fo 0 (((nI (sm (fun k => cnt (mvd v S k ^^^ S k)) 32))).toInt64)))))]] X rfl (by omega) (by decide) rfl dL_move_8 rfl ?_
  refine V_goto (pc' := 15) X dL_move_9 (by decide) ?_
  refine V_iconst (pc' := 16) (nI 0) X dL_move_15 ki_0 rfl ?_
  refine V_ws [XB x (a 0) (r 0) (p 0) (h 0) q, DW G a (mvd v S), HI G h (aM kn + 1) (aD kn d), HD G (aD kn d) (hT kn S T), OU G w (vp_updL fo 0 (((nI (sm (fun k => cnt (mvd v S k ^^^ S k)) 32))).toInt64))] rfl ?_
  exact V_ireturn (v := nI 0) [XB x (a 0) (r 0) (p 0) (h 0) q, DW G a (mvd v S), HI G h (aM kn + 1) (aD kn d), HD G (aD kn d) (hT kn S T), OU G w (vp_updL fo 0 (((nI (sm (fun k => cnt (mvd v S k ^^^ S k)) 32))).toInt64))] hQ X hrt rfl dL_move_16 (Nat.le_of_ble_eq_true rfl) (Nat.le_of_ble_eq_true rfl) (List.Perm.refl _) ⟨rfl, rfl⟩

set_option maxHeartbeats 4000000 in
set_option maxRecDepth 100000 in
theorem c_L_crank (l : Launch) (G : gT) (x q w : Nat) (a S r H g p f h : Nat → Nat) (n kn : Nat) (d T : Nat → Nat → Nat) (fo : Nat → Int64) (hkn : kn ≤ 6) (hI : IV S) (v : Nat) (hv1 : 1 ≤ v) (hv : v ≤ 200) : CW l G yL_crank wsL_crank [(0, 9, 12, 19)] 7 157 3 [.ref x, .int (nI v), .ref w] [XB x (a 0) (r 0) (p 0) (h 0) q, DW G a S, HI G h kn d, HD G d T, OU G w fo] 0 0 (fun rv u => rv = some (.int (nI 0)) ∧ u = [XB x (a 0) (r 0) (p 0) (h 0) q, DW G a (stkN 3 S v), HI G h (aM kn + 1) (aD kn d), HD G (aD kn d) (hT kn S T), OU G w (vp_updL fo 0 (((nI (stkN 3 S v 70 - S 70))).toInt64))]) := by
  refine CW_of RL 6 134 rfl rfl (by decide) (by decide +kernel) (Nat.le_of_ble_eq_true rfl) (fun E A X hrt htb => ?_)
  generalize hQ : QM E G A _ _ _ = Q
  show V E G A 4 [XB x (a 0) (r 0) (p 0) (h 0) q, DW G a S, HI G h kn d, HD G d T, OU G w fo] 0 0 Q 0 [(0, .ref x), (1, .int (nI v)), (2, .ref w)] []
  refine V_aload_n (pc' := 1) 2 X dL_crank_0 rfl rfl rfl ?_
  refine V_iconst (pc' := 2) (nI 0) X dL_crank_1 ki_0 rfl ?_
  refine V_aload_n (pc' := 3) 0 X dL_crank_2 rfl rfl rfl ?_
  refine V_iload_n (pc' := 4) 1 X dL_crank_3 rfl rfl rfl ?_
  refine V_callV (pc' := 7) (As := [.int (nI v)]) (st := [.int (nI 0), .ref w]) 5 0 [0, 1, 2, 3] [4] (show (List.range 5).Perm ([0, 1, 2, 3] ++ [4]) by decide) X (c_X5_crank l G x (r 0) (p 0) q a S h kn d T hkn hI v hv1 hv) rfl gL_crank_X5_crank rfl (by decide) rfl rfl rfl (Nat.le_of_ble_eq_true rfl) ⟨Nat.le_of_ble_eq_true rfl, Nat.le_of_ble_eq_true rfl⟩ ⟨Nat.le_of_ble_eq_true rfl, Nat.le_of_ble_eq_true rfl⟩ dL_crank_4 rfl (fun v_ u_ hp_ => ?_)
  obtain ⟨rfl, rfl⟩ := hp_
  show V E G A 4 [OU G w fo, XB x (a 0) (r 0) (p 0) (h 0) q, DW G a (stkN 3 S v), HI G h (aM kn + 1) (aD kn d), HD G (aD kn d) (hT kn S T)] 0 0 Q 7 [(0, .ref x), (1, .int (nI v)), (2, .ref w)] [.int (nI (stkN 3 S v 70 - S 70)), .int (nI 0), .ref w]
  refine V_ord [1, 2, 3, 4, 0] [XB x (a 0) (r 0) (p 0) (h 0) q, DW G a (stkN 3 S v), HI G h (aM kn + 1) (aD kn d), HD G (aD kn d) (hT kn S T), OU G w fo] (show (List.range 5).Perm [1, 2, 3, 4, 0] by decide) rfl ?_
  refine V_i2l (pc' := 8) (((nI (stkN 3 S v 70 - S 70))).toInt64) X dL_crank_7 rfl rfl ?_
  refine V_ws [XB x (a 0) (r 0) (p 0) (h 0) q, DW G a (stkN 3 S v), HI G h (aM kn + 1) (aD kn d), HD G (aD kn d) (hT kn S T), [(w, .inl (G.2 4, 1, .inr (.inl fo)))]] rfl ?_
  refine V_last (pc' := 9) 52 0 [XB x (a 0) (r 0) (p 0) (h 0) q, DW G a (stkN 3 S v), HI G h (aM kn + 1) (aD kn d), HD G (aD kn d) (hT kn S T), [(w, .inl (G.2 4, 1, .inr (.inl (vp_updL fo 0 (((nI (stkN 3 S v 70 - S 70))).toInt64)))))]] X rfl (by omega) (by decide) rfl dL_crank_8 rfl ?_
  refine V_goto (pc' := 15) X dL_crank_9 (by decide) ?_
  refine V_iconst (pc' := 16) (nI 0) X dL_crank_15 ki_0 rfl ?_
  refine V_ws [XB x (a 0) (r 0) (p 0) (h 0) q, DW G a (stkN 3 S v), HI G h (aM kn + 1) (aD kn d), HD G (aD kn d) (hT kn S T), OU G w (vp_updL fo 0 (((nI (stkN 3 S v 70 - S 70))).toInt64))] rfl ?_
  exact V_ireturn (v := nI 0) [XB x (a 0) (r 0) (p 0) (h 0) q, DW G a (stkN 3 S v), HI G h (aM kn + 1) (aD kn d), HD G (aD kn d) (hT kn S T), OU G w (vp_updL fo 0 (((nI (stkN 3 S v 70 - S 70))).toInt64))] hQ X hrt rfl dL_crank_16 (Nat.le_of_ble_eq_true rfl) (Nat.le_of_ble_eq_true rfl) (List.Perm.refl _) ⟨rfl, rfl⟩

set_option maxHeartbeats 4000000 in
set_option maxRecDepth 100000 in
theorem c_L_read (l : Launch) (G : gT) (x q w : Nat) (a S r H g p f h : Nat → Nat) (n kn : Nat) (d T : Nat → Nat → Nat) (fo : Nat → Int64) (hkn : kn ≤ 6) (hI : IV S) (hn : n ≤ 60) (hf : ∀ k, k < n → f k < 128) (hv : ff f n = none) : CW l G yL_read wsL_read [(0, 8, 11, 19)] 8 182 2 [.ref x, .ref w] [XB x (a 0) (r 0) (p 0) (h 0) q, DW G a S, PD G p f n, HI G h kn d, HD G d T, OU G w fo] 0 0 (fun rv u => rv = some (.int (nI 0)) ∧ u = [XB x (a 0) (r 0) (p 0) (h 0) q, DW G a ((rdS 3 f n S (n + 1)).1), PD G p f 0, HI G h (aM kn + 1) (aD kn d), HD G (aD kn d) (hT kn S T), OU G w (vp_updL fo 0 (((nI (rdS 3 f n S (n + 1)).2.2)).toInt64))]) := by
  refine CW_of RL 7 160 rfl rfl (by decide) (by decide +kernel) (Nat.le_of_ble_eq_true rfl) (fun E A X hrt htb => ?_)
  generalize hQ : QM E G A _ _ _ = Q
  show V E G A 3 [XB x (a 0) (r 0) (p 0) (h 0) q, DW G a S, PD G p f n, HI G h kn d, HD G d T, OU G w fo] 0 0 Q 0 [(0, .ref x), (1, .ref w)] []
  refine V_aload_n (pc' := 1) 1 X dL_read_0 rfl rfl rfl ?_
  refine V_iconst (pc' := 2) (nI 0) X dL_read_1 ki_0 rfl ?_
  refine V_aload_n (pc' := 3) 0 X dL_read_2 rfl rfl rfl ?_
  refine V_callV (pc' := 6) (As := []) (st := [.int (nI 0), .ref w]) 5 0 [0, 1, 2, 3, 4] [5] (show (List.range 6).Perm ([0, 1, 2, 3, 4] ++ [5]) by decide) X (c_X5_read l G x (r 0) q a S p f h n hn hf kn d T hkn hI hv) rfl gL_read_X5_read rfl (by decide) rfl rfl rfl (Nat.le_of_ble_eq_true rfl) ⟨Nat.le_of_ble_eq_true rfl, Nat.le_of_ble_eq_true rfl⟩ ⟨Nat.le_of_ble_eq_true rfl, Nat.le_of_ble_eq_true rfl⟩ dL_read_3 rfl (fun v_ u_ hp_ => ?_)
  obtain ⟨rfl, rfl⟩ := hp_
  show V E G A 3 [OU G w fo, XB x (a 0) (r 0) (p 0) (h 0) q, DW G a ((rdS 3 f n S (n + 1)).1), HI G h (aM kn + 1) (aD kn d), HD G (aD kn d) (hT kn S T), PD G p f 0] 0 0 Q 6 [(0, .ref x), (1, .ref w)] [.int (nI (rdS 3 f n S (n + 1)).2.2), .int (nI 0), .ref w]
  refine V_ord [1, 2, 3, 4, 5, 0] [XB x (a 0) (r 0) (p 0) (h 0) q, DW G a ((rdS 3 f n S (n + 1)).1), HI G h (aM kn + 1) (aD kn d), HD G (aD kn d) (hT kn S T), PD G p f 0, OU G w fo] (show (List.range 6).Perm [1, 2, 3, 4, 5, 0] by decide) rfl ?_
  refine V_i2l (pc' := 7) (((nI (rdS 3 f n S (n + 1)).2.2)).toInt64) X dL_read_6 rfl rfl ?_
  refine V_ws [XB x (a 0) (r 0) (p 0) (h 0) q, DW G a ((rdS 3 f n S (n + 1)).1), HI G h (aM kn + 1) (aD kn d), HD G (aD kn d) (hT kn S T), PD G p f 0, [(w, .inl (G.2 4, 1, .inr (.inl fo)))]] rfl ?_
  refine V_last (pc' := 8) 54 0 [XB x (a 0) (r 0) (p 0) (h 0) q, DW G a ((rdS 3 f n S (n + 1)).1), HI G h (aM kn + 1) (aD kn d), HD G (aD kn d) (hT kn S T), PD G p f 0, [(w, .inl (G.2 4, 1, .inr (.inl (vp_updL fo 0 (((nI (rdS 3 f n S (n + 1)).2.2)).toInt64)))))]] X rfl (by omega) (by decide) rfl dL_read_7 rfl ?_
  refine V_goto (pc' := 14) X dL_read_8 (by decide) ?_
  refine V_iconst (pc' := 15) (nI 0) X dL_read_14 ki_0 rfl ?_
  refine V_ws [XB x (a 0) (r 0) (p 0) (h 0) q, DW G a ((rdS 3 f n S (n + 1)).1), HI G h (aM kn + 1) (aD kn d), HD G (aD kn d) (hT kn S T), PD G p f 0, OU G w (vp_updL fo 0 (((nI (rdS 3 f n S (n + 1)).2.2)).toInt64))] rfl ?_
  refine V_ord [0, 1, 4, 2, 3, 5] [XB x (a 0) (r 0) (p 0) (h 0) q, DW G a ((rdS 3 f n S (n + 1)).1), PD G p f 0, HI G h (aM kn + 1) (aD kn d), HD G (aD kn d) (hT kn S T), OU G w (vp_updL fo 0 (((nI (rdS 3 f n S (n + 1)).2.2)).toInt64))] (show (List.range 6).Perm [0, 1, 4, 2, 3, 5] by decide) rfl ?_
  exact V_ireturn (v := nI 0) [XB x (a 0) (r 0) (p 0) (h 0) q, DW G a ((rdS 3 f n S (n + 1)).1), PD G p f 0, HI G h (aM kn + 1) (aD kn d), HD G (aD kn d) (hT kn S T), OU G w (vp_updL fo 0 (((nI (rdS 3 f n S (n + 1)).2.2)).toInt64))] hQ X hrt rfl dL_read_15 (Nat.le_of_ble_eq_true rfl) (Nat.le_of_ble_eq_true rfl) (List.Perm.refl _) ⟨rfl, rfl⟩

set_option maxHeartbeats 4000000 in
set_option maxRecDepth 100000 in
theorem c_L_pegsIn (l : Launch) (G : gT) (x q w : Nat) (a S r H g p f h : Nat → Nat) (n kn : Nat) (d T : Nat → Nat → Nat) (fo : Nat → Int64) (hI : IV S) (c : Nat) (hc : c < 32) : CW l G yL_pegsIn wsL_pegsIn [(0, 9, 12, 13)] 3 64 3 [.ref x, .int (nI c), .ref w] [XB x (a 0) (r 0) (p 0) (h 0) q, DW G a S, OU G w fo] 0 0 (fun rv u => rv = some (.int (nI 0)) ∧ u = [XB x (a 0) (r 0) (p 0) (h 0) q, DW G a S, OU G w (vp_updL fo 0 (((nI (S c))).toInt64))]) := by
  refine CW_of RL 2 41 rfl rfl (by decide) (by decide +kernel) (Nat.le_of_ble_eq_true rfl) (fun E A X hrt htb => ?_)
  generalize hQ : QM E G A _ _ _ = Q
  show V E G A 4 [XB x (a 0) (r 0) (p 0) (h 0) q, DW G a S, OU G w fo] 0 0 Q 0 [(0, .ref x), (1, .int (nI c)), (2, .ref w)] []
  refine V_aload_n (pc' := 1) 2 X dL_pegsIn_0 rfl rfl rfl ?_
  refine V_iconst (pc' := 2) (nI 0) X dL_pegsIn_1 ki_0 rfl ?_
  refine V_aload_n (pc' := 3) 0 X dL_pegsIn_2 rfl rfl rfl ?_
  refine V_iload_n (pc' := 4) 1 X dL_pegsIn_3 rfl rfl rfl ?_
  refine V_callV (pc' := 7) (As := [.int (nI c)]) (st := [.int (nI 0), .ref w]) 5 0 [0, 1] [2] (show (List.range 3).Perm ([0, 1] ++ [2]) by decide) X (c_X5_pegsIn l G x (r 0) (p 0) (h 0) q a S hI c hc) rfl gL_pegsIn_X5_pegsIn rfl (by decide) rfl rfl rfl (Nat.le_of_ble_eq_true rfl) ⟨Nat.le_of_ble_eq_true rfl, Nat.le_of_ble_eq_true rfl⟩ ⟨Nat.le_of_ble_eq_true rfl, Nat.le_of_ble_eq_true rfl⟩ dL_pegsIn_4 rfl (fun v_ u_ hp_ => ?_)
  obtain ⟨rfl, rfl⟩ := hp_
  show V E G A 4 [OU G w fo, XB x (a 0) (r 0) (p 0) (h 0) q, DW G a S] 0 0 Q 7 [(0, .ref x), (1, .int (nI c)), (2, .ref w)] [.int (nI (S c)), .int (nI 0), .ref w]
  refine V_ord [1, 2, 0] [XB x (a 0) (r 0) (p 0) (h 0) q, DW G a S, OU G w fo] (show (List.range 3).Perm [1, 2, 0] by decide) rfl ?_
  refine V_i2l (pc' := 8) (((nI (S c))).toInt64) X dL_pegsIn_7 rfl rfl ?_
  refine V_ws [XB x (a 0) (r 0) (p 0) (h 0) q, DW G a S, [(w, .inl (G.2 4, 1, .inr (.inl fo)))]] rfl ?_
  refine V_last (pc' := 9) 8 0 [XB x (a 0) (r 0) (p 0) (h 0) q, DW G a S, [(w, .inl (G.2 4, 1, .inr (.inl (vp_updL fo 0 (((nI (S c))).toInt64)))))]] X rfl (by omega) (by decide) rfl dL_pegsIn_8 rfl ?_
  refine V_goto (pc' := 15) X dL_pegsIn_9 (by decide) ?_
  refine V_iconst (pc' := 16) (nI 0) X dL_pegsIn_15 ki_0 rfl ?_
  refine V_ws [XB x (a 0) (r 0) (p 0) (h 0) q, DW G a S, OU G w (vp_updL fo 0 (((nI (S c))).toInt64))] rfl ?_
  exact V_ireturn (v := nI 0) [XB x (a 0) (r 0) (p 0) (h 0) q, DW G a S, OU G w (vp_updL fo 0 (((nI (S c))).toInt64))] hQ X hrt rfl dL_pegsIn_16 (Nat.le_of_ble_eq_true rfl) (Nat.le_of_ble_eq_true rfl) (List.Perm.refl _) ⟨rfl, rfl⟩

set_option maxHeartbeats 4000000 in
set_option maxRecDepth 100000 in
theorem c_L_tempoOf (l : Launch) (G : gT) (x q w : Nat) (a S r H g p f h : Nat → Nat) (n kn : Nat) (d T : Nat → Nat → Nat) (fo : Nat → Int64) (hI : IV S) (c : Nat) (hc : c < 4) : CW l G yL_tempoOf wsL_tempoOf [(0, 9, 12, 13)] 3 64 3 [.ref x, .int (nI c), .ref w] [XB x (a 0) (r 0) (p 0) (h 0) q, DW G a S, OU G w fo] 0 0 (fun rv u => rv = some (.int (nI 0)) ∧ u = [XB x (a 0) (r 0) (p 0) (h 0) q, DW G a S, OU G w (vp_updL fo 0 (((nI (S (32 + c)))).toInt64))]) := by
  refine CW_of RL 2 41 rfl rfl (by decide) (by decide +kernel) (Nat.le_of_ble_eq_true rfl) (fun E A X hrt htb => ?_)
  generalize hQ : QM E G A _ _ _ = Q
  show V E G A 4 [XB x (a 0) (r 0) (p 0) (h 0) q, DW G a S, OU G w fo] 0 0 Q 0 [(0, .ref x), (1, .int (nI c)), (2, .ref w)] []
  refine V_aload_n (pc' := 1) 2 X dL_tempoOf_0 rfl rfl rfl ?_
  refine V_iconst (pc' := 2) (nI 0) X dL_tempoOf_1 ki_0 rfl ?_
  refine V_aload_n (pc' := 3) 0 X dL_tempoOf_2 rfl rfl rfl ?_
  refine V_iload_n (pc' := 4) 1 X dL_tempoOf_3 rfl rfl rfl ?_
  refine V_callV (pc' := 7) (As := [.int (nI c)]) (st := [.int (nI 0), .ref w]) 5 0 [0, 1] [2] (show (List.range 3).Perm ([0, 1] ++ [2]) by decide) X (c_X5_tempoOf l G x (r 0) (p 0) (h 0) q a S hI c hc) rfl gL_tempoOf_X5_tempoOf rfl (by decide) rfl rfl rfl (Nat.le_of_ble_eq_true rfl) ⟨Nat.le_of_ble_eq_true rfl, Nat.le_of_ble_eq_true rfl⟩ ⟨Nat.le_of_ble_eq_true rfl, Nat.le_of_ble_eq_true rfl⟩ dL_tempoOf_4 rfl (fun v_ u_ hp_ => ?_)
  obtain ⟨rfl, rfl⟩ := hp_
  show V E G A 4 [OU G w fo, XB x (a 0) (r 0) (p 0) (h 0) q, DW G a S] 0 0 Q 7 [(0, .ref x), (1, .int (nI c)), (2, .ref w)] [.int (nI (S (32 + c))), .int (nI 0), .ref w]
  refine V_ord [1, 2, 0] [XB x (a 0) (r 0) (p 0) (h 0) q, DW G a S, OU G w fo] (show (List.range 3).Perm [1, 2, 0] by decide) rfl ?_
  refine V_i2l (pc' := 8) (((nI (S (32 + c)))).toInt64) X dL_tempoOf_7 rfl rfl ?_
  refine V_ws [XB x (a 0) (r 0) (p 0) (h 0) q, DW G a S, [(w, .inl (G.2 4, 1, .inr (.inl fo)))]] rfl ?_
  refine V_last (pc' := 9) 8 0 [XB x (a 0) (r 0) (p 0) (h 0) q, DW G a S, [(w, .inl (G.2 4, 1, .inr (.inl (vp_updL fo 0 (((nI (S (32 + c)))).toInt64)))))]] X rfl (by omega) (by decide) rfl dL_tempoOf_8 rfl ?_
  refine V_goto (pc' := 15) X dL_tempoOf_9 (by decide) ?_
  refine V_iconst (pc' := 16) (nI 0) X dL_tempoOf_15 ki_0 rfl ?_
  refine V_ws [XB x (a 0) (r 0) (p 0) (h 0) q, DW G a S, OU G w (vp_updL fo 0 (((nI (S (32 + c)))).toInt64))] rfl ?_
  exact V_ireturn (v := nI 0) [XB x (a 0) (r 0) (p 0) (h 0) q, DW G a S, OU G w (vp_updL fo 0 (((nI (S (32 + c)))).toInt64))] hQ X hrt rfl dL_tempoOf_16 (Nat.le_of_ble_eq_true rfl) (Nat.le_of_ble_eq_true rfl) (List.Perm.refl _) ⟨rfl, rfl⟩

set_option maxHeartbeats 4000000 in
set_option maxRecDepth 100000 in
theorem c_L_weightOf (l : Launch) (G : gT) (x q w : Nat) (a S r H g p f h : Nat → Nat) (n kn : Nat) (d T : Nat → Nat → Nat) (fo : Nat → Int64) (hI : IV S) (c : Nat) (hc : c < 10) : CW l G yL_weightOf wsL_weightOf [(0, 9, 12, 13)] 3 64 3 [.ref x, .int (nI c), .ref w] [XB x (a 0) (r 0) (p 0) (h 0) q, DW G a S, OU G w fo] 0 0 (fun rv u => rv = some (.int (nI 0)) ∧ u = [XB x (a 0) (r 0) (p 0) (h 0) q, DW G a S, OU G w (vp_updL fo 0 (((nI (S (36 + c)))).toInt64))]) := by
  refine CW_of RL 2 41 rfl rfl (by decide) (by decide +kernel) (Nat.le_of_ble_eq_true rfl) (fun E A X hrt htb => ?_)
  generalize hQ : QM E G A _ _ _ = Q
  show V E G A 4 [XB x (a 0) (r 0) (p 0) (h 0) q, DW G a S, OU G w fo] 0 0 Q 0 [(0, .ref x), (1, .int (nI c)), (2, .ref w)] []
  refine V_aload_n (pc' := 1) 2 X dL_weightOf_0 rfl rfl rfl ?_
  refine V_iconst (pc' := 2) (nI 0) X dL_weightOf_1 ki_0 rfl ?_
  refine V_aload_n (pc' := 3) 0 X dL_weightOf_2 rfl rfl rfl ?_
  refine V_iload_n (pc' := 4) 1 X dL_weightOf_3 rfl rfl rfl ?_
  refine V_callV (pc' := 7) (As := [.int (nI c)]) (st := [.int (nI 0), .ref w]) 5 0 [0, 1] [2] (show (List.range 3).Perm ([0, 1] ++ [2]) by decide) X (c_X5_weightOf l G x (r 0) (p 0) (h 0) q a S hI c hc) rfl gL_weightOf_X5_weightOf rfl (by decide) rfl rfl rfl (Nat.le_of_ble_eq_true rfl) ⟨Nat.le_of_ble_eq_true rfl, Nat.le_of_ble_eq_true rfl⟩ ⟨Nat.le_of_ble_eq_true rfl, Nat.le_of_ble_eq_true rfl⟩ dL_weightOf_4 rfl (fun v_ u_ hp_ => ?_)
  obtain ⟨rfl, rfl⟩ := hp_
  show V E G A 4 [OU G w fo, XB x (a 0) (r 0) (p 0) (h 0) q, DW G a S] 0 0 Q 7 [(0, .ref x), (1, .int (nI c)), (2, .ref w)] [.int (nI (S (36 + c))), .int (nI 0), .ref w]
  refine V_ord [1, 2, 0] [XB x (a 0) (r 0) (p 0) (h 0) q, DW G a S, OU G w fo] (show (List.range 3).Perm [1, 2, 0] by decide) rfl ?_
  refine V_i2l (pc' := 8) (((nI (S (36 + c)))).toInt64) X dL_weightOf_7 rfl rfl ?_
  refine V_ws [XB x (a 0) (r 0) (p 0) (h 0) q, DW G a S, [(w, .inl (G.2 4, 1, .inr (.inl fo)))]] rfl ?_
  refine V_last (pc' := 9) 8 0 [XB x (a 0) (r 0) (p 0) (h 0) q, DW G a S, [(w, .inl (G.2 4, 1, .inr (.inl (vp_updL fo 0 (((nI (S (36 + c)))).toInt64)))))]] X rfl (by omega) (by decide) rfl dL_weightOf_8 rfl ?_
  refine V_goto (pc' := 15) X dL_weightOf_9 (by decide) ?_
  refine V_iconst (pc' := 16) (nI 0) X dL_weightOf_15 ki_0 rfl ?_
  refine V_ws [XB x (a 0) (r 0) (p 0) (h 0) q, DW G a S, OU G w (vp_updL fo 0 (((nI (S (36 + c)))).toInt64))] rfl ?_
  exact V_ireturn (v := nI 0) [XB x (a 0) (r 0) (p 0) (h 0) q, DW G a S, OU G w (vp_updL fo 0 (((nI (S (36 + c)))).toInt64))] hQ X hrt rfl dL_weightOf_16 (Nat.le_of_ble_eq_true rfl) (Nat.le_of_ble_eq_true rfl) (List.Perm.refl _) ⟨rfl, rfl⟩

set_option maxHeartbeats 4000000 in
set_option maxRecDepth 100000 in
theorem c_L_heardOf (l : Launch) (G : gT) (x q w : Nat) (a S r H g p f h : Nat → Nat) (n kn : Nat) (d T : Nat → Nat → Nat) (fo : Nat → Int64) (hI : IV S) (c : Nat) (hc : c < 10) : CW l G yL_heardOf wsL_heardOf [(0, 9, 12, 13)] 3 64 3 [.ref x, .int (nI c), .ref w] [XB x (a 0) (r 0) (p 0) (h 0) q, DW G a S, OU G w fo] 0 0 (fun rv u => rv = some (.int (nI 0)) ∧ u = [XB x (a 0) (r 0) (p 0) (h 0) q, DW G a S, OU G w (vp_updL fo 0 (((nI (S (49 + c)))).toInt64))]) := by
  refine CW_of RL 2 41 rfl rfl (by decide) (by decide +kernel) (Nat.le_of_ble_eq_true rfl) (fun E A X hrt htb => ?_)
  generalize hQ : QM E G A _ _ _ = Q
  show V E G A 4 [XB x (a 0) (r 0) (p 0) (h 0) q, DW G a S, OU G w fo] 0 0 Q 0 [(0, .ref x), (1, .int (nI c)), (2, .ref w)] []
  refine V_aload_n (pc' := 1) 2 X dL_heardOf_0 rfl rfl rfl ?_
  refine V_iconst (pc' := 2) (nI 0) X dL_heardOf_1 ki_0 rfl ?_
  refine V_aload_n (pc' := 3) 0 X dL_heardOf_2 rfl rfl rfl ?_
  refine V_iload_n (pc' := 4) 1 X dL_heardOf_3 rfl rfl rfl ?_
  refine V_callV (pc' := 7) (As := [.int (nI c)]) (st := [.int (nI 0), .ref w]) 5 0 [0, 1] [2] (show (List.range 3).Perm ([0, 1] ++ [2]) by decide) X (c_X5_heardOf l G x (r 0) (p 0) (h 0) q a S hI c hc) rfl gL_heardOf_X5_heardOf rfl (by decide) rfl rfl rfl (Nat.le_of_ble_eq_true rfl) ⟨Nat.le_of_ble_eq_true rfl, Nat.le_of_ble_eq_true rfl⟩ ⟨Nat.le_of_ble_eq_true rfl, Nat.le_of_ble_eq_true rfl⟩ dL_heardOf_4 rfl (fun v_ u_ hp_ => ?_)
  obtain ⟨rfl, rfl⟩ := hp_
  show V E G A 4 [OU G w fo, XB x (a 0) (r 0) (p 0) (h 0) q, DW G a S] 0 0 Q 7 [(0, .ref x), (1, .int (nI c)), (2, .ref w)] [.int (nI (S (49 + c))), .int (nI 0), .ref w]
  refine V_ord [1, 2, 0] [XB x (a 0) (r 0) (p 0) (h 0) q, DW G a S, OU G w fo] (show (List.range 3).Perm [1, 2, 0] by decide) rfl ?_
  refine V_i2l (pc' := 8) (((nI (S (49 + c)))).toInt64) X dL_heardOf_7 rfl rfl ?_
  refine V_ws [XB x (a 0) (r 0) (p 0) (h 0) q, DW G a S, [(w, .inl (G.2 4, 1, .inr (.inl fo)))]] rfl ?_
  refine V_last (pc' := 9) 8 0 [XB x (a 0) (r 0) (p 0) (h 0) q, DW G a S, [(w, .inl (G.2 4, 1, .inr (.inl (vp_updL fo 0 (((nI (S (49 + c)))).toInt64)))))]] X rfl (by omega) (by decide) rfl dL_heardOf_8 rfl ?_
  refine V_goto (pc' := 15) X dL_heardOf_9 (by decide) ?_
  refine V_iconst (pc' := 16) (nI 0) X dL_heardOf_15 ki_0 rfl ?_
  refine V_ws [XB x (a 0) (r 0) (p 0) (h 0) q, DW G a S, OU G w (vp_updL fo 0 (((nI (S (49 + c)))).toInt64))] rfl ?_
  exact V_ireturn (v := nI 0) [XB x (a 0) (r 0) (p 0) (h 0) q, DW G a S, OU G w (vp_updL fo 0 (((nI (S (49 + c)))).toInt64))] hQ X hrt rfl dL_heardOf_16 (Nat.le_of_ble_eq_true rfl) (Nat.le_of_ble_eq_true rfl) (List.Perm.refl _) ⟨rfl, rfl⟩

set_option maxHeartbeats 4000000 in
set_option maxRecDepth 100000 in
theorem c_L_whyMissed (l : Launch) (G : gT) (x q w : Nat) (a S r H g p f h : Nat → Nat) (n kn : Nat) (d T : Nat → Nat → Nat) (fo : Nat → Int64) (hI : IV S) (c : Nat) (hc : c < 10) : CW l G yL_whyMissed wsL_whyMissed [(0, 9, 12, 13)] 5 113 3 [.ref x, .int (nI c), .ref w] [XB x (a 0) (r 0) (p 0) (h 0) q, DW G a S, OU G w fo] 0 0 (fun rv u => rv = some (.int (nI 0)) ∧ u = [XB x (a 0) (r 0) (p 0) (h 0) q, DW G a S, OU G w (vp_updL fo 0 (((nI (why S c))).toInt64))]) := by
  refine CW_of RL 4 90 rfl rfl (by decide) (by decide +kernel) (Nat.le_of_ble_eq_true rfl) (fun E A X hrt htb => ?_)
  generalize hQ : QM E G A _ _ _ = Q
  show V E G A 4 [XB x (a 0) (r 0) (p 0) (h 0) q, DW G a S, OU G w fo] 0 0 Q 0 [(0, .ref x), (1, .int (nI c)), (2, .ref w)] []
  refine V_aload_n (pc' := 1) 2 X dL_whyMissed_0 rfl rfl rfl ?_
  refine V_iconst (pc' := 2) (nI 0) X dL_whyMissed_1 ki_0 rfl ?_
  refine V_aload_n (pc' := 3) 0 X dL_whyMissed_2 rfl rfl rfl ?_
  refine V_iload_n (pc' := 4) 1 X dL_whyMissed_3 rfl rfl rfl ?_
  refine V_callV (pc' := 7) (As := [.int (nI c)]) (st := [.int (nI 0), .ref w]) 5 0 [0, 1] [2] (show (List.range 3).Perm ([0, 1] ++ [2]) by decide) X (c_X5_whyMissed l G x (r 0) (p 0) (h 0) q a S hI c hc) rfl gL_whyMissed_X5_whyMissed rfl (by decide) rfl rfl rfl (Nat.le_of_ble_eq_true rfl) ⟨Nat.le_of_ble_eq_true rfl, Nat.le_of_ble_eq_true rfl⟩ ⟨Nat.le_of_ble_eq_true rfl, Nat.le_of_ble_eq_true rfl⟩ dL_whyMissed_4 rfl (fun v_ u_ hp_ => ?_)
  obtain ⟨rfl, rfl⟩ := hp_
  show V E G A 4 [OU G w fo, XB x (a 0) (r 0) (p 0) (h 0) q, DW G a S] 0 0 Q 7 [(0, .ref x), (1, .int (nI c)), (2, .ref w)] [.int (nI (why S c)), .int (nI 0), .ref w]
  refine V_ord [1, 2, 0] [XB x (a 0) (r 0) (p 0) (h 0) q, DW G a S, OU G w fo] (show (List.range 3).Perm [1, 2, 0] by decide) rfl ?_
  refine V_i2l (pc' := 8) (((nI (why S c))).toInt64) X dL_whyMissed_7 rfl rfl ?_
  refine V_ws [XB x (a 0) (r 0) (p 0) (h 0) q, DW G a S, [(w, .inl (G.2 4, 1, .inr (.inl fo)))]] rfl ?_
  refine V_last (pc' := 9) 8 0 [XB x (a 0) (r 0) (p 0) (h 0) q, DW G a S, [(w, .inl (G.2 4, 1, .inr (.inl (vp_updL fo 0 (((nI (why S c))).toInt64)))))]] X rfl (by omega) (by decide) rfl dL_whyMissed_8 rfl ?_
  refine V_goto (pc' := 15) X dL_whyMissed_9 (by decide) ?_
  refine V_iconst (pc' := 16) (nI 0) X dL_whyMissed_15 ki_0 rfl ?_
  refine V_ws [XB x (a 0) (r 0) (p 0) (h 0) q, DW G a S, OU G w (vp_updL fo 0 (((nI (why S c))).toInt64))] rfl ?_
  exact V_ireturn (v := nI 0) [XB x (a 0) (r 0) (p 0) (h 0) q, DW G a S, OU G w (vp_updL fo 0 (((nI (why S c))).toInt64))] hQ X hrt rfl dL_whyMissed_16 (Nat.le_of_ble_eq_true rfl) (Nat.le_of_ble_eq_true rfl) (List.Perm.refl _) ⟨rfl, rfl⟩

set_option maxHeartbeats 4000000 in
set_option maxRecDepth 100000 in
theorem c_L_inRound (l : Launch) (G : gT) (x q w : Nat) (a S r H g p f h : Nat → Nat) (n kn : Nat) (d T : Nat → Nat → Nat) (fo : Nat → Int64) (hI : IV S) (c : Nat) (hc : c < 32) : CW l G yL_inRound wsL_inRound [(0, 9, 12, 13)] 5 118 3 [.ref x, .int (nI c), .ref w] [XB x (a 0) (r 0) (p 0) (h 0) q, DW G a S, RN G r H g, OU G w fo] 0 0 (fun rv u => rv = some (.int (nI 0)) ∧ u = [XB x (a 0) (r 0) (p 0) (h 0) q, DW G a S, RN G r (rh 3 S (S 46)) (rsp 3 S (S 46) 32), OU G w (vp_updL fo 0 (((nI (rh 3 S (S 46) c))).toInt64))]) := by
  refine CW_of RL 4 95 rfl rfl (by decide) (by decide +kernel) (Nat.le_of_ble_eq_true rfl) (fun E A X hrt htb => ?_)
  generalize hQ : QM E G A _ _ _ = Q
  show V E G A 4 [XB x (a 0) (r 0) (p 0) (h 0) q, DW G a S, RN G r H g, OU G w fo] 0 0 Q 0 [(0, .ref x), (1, .int (nI c)), (2, .ref w)] []
  refine V_aload_n (pc' := 1) 2 X dL_inRound_0 rfl rfl rfl ?_
  refine V_iconst (pc' := 2) (nI 0) X dL_inRound_1 ki_0 rfl ?_
  refine V_aload_n (pc' := 3) 0 X dL_inRound_2 rfl rfl rfl ?_
  refine V_iload_n (pc' := 4) 1 X dL_inRound_3 rfl rfl rfl ?_
  refine V_callV (pc' := 7) (As := [.int (nI c)]) (st := [.int (nI 0), .ref w]) 5 0 [0, 1, 2] [3] (show (List.range 4).Perm ([0, 1, 2] ++ [3]) by decide) X (c_X5_inRound l G x (p 0) (h 0) q a S r H g hI c hc) rfl gL_inRound_X5_inRound rfl (by decide) rfl rfl rfl (Nat.le_of_ble_eq_true rfl) ⟨Nat.le_of_ble_eq_true rfl, Nat.le_of_ble_eq_true rfl⟩ ⟨Nat.le_of_ble_eq_true rfl, Nat.le_of_ble_eq_true rfl⟩ dL_inRound_4 rfl (fun v_ u_ hp_ => ?_)
  obtain ⟨rfl, rfl⟩ := hp_
  show V E G A 4 [OU G w fo, XB x (a 0) (r 0) (p 0) (h 0) q, DW G a S, RN G r (rh 3 S (S 46)) (rsp 3 S (S 46) 32)] 0 0 Q 7 [(0, .ref x), (1, .int (nI c)), (2, .ref w)] [.int (nI (rh 3 S (S 46) c)), .int (nI 0), .ref w]
  refine V_ord [1, 2, 3, 0] [XB x (a 0) (r 0) (p 0) (h 0) q, DW G a S, RN G r (rh 3 S (S 46)) (rsp 3 S (S 46) 32), OU G w fo] (show (List.range 4).Perm [1, 2, 3, 0] by decide) rfl ?_
  refine V_i2l (pc' := 8) (((nI (rh 3 S (S 46) c))).toInt64) X dL_inRound_7 rfl rfl ?_
  refine V_ws [XB x (a 0) (r 0) (p 0) (h 0) q, DW G a S, RN G r (rh 3 S (S 46)) (rsp 3 S (S 46) 32), [(w, .inl (G.2 4, 1, .inr (.inl fo)))]] rfl ?_
  refine V_last (pc' := 9) 12 0 [XB x (a 0) (r 0) (p 0) (h 0) q, DW G a S, RN G r (rh 3 S (S 46)) (rsp 3 S (S 46) 32), [(w, .inl (G.2 4, 1, .inr (.inl (vp_updL fo 0 (((nI (rh 3 S (S 46) c))).toInt64)))))]] X rfl (by omega) (by decide) rfl dL_inRound_8 rfl ?_
  refine V_goto (pc' := 15) X dL_inRound_9 (by decide) ?_
  refine V_iconst (pc' := 16) (nI 0) X dL_inRound_15 ki_0 rfl ?_
  refine V_ws [XB x (a 0) (r 0) (p 0) (h 0) q, DW G a S, RN G r (rh 3 S (S 46)) (rsp 3 S (S 46) 32), OU G w (vp_updL fo 0 (((nI (rh 3 S (S 46) c))).toInt64))] rfl ?_
  exact V_ireturn (v := nI 0) [XB x (a 0) (r 0) (p 0) (h 0) q, DW G a S, RN G r (rh 3 S (S 46)) (rsp 3 S (S 46) 32), OU G w (vp_updL fo 0 (((nI (rh 3 S (S 46) c))).toInt64))] hQ X hrt rfl dL_inRound_16 (Nat.le_of_ble_eq_true rfl) (Nat.le_of_ble_eq_true rfl) (List.Perm.refl _) ⟨rfl, rfl⟩

set_option maxHeartbeats 4000000 in
set_option maxRecDepth 100000 in
theorem c_L_put (l : Launch) (G : gT) (x q w : Nat) (a S r H g p f h : Nat → Nat) (n kn : Nat) (d T : Nat → Nat → Nat) (fo : Nat → Int64) (hn : n ≤ 60) (hf : ∀ k, k < n → f k < 128) (v : Nat) (hu : v < 2 ^ 64) (hc : ¬ cin v = 0) (hr : n + cin v ≤ 60) : CW l G yL_put wsL_put [(0, 9, 12, 19), (0, 9, 16, 63)] 3 73 3 [.ref x, .long (lN v), .ref w] [XB x (a 0) (r 0) (p 0) (h 0) q, PD G p f n, OU G w fo] 0 0 (fun rv u => rv = some (.int (nI 0)) ∧ u = [XB x (a 0) (r 0) (p 0) (h 0) q, PD G p (ap f n v (cin v)) (n + cin v), OU G w (vp_updL fo 0 (((nI (n + cin v))).toInt64))]) := by
  refine CW_of RL 2 49 rfl rfl (by decide) (by decide +kernel) (Nat.le_of_ble_eq_true rfl) (fun E A X hrt htb => ?_)
  generalize hQ : QM E G A _ _ _ = Q
  show V E G A 5 [XB x (a 0) (r 0) (p 0) (h 0) q, PD G p f n, OU G w fo] 0 0 Q 0 [(0, .ref x), (1, .long (lN v)), (3, .ref w)] []
  refine V_aload_n (pc' := 1) 2 X dL_put_0 rfl rfl rfl ?_
  refine V_iconst (pc' := 2) (nI 0) X dL_put_1 ki_0 rfl ?_
  refine V_aload_n (pc' := 3) 0 X dL_put_2 rfl rfl rfl ?_
  refine V_lload_n (pc' := 4) 1 X dL_put_3 rfl rfl rfl ?_
  refine V_callV (pc' := 7) (As := [.long (lN v)]) (st := [.int (nI 0), .ref w]) 5 0 [0, 1] [2] (show (List.range 3).Perm ([0, 1] ++ [2]) by decide) X (c_X5_put l G x (a 0) (r 0) (h 0) q p f n hn hf v hu hc hr) rfl gL_put_X5_put rfl (by decide) rfl rfl rfl (Nat.le_of_ble_eq_true rfl) ⟨Nat.le_of_ble_eq_true rfl, Nat.le_of_ble_eq_true rfl⟩ ⟨Nat.le_of_ble_eq_true rfl, Nat.le_of_ble_eq_true rfl⟩ dL_put_4 rfl (fun v_ u_ hp_ => ?_)
  obtain ⟨rfl, rfl⟩ := hp_
  show V E G A 5 [OU G w fo, XB x (a 0) (r 0) (p 0) (h 0) q, PD G p (ap f n v (cin v)) (n + cin v)] 0 0 Q 7 [(0, .ref x), (1, .long (lN v)), (3, .ref w)] [.int (nI (n + cin v)), .int (nI 0), .ref w]
  refine V_ord [1, 2, 0] [XB x (a 0) (r 0) (p 0) (h 0) q, PD G p (ap f n v (cin v)) (n + cin v), OU G w fo] (show (List.range 3).Perm [1, 2, 0] by decide) rfl ?_
  refine V_i2l (pc' := 8) (((nI (n + cin v))).toInt64) X dL_put_7 rfl rfl ?_
  refine V_ws [XB x (a 0) (r 0) (p 0) (h 0) q, PD G p (ap f n v (cin v)) (n + cin v), [(w, .inl (G.2 4, 1, .inr (.inl fo)))]] rfl ?_
  refine V_last (pc' := 9) 3 0 [XB x (a 0) (r 0) (p 0) (h 0) q, PD G p (ap f n v (cin v)) (n + cin v), [(w, .inl (G.2 4, 1, .inr (.inl (vp_updL fo 0 (((nI (n + cin v))).toInt64)))))]] X rfl (by omega) (by decide) rfl dL_put_8 rfl ?_
  refine V_goto (pc' := 20) X dL_put_9 (by decide) ?_
  refine V_iconst (pc' := 21) (nI 0) X dL_put_20 ki_0 rfl ?_
  refine V_ws [XB x (a 0) (r 0) (p 0) (h 0) q, PD G p (ap f n v (cin v)) (n + cin v), OU G w (vp_updL fo 0 (((nI (n + cin v))).toInt64))] rfl ?_
  exact V_ireturn (v := nI 0) [XB x (a 0) (r 0) (p 0) (h 0) q, PD G p (ap f n v (cin v)) (n + cin v), OU G w (vp_updL fo 0 (((nI (n + cin v))).toInt64))] hQ X hrt rfl dL_put_21 (Nat.le_of_ble_eq_true rfl) (Nat.le_of_ble_eq_true rfl) (List.Perm.refl _) ⟨rfl, rfl⟩

set_option maxHeartbeats 4000000 in
set_option maxRecDepth 100000 in
theorem c_L_undo (l : Launch) (G : gT) (x q w : Nat) (a S r H g p f h : Nat → Nat) (n kn : Nat) (d T : Nat → Nat → Nat) (fo : Nat → Int64) (m : Nat) (hm : m < 6) : CW l G yL_undo wsL_undo [(0, 8, 11, 63)] 5 124 2 [.ref x, .ref w] [XB x (a 0) (r 0) (p 0) (h 0) q, DW G a S, HI G h (m + 1) d, HD G d T, OU G w fo] 0 0 (fun rv u => rv = some (.int (nI 0)) ∧ u = [XB x (a 0) (r 0) (p 0) (h 0) q, DW G a (T m), HI G h m d, HD G d T, OU G w (vp_updL fo 0 (((nI m)).toInt64))]) := by
  refine CW_of RL 4 102 rfl rfl (by decide) (by decide +kernel) (Nat.le_of_ble_eq_true rfl) (fun E A X hrt htb => ?_)
  generalize hQ : QM E G A _ _ _ = Q
  show V E G A 3 [XB x (a 0) (r 0) (p 0) (h 0) q, DW G a S, HI G h (m + 1) d, HD G d T, OU G w fo] 0 0 Q 0 [(0, .ref x), (1, .ref w)] []
  refine V_aload_n (pc' := 1) 1 X dL_undo_0 rfl rfl rfl ?_
  refine V_iconst (pc' := 2) (nI 0) X dL_undo_1 ki_0 rfl ?_
  refine V_aload_n (pc' := 3) 0 X dL_undo_2 rfl rfl rfl ?_
  refine V_callV (pc' := 6) (As := []) (st := [.int (nI 0), .ref w]) 5 0 [0, 1, 2, 3] [4] (show (List.range 5).Perm ([0, 1, 2, 3] ++ [4]) by decide) X (c_X5_undo l G x (r 0) (p 0) q a S h m d T hm) rfl gL_undo_X5_undo rfl (by decide) rfl rfl rfl (Nat.le_of_ble_eq_true rfl) ⟨Nat.le_of_ble_eq_true rfl, Nat.le_of_ble_eq_true rfl⟩ ⟨Nat.le_of_ble_eq_true rfl, Nat.le_of_ble_eq_true rfl⟩ dL_undo_3 rfl (fun v_ u_ hp_ => ?_)
  obtain ⟨rfl, rfl⟩ := hp_
  show V E G A 3 [OU G w fo, XB x (a 0) (r 0) (p 0) (h 0) q, DW G a (T m), HI G h m d, HD G d T] 0 0 Q 6 [(0, .ref x), (1, .ref w)] [.int (nI m), .int (nI 0), .ref w]
  refine V_ord [1, 2, 3, 4, 0] [XB x (a 0) (r 0) (p 0) (h 0) q, DW G a (T m), HI G h m d, HD G d T, OU G w fo] (show (List.range 5).Perm [1, 2, 3, 4, 0] by decide) rfl ?_
  refine V_i2l (pc' := 7) (((nI m)).toInt64) X dL_undo_6 rfl rfl ?_
  refine V_ws [XB x (a 0) (r 0) (p 0) (h 0) q, DW G a (T m), HI G h m d, HD G d T, [(w, .inl (G.2 4, 1, .inr (.inl fo)))]] rfl ?_
  refine V_last (pc' := 8) 52 0 [XB x (a 0) (r 0) (p 0) (h 0) q, DW G a (T m), HI G h m d, HD G d T, [(w, .inl (G.2 4, 1, .inr (.inl (vp_updL fo 0 (((nI m)).toInt64)))))]] X rfl (by omega) (by decide) rfl dL_undo_7 rfl ?_
  refine V_goto (pc' := 14) X dL_undo_8 (by decide) ?_
  refine V_iconst (pc' := 15) (nI 0) X dL_undo_14 ki_0 rfl ?_
  refine V_ws [XB x (a 0) (r 0) (p 0) (h 0) q, DW G a (T m), HI G h m d, HD G d T, OU G w (vp_updL fo 0 (((nI m)).toInt64))] rfl ?_
  exact V_ireturn (v := nI 0) [XB x (a 0) (r 0) (p 0) (h 0) q, DW G a (T m), HI G h m d, HD G d T, OU G w (vp_updL fo 0 (((nI m)).toInt64))] hQ X hrt rfl dL_undo_15 (Nat.le_of_ble_eq_true rfl) (Nat.le_of_ble_eq_true rfl) (List.Perm.refl _) ⟨rfl, rfl⟩

set_option maxHeartbeats 4000000 in
set_option maxRecDepth 100000 in
theorem c_L_save_some (l : Launch) (G : gT) (x q w : Nat) (a S r H g p f h : Nat → Nat) (n kn : Nat) (d T : Nat → Nat → Nat) (fo : Nat → Int64) (o : Nat → Option (Nat → Nat)) (c : Nat) (hc : c < 2) (hI : IV S) (b O : Nat → Nat) (ho : o c = some b) : CW l G yL_save wsL_save [(0, 9, 12, 13)] 5 127 3 [.ref x, .int (nI c), .ref w] [XB x (a 0) (r 0) (p 0) (h 0) q, DW G a S, SA G q o, DW G b O, OU G w fo] 0 0 (fun rv u => rv = some (.int (nI 0)) ∧ u = [XB x (a 0) (r 0) (p 0) (h 0) q, DW G a S, SA G q o, DW G b S, OU G w (vp_updL fo 0 (((nI (sm (fun k => cnt (S k)) 32))).toInt64))]) := by
  refine CW_of RL 4 104 rfl rfl (by decide) (by decide +kernel) (Nat.le_of_ble_eq_true rfl) (fun E A X hrt htb => ?_)
  generalize hQ : QM E G A _ _ _ = Q
  show V E G A 4 [XB x (a 0) (r 0) (p 0) (h 0) q, DW G a S, SA G q o, DW G b O, OU G w fo] 0 0 Q 0 [(0, .ref x), (1, .int (nI c)), (2, .ref w)] []
  refine V_aload_n (pc' := 1) 2 X dL_save_0 rfl rfl rfl ?_
  refine V_iconst (pc' := 2) (nI 0) X dL_save_1 ki_0 rfl ?_
  refine V_aload_n (pc' := 3) 0 X dL_save_2 rfl rfl rfl ?_
  refine V_iload_n (pc' := 4) 1 X dL_save_3 rfl rfl rfl ?_
  refine V_callV (pc' := 7) (As := [.int (nI c)]) (st := [.int (nI 0), .ref w]) 5 0 [0, 1, 2, 3] [4] (show (List.range 5).Perm ([0, 1, 2, 3] ++ [4]) by decide) X (c_X5_save_some l G x (r 0) (p 0) (h 0) q a S o c hc hI b O ho) rfl gL_save_X5_save rfl (by decide) rfl rfl rfl (Nat.le_of_ble_eq_true rfl) ⟨Nat.le_of_ble_eq_true rfl, Nat.le_of_ble_eq_true rfl⟩ ⟨Nat.le_of_ble_eq_true rfl, Nat.le_of_ble_eq_true rfl⟩ dL_save_4 rfl (fun v_ u_ hp_ => ?_)
  obtain ⟨rfl, rfl⟩ := hp_
  show V E G A 4 [OU G w fo, XB x (a 0) (r 0) (p 0) (h 0) q, DW G a S, SA G q o, DW G b S] 0 0 Q 7 [(0, .ref x), (1, .int (nI c)), (2, .ref w)] [.int (nI (sm (fun k => cnt (S k)) 32)), .int (nI 0), .ref w]
  refine V_ord [1, 2, 3, 4, 0] [XB x (a 0) (r 0) (p 0) (h 0) q, DW G a S, SA G q o, DW G b S, OU G w fo] (show (List.range 5).Perm [1, 2, 3, 4, 0] by decide) rfl ?_
  refine V_i2l (pc' := 8) (((nI (sm (fun k => cnt (S k)) 32))).toInt64) X dL_save_7 rfl rfl ?_
  refine V_ws [XB x (a 0) (r 0) (p 0) (h 0) q, DW G a S, SA G q o, DW G b S, [(w, .inl (G.2 4, 1, .inr (.inl fo)))]] rfl ?_
  refine V_last (pc' := 9) 16 0 [XB x (a 0) (r 0) (p 0) (h 0) q, DW G a S, SA G q o, DW G b S, [(w, .inl (G.2 4, 1, .inr (.inl (vp_updL fo 0 (((nI (sm (fun k => cnt (S k)) 32))).toInt64)))))]] X rfl (by omega) (by decide) rfl dL_save_8 rfl ?_
  refine V_goto (pc' := 15) X dL_save_9 (by decide) ?_
  refine V_iconst (pc' := 16) (nI 0) X dL_save_15 ki_0 rfl ?_
  refine V_ws [XB x (a 0) (r 0) (p 0) (h 0) q, DW G a S, SA G q o, DW G b S, OU G w (vp_updL fo 0 (((nI (sm (fun k => cnt (S k)) 32))).toInt64))] rfl ?_
  exact V_ireturn (v := nI 0) [XB x (a 0) (r 0) (p 0) (h 0) q, DW G a S, SA G q o, DW G b S, OU G w (vp_updL fo 0 (((nI (sm (fun k => cnt (S k)) 32))).toInt64))] hQ X hrt rfl dL_save_16 (Nat.le_of_ble_eq_true rfl) (Nat.le_of_ble_eq_true rfl) (List.Perm.refl _) ⟨rfl, rfl⟩

set_option maxHeartbeats 4000000 in
set_option maxRecDepth 100000 in
theorem c_L_save_none (l : Launch) (G : gT) (x q w : Nat) (a S r H g p f h : Nat → Nat) (n kn : Nat) (d T : Nat → Nat → Nat) (fo : Nat → Int64) (o : Nat → Option (Nat → Nat)) (c : Nat) (hc : c < 2) (hI : IV S) (ho : o c = none) : CW l G yL_save wsL_save [(0, 9, 12, 13)] 5 127 3 [.ref x, .int (nI c), .ref w] [XB x (a 0) (r 0) (p 0) (h 0) q, DW G a S, SA G q o, OU G w fo] 7 77 (fun rv u => ∃ b : Nat → Nat, rv = some (.int (nI 0)) ∧ u = [XB x (a 0) (r 0) (p 0) (h 0) q, DW G a S, SA G q (va_up o c (some b)), DW G b S, OU G w (vp_updL fo 0 (((nI (sm (fun k => cnt (S k)) 32))).toInt64))]) := by
  refine CW_of RL 4 104 rfl rfl (by decide) (by decide +kernel) (Nat.le_of_ble_eq_true rfl) (fun E A X hrt htb => ?_)
  generalize hQ : QM E G A _ _ _ = Q
  show V E G A 4 [XB x (a 0) (r 0) (p 0) (h 0) q, DW G a S, SA G q o, OU G w fo] 0 0 Q 0 [(0, .ref x), (1, .int (nI c)), (2, .ref w)] []
  refine V_aload_n (pc' := 1) 2 X dL_save_0 rfl rfl rfl ?_
  refine V_iconst (pc' := 2) (nI 0) X dL_save_1 ki_0 rfl ?_
  refine V_aload_n (pc' := 3) 0 X dL_save_2 rfl rfl rfl ?_
  refine V_iload_n (pc' := 4) 1 X dL_save_3 rfl rfl rfl ?_
  refine V_callV (pc' := 7) (As := [.int (nI c)]) (st := [.int (nI 0), .ref w]) 5 0 [0, 1, 2] [3] (show (List.range 4).Perm ([0, 1, 2] ++ [3]) by decide) X (c_X5_save_none l G x (r 0) (p 0) (h 0) q a S o c hc hI ho) rfl gL_save_X5_save rfl (by decide) rfl rfl rfl (Nat.le_of_ble_eq_true rfl) ⟨Nat.le_of_ble_eq_true rfl, Nat.le_of_ble_eq_true rfl⟩ ⟨Nat.le_of_ble_eq_true rfl, Nat.le_of_ble_eq_true rfl⟩ dL_save_4 rfl (fun v_ u_ hp_ => ?_)
  obtain ⟨b, rfl, rfl⟩ := hp_
  show V E G A 4 [OU G w fo, XB x (a 0) (r 0) (p 0) (h 0) q, DW G a S, SA G q (va_up o c (some b)), DW G b S] 7 77 Q 7 [(0, .ref x), (1, .int (nI c)), (2, .ref w)] [.int (nI (sm (fun k => cnt (S k)) 32)), .int (nI 0), .ref w]
  refine V_i2l (pc' := 8) (((nI (sm (fun k => cnt (S k)) 32))).toInt64) X dL_save_7 rfl rfl ?_
  refine V_ws [[(w, .inl (G.2 4, 1, .inr (.inl fo)))], XB x (a 0) (r 0) (p 0) (h 0) q, DW G a S, SA G q (va_up o c (some b)), DW G b S] rfl ?_
  refine V_last (pc' := 9) 0 0 [[(w, .inl (G.2 4, 1, .inr (.inl (vp_updL fo 0 (((nI (sm (fun k => cnt (S k)) 32))).toInt64)))))], XB x (a 0) (r 0) (p 0) (h 0) q, DW G a S, SA G q (va_up o c (some b)), DW G b S] X rfl (by omega) (by decide) rfl dL_save_8 rfl ?_
  refine V_goto (pc' := 15) X dL_save_9 (by decide) ?_
  refine V_iconst (pc' := 16) (nI 0) X dL_save_15 ki_0 rfl ?_
  refine V_ws [OU G w (vp_updL fo 0 (((nI (sm (fun k => cnt (S k)) 32))).toInt64)), XB x (a 0) (r 0) (p 0) (h 0) q, DW G a S, SA G q (va_up o c (some b)), DW G b S] rfl ?_
  refine V_ord [1, 2, 3, 4, 0] [XB x (a 0) (r 0) (p 0) (h 0) q, DW G a S, SA G q (va_up o c (some b)), DW G b S, OU G w (vp_updL fo 0 (((nI (sm (fun k => cnt (S k)) 32))).toInt64))] (show (List.range 5).Perm [1, 2, 3, 4, 0] by decide) rfl ?_
  exact V_ireturn (v := nI 0) [XB x (a 0) (r 0) (p 0) (h 0) q, DW G a S, SA G q (va_up o c (some b)), DW G b S, OU G w (vp_updL fo 0 (((nI (sm (fun k => cnt (S k)) 32))).toInt64))] hQ X hrt rfl dL_save_16 (Nat.le_of_ble_eq_true rfl) (Nat.le_of_ble_eq_true rfl) (List.Perm.refl _) ⟨_, rfl, rfl⟩

set_option maxHeartbeats 4000000 in
set_option maxRecDepth 100000 in
theorem c_L_restore (l : Launch) (G : gT) (x q w : Nat) (a S r H g p f h : Nat → Nat) (n kn : Nat) (d T : Nat → Nat → Nat) (fo : Nat → Int64) (o : Nat → Option (Nat → Nat)) (c : Nat) (hc : c < 2) (hkn : kn ≤ 6) (b O : Nat → Nat) (ho : o c = some b) (hO : IV O) : CW l G yL_restore wsL_restore [(0, 9, 12, 13), (0, 9, 15, 63)] 6 149 3 [.ref x, .int (nI c), .ref w] [XB x (a 0) (r 0) (p 0) (h 0) q, DW G a S, HI G h kn d, HD G d T, SA G q o, DW G b O, OU G w fo] 0 0 (fun rv u => rv = some (.int (nI 0)) ∧ u = [XB x (a 0) (r 0) (p 0) (h 0) q, DW G a O, HI G h (aM kn + 1) (aD kn d), HD G (aD kn d) (hT kn S T), SA G q o, DW G b O, OU G w (vp_updL fo 0 (((nI (sm (fun k => cnt (O k)) 32))).toInt64))]) := by
  refine CW_of RL 5 126 rfl rfl (by decide) (by decide +kernel) (Nat.le_of_ble_eq_true rfl) (fun E A X hrt htb => ?_)
  generalize hQ : QM E G A _ _ _ = Q
  show V E G A 4 [XB x (a 0) (r 0) (p 0) (h 0) q, DW G a S, HI G h kn d, HD G d T, SA G q o, DW G b O, OU G w fo] 0 0 Q 0 [(0, .ref x), (1, .int (nI c)), (2, .ref w)] []
  refine V_aload_n (pc' := 1) 2 X dL_restore_0 rfl rfl rfl ?_
  refine V_iconst (pc' := 2) (nI 0) X dL_restore_1 ki_0 rfl ?_
  refine V_aload_n (pc' := 3) 0 X dL_restore_2 rfl rfl rfl ?_
  refine V_iload_n (pc' := 4) 1 X dL_restore_3 rfl rfl rfl ?_
  refine V_callV (pc' := 7) (As := [.int (nI c)]) (st := [.int (nI 0), .ref w]) 5 0 [0, 1, 2, 3, 4, 5] [6] (show (List.range 7).Perm ([0, 1, 2, 3, 4, 5] ++ [6]) by decide) X (c_X5_restore l G x (r 0) (p 0) q a S h kn d T hkn o c hc b O ho hO) rfl gL_restore_X5_restore rfl (by decide) rfl rfl rfl (Nat.le_of_ble_eq_true rfl) ⟨Nat.le_of_ble_eq_true rfl, Nat.le_of_ble_eq_true rfl⟩ ⟨Nat.le_of_ble_eq_true rfl, Nat.le_of_ble_eq_true rfl⟩ dL_restore_4 rfl (fun v_ u_ hp_ => ?_)
  obtain ⟨rfl, rfl⟩ := hp_
  show V E G A 4 [OU G w fo, XB x (a 0) (r 0) (p 0) (h 0) q, DW G a O, HI G h (aM kn + 1) (aD kn d), HD G (aD kn d) (hT kn S T), SA G q o, DW G b O] 0 0 Q 7 [(0, .ref x), (1, .int (nI c)), (2, .ref w)] [.int (nI (sm (fun k => cnt (O k)) 32)), .int (nI 0), .ref w]
  refine V_ord [1, 2, 3, 4, 5, 6, 0] [XB x (a 0) (r 0) (p 0) (h 0) q, DW G a O, HI G h (aM kn + 1) (aD kn d), HD G (aD kn d) (hT kn S T), SA G q o, DW G b O, OU G w fo] (show (List.range 7).Perm [1, 2, 3, 4, 5, 6, 0] by decide) rfl ?_
  refine V_i2l (pc' := 8) (((nI (sm (fun k => cnt (O k)) 32))).toInt64) X dL_restore_7 rfl rfl ?_
  refine V_ws [XB x (a 0) (r 0) (p 0) (h 0) q, DW G a O, HI G h (aM kn + 1) (aD kn d), HD G (aD kn d) (hT kn S T), SA G q o, DW G b O, [(w, .inl (G.2 4, 1, .inr (.inl fo)))]] rfl ?_
  refine V_last (pc' := 9) 60 0 [XB x (a 0) (r 0) (p 0) (h 0) q, DW G a O, HI G h (aM kn + 1) (aD kn d), HD G (aD kn d) (hT kn S T), SA G q o, DW G b O, [(w, .inl (G.2 4, 1, .inr (.inl (vp_updL fo 0 (((nI (sm (fun k => cnt (O k)) 32))).toInt64)))))]] X rfl (by omega) (by decide) rfl dL_restore_8 rfl ?_
  refine V_goto (pc' := 18) X dL_restore_9 (by decide) ?_
  refine V_iconst (pc' := 19) (nI 0) X dL_restore_18 ki_0 rfl ?_
  refine V_ws [XB x (a 0) (r 0) (p 0) (h 0) q, DW G a O, HI G h (aM kn + 1) (aD kn d), HD G (aD kn d) (hT kn S T), SA G q o, DW G b O, OU G w (vp_updL fo 0 (((nI (sm (fun k => cnt (O k)) 32))).toInt64))] rfl ?_
  exact V_ireturn (v := nI 0) [XB x (a 0) (r 0) (p 0) (h 0) q, DW G a O, HI G h (aM kn + 1) (aD kn d), HD G (aD kn d) (hT kn S T), SA G q o, DW G b O, OU G w (vp_updL fo 0 (((nI (sm (fun k => cnt (O k)) 32))).toInt64))] hQ X hrt rfl dL_restore_19 (Nat.le_of_ble_eq_true rfl) (Nat.le_of_ble_eq_true rfl) (List.Perm.refl _) ⟨rfl, rfl⟩

set_option maxHeartbeats 4000000 in
set_option maxRecDepth 100000 in
theorem c_L_turnPeg_b1 (l : Launch) (G : gT) (x q w : Nat) (a S r H g p f h : Nat → Nat) (n kn : Nat) (d T : Nat → Nat → Nat) (fo : Nat → Int64) (c b : Int32) (hx : ¬ okr 0 31 c) : CW l G yL_turnPeg wsL_turnPeg [(0, 17, 20, 13)] 8 136 4 [.ref x, .int c, .int b, .ref w] [XB x (a 0) (r 0) (p 0) (h 0) q, OU G w fo] 1 6 (fun rv u => rv = some (.int (nI 1)) ∧ u = [XB x (a 0) (r 0) (p 0) (h 0) q, OU G w fo]) := by
  refine CW_of RL 7 112 rfl rfl (by decide) (by decide +kernel) (Nat.le_of_ble_eq_true rfl) (fun E A X hrt htb => ?_)
  generalize hQ : QM E G A _ _ _ = Q
  show V E G A 5 [XB x (a 0) (r 0) (p 0) (h 0) q, OU G w fo] 0 0 Q 0 [(0, .ref x), (1, .int c), (2, .int b), (3, .ref w)] []
  refine V_aload_n (pc' := 1) 3 X dL_turnPeg_0 rfl rfl rfl ?_
  refine V_iconst (pc' := 2) (nI 0) X dL_turnPeg_1 ki_0 rfl ?_
  refine V_aload_n (pc' := 3) 0 X dL_turnPeg_2 rfl rfl rfl ?_
  refine V_iload_n (pc' := 4) 1 X dL_turnPeg_3 rfl rfl rfl ?_
  refine V_iload_n (pc' := 5) 2 X dL_turnPeg_4 rfl rfl rfl ?_
  refine V_callXV (pc' := 8) (As := [.int c, .int b]) (st := [.int (nI 0), .ref w]) 5 0 [0] [1] (show (List.range 2).Perm ([0] ++ [1]) by decide) X (c_X5_turnPeg_b1 l G x (r 0) (p 0) q a S h c b hx) rfl gL_turnPeg_X5_turnPeg rfl (by decide) rfl rfl rfl (Nat.le_of_ble_eq_true rfl) ⟨Nat.le_of_ble_eq_true rfl, Nat.le_of_ble_eq_true rfl⟩ ⟨Nat.le_of_ble_eq_true rfl, Nat.le_of_ble_eq_true rfl⟩ dL_turnPeg_5 rfl (fun v_ u_ hp_ => ?_) (fun Ex_ u_ hp_ => ?_)
  · exact hp_.elim
  · obtain ⟨rfl, rfl⟩ := hp_
    refine VX_catch (name := xI) (pc' := 20) [] ⟨0, 17, 20, 13⟩ [] X htb (fun z hz => absurd hz List.not_mem_nil) (by decide) (by decide) (by decide +kernel) X.2.1.2.2.1.1 rfl (fun q_1 => ?_)
    show V E G A 5 [OU G w fo, XB x (a 0) (r 0) (p 0) (h 0) q] 1 6 Q 20 [(0, .ref x), (1, .int c), (2, .int b), (3, .ref w)] [.ref q_1]
    refine V_astore (pc' := 22) [(0, .ref x), (1, .int c), (2, .int b), (3, .ref w), (4, .ref q_1)] [1, 2, 3, 4, 0] X dL_turnPeg_20 (Nat.le_of_ble_eq_true rfl) rfl rfl ?_
    refine V_iconst (pc' := 23) (nI 1) X dL_turnPeg_22 ki_1 rfl ?_
    refine V_ord [1, 0] [XB x (a 0) (r 0) (p 0) (h 0) q, OU G w fo] (show (List.range 2).Perm [1, 0] by decide) rfl ?_
    exact V_ireturn (v := nI 1) [XB x (a 0) (r 0) (p 0) (h 0) q, OU G w fo] hQ X hrt rfl dL_turnPeg_23 (Nat.le_of_ble_eq_true rfl) (Nat.le_of_ble_eq_true rfl) (List.Perm.refl _) ⟨rfl, rfl⟩

set_option maxHeartbeats 4000000 in
set_option maxRecDepth 100000 in
theorem c_L_turnPeg_b2 (l : Launch) (G : gT) (x q w : Nat) (a S r H g p f h : Nat → Nat) (n kn : Nat) (d T : Nat → Nat → Nat) (fo : Nat → Int64) (c : Nat) (hc : c < 32) (b : Int32) (hx : ¬ okr 0 9 b) : CW l G yL_turnPeg wsL_turnPeg [(0, 17, 20, 13)] 8 136 4 [.ref x, .int (nI c), .int b, .ref w] [XB x (a 0) (r 0) (p 0) (h 0) q, OU G w fo] 1 6 (fun rv u => rv = some (.int (nI 1)) ∧ u = [XB x (a 0) (r 0) (p 0) (h 0) q, OU G w fo]) := by
  refine CW_of RL 7 112 rfl rfl (by decide) (by decide +kernel) (Nat.le_of_ble_eq_true rfl) (fun E A X hrt htb => ?_)
  generalize hQ : QM E G A _ _ _ = Q
  show V E G A 5 [XB x (a 0) (r 0) (p 0) (h 0) q, OU G w fo] 0 0 Q 0 [(0, .ref x), (1, .int (nI c)), (2, .int b), (3, .ref w)] []
  refine V_aload_n (pc' := 1) 3 X dL_turnPeg_0 rfl rfl rfl ?_
  refine V_iconst (pc' := 2) (nI 0) X dL_turnPeg_1 ki_0 rfl ?_
  refine V_aload_n (pc' := 3) 0 X dL_turnPeg_2 rfl rfl rfl ?_
  refine V_iload_n (pc' := 4) 1 X dL_turnPeg_3 rfl rfl rfl ?_
  refine V_iload_n (pc' := 5) 2 X dL_turnPeg_4 rfl rfl rfl ?_
  refine V_callXV (pc' := 8) (As := [.int (nI c), .int b]) (st := [.int (nI 0), .ref w]) 5 0 [0] [1] (show (List.range 2).Perm ([0] ++ [1]) by decide) X (c_X5_turnPeg_b2 l G x (r 0) (p 0) q a S h c hc b hx) rfl gL_turnPeg_X5_turnPeg rfl (by decide) rfl rfl rfl (Nat.le_of_ble_eq_true rfl) ⟨Nat.le_of_ble_eq_true rfl, Nat.le_of_ble_eq_true rfl⟩ ⟨Nat.le_of_ble_eq_true rfl, Nat.le_of_ble_eq_true rfl⟩ dL_turnPeg_5 rfl (fun v_ u_ hp_ => ?_) (fun Ex_ u_ hp_ => ?_)
  · exact hp_.elim
  · obtain ⟨rfl, rfl⟩ := hp_
    refine VX_catch (name := xI) (pc' := 20) [] ⟨0, 17, 20, 13⟩ [] X htb (fun z hz => absurd hz List.not_mem_nil) (by decide) (by decide) (by decide +kernel) X.2.1.2.2.1.1 rfl (fun q_1 => ?_)
    show V E G A 5 [OU G w fo, XB x (a 0) (r 0) (p 0) (h 0) q] 1 6 Q 20 [(0, .ref x), (1, .int (nI c)), (2, .int b), (3, .ref w)] [.ref q_1]
    refine V_astore (pc' := 22) [(0, .ref x), (1, .int (nI c)), (2, .int b), (3, .ref w), (4, .ref q_1)] [1, 2, 3, 4, 0] X dL_turnPeg_20 (Nat.le_of_ble_eq_true rfl) rfl rfl ?_
    refine V_iconst (pc' := 23) (nI 1) X dL_turnPeg_22 ki_1 rfl ?_
    refine V_ord [1, 0] [XB x (a 0) (r 0) (p 0) (h 0) q, OU G w fo] (show (List.range 2).Perm [1, 0] by decide) rfl ?_
    exact V_ireturn (v := nI 1) [XB x (a 0) (r 0) (p 0) (h 0) q, OU G w fo] hQ X hrt rfl dL_turnPeg_23 (Nat.le_of_ble_eq_true rfl) (Nat.le_of_ble_eq_true rfl) (List.Perm.refl _) ⟨rfl, rfl⟩

set_option maxHeartbeats 4000000 in
set_option maxRecDepth 100000 in
theorem c_L_setColumn_b1 (l : Launch) (G : gT) (x q w : Nat) (a S r H g p f h : Nat → Nat) (n kn : Nat) (d T : Nat → Nat → Nat) (fo : Nat → Int64) (c b : Int32) (hx : ¬ okr 0 31 c) : CW l G yL_setColumn wsL_setColumn [(0, 10, 13, 13), (0, 10, 17, 19)] 8 137 4 [.ref x, .int c, .int b, .ref w] [XB x (a 0) (r 0) (p 0) (h 0) q, OU G w fo] 1 6 (fun rv u => rv = some (.int (nI 1)) ∧ u = [XB x (a 0) (r 0) (p 0) (h 0) q, OU G w fo]) := by
  refine CW_of RL 7 113 rfl rfl (by decide) (by decide +kernel) (Nat.le_of_ble_eq_true rfl) (fun E A X hrt htb => ?_)
  generalize hQ : QM E G A _ _ _ = Q
  show V E G A 5 [XB x (a 0) (r 0) (p 0) (h 0) q, OU G w fo] 0 0 Q 0 [(0, .ref x), (1, .int c), (2, .int b), (3, .ref w)] []
  refine V_aload_n (pc' := 1) 3 X dL_setColumn_0 rfl rfl rfl ?_
  refine V_iconst (pc' := 2) (nI 0) X dL_setColumn_1 ki_0 rfl ?_
  refine V_aload_n (pc' := 3) 0 X dL_setColumn_2 rfl rfl rfl ?_
  refine V_iload_n (pc' := 4) 1 X dL_setColumn_3 rfl rfl rfl ?_
  refine V_iload_n (pc' := 5) 2 X dL_setColumn_4 rfl rfl rfl ?_
  refine V_callXV (pc' := 8) (As := [.int c, .int b]) (st := [.int (nI 0), .ref w]) 5 0 [0] [1] (show (List.range 2).Perm ([0] ++ [1]) by decide) X (c_X5_setColumn_b1 l G x (r 0) (p 0) q a S h c b hx) rfl gL_setColumn_X5_setColumn rfl (by decide) rfl rfl rfl (Nat.le_of_ble_eq_true rfl) ⟨Nat.le_of_ble_eq_true rfl, Nat.le_of_ble_eq_true rfl⟩ ⟨Nat.le_of_ble_eq_true rfl, Nat.le_of_ble_eq_true rfl⟩ dL_setColumn_5 rfl (fun v_ u_ hp_ => ?_) (fun Ex_ u_ hp_ => ?_)
  · exact hp_.elim
  · obtain ⟨rfl, rfl⟩ := hp_
    refine VX_catch (name := xI) (pc' := 13) [] ⟨0, 10, 13, 13⟩ [⟨0, 10, 17, 19⟩] X htb (fun z hz => absurd hz List.not_mem_nil) (by decide) (by decide) (by decide +kernel) X.2.1.2.2.1.1 rfl (fun q_1 => ?_)
    show V E G A 5 [OU G w fo, XB x (a 0) (r 0) (p 0) (h 0) q] 1 6 Q 13 [(0, .ref x), (1, .int c), (2, .int b), (3, .ref w)] [.ref q_1]
    refine V_astore (pc' := 15) [(0, .ref x), (1, .int c), (2, .int b), (3, .ref w), (4, .ref q_1)] [1, 2, 3, 4, 0] X dL_setColumn_13 (Nat.le_of_ble_eq_true rfl) rfl rfl ?_
    refine V_iconst (pc' := 16) (nI 1) X dL_setColumn_15 ki_1 rfl ?_
    refine V_ord [1, 0] [XB x (a 0) (r 0) (p 0) (h 0) q, OU G w fo] (show (List.range 2).Perm [1, 0] by decide) rfl ?_
    exact V_ireturn (v := nI 1) [XB x (a 0) (r 0) (p 0) (h 0) q, OU G w fo] hQ X hrt rfl dL_setColumn_16 (Nat.le_of_ble_eq_true rfl) (Nat.le_of_ble_eq_true rfl) (List.Perm.refl _) ⟨rfl, rfl⟩

set_option maxHeartbeats 4000000 in
set_option maxRecDepth 100000 in
theorem c_L_setColumn_b2 (l : Launch) (G : gT) (x q w : Nat) (a S r H g p f h : Nat → Nat) (n kn : Nat) (d T : Nat → Nat → Nat) (fo : Nat → Int64) (c : Nat) (hc : c < 32) (b : Int32) (hx : ¬ okr 0 1023 b) : CW l G yL_setColumn wsL_setColumn [(0, 10, 13, 13), (0, 10, 17, 19)] 8 137 4 [.ref x, .int (nI c), .int b, .ref w] [XB x (a 0) (r 0) (p 0) (h 0) q, OU G w fo] 1 6 (fun rv u => rv = some (.int (nI 2)) ∧ u = [XB x (a 0) (r 0) (p 0) (h 0) q, OU G w fo]) := by
  refine CW_of RL 7 113 rfl rfl (by decide) (by decide +kernel) (Nat.le_of_ble_eq_true rfl) (fun E A X hrt htb => ?_)
  generalize hQ : QM E G A _ _ _ = Q
  show V E G A 5 [XB x (a 0) (r 0) (p 0) (h 0) q, OU G w fo] 0 0 Q 0 [(0, .ref x), (1, .int (nI c)), (2, .int b), (3, .ref w)] []
  refine V_aload_n (pc' := 1) 3 X dL_setColumn_0 rfl rfl rfl ?_
  refine V_iconst (pc' := 2) (nI 0) X dL_setColumn_1 ki_0 rfl ?_
  refine V_aload_n (pc' := 3) 0 X dL_setColumn_2 rfl rfl rfl ?_
  refine V_iload_n (pc' := 4) 1 X dL_setColumn_3 rfl rfl rfl ?_
  refine V_iload_n (pc' := 5) 2 X dL_setColumn_4 rfl rfl rfl ?_
  refine V_callXV (pc' := 8) (As := [.int (nI c), .int b]) (st := [.int (nI 0), .ref w]) 5 0 [0] [1] (show (List.range 2).Perm ([0] ++ [1]) by decide) X (c_X5_setColumn_b2 l G x (r 0) (p 0) q a S h c hc b hx) rfl gL_setColumn_X5_setColumn rfl (by decide) rfl rfl rfl (Nat.le_of_ble_eq_true rfl) ⟨Nat.le_of_ble_eq_true rfl, Nat.le_of_ble_eq_true rfl⟩ ⟨Nat.le_of_ble_eq_true rfl, Nat.le_of_ble_eq_true rfl⟩ dL_setColumn_5 rfl (fun v_ u_ hp_ => ?_) (fun Ex_ u_ hp_ => ?_)
  · exact hp_.elim
  · obtain ⟨rfl, rfl⟩ := hp_
    refine VX_catch (name := xA) (pc' := 17) [⟨0, 10, 13, 13⟩] ⟨0, 10, 17, 19⟩ [] X htb (fun z hz => Or.inr (by rw [List.mem_singleton.mp hz]; exact ⟨by decide, xI, by decide +kernel, X.2.1.2.2.2.1.1⟩)) (by decide) (by decide) (by decide +kernel) X.2.1.2.2.1.2.1 rfl (fun q_1 => ?_)
    show V E G A 5 [OU G w fo, XB x (a 0) (r 0) (p 0) (h 0) q] 1 6 Q 17 [(0, .ref x), (1, .int (nI c)), (2, .int b), (3, .ref w)] [.ref q_1]
    refine V_astore (pc' := 19) [(0, .ref x), (1, .int (nI c)), (2, .int b), (3, .ref w), (4, .ref q_1)] [1, 2, 3, 4, 0] X dL_setColumn_17 (Nat.le_of_ble_eq_true rfl) rfl rfl ?_
    refine V_iconst (pc' := 20) (nI 2) X dL_setColumn_19 ki_2 rfl ?_
    refine V_ord [1, 0] [XB x (a 0) (r 0) (p 0) (h 0) q, OU G w fo] (show (List.range 2).Perm [1, 0] by decide) rfl ?_
    exact V_ireturn (v := nI 2) [XB x (a 0) (r 0) (p 0) (h 0) q, OU G w fo] hQ X hrt rfl dL_setColumn_20 (Nat.le_of_ble_eq_true rfl) (Nat.le_of_ble_eq_true rfl) (List.Perm.refl _) ⟨rfl, rfl⟩

set_option maxHeartbeats 4000000 in
set_option maxRecDepth 100000 in
theorem c_L_setTempo_b1 (l : Launch) (G : gT) (x q w : Nat) (a S r H g p f h : Nat → Nat) (n kn : Nat) (d T : Nat → Nat → Nat) (fo : Nat → Int64) (c b : Int32) (hx : ¬ okr 0 3 c) : CW l G yL_setTempo wsL_setTempo [(0, 10, 13, 13), (0, 10, 17, 19)] 8 137 4 [.ref x, .int c, .int b, .ref w] [XB x (a 0) (r 0) (p 0) (h 0) q, OU G w fo] 1 6 (fun rv u => rv = some (.int (nI 1)) ∧ u = [XB x (a 0) (r 0) (p 0) (h 0) q, OU G w fo]) := by
  refine CW_of RL 7 113 rfl rfl (by decide) (by decide +kernel) (Nat.le_of_ble_eq_true rfl) (fun E A X hrt htb => ?_)
  generalize hQ : QM E G A _ _ _ = Q
  show V E G A 5 [XB x (a 0) (r 0) (p 0) (h 0) q, OU G w fo] 0 0 Q 0 [(0, .ref x), (1, .int c), (2, .int b), (3, .ref w)] []
  refine V_aload_n (pc' := 1) 3 X dL_setTempo_0 rfl rfl rfl ?_
  refine V_iconst (pc' := 2) (nI 0) X dL_setTempo_1 ki_0 rfl ?_
  refine V_aload_n (pc' := 3) 0 X dL_setTempo_2 rfl rfl rfl ?_
  refine V_iload_n (pc' := 4) 1 X dL_setTempo_3 rfl rfl rfl ?_
  refine V_iload_n (pc' := 5) 2 X dL_setTempo_4 rfl rfl rfl ?_
  refine V_callXV (pc' := 8) (As := [.int c, .int b]) (st := [.int (nI 0), .ref w]) 5 0 [0] [1] (show (List.range 2).Perm ([0] ++ [1]) by decide) X (c_X5_setTempo_b1 l G x (r 0) (p 0) q a S h c b hx) rfl gL_setTempo_X5_setTempo rfl (by decide) rfl rfl rfl (Nat.le_of_ble_eq_true rfl) ⟨Nat.le_of_ble_eq_true rfl, Nat.le_of_ble_eq_true rfl⟩ ⟨Nat.le_of_ble_eq_true rfl, Nat.le_of_ble_eq_true rfl⟩ dL_setTempo_5 rfl (fun v_ u_ hp_ => ?_) (fun Ex_ u_ hp_ => ?_)
  · exact hp_.elim
  · obtain ⟨rfl, rfl⟩ := hp_
    refine VX_catch (name := xI) (pc' := 13) [] ⟨0, 10, 13, 13⟩ [⟨0, 10, 17, 19⟩] X htb (fun z hz => absurd hz List.not_mem_nil) (by decide) (by decide) (by decide +kernel) X.2.1.2.2.1.1 rfl (fun q_1 => ?_)
    show V E G A 5 [OU G w fo, XB x (a 0) (r 0) (p 0) (h 0) q] 1 6 Q 13 [(0, .ref x), (1, .int c), (2, .int b), (3, .ref w)] [.ref q_1]
    refine V_astore (pc' := 15) [(0, .ref x), (1, .int c), (2, .int b), (3, .ref w), (4, .ref q_1)] [1, 2, 3, 4, 0] X dL_setTempo_13 (Nat.le_of_ble_eq_true rfl) rfl rfl ?_
    refine V_iconst (pc' := 16) (nI 1) X dL_setTempo_15 ki_1 rfl ?_
    refine V_ord [1, 0] [XB x (a 0) (r 0) (p 0) (h 0) q, OU G w fo] (show (List.range 2).Perm [1, 0] by decide) rfl ?_
    exact V_ireturn (v := nI 1) [XB x (a 0) (r 0) (p 0) (h 0) q, OU G w fo] hQ X hrt rfl dL_setTempo_16 (Nat.le_of_ble_eq_true rfl) (Nat.le_of_ble_eq_true rfl) (List.Perm.refl _) ⟨rfl, rfl⟩

set_option maxHeartbeats 4000000 in
set_option maxRecDepth 100000 in
theorem c_L_setTempo_b2 (l : Launch) (G : gT) (x q w : Nat) (a S r H g p f h : Nat → Nat) (n kn : Nat) (d T : Nat → Nat → Nat) (fo : Nat → Int64) (c : Nat) (hc : c < 4) (b : Int32) (hx : ¬ okr 1 9 b) : CW l G yL_setTempo wsL_setTempo [(0, 10, 13, 13), (0, 10, 17, 19)] 8 137 4 [.ref x, .int (nI c), .int b, .ref w] [XB x (a 0) (r 0) (p 0) (h 0) q, OU G w fo] 1 6 (fun rv u => rv = some (.int (nI 2)) ∧ u = [XB x (a 0) (r 0) (p 0) (h 0) q, OU G w fo]) := by
  refine CW_of RL 7 113 rfl rfl (by decide) (by decide +kernel) (Nat.le_of_ble_eq_true rfl) (fun E A X hrt htb => ?_)
  generalize hQ : QM E G A _ _ _ = Q
  show V E G A 5 [XB x (a 0) (r 0) (p 0) (h 0) q, OU G w fo] 0 0 Q 0 [(0, .ref x), (1, .int (nI c)), (2, .int b), (3, .ref w)] []
  refine V_aload_n (pc' := 1) 3 X dL_setTempo_0 rfl rfl rfl ?_
  refine V_iconst (pc' := 2) (nI 0) X dL_setTempo_1 ki_0 rfl ?_
  refine V_aload_n (pc' := 3) 0 X dL_setTempo_2 rfl rfl rfl ?_
  refine V_iload_n (pc' := 4) 1 X dL_setTempo_3 rfl rfl rfl ?_
  refine V_iload_n (pc' := 5) 2 X dL_setTempo_4 rfl rfl rfl ?_
  refine V_callXV (pc' := 8) (As := [.int (nI c), .int b]) (st := [.int (nI 0), .ref w]) 5 0 [0] [1] (show (List.range 2).Perm ([0] ++ [1]) by decide) X (c_X5_setTempo_b2 l G x (r 0) (p 0) q a S h c hc b hx) rfl gL_setTempo_X5_setTempo rfl (by decide) rfl rfl rfl (Nat.le_of_ble_eq_true rfl) ⟨Nat.le_of_ble_eq_true rfl, Nat.le_of_ble_eq_true rfl⟩ ⟨Nat.le_of_ble_eq_true rfl, Nat.le_of_ble_eq_true rfl⟩ dL_setTempo_5 rfl (fun v_ u_ hp_ => ?_) (fun Ex_ u_ hp_ => ?_)
  · exact hp_.elim
  · obtain ⟨rfl, rfl⟩ := hp_
    refine VX_catch (name := xA) (pc' := 17) [⟨0, 10, 13, 13⟩] ⟨0, 10, 17, 19⟩ [] X htb (fun z hz => Or.inr (by rw [List.mem_singleton.mp hz]; exact ⟨by decide, xI, by decide +kernel, X.2.1.2.2.2.1.1⟩)) (by decide) (by decide) (by decide +kernel) X.2.1.2.2.1.2.1 rfl (fun q_1 => ?_)
    show V E G A 5 [OU G w fo, XB x (a 0) (r 0) (p 0) (h 0) q] 1 6 Q 17 [(0, .ref x), (1, .int (nI c)), (2, .int b), (3, .ref w)] [.ref q_1]
    refine V_astore (pc' := 19) [(0, .ref x), (1, .int (nI c)), (2, .int b), (3, .ref w), (4, .ref q_1)] [1, 2, 3, 4, 0] X dL_setTempo_17 (Nat.le_of_ble_eq_true rfl) rfl rfl ?_
    refine V_iconst (pc' := 20) (nI 2) X dL_setTempo_19 ki_2 rfl ?_
    refine V_ord [1, 0] [XB x (a 0) (r 0) (p 0) (h 0) q, OU G w fo] (show (List.range 2).Perm [1, 0] by decide) rfl ?_
    exact V_ireturn (v := nI 2) [XB x (a 0) (r 0) (p 0) (h 0) q, OU G w fo] hQ X hrt rfl dL_setTempo_20 (Nat.le_of_ble_eq_true rfl) (Nat.le_of_ble_eq_true rfl) (List.Perm.refl _) ⟨rfl, rfl⟩

set_option maxHeartbeats 4000000 in
set_option maxRecDepth 100000 in
theorem c_L_setWeight_b1 (l : Launch) (G : gT) (x q w : Nat) (a S r H g p f h : Nat → Nat) (n kn : Nat) (d T : Nat → Nat → Nat) (fo : Nat → Int64) (c b : Int32) (hx : ¬ okr 0 9 c) : CW l G yL_setWeight wsL_setWeight [(0, 10, 13, 13), (0, 10, 17, 19)] 8 137 4 [.ref x, .int c, .int b, .ref w] [XB x (a 0) (r 0) (p 0) (h 0) q, OU G w fo] 1 6 (fun rv u => rv = some (.int (nI 1)) ∧ u = [XB x (a 0) (r 0) (p 0) (h 0) q, OU G w fo]) := by
  refine CW_of RL 7 113 rfl rfl (by decide) (by decide +kernel) (Nat.le_of_ble_eq_true rfl) (fun E A X hrt htb => ?_)
  generalize hQ : QM E G A _ _ _ = Q
  show V E G A 5 [XB x (a 0) (r 0) (p 0) (h 0) q, OU G w fo] 0 0 Q 0 [(0, .ref x), (1, .int c), (2, .int b), (3, .ref w)] []
  refine V_aload_n (pc' := 1) 3 X dL_setWeight_0 rfl rfl rfl ?_
  refine V_iconst (pc' := 2) (nI 0) X dL_setWeight_1 ki_0 rfl ?_
  refine V_aload_n (pc' := 3) 0 X dL_setWeight_2 rfl rfl rfl ?_
  refine V_iload_n (pc' := 4) 1 X dL_setWeight_3 rfl rfl rfl ?_
  refine V_iload_n (pc' := 5) 2 X dL_setWeight_4 rfl rfl rfl ?_
  refine V_callXV (pc' := 8) (As := [.int c, .int b]) (st := [.int (nI 0), .ref w]) 5 0 [0] [1] (show (List.range 2).Perm ([0] ++ [1]) by decide) X (c_X5_setWeight_b1 l G x (r 0) (p 0) q a S h c b hx) rfl gL_setWeight_X5_setWeight rfl (by decide) rfl rfl rfl (Nat.le_of_ble_eq_true rfl) ⟨Nat.le_of_ble_eq_true rfl, Nat.le_of_ble_eq_true rfl⟩ ⟨Nat.le_of_ble_eq_true rfl, Nat.le_of_ble_eq_true rfl⟩ dL_setWeight_5 rfl (fun v_ u_ hp_ => ?_) (fun Ex_ u_ hp_ => ?_)
  · exact hp_.elim
  · obtain ⟨rfl, rfl⟩ := hp_
    refine VX_catch (name := xI) (pc' := 13) [] ⟨0, 10, 13, 13⟩ [⟨0, 10, 17, 19⟩] X htb (fun z hz => absurd hz List.not_mem_nil) (by decide) (by decide) (by decide +kernel) X.2.1.2.2.1.1 rfl (fun q_1 => ?_)
    show V E G A 5 [OU G w fo, XB x (a 0) (r 0) (p 0) (h 0) q] 1 6 Q 13 [(0, .ref x), (1, .int c), (2, .int b), (3, .ref w)] [.ref q_1]
    refine V_astore (pc' := 15) [(0, .ref x), (1, .int c), (2, .int b), (3, .ref w), (4, .ref q_1)] [1, 2, 3, 4, 0] X dL_setWeight_13 (Nat.le_of_ble_eq_true rfl) rfl rfl ?_
    refine V_iconst (pc' := 16) (nI 1) X dL_setWeight_15 ki_1 rfl ?_
    refine V_ord [1, 0] [XB x (a 0) (r 0) (p 0) (h 0) q, OU G w fo] (show (List.range 2).Perm [1, 0] by decide) rfl ?_
    exact V_ireturn (v := nI 1) [XB x (a 0) (r 0) (p 0) (h 0) q, OU G w fo] hQ X hrt rfl dL_setWeight_16 (Nat.le_of_ble_eq_true rfl) (Nat.le_of_ble_eq_true rfl) (List.Perm.refl _) ⟨rfl, rfl⟩

set_option maxHeartbeats 4000000 in
set_option maxRecDepth 100000 in
theorem c_L_setWeight_b2 (l : Launch) (G : gT) (x q w : Nat) (a S r H g p f h : Nat → Nat) (n kn : Nat) (d T : Nat → Nat → Nat) (fo : Nat → Int64) (c : Nat) (hc : c < 10) (b : Int32) (hx : ¬ okr 1 60 b) : CW l G yL_setWeight wsL_setWeight [(0, 10, 13, 13), (0, 10, 17, 19)] 8 137 4 [.ref x, .int (nI c), .int b, .ref w] [XB x (a 0) (r 0) (p 0) (h 0) q, OU G w fo] 1 6 (fun rv u => rv = some (.int (nI 2)) ∧ u = [XB x (a 0) (r 0) (p 0) (h 0) q, OU G w fo]) := by
  refine CW_of RL 7 113 rfl rfl (by decide) (by decide +kernel) (Nat.le_of_ble_eq_true rfl) (fun E A X hrt htb => ?_)
  generalize hQ : QM E G A _ _ _ = Q
  show V E G A 5 [XB x (a 0) (r 0) (p 0) (h 0) q, OU G w fo] 0 0 Q 0 [(0, .ref x), (1, .int (nI c)), (2, .int b), (3, .ref w)] []
  refine V_aload_n (pc' := 1) 3 X dL_setWeight_0 rfl rfl rfl ?_
  refine V_iconst (pc' := 2) (nI 0) X dL_setWeight_1 ki_0 rfl ?_
  refine V_aload_n (pc' := 3) 0 X dL_setWeight_2 rfl rfl rfl ?_
  refine V_iload_n (pc' := 4) 1 X dL_setWeight_3 rfl rfl rfl ?_
  refine V_iload_n (pc' := 5) 2 X dL_setWeight_4 rfl rfl rfl ?_
  refine V_callXV (pc' := 8) (As := [.int (nI c), .int b]) (st := [.int (nI 0), .ref w]) 5 0 [0] [1] (show (List.range 2).Perm ([0] ++ [1]) by decide) X (c_X5_setWeight_b2 l G x (r 0) (p 0) q a S h c hc b hx) rfl gL_setWeight_X5_setWeight rfl (by decide) rfl rfl rfl (Nat.le_of_ble_eq_true rfl) ⟨Nat.le_of_ble_eq_true rfl, Nat.le_of_ble_eq_true rfl⟩ ⟨Nat.le_of_ble_eq_true rfl, Nat.le_of_ble_eq_true rfl⟩ dL_setWeight_5 rfl (fun v_ u_ hp_ => ?_) (fun Ex_ u_ hp_ => ?_)
  · exact hp_.elim
  · obtain ⟨rfl, rfl⟩ := hp_
    refine VX_catch (name := xA) (pc' := 17) [⟨0, 10, 13, 13⟩] ⟨0, 10, 17, 19⟩ [] X htb (fun z hz => Or.inr (by rw [List.mem_singleton.mp hz]; exact ⟨by decide, xI, by decide +kernel, X.2.1.2.2.2.1.1⟩)) (by decide) (by decide) (by decide +kernel) X.2.1.2.2.1.2.1 rfl (fun q_1 => ?_)
    show V E G A 5 [OU G w fo, XB x (a 0) (r 0) (p 0) (h 0) q] 1 6 Q 17 [(0, .ref x), (1, .int (nI c)), (2, .int b), (3, .ref w)] [.ref q_1]
    refine V_astore (pc' := 19) [(0, .ref x), (1, .int (nI c)), (2, .int b), (3, .ref w), (4, .ref q_1)] [1, 2, 3, 4, 0] X dL_setWeight_17 (Nat.le_of_ble_eq_true rfl) rfl rfl ?_
    refine V_iconst (pc' := 20) (nI 2) X dL_setWeight_19 ki_2 rfl ?_
    refine V_ord [1, 0] [XB x (a 0) (r 0) (p 0) (h 0) q, OU G w fo] (show (List.range 2).Perm [1, 0] by decide) rfl ?_
    exact V_ireturn (v := nI 2) [XB x (a 0) (r 0) (p 0) (h 0) q, OU G w fo] hQ X hrt rfl dL_setWeight_20 (Nat.le_of_ble_eq_true rfl) (Nat.le_of_ble_eq_true rfl) (List.Perm.refl _) ⟨rfl, rfl⟩

set_option maxHeartbeats 4000000 in
set_option maxRecDepth 100000 in
theorem c_L_setBound_b1 (l : Launch) (G : gT) (x q w : Nat) (a S r H g p f h : Nat → Nat) (n kn : Nat) (d T : Nat → Nat → Nat) (fo : Nat → Int64) (b : Int32) (hx : ¬ okr 1 300 b) : CW l G yL_setBound wsL_setBound [(0, 9, 12, 19)] 8 135 3 [.ref x, .int b, .ref w] [XB x (a 0) (r 0) (p 0) (h 0) q, OU G w fo] 1 6 (fun rv u => rv = some (.int (nI 1)) ∧ u = [XB x (a 0) (r 0) (p 0) (h 0) q, OU G w fo]) := by
  refine CW_of RL 7 112 rfl rfl (by decide) (by decide +kernel) (Nat.le_of_ble_eq_true rfl) (fun E A X hrt htb => ?_)
  generalize hQ : QM E G A _ _ _ = Q
  show V E G A 4 [XB x (a 0) (r 0) (p 0) (h 0) q, OU G w fo] 0 0 Q 0 [(0, .ref x), (1, .int b), (2, .ref w)] []
  refine V_aload_n (pc' := 1) 2 X dL_setBound_0 rfl rfl rfl ?_
  refine V_iconst (pc' := 2) (nI 0) X dL_setBound_1 ki_0 rfl ?_
  refine V_aload_n (pc' := 3) 0 X dL_setBound_2 rfl rfl rfl ?_
  refine V_iload_n (pc' := 4) 1 X dL_setBound_3 rfl rfl rfl ?_
  refine V_callXV (pc' := 7) (As := [.int b]) (st := [.int (nI 0), .ref w]) 5 0 [0] [1] (show (List.range 2).Perm ([0] ++ [1]) by decide) X (c_X5_setBound_b1 l G x (r 0) (p 0) q a S h b hx) rfl gL_setBound_X5_setBound rfl (by decide) rfl rfl rfl (Nat.le_of_ble_eq_true rfl) ⟨Nat.le_of_ble_eq_true rfl, Nat.le_of_ble_eq_true rfl⟩ ⟨Nat.le_of_ble_eq_true rfl, Nat.le_of_ble_eq_true rfl⟩ dL_setBound_4 rfl (fun v_ u_ hp_ => ?_) (fun Ex_ u_ hp_ => ?_)
  · exact hp_.elim
  · obtain ⟨rfl, rfl⟩ := hp_
    refine VX_catch (name := xA) (pc' := 12) [] ⟨0, 9, 12, 19⟩ [] X htb (fun z hz => absurd hz List.not_mem_nil) (by decide) (by decide) (by decide +kernel) X.2.1.2.2.1.2.1 rfl (fun q_1 => ?_)
    show V E G A 4 [OU G w fo, XB x (a 0) (r 0) (p 0) (h 0) q] 1 6 Q 12 [(0, .ref x), (1, .int b), (2, .ref w)] [.ref q_1]
    refine V_astore_n (pc' := 13) [(0, .ref x), (1, .int b), (2, .ref w), (3, .ref q_1)] [1, 2, 3, 0] X dL_setBound_12 rfl (Nat.le_of_ble_eq_true rfl) rfl rfl ?_
    refine V_iconst (pc' := 14) (nI 1) X dL_setBound_13 ki_1 rfl ?_
    refine V_ord [1, 0] [XB x (a 0) (r 0) (p 0) (h 0) q, OU G w fo] (show (List.range 2).Perm [1, 0] by decide) rfl ?_
    exact V_ireturn (v := nI 1) [XB x (a 0) (r 0) (p 0) (h 0) q, OU G w fo] hQ X hrt rfl dL_setBound_14 (Nat.le_of_ble_eq_true rfl) (Nat.le_of_ble_eq_true rfl) (List.Perm.refl _) ⟨rfl, rfl⟩

set_option maxHeartbeats 4000000 in
set_option maxRecDepth 100000 in
theorem c_L_move_b1 (l : Launch) (G : gT) (x q w : Nat) (a S r H g p f h : Nat → Nat) (n kn : Nat) (d T : Nat → Nat → Nat) (fo : Nat → Int64) (b : Int32) (hx : ¬ okr 1 31 b) : CW l G yL_move wsL_move [(0, 9, 12, 19)] 8 136 3 [.ref x, .int b, .ref w] [XB x (a 0) (r 0) (p 0) (h 0) q, OU G w fo] 1 6 (fun rv u => rv = some (.int (nI 1)) ∧ u = [XB x (a 0) (r 0) (p 0) (h 0) q, OU G w fo]) := by
  refine CW_of RL 7 113 rfl rfl (by decide) (by decide +kernel) (Nat.le_of_ble_eq_true rfl) (fun E A X hrt htb => ?_)
  generalize hQ : QM E G A _ _ _ = Q
  show V E G A 4 [XB x (a 0) (r 0) (p 0) (h 0) q, OU G w fo] 0 0 Q 0 [(0, .ref x), (1, .int b), (2, .ref w)] []
  refine V_aload_n (pc' := 1) 2 X dL_move_0 rfl rfl rfl ?_
  refine V_iconst (pc' := 2) (nI 0) X dL_move_1 ki_0 rfl ?_
  refine V_aload_n (pc' := 3) 0 X dL_move_2 rfl rfl rfl ?_
  refine V_iload_n (pc' := 4) 1 X dL_move_3 rfl rfl rfl ?_
  refine V_callXV (pc' := 7) (As := [.int b]) (st := [.int (nI 0), .ref w]) 5 0 [0] [1] (show (List.range 2).Perm ([0] ++ [1]) by decide) X (c_X5_move_b1 l G x (r 0) (p 0) q a S h b hx) rfl gL_move_X5_move rfl (by decide) rfl rfl rfl (Nat.le_of_ble_eq_true rfl) ⟨Nat.le_of_ble_eq_true rfl, Nat.le_of_ble_eq_true rfl⟩ ⟨Nat.le_of_ble_eq_true rfl, Nat.le_of_ble_eq_true rfl⟩ dL_move_4 rfl (fun v_ u_ hp_ => ?_) (fun Ex_ u_ hp_ => ?_)
  · exact hp_.elim
  · obtain ⟨rfl, rfl⟩ := hp_
    refine VX_catch (name := xA) (pc' := 12) [] ⟨0, 9, 12, 19⟩ [] X htb (fun z hz => absurd hz List.not_mem_nil) (by decide) (by decide) (by decide +kernel) X.2.1.2.2.1.2.1 rfl (fun q_1 => ?_)
    show V E G A 4 [OU G w fo, XB x (a 0) (r 0) (p 0) (h 0) q] 1 6 Q 12 [(0, .ref x), (1, .int b), (2, .ref w)] [.ref q_1]
    refine V_astore_n (pc' := 13) [(0, .ref x), (1, .int b), (2, .ref w), (3, .ref q_1)] [1, 2, 3, 0] X dL_move_12 rfl (Nat.le_of_ble_eq_true rfl) rfl rfl ?_
    refine V_iconst (pc' := 14) (nI 1) X dL_move_13 ki_1 rfl ?_
    refine V_ord [1, 0] [XB x (a 0) (r 0) (p 0) (h 0) q, OU G w fo] (show (List.range 2).Perm [1, 0] by decide) rfl ?_
    exact V_ireturn (v := nI 1) [XB x (a 0) (r 0) (p 0) (h 0) q, OU G w fo] hQ X hrt rfl dL_move_14 (Nat.le_of_ble_eq_true rfl) (Nat.le_of_ble_eq_true rfl) (List.Perm.refl _) ⟨rfl, rfl⟩

set_option maxHeartbeats 4000000 in
set_option maxRecDepth 100000 in
theorem c_L_crank_b1 (l : Launch) (G : gT) (x q w : Nat) (a S r H g p f h : Nat → Nat) (n kn : Nat) (d T : Nat → Nat → Nat) (fo : Nat → Int64) (b : Int32) (hx : ¬ okr 1 200 b) : CW l G yL_crank wsL_crank [(0, 9, 12, 19)] 8 134 3 [.ref x, .int b, .ref w] [XB x (a 0) (r 0) (p 0) (h 0) q, OU G w fo] 1 6 (fun rv u => rv = some (.int (nI 1)) ∧ u = [XB x (a 0) (r 0) (p 0) (h 0) q, OU G w fo]) := by
  refine CW_of RL 7 111 rfl rfl (by decide) (by decide +kernel) (Nat.le_of_ble_eq_true rfl) (fun E A X hrt htb => ?_)
  generalize hQ : QM E G A _ _ _ = Q
  show V E G A 4 [XB x (a 0) (r 0) (p 0) (h 0) q, OU G w fo] 0 0 Q 0 [(0, .ref x), (1, .int b), (2, .ref w)] []
  refine V_aload_n (pc' := 1) 2 X dL_crank_0 rfl rfl rfl ?_
  refine V_iconst (pc' := 2) (nI 0) X dL_crank_1 ki_0 rfl ?_
  refine V_aload_n (pc' := 3) 0 X dL_crank_2 rfl rfl rfl ?_
  refine V_iload_n (pc' := 4) 1 X dL_crank_3 rfl rfl rfl ?_
  refine V_callXV (pc' := 7) (As := [.int b]) (st := [.int (nI 0), .ref w]) 5 0 [0] [1] (show (List.range 2).Perm ([0] ++ [1]) by decide) X (c_X5_crank_b1 l G x (r 0) (p 0) q a S h b hx) rfl gL_crank_X5_crank rfl (by decide) rfl rfl rfl (Nat.le_of_ble_eq_true rfl) ⟨Nat.le_of_ble_eq_true rfl, Nat.le_of_ble_eq_true rfl⟩ ⟨Nat.le_of_ble_eq_true rfl, Nat.le_of_ble_eq_true rfl⟩ dL_crank_4 rfl (fun v_ u_ hp_ => ?_) (fun Ex_ u_ hp_ => ?_)
  · exact hp_.elim
  · obtain ⟨rfl, rfl⟩ := hp_
    refine VX_catch (name := xA) (pc' := 12) [] ⟨0, 9, 12, 19⟩ [] X htb (fun z hz => absurd hz List.not_mem_nil) (by decide) (by decide) (by decide +kernel) X.2.1.2.2.1.2.1 rfl (fun q_1 => ?_)
    show V E G A 4 [OU G w fo, XB x (a 0) (r 0) (p 0) (h 0) q] 1 6 Q 12 [(0, .ref x), (1, .int b), (2, .ref w)] [.ref q_1]
    refine V_astore_n (pc' := 13) [(0, .ref x), (1, .int b), (2, .ref w), (3, .ref q_1)] [1, 2, 3, 0] X dL_crank_12 rfl (Nat.le_of_ble_eq_true rfl) rfl rfl ?_
    refine V_iconst (pc' := 14) (nI 1) X dL_crank_13 ki_1 rfl ?_
    refine V_ord [1, 0] [XB x (a 0) (r 0) (p 0) (h 0) q, OU G w fo] (show (List.range 2).Perm [1, 0] by decide) rfl ?_
    exact V_ireturn (v := nI 1) [XB x (a 0) (r 0) (p 0) (h 0) q, OU G w fo] hQ X hrt rfl dL_crank_14 (Nat.le_of_ble_eq_true rfl) (Nat.le_of_ble_eq_true rfl) (List.Perm.refl _) ⟨rfl, rfl⟩

set_option maxHeartbeats 4000000 in
set_option maxRecDepth 100000 in
theorem c_L_pegsIn_b1 (l : Launch) (G : gT) (x q w : Nat) (a S r H g p f h : Nat → Nat) (n kn : Nat) (d T : Nat → Nat → Nat) (fo : Nat → Int64) (b : Int32) (hx : ¬ okr 0 31 b) : CW l G yL_pegsIn wsL_pegsIn [(0, 9, 12, 13)] 8 134 3 [.ref x, .int b, .ref w] [XB x (a 0) (r 0) (p 0) (h 0) q, OU G w fo] 1 6 (fun rv u => rv = some (.int (nI 1)) ∧ u = [XB x (a 0) (r 0) (p 0) (h 0) q, OU G w fo]) := by
  refine CW_of RL 7 111 rfl rfl (by decide) (by decide +kernel) (Nat.le_of_ble_eq_true rfl) (fun E A X hrt htb => ?_)
  generalize hQ : QM E G A _ _ _ = Q
  show V E G A 4 [XB x (a 0) (r 0) (p 0) (h 0) q, OU G w fo] 0 0 Q 0 [(0, .ref x), (1, .int b), (2, .ref w)] []
  refine V_aload_n (pc' := 1) 2 X dL_pegsIn_0 rfl rfl rfl ?_
  refine V_iconst (pc' := 2) (nI 0) X dL_pegsIn_1 ki_0 rfl ?_
  refine V_aload_n (pc' := 3) 0 X dL_pegsIn_2 rfl rfl rfl ?_
  refine V_iload_n (pc' := 4) 1 X dL_pegsIn_3 rfl rfl rfl ?_
  refine V_callXV (pc' := 7) (As := [.int b]) (st := [.int (nI 0), .ref w]) 5 0 [0] [1] (show (List.range 2).Perm ([0] ++ [1]) by decide) X (c_X5_pegsIn_b1 l G x (r 0) (p 0) q a S h b hx) rfl gL_pegsIn_X5_pegsIn rfl (by decide) rfl rfl rfl (Nat.le_of_ble_eq_true rfl) ⟨Nat.le_of_ble_eq_true rfl, Nat.le_of_ble_eq_true rfl⟩ ⟨Nat.le_of_ble_eq_true rfl, Nat.le_of_ble_eq_true rfl⟩ dL_pegsIn_4 rfl (fun v_ u_ hp_ => ?_) (fun Ex_ u_ hp_ => ?_)
  · exact hp_.elim
  · obtain ⟨rfl, rfl⟩ := hp_
    refine VX_catch (name := xI) (pc' := 12) [] ⟨0, 9, 12, 13⟩ [] X htb (fun z hz => absurd hz List.not_mem_nil) (by decide) (by decide) (by decide +kernel) X.2.1.2.2.1.1 rfl (fun q_1 => ?_)
    show V E G A 4 [OU G w fo, XB x (a 0) (r 0) (p 0) (h 0) q] 1 6 Q 12 [(0, .ref x), (1, .int b), (2, .ref w)] [.ref q_1]
    refine V_astore_n (pc' := 13) [(0, .ref x), (1, .int b), (2, .ref w), (3, .ref q_1)] [1, 2, 3, 0] X dL_pegsIn_12 rfl (Nat.le_of_ble_eq_true rfl) rfl rfl ?_
    refine V_iconst (pc' := 14) (nI 1) X dL_pegsIn_13 ki_1 rfl ?_
    refine V_ord [1, 0] [XB x (a 0) (r 0) (p 0) (h 0) q, OU G w fo] (show (List.range 2).Perm [1, 0] by decide) rfl ?_
    exact V_ireturn (v := nI 1) [XB x (a 0) (r 0) (p 0) (h 0) q, OU G w fo] hQ X hrt rfl dL_pegsIn_14 (Nat.le_of_ble_eq_true rfl) (Nat.le_of_ble_eq_true rfl) (List.Perm.refl _) ⟨rfl, rfl⟩

set_option maxHeartbeats 4000000 in
set_option maxRecDepth 100000 in
theorem c_L_tempoOf_b1 (l : Launch) (G : gT) (x q w : Nat) (a S r H g p f h : Nat → Nat) (n kn : Nat) (d T : Nat → Nat → Nat) (fo : Nat → Int64) (b : Int32) (hx : ¬ okr 0 3 b) : CW l G yL_tempoOf wsL_tempoOf [(0, 9, 12, 13)] 8 134 3 [.ref x, .int b, .ref w] [XB x (a 0) (r 0) (p 0) (h 0) q, OU G w fo] 1 6 (fun rv u => rv = some (.int (nI 1)) ∧ u = [XB x (a 0) (r 0) (p 0) (h 0) q, OU G w fo]) := by
  refine CW_of RL 7 111 rfl rfl (by decide) (by decide +kernel) (Nat.le_of_ble_eq_true rfl) (fun E A X hrt htb => ?_)
  generalize hQ : QM E G A _ _ _ = Q
  show V E G A 4 [XB x (a 0) (r 0) (p 0) (h 0) q, OU G w fo] 0 0 Q 0 [(0, .ref x), (1, .int b), (2, .ref w)] []
  refine V_aload_n (pc' := 1) 2 X dL_tempoOf_0 rfl rfl rfl ?_
  refine V_iconst (pc' := 2) (nI 0) X dL_tempoOf_1 ki_0 rfl ?_
  refine V_aload_n (pc' := 3) 0 X dL_tempoOf_2 rfl rfl rfl ?_
  refine V_iload_n (pc' := 4) 1 X dL_tempoOf_3 rfl rfl rfl ?_
  refine V_callXV (pc' := 7) (As := [.int b]) (st := [.int (nI 0), .ref w]) 5 0 [0] [1] (show (List.range 2).Perm ([0] ++ [1]) by decide) X (c_X5_tempoOf_b1 l G x (r 0) (p 0) q a S h b hx) rfl gL_tempoOf_X5_tempoOf rfl (by decide) rfl rfl rfl (Nat.le_of_ble_eq_true rfl) ⟨Nat.le_of_ble_eq_true rfl, Nat.le_of_ble_eq_true rfl⟩ ⟨Nat.le_of_ble_eq_true rfl, Nat.le_of_ble_eq_true rfl⟩ dL_tempoOf_4 rfl (fun v_ u_ hp_ => ?_) (fun Ex_ u_ hp_ => ?_)
  · exact hp_.elim
  · obtain ⟨rfl, rfl⟩ := hp_
    refine VX_catch (name := xI) (pc' := 12) [] ⟨0, 9, 12, 13⟩ [] X htb (fun z hz => absurd hz List.not_mem_nil) (by decide) (by decide) (by decide +kernel) X.2.1.2.2.1.1 rfl (fun q_1 => ?_)
    show V E G A 4 [OU G w fo, XB x (a 0) (r 0) (p 0) (h 0) q] 1 6 Q 12 [(0, .ref x), (1, .int b), (2, .ref w)] [.ref q_1]
    refine V_astore_n (pc' := 13) [(0, .ref x), (1, .int b), (2, .ref w), (3, .ref q_1)] [1, 2, 3, 0] X dL_tempoOf_12 rfl (Nat.le_of_ble_eq_true rfl) rfl rfl ?_
    refine V_iconst (pc' := 14) (nI 1) X dL_tempoOf_13 ki_1 rfl ?_
    refine V_ord [1, 0] [XB x (a 0) (r 0) (p 0) (h 0) q, OU G w fo] (show (List.range 2).Perm [1, 0] by decide) rfl ?_
    exact V_ireturn (v := nI 1) [XB x (a 0) (r 0) (p 0) (h 0) q, OU G w fo] hQ X hrt rfl dL_tempoOf_14 (Nat.le_of_ble_eq_true rfl) (Nat.le_of_ble_eq_true rfl) (List.Perm.refl _) ⟨rfl, rfl⟩

set_option maxHeartbeats 4000000 in
set_option maxRecDepth 100000 in
theorem c_L_weightOf_b1 (l : Launch) (G : gT) (x q w : Nat) (a S r H g p f h : Nat → Nat) (n kn : Nat) (d T : Nat → Nat → Nat) (fo : Nat → Int64) (b : Int32) (hx : ¬ okr 0 9 b) : CW l G yL_weightOf wsL_weightOf [(0, 9, 12, 13)] 8 134 3 [.ref x, .int b, .ref w] [XB x (a 0) (r 0) (p 0) (h 0) q, OU G w fo] 1 6 (fun rv u => rv = some (.int (nI 1)) ∧ u = [XB x (a 0) (r 0) (p 0) (h 0) q, OU G w fo]) := by
  refine CW_of RL 7 111 rfl rfl (by decide) (by decide +kernel) (Nat.le_of_ble_eq_true rfl) (fun E A X hrt htb => ?_)
  generalize hQ : QM E G A _ _ _ = Q
  show V E G A 4 [XB x (a 0) (r 0) (p 0) (h 0) q, OU G w fo] 0 0 Q 0 [(0, .ref x), (1, .int b), (2, .ref w)] []
  refine V_aload_n (pc' := 1) 2 X dL_weightOf_0 rfl rfl rfl ?_
  refine V_iconst (pc' := 2) (nI 0) X dL_weightOf_1 ki_0 rfl ?_
  refine V_aload_n (pc' := 3) 0 X dL_weightOf_2 rfl rfl rfl ?_
  refine V_iload_n (pc' := 4) 1 X dL_weightOf_3 rfl rfl rfl ?_
  refine V_callXV (pc' := 7) (As := [.int b]) (st := [.int (nI 0), .ref w]) 5 0 [0] [1] (show (List.range 2).Perm ([0] ++ [1]) by decide) X (c_X5_weightOf_b1 l G x (r 0) (p 0) q a S h b hx) rfl gL_weightOf_X5_weightOf rfl (by decide) rfl rfl rfl (Nat.le_of_ble_eq_true rfl) ⟨Nat.le_of_ble_eq_true rfl, Nat.le_of_ble_eq_true rfl⟩ ⟨Nat.le_of_ble_eq_true rfl, Nat.le_of_ble_eq_true rfl⟩ dL_weightOf_4 rfl (fun v_ u_ hp_ => ?_) (fun Ex_ u_ hp_ => ?_)
  · exact hp_.elim
  · obtain ⟨rfl, rfl⟩ := hp_
    refine VX_catch (name := xI) (pc' := 12) [] ⟨0, 9, 12, 13⟩ [] X htb (fun z hz => absurd hz List.not_mem_nil) (by decide) (by decide) (by decide +kernel) X.2.1.2.2.1.1 rfl (fun q_1 => ?_)
    show V E G A 4 [OU G w fo, XB x (a 0) (r 0) (p 0) (h 0) q] 1 6 Q 12 [(0, .ref x), (1, .int b), (2, .ref w)] [.ref q_1]
    refine V_astore_n (pc' := 13) [(0, .ref x), (1, .int b), (2, .ref w), (3, .ref q_1)] [1, 2, 3, 0] X dL_weightOf_12 rfl (Nat.le_of_ble_eq_true rfl) rfl rfl ?_
    refine V_iconst (pc' := 14) (nI 1) X dL_weightOf_13 ki_1 rfl ?_
    refine V_ord [1, 0] [XB x (a 0) (r 0) (p 0) (h 0) q, OU G w fo] (show (List.range 2).Perm [1, 0] by decide) rfl ?_
    exact V_ireturn (v := nI 1) [XB x (a 0) (r 0) (p 0) (h 0) q, OU G w fo] hQ X hrt rfl dL_weightOf_14 (Nat.le_of_ble_eq_true rfl) (Nat.le_of_ble_eq_true rfl) (List.Perm.refl _) ⟨rfl, rfl⟩

set_option maxHeartbeats 4000000 in
set_option maxRecDepth 100000 in
theorem c_L_heardOf_b1 (l : Launch) (G : gT) (x q w : Nat) (a S r H g p f h : Nat → Nat) (n kn : Nat) (d T : Nat → Nat → Nat) (fo : Nat → Int64) (b : Int32) (hx : ¬ okr 0 9 b) : CW l G yL_heardOf wsL_heardOf [(0, 9, 12, 13)] 8 134 3 [.ref x, .int b, .ref w] [XB x (a 0) (r 0) (p 0) (h 0) q, OU G w fo] 1 6 (fun rv u => rv = some (.int (nI 1)) ∧ u = [XB x (a 0) (r 0) (p 0) (h 0) q, OU G w fo]) := by
  refine CW_of RL 7 111 rfl rfl (by decide) (by decide +kernel) (Nat.le_of_ble_eq_true rfl) (fun E A X hrt htb => ?_)
  generalize hQ : QM E G A _ _ _ = Q
  show V E G A 4 [XB x (a 0) (r 0) (p 0) (h 0) q, OU G w fo] 0 0 Q 0 [(0, .ref x), (1, .int b), (2, .ref w)] []
  refine V_aload_n (pc' := 1) 2 X dL_heardOf_0 rfl rfl rfl ?_
  refine V_iconst (pc' := 2) (nI 0) X dL_heardOf_1 ki_0 rfl ?_
  refine V_aload_n (pc' := 3) 0 X dL_heardOf_2 rfl rfl rfl ?_
  refine V_iload_n (pc' := 4) 1 X dL_heardOf_3 rfl rfl rfl ?_
  refine V_callXV (pc' := 7) (As := [.int b]) (st := [.int (nI 0), .ref w]) 5 0 [0] [1] (show (List.range 2).Perm ([0] ++ [1]) by decide) X (c_X5_heardOf_b1 l G x (r 0) (p 0) q a S h b hx) rfl gL_heardOf_X5_heardOf rfl (by decide) rfl rfl rfl (Nat.le_of_ble_eq_true rfl) ⟨Nat.le_of_ble_eq_true rfl, Nat.le_of_ble_eq_true rfl⟩ ⟨Nat.le_of_ble_eq_true rfl, Nat.le_of_ble_eq_true rfl⟩ dL_heardOf_4 rfl (fun v_ u_ hp_ => ?_) (fun Ex_ u_ hp_ => ?_)
  · exact hp_.elim
  · obtain ⟨rfl, rfl⟩ := hp_
    refine VX_catch (name := xI) (pc' := 12) [] ⟨0, 9, 12, 13⟩ [] X htb (fun z hz => absurd hz List.not_mem_nil) (by decide) (by decide) (by decide +kernel) X.2.1.2.2.1.1 rfl (fun q_1 => ?_)
    show V E G A 4 [OU G w fo, XB x (a 0) (r 0) (p 0) (h 0) q] 1 6 Q 12 [(0, .ref x), (1, .int b), (2, .ref w)] [.ref q_1]
    refine V_astore_n (pc' := 13) [(0, .ref x), (1, .int b), (2, .ref w), (3, .ref q_1)] [1, 2, 3, 0] X dL_heardOf_12 rfl (Nat.le_of_ble_eq_true rfl) rfl rfl ?_
    refine V_iconst (pc' := 14) (nI 1) X dL_heardOf_13 ki_1 rfl ?_
    refine V_ord [1, 0] [XB x (a 0) (r 0) (p 0) (h 0) q, OU G w fo] (show (List.range 2).Perm [1, 0] by decide) rfl ?_
    exact V_ireturn (v := nI 1) [XB x (a 0) (r 0) (p 0) (h 0) q, OU G w fo] hQ X hrt rfl dL_heardOf_14 (Nat.le_of_ble_eq_true rfl) (Nat.le_of_ble_eq_true rfl) (List.Perm.refl _) ⟨rfl, rfl⟩

set_option maxHeartbeats 4000000 in
set_option maxRecDepth 100000 in
theorem c_L_whyMissed_b1 (l : Launch) (G : gT) (x q w : Nat) (a S r H g p f h : Nat → Nat) (n kn : Nat) (d T : Nat → Nat → Nat) (fo : Nat → Int64) (b : Int32) (hx : ¬ okr 0 9 b) : CW l G yL_whyMissed wsL_whyMissed [(0, 9, 12, 13)] 8 134 3 [.ref x, .int b, .ref w] [XB x (a 0) (r 0) (p 0) (h 0) q, OU G w fo] 1 6 (fun rv u => rv = some (.int (nI 1)) ∧ u = [XB x (a 0) (r 0) (p 0) (h 0) q, OU G w fo]) := by
  refine CW_of RL 7 111 rfl rfl (by decide) (by decide +kernel) (Nat.le_of_ble_eq_true rfl) (fun E A X hrt htb => ?_)
  generalize hQ : QM E G A _ _ _ = Q
  show V E G A 4 [XB x (a 0) (r 0) (p 0) (h 0) q, OU G w fo] 0 0 Q 0 [(0, .ref x), (1, .int b), (2, .ref w)] []
  refine V_aload_n (pc' := 1) 2 X dL_whyMissed_0 rfl rfl rfl ?_
  refine V_iconst (pc' := 2) (nI 0) X dL_whyMissed_1 ki_0 rfl ?_
  refine V_aload_n (pc' := 3) 0 X dL_whyMissed_2 rfl rfl rfl ?_
  refine V_iload_n (pc' := 4) 1 X dL_whyMissed_3 rfl rfl rfl ?_
  refine V_callXV (pc' := 7) (As := [.int b]) (st := [.int (nI 0), .ref w]) 5 0 [0] [1] (show (List.range 2).Perm ([0] ++ [1]) by decide) X (c_X5_whyMissed_b1 l G x (r 0) (p 0) q a S h b hx) rfl gL_whyMissed_X5_whyMissed rfl (by decide) rfl rfl rfl (Nat.le_of_ble_eq_true rfl) ⟨Nat.le_of_ble_eq_true rfl, Nat.le_of_ble_eq_true rfl⟩ ⟨Nat.le_of_ble_eq_true rfl, Nat.le_of_ble_eq_true rfl⟩ dL_whyMissed_4 rfl (fun v_ u_ hp_ => ?_) (fun Ex_ u_ hp_ => ?_)
  · exact hp_.elim
  · obtain ⟨rfl, rfl⟩ := hp_
    refine VX_catch (name := xI) (pc' := 12) [] ⟨0, 9, 12, 13⟩ [] X htb (fun z hz => absurd hz List.not_mem_nil) (by decide) (by decide) (by decide +kernel) X.2.1.2.2.1.1 rfl (fun q_1 => ?_)
    show V E G A 4 [OU G w fo, XB x (a 0) (r 0) (p 0) (h 0) q] 1 6 Q 12 [(0, .ref x), (1, .int b), (2, .ref w)] [.ref q_1]
    refine V_astore_n (pc' := 13) [(0, .ref x), (1, .int b), (2, .ref w), (3, .ref q_1)] [1, 2, 3, 0] X dL_whyMissed_12 rfl (Nat.le_of_ble_eq_true rfl) rfl rfl ?_
    refine V_iconst (pc' := 14) (nI 1) X dL_whyMissed_13 ki_1 rfl ?_
    refine V_ord [1, 0] [XB x (a 0) (r 0) (p 0) (h 0) q, OU G w fo] (show (List.range 2).Perm [1, 0] by decide) rfl ?_
    exact V_ireturn (v := nI 1) [XB x (a 0) (r 0) (p 0) (h 0) q, OU G w fo] hQ X hrt rfl dL_whyMissed_14 (Nat.le_of_ble_eq_true rfl) (Nat.le_of_ble_eq_true rfl) (List.Perm.refl _) ⟨rfl, rfl⟩

set_option maxHeartbeats 4000000 in
set_option maxRecDepth 100000 in
theorem c_L_inRound_b1 (l : Launch) (G : gT) (x q w : Nat) (a S r H g p f h : Nat → Nat) (n kn : Nat) (d T : Nat → Nat → Nat) (fo : Nat → Int64) (b : Int32) (hx : ¬ okr 0 31 b) : CW l G yL_inRound wsL_inRound [(0, 9, 12, 13)] 8 134 3 [.ref x, .int b, .ref w] [XB x (a 0) (r 0) (p 0) (h 0) q, OU G w fo] 1 6 (fun rv u => rv = some (.int (nI 1)) ∧ u = [XB x (a 0) (r 0) (p 0) (h 0) q, OU G w fo]) := by
  refine CW_of RL 7 111 rfl rfl (by decide) (by decide +kernel) (Nat.le_of_ble_eq_true rfl) (fun E A X hrt htb => ?_)
  generalize hQ : QM E G A _ _ _ = Q
  show V E G A 4 [XB x (a 0) (r 0) (p 0) (h 0) q, OU G w fo] 0 0 Q 0 [(0, .ref x), (1, .int b), (2, .ref w)] []
  refine V_aload_n (pc' := 1) 2 X dL_inRound_0 rfl rfl rfl ?_
  refine V_iconst (pc' := 2) (nI 0) X dL_inRound_1 ki_0 rfl ?_
  refine V_aload_n (pc' := 3) 0 X dL_inRound_2 rfl rfl rfl ?_
  refine V_iload_n (pc' := 4) 1 X dL_inRound_3 rfl rfl rfl ?_
  refine V_callXV (pc' := 7) (As := [.int b]) (st := [.int (nI 0), .ref w]) 5 0 [0] [1] (show (List.range 2).Perm ([0] ++ [1]) by decide) X (c_X5_inRound_b1 l G x (r 0) (p 0) q a S h b hx) rfl gL_inRound_X5_inRound rfl (by decide) rfl rfl rfl (Nat.le_of_ble_eq_true rfl) ⟨Nat.le_of_ble_eq_true rfl, Nat.le_of_ble_eq_true rfl⟩ ⟨Nat.le_of_ble_eq_true rfl, Nat.le_of_ble_eq_true rfl⟩ dL_inRound_4 rfl (fun v_ u_ hp_ => ?_) (fun Ex_ u_ hp_ => ?_)
  · exact hp_.elim
  · obtain ⟨rfl, rfl⟩ := hp_
    refine VX_catch (name := xI) (pc' := 12) [] ⟨0, 9, 12, 13⟩ [] X htb (fun z hz => absurd hz List.not_mem_nil) (by decide) (by decide) (by decide +kernel) X.2.1.2.2.1.1 rfl (fun q_1 => ?_)
    show V E G A 4 [OU G w fo, XB x (a 0) (r 0) (p 0) (h 0) q] 1 6 Q 12 [(0, .ref x), (1, .int b), (2, .ref w)] [.ref q_1]
    refine V_astore_n (pc' := 13) [(0, .ref x), (1, .int b), (2, .ref w), (3, .ref q_1)] [1, 2, 3, 0] X dL_inRound_12 rfl (Nat.le_of_ble_eq_true rfl) rfl rfl ?_
    refine V_iconst (pc' := 14) (nI 1) X dL_inRound_13 ki_1 rfl ?_
    refine V_ord [1, 0] [XB x (a 0) (r 0) (p 0) (h 0) q, OU G w fo] (show (List.range 2).Perm [1, 0] by decide) rfl ?_
    exact V_ireturn (v := nI 1) [XB x (a 0) (r 0) (p 0) (h 0) q, OU G w fo] hQ X hrt rfl dL_inRound_14 (Nat.le_of_ble_eq_true rfl) (Nat.le_of_ble_eq_true rfl) (List.Perm.refl _) ⟨rfl, rfl⟩

set_option maxHeartbeats 4000000 in
set_option maxRecDepth 100000 in
theorem c_L_save_b1 (l : Launch) (G : gT) (x q w : Nat) (a S r H g p f h : Nat → Nat) (n kn : Nat) (d T : Nat → Nat → Nat) (fo : Nat → Int64) (b : Int32) (hx : ¬ okr 0 1 b) : CW l G yL_save wsL_save [(0, 9, 12, 13)] 8 135 3 [.ref x, .int b, .ref w] [XB x (a 0) (r 0) (p 0) (h 0) q, OU G w fo] 1 6 (fun rv u => rv = some (.int (nI 1)) ∧ u = [XB x (a 0) (r 0) (p 0) (h 0) q, OU G w fo]) := by
  refine CW_of RL 7 112 rfl rfl (by decide) (by decide +kernel) (Nat.le_of_ble_eq_true rfl) (fun E A X hrt htb => ?_)
  generalize hQ : QM E G A _ _ _ = Q
  show V E G A 4 [XB x (a 0) (r 0) (p 0) (h 0) q, OU G w fo] 0 0 Q 0 [(0, .ref x), (1, .int b), (2, .ref w)] []
  refine V_aload_n (pc' := 1) 2 X dL_save_0 rfl rfl rfl ?_
  refine V_iconst (pc' := 2) (nI 0) X dL_save_1 ki_0 rfl ?_
  refine V_aload_n (pc' := 3) 0 X dL_save_2 rfl rfl rfl ?_
  refine V_iload_n (pc' := 4) 1 X dL_save_3 rfl rfl rfl ?_
  refine V_callXV (pc' := 7) (As := [.int b]) (st := [.int (nI 0), .ref w]) 5 0 [0] [1] (show (List.range 2).Perm ([0] ++ [1]) by decide) X (c_X5_save_b1 l G x (r 0) (p 0) q a S h b hx) rfl gL_save_X5_save rfl (by decide) rfl rfl rfl (Nat.le_of_ble_eq_true rfl) ⟨Nat.le_of_ble_eq_true rfl, Nat.le_of_ble_eq_true rfl⟩ ⟨Nat.le_of_ble_eq_true rfl, Nat.le_of_ble_eq_true rfl⟩ dL_save_4 rfl (fun v_ u_ hp_ => ?_) (fun Ex_ u_ hp_ => ?_)
  · exact hp_.elim
  · obtain ⟨rfl, rfl⟩ := hp_
    refine VX_catch (name := xI) (pc' := 12) [] ⟨0, 9, 12, 13⟩ [] X htb (fun z hz => absurd hz List.not_mem_nil) (by decide) (by decide) (by decide +kernel) X.2.1.2.2.1.1 rfl (fun q_1 => ?_)
    show V E G A 4 [OU G w fo, XB x (a 0) (r 0) (p 0) (h 0) q] 1 6 Q 12 [(0, .ref x), (1, .int b), (2, .ref w)] [.ref q_1]
    refine V_astore_n (pc' := 13) [(0, .ref x), (1, .int b), (2, .ref w), (3, .ref q_1)] [1, 2, 3, 0] X dL_save_12 rfl (Nat.le_of_ble_eq_true rfl) rfl rfl ?_
    refine V_iconst (pc' := 14) (nI 1) X dL_save_13 ki_1 rfl ?_
    refine V_ord [1, 0] [XB x (a 0) (r 0) (p 0) (h 0) q, OU G w fo] (show (List.range 2).Perm [1, 0] by decide) rfl ?_
    exact V_ireturn (v := nI 1) [XB x (a 0) (r 0) (p 0) (h 0) q, OU G w fo] hQ X hrt rfl dL_save_14 (Nat.le_of_ble_eq_true rfl) (Nat.le_of_ble_eq_true rfl) (List.Perm.refl _) ⟨rfl, rfl⟩

set_option maxHeartbeats 4000000 in
set_option maxRecDepth 100000 in
theorem c_L_restore_b1 (l : Launch) (G : gT) (x q w : Nat) (a S r H g p f h : Nat → Nat) (n kn : Nat) (d T : Nat → Nat → Nat) (fo : Nat → Int64) (b : Int32) (hx : ¬ okr 0 1 b) : CW l G yL_restore wsL_restore [(0, 9, 12, 13), (0, 9, 15, 63)] 8 135 3 [.ref x, .int b, .ref w] [XB x (a 0) (r 0) (p 0) (h 0) q, OU G w fo] 1 6 (fun rv u => rv = some (.int (nI 1)) ∧ u = [XB x (a 0) (r 0) (p 0) (h 0) q, OU G w fo]) := by
  refine CW_of RL 7 112 rfl rfl (by decide) (by decide +kernel) (Nat.le_of_ble_eq_true rfl) (fun E A X hrt htb => ?_)
  generalize hQ : QM E G A _ _ _ = Q
  show V E G A 4 [XB x (a 0) (r 0) (p 0) (h 0) q, OU G w fo] 0 0 Q 0 [(0, .ref x), (1, .int b), (2, .ref w)] []
  refine V_aload_n (pc' := 1) 2 X dL_restore_0 rfl rfl rfl ?_
  refine V_iconst (pc' := 2) (nI 0) X dL_restore_1 ki_0 rfl ?_
  refine V_aload_n (pc' := 3) 0 X dL_restore_2 rfl rfl rfl ?_
  refine V_iload_n (pc' := 4) 1 X dL_restore_3 rfl rfl rfl ?_
  refine V_callXV (pc' := 7) (As := [.int b]) (st := [.int (nI 0), .ref w]) 5 0 [0] [1] (show (List.range 2).Perm ([0] ++ [1]) by decide) X (c_X5_restore_b1 l G x (r 0) (p 0) q a S h b hx) rfl gL_restore_X5_restore rfl (by decide) rfl rfl rfl (Nat.le_of_ble_eq_true rfl) ⟨Nat.le_of_ble_eq_true rfl, Nat.le_of_ble_eq_true rfl⟩ ⟨Nat.le_of_ble_eq_true rfl, Nat.le_of_ble_eq_true rfl⟩ dL_restore_4 rfl (fun v_ u_ hp_ => ?_) (fun Ex_ u_ hp_ => ?_)
  · exact hp_.elim
  · obtain ⟨rfl, rfl⟩ := hp_
    refine VX_catch (name := xI) (pc' := 12) [] ⟨0, 9, 12, 13⟩ [⟨0, 9, 15, 63⟩] X htb (fun z hz => absurd hz List.not_mem_nil) (by decide) (by decide) (by decide +kernel) X.2.1.2.2.1.1 rfl (fun q_1 => ?_)
    show V E G A 4 [OU G w fo, XB x (a 0) (r 0) (p 0) (h 0) q] 1 6 Q 12 [(0, .ref x), (1, .int b), (2, .ref w)] [.ref q_1]
    refine V_astore_n (pc' := 13) [(0, .ref x), (1, .int b), (2, .ref w), (3, .ref q_1)] [1, 2, 3, 0] X dL_restore_12 rfl (Nat.le_of_ble_eq_true rfl) rfl rfl ?_
    refine V_iconst (pc' := 14) (nI 1) X dL_restore_13 ki_1 rfl ?_
    refine V_ord [1, 0] [XB x (a 0) (r 0) (p 0) (h 0) q, OU G w fo] (show (List.range 2).Perm [1, 0] by decide) rfl ?_
    exact V_ireturn (v := nI 1) [XB x (a 0) (r 0) (p 0) (h 0) q, OU G w fo] hQ X hrt rfl dL_restore_14 (Nat.le_of_ble_eq_true rfl) (Nat.le_of_ble_eq_true rfl) (List.Perm.refl _) ⟨rfl, rfl⟩

set_option maxHeartbeats 4000000 in
set_option maxRecDepth 100000 in
theorem c_L_read_b1 (l : Launch) (G : gT) (x q w : Nat) (a S r H g p f h : Nat → Nat) (n kn : Nat) (d T : Nat → Nat → Nat) (fo : Nat → Int64) (hn : n ≤ 60) (hf : ∀ k, k < n → f k < 128) (hx : ¬ ff f n = none) : CW l G yL_read wsL_read [(0, 8, 11, 19)] 8 135 2 [.ref x, .ref w] [XB x (a 0) (r 0) (p 0) (h 0) q, PD G p f n, OU G w fo] 1 6 (fun rv u => rv = some (.int (nI 1)) ∧ u = [XB x (a 0) (r 0) (p 0) (h 0) q, PD G p f n, OU G w fo]) := by
  refine CW_of RL 7 113 rfl rfl (by decide) (by decide +kernel) (Nat.le_of_ble_eq_true rfl) (fun E A X hrt htb => ?_)
  generalize hQ : QM E G A _ _ _ = Q
  show V E G A 3 [XB x (a 0) (r 0) (p 0) (h 0) q, PD G p f n, OU G w fo] 0 0 Q 0 [(0, .ref x), (1, .ref w)] []
  refine V_aload_n (pc' := 1) 1 X dL_read_0 rfl rfl rfl ?_
  refine V_iconst (pc' := 2) (nI 0) X dL_read_1 ki_0 rfl ?_
  refine V_aload_n (pc' := 3) 0 X dL_read_2 rfl rfl rfl ?_
  refine V_callXV (pc' := 6) (As := []) (st := [.int (nI 0), .ref w]) 5 0 [0, 1] [2] (show (List.range 3).Perm ([0, 1] ++ [2]) by decide) X (c_X5_read_b1 l G x (r 0) q a h p f n hn hf hx) rfl gL_read_X5_read rfl (by decide) rfl rfl rfl (Nat.le_of_ble_eq_true rfl) ⟨Nat.le_of_ble_eq_true rfl, Nat.le_of_ble_eq_true rfl⟩ ⟨Nat.le_of_ble_eq_true rfl, Nat.le_of_ble_eq_true rfl⟩ dL_read_3 rfl (fun v_ u_ hp_ => ?_) (fun Ex_ u_ hp_ => ?_)
  · exact hp_.elim
  · obtain ⟨rfl, rfl⟩ := hp_
    refine VX_catch (name := xA) (pc' := 11) [] ⟨0, 8, 11, 19⟩ [] X htb (fun z hz => absurd hz List.not_mem_nil) (by decide) (by decide) (by decide +kernel) X.2.1.2.2.1.2.1 rfl (fun q_1 => ?_)
    show V E G A 3 [OU G w fo, XB x (a 0) (r 0) (p 0) (h 0) q, PD G p f n] 1 6 Q 11 [(0, .ref x), (1, .ref w)] [.ref q_1]
    refine V_astore_n (pc' := 12) [(0, .ref x), (1, .ref w), (2, .ref q_1)] [1, 2, 0] X dL_read_11 rfl (Nat.le_of_ble_eq_true rfl) rfl rfl ?_
    refine V_iconst (pc' := 13) (nI 1) X dL_read_12 ki_1 rfl ?_
    refine V_ord [1, 2, 0] [XB x (a 0) (r 0) (p 0) (h 0) q, PD G p f n, OU G w fo] (show (List.range 3).Perm [1, 2, 0] by decide) rfl ?_
    exact V_ireturn (v := nI 1) [XB x (a 0) (r 0) (p 0) (h 0) q, PD G p f n, OU G w fo] hQ X hrt rfl dL_read_13 (Nat.le_of_ble_eq_true rfl) (Nat.le_of_ble_eq_true rfl) (List.Perm.refl _) ⟨rfl, rfl⟩

set_option maxHeartbeats 4000000 in
set_option maxRecDepth 100000 in
theorem c_L_put_b1 (l : Launch) (G : gT) (x q w : Nat) (a S r H g p f h : Nat → Nat) (n kn : Nat) (d T : Nat → Nat → Nat) (fo : Nat → Int64) (hn : n ≤ 60) (hf : ∀ k, k < n → f k < 128) (v : Nat) (hu : v < 2 ^ 64) (hx : cin v = 0) : CW l G yL_put wsL_put [(0, 9, 12, 19), (0, 9, 16, 63)] 8 137 3 [.ref x, .long (lN v), .ref w] [XB x (a 0) (r 0) (p 0) (h 0) q, PD G p f n, OU G w fo] 1 6 (fun rv u => rv = some (.int (nI 1)) ∧ u = [XB x (a 0) (r 0) (p 0) (h 0) q, PD G p f n, OU G w fo]) := by
  refine CW_of RL 7 113 rfl rfl (by decide) (by decide +kernel) (Nat.le_of_ble_eq_true rfl) (fun E A X hrt htb => ?_)
  generalize hQ : QM E G A _ _ _ = Q
  show V E G A 5 [XB x (a 0) (r 0) (p 0) (h 0) q, PD G p f n, OU G w fo] 0 0 Q 0 [(0, .ref x), (1, .long (lN v)), (3, .ref w)] []
  refine V_aload_n (pc' := 1) 2 X dL_put_0 rfl rfl rfl ?_
  refine V_iconst (pc' := 2) (nI 0) X dL_put_1 ki_0 rfl ?_
  refine V_aload_n (pc' := 3) 0 X dL_put_2 rfl rfl rfl ?_
  refine V_lload_n (pc' := 4) 1 X dL_put_3 rfl rfl rfl ?_
  refine V_callXV (pc' := 7) (As := [.long (lN v)]) (st := [.int (nI 0), .ref w]) 5 0 [0, 1] [2] (show (List.range 3).Perm ([0, 1] ++ [2]) by decide) X (c_X5_put_b1 l G x (r 0) q a h p f n hn hf v hu hx) rfl gL_put_X5_put rfl (by decide) rfl rfl rfl (Nat.le_of_ble_eq_true rfl) ⟨Nat.le_of_ble_eq_true rfl, Nat.le_of_ble_eq_true rfl⟩ ⟨Nat.le_of_ble_eq_true rfl, Nat.le_of_ble_eq_true rfl⟩ dL_put_4 rfl (fun v_ u_ hp_ => ?_) (fun Ex_ u_ hp_ => ?_)
  · exact hp_.elim
  · obtain ⟨rfl, rfl⟩ := hp_
    refine VX_catch (name := xA) (pc' := 12) [] ⟨0, 9, 12, 19⟩ [⟨0, 9, 16, 63⟩] X htb (fun z hz => absurd hz List.not_mem_nil) (by decide) (by decide) (by decide +kernel) X.2.1.2.2.1.2.1 rfl (fun q_1 => ?_)
    show V E G A 5 [OU G w fo, XB x (a 0) (r 0) (p 0) (h 0) q, PD G p f n] 1 6 Q 12 [(0, .ref x), (1, .long (lN v)), (3, .ref w)] [.ref q_1]
    refine V_astore (pc' := 14) [(0, .ref x), (1, .long (lN v)), (3, .ref w), (4, .ref q_1)] [1, 2, 3, 0] X dL_put_12 (Nat.le_of_ble_eq_true rfl) rfl rfl ?_
    refine V_iconst (pc' := 15) (nI 1) X dL_put_14 ki_1 rfl ?_
    refine V_ord [1, 2, 0] [XB x (a 0) (r 0) (p 0) (h 0) q, PD G p f n, OU G w fo] (show (List.range 3).Perm [1, 2, 0] by decide) rfl ?_
    exact V_ireturn (v := nI 1) [XB x (a 0) (r 0) (p 0) (h 0) q, PD G p f n, OU G w fo] hQ X hrt rfl dL_put_15 (Nat.le_of_ble_eq_true rfl) (Nat.le_of_ble_eq_true rfl) (List.Perm.refl _) ⟨rfl, rfl⟩

set_option maxHeartbeats 4000000 in
set_option maxRecDepth 100000 in
theorem c_L_put_b2 (l : Launch) (G : gT) (x q w : Nat) (a S r H g p f h : Nat → Nat) (n kn : Nat) (d T : Nat → Nat → Nat) (fo : Nat → Int64) (hn : n ≤ 60) (hf : ∀ k, k < n → f k < 128) (v : Nat) (hu : v < 2 ^ 64) (hc : ¬ cin v = 0) (hx : ¬ n + cin v ≤ 60) : CW l G yL_put wsL_put [(0, 9, 12, 19), (0, 9, 16, 63)] 8 137 3 [.ref x, .long (lN v), .ref w] [XB x (a 0) (r 0) (p 0) (h 0) q, PD G p f n, OU G w fo] 1 6 (fun rv u => rv = some (.int (nI 2)) ∧ u = [XB x (a 0) (r 0) (p 0) (h 0) q, PD G p f n, OU G w fo]) := by
  refine CW_of RL 7 113 rfl rfl (by decide) (by decide +kernel) (Nat.le_of_ble_eq_true rfl) (fun E A X hrt htb => ?_)
  generalize hQ : QM E G A _ _ _ = Q
  show V E G A 5 [XB x (a 0) (r 0) (p 0) (h 0) q, PD G p f n, OU G w fo] 0 0 Q 0 [(0, .ref x), (1, .long (lN v)), (3, .ref w)] []
  refine V_aload_n (pc' := 1) 2 X dL_put_0 rfl rfl rfl ?_
  refine V_iconst (pc' := 2) (nI 0) X dL_put_1 ki_0 rfl ?_
  refine V_aload_n (pc' := 3) 0 X dL_put_2 rfl rfl rfl ?_
  refine V_lload_n (pc' := 4) 1 X dL_put_3 rfl rfl rfl ?_
  refine V_callXV (pc' := 7) (As := [.long (lN v)]) (st := [.int (nI 0), .ref w]) 5 0 [0, 1] [2] (show (List.range 3).Perm ([0, 1] ++ [2]) by decide) X (c_X5_put_b2 l G x (r 0) q a h p f n hn hf v hu hc hx) rfl gL_put_X5_put rfl (by decide) rfl rfl rfl (Nat.le_of_ble_eq_true rfl) ⟨Nat.le_of_ble_eq_true rfl, Nat.le_of_ble_eq_true rfl⟩ ⟨Nat.le_of_ble_eq_true rfl, Nat.le_of_ble_eq_true rfl⟩ dL_put_4 rfl (fun v_ u_ hp_ => ?_) (fun Ex_ u_ hp_ => ?_)
  · exact hp_.elim
  · obtain ⟨rfl, rfl⟩ := hp_
    refine VX_catch (name := xS) (pc' := 16) [⟨0, 9, 12, 19⟩] ⟨0, 9, 16, 63⟩ [] X htb (fun z hz => Or.inr (by rw [List.mem_singleton.mp hz]; exact ⟨by decide, xA, by decide +kernel, X.2.1.2.2.2.1.2.1⟩)) (by decide) (by decide) (by decide +kernel) X.2.1.2.2.1.2.2.1 rfl (fun q_1 => ?_)
    show V E G A 5 [OU G w fo, XB x (a 0) (r 0) (p 0) (h 0) q, PD G p f n] 1 6 Q 16 [(0, .ref x), (1, .long (lN v)), (3, .ref w)] [.ref q_1]
    refine V_astore (pc' := 18) [(0, .ref x), (1, .long (lN v)), (3, .ref w), (4, .ref q_1)] [1, 2, 3, 0] X dL_put_16 (Nat.le_of_ble_eq_true rfl) rfl rfl ?_
    refine V_iconst (pc' := 19) (nI 2) X dL_put_18 ki_2 rfl ?_
    refine V_ord [1, 2, 0] [XB x (a 0) (r 0) (p 0) (h 0) q, PD G p f n, OU G w fo] (show (List.range 3).Perm [1, 2, 0] by decide) rfl ?_
    exact V_ireturn (v := nI 2) [XB x (a 0) (r 0) (p 0) (h 0) q, PD G p f n, OU G w fo] hQ X hrt rfl dL_put_19 (Nat.le_of_ble_eq_true rfl) (Nat.le_of_ble_eq_true rfl) (List.Perm.refl _) ⟨rfl, rfl⟩

set_option maxHeartbeats 4000000 in
set_option maxRecDepth 100000 in
theorem c_L_undo_b1 (l : Launch) (G : gT) (x q w : Nat) (a S r H g p f h : Nat → Nat) (n kn : Nat) (d T : Nat → Nat → Nat) (fo : Nat → Int64) : CW l G yL_undo wsL_undo [(0, 8, 11, 63)] 9 152 2 [.ref x, .ref w] [XB x (a 0) (r 0) (p 0) (h 0) q, HI G h 0 d, OU G w fo] 1 6 (fun rv u => rv = some (.int (nI 1)) ∧ u = [XB x (a 0) (r 0) (p 0) (h 0) q, HI G h 0 d, OU G w fo]) := by
  refine CW_of RL 8 130 rfl rfl (by decide) (by decide +kernel) (Nat.le_of_ble_eq_true rfl) (fun E A X hrt htb => ?_)
  generalize hQ : QM E G A _ _ _ = Q
  show V E G A 3 [XB x (a 0) (r 0) (p 0) (h 0) q, HI G h 0 d, OU G w fo] 0 0 Q 0 [(0, .ref x), (1, .ref w)] []
  refine V_aload_n (pc' := 1) 1 X dL_undo_0 rfl rfl rfl ?_
  refine V_iconst (pc' := 2) (nI 0) X dL_undo_1 ki_0 rfl ?_
  refine V_aload_n (pc' := 3) 0 X dL_undo_2 rfl rfl rfl ?_
  refine V_callXV (pc' := 6) (As := []) (st := [.int (nI 0), .ref w]) 5 0 [0, 1] [2] (show (List.range 3).Perm ([0, 1] ++ [2]) by decide) X (c_X5_undo_b1 l G x (r 0) (p 0) q a h d) rfl gL_undo_X5_undo rfl (by decide) rfl rfl rfl (Nat.le_of_ble_eq_true rfl) ⟨Nat.le_of_ble_eq_true rfl, Nat.le_of_ble_eq_true rfl⟩ ⟨Nat.le_of_ble_eq_true rfl, Nat.le_of_ble_eq_true rfl⟩ dL_undo_3 rfl (fun v_ u_ hp_ => ?_) (fun Ex_ u_ hp_ => ?_)
  · exact hp_.elim
  · obtain ⟨rfl, rfl⟩ := hp_
    refine VX_catch (name := xS) (pc' := 11) [] ⟨0, 8, 11, 63⟩ [] X htb (fun z hz => absurd hz List.not_mem_nil) (by decide) (by decide) (by decide +kernel) X.2.1.2.2.1.2.2.1 rfl (fun q_1 => ?_)
    show V E G A 3 [OU G w fo, XB x (a 0) (r 0) (p 0) (h 0) q, HI G h 0 d] 1 6 Q 11 [(0, .ref x), (1, .ref w)] [.ref q_1]
    refine V_astore_n (pc' := 12) [(0, .ref x), (1, .ref w), (2, .ref q_1)] [1, 2, 0] X dL_undo_11 rfl (Nat.le_of_ble_eq_true rfl) rfl rfl ?_
    refine V_iconst (pc' := 13) (nI 1) X dL_undo_12 ki_1 rfl ?_
    refine V_ord [1, 2, 0] [XB x (a 0) (r 0) (p 0) (h 0) q, HI G h 0 d, OU G w fo] (show (List.range 3).Perm [1, 2, 0] by decide) rfl ?_
    exact V_ireturn (v := nI 1) [XB x (a 0) (r 0) (p 0) (h 0) q, HI G h 0 d, OU G w fo] hQ X hrt rfl dL_undo_13 (Nat.le_of_ble_eq_true rfl) (Nat.le_of_ble_eq_true rfl) (List.Perm.refl _) ⟨rfl, rfl⟩

set_option maxHeartbeats 4000000 in
set_option maxRecDepth 100000 in
theorem c_L_restore_b2 (l : Launch) (G : gT) (x q w : Nat) (a S r H g p f h : Nat → Nat) (n kn : Nat) (d T : Nat → Nat → Nat) (fo : Nat → Int64) (o : Nat → Option (Nat → Nat)) (c : Nat) (hc : c < 2) (ho : o c = none) : CW l G yL_restore wsL_restore [(0, 9, 12, 13), (0, 9, 15, 63)] 8 135 3 [.ref x, .int (nI c), .ref w] [XB x (a 0) (r 0) (p 0) (h 0) q, SA G q o, OU G w fo] 1 6 (fun rv u => rv = some (.int (nI 2)) ∧ u = [XB x (a 0) (r 0) (p 0) (h 0) q, SA G q o, OU G w fo]) := by
  refine CW_of RL 7 112 rfl rfl (by decide) (by decide +kernel) (Nat.le_of_ble_eq_true rfl) (fun E A X hrt htb => ?_)
  generalize hQ : QM E G A _ _ _ = Q
  show V E G A 4 [XB x (a 0) (r 0) (p 0) (h 0) q, SA G q o, OU G w fo] 0 0 Q 0 [(0, .ref x), (1, .int (nI c)), (2, .ref w)] []
  refine V_aload_n (pc' := 1) 2 X dL_restore_0 rfl rfl rfl ?_
  refine V_iconst (pc' := 2) (nI 0) X dL_restore_1 ki_0 rfl ?_
  refine V_aload_n (pc' := 3) 0 X dL_restore_2 rfl rfl rfl ?_
  refine V_iload_n (pc' := 4) 1 X dL_restore_3 rfl rfl rfl ?_
  refine V_callXV (pc' := 7) (As := [.int (nI c)]) (st := [.int (nI 0), .ref w]) 5 0 [0, 1] [2] (show (List.range 3).Perm ([0, 1] ++ [2]) by decide) X (c_X5_restore_b2 l G x (a 0) (r 0) (p 0) (h 0) q o c hc ho) rfl gL_restore_X5_restore rfl (by decide) rfl rfl rfl (Nat.le_of_ble_eq_true rfl) ⟨Nat.le_of_ble_eq_true rfl, Nat.le_of_ble_eq_true rfl⟩ ⟨Nat.le_of_ble_eq_true rfl, Nat.le_of_ble_eq_true rfl⟩ dL_restore_4 rfl (fun v_ u_ hp_ => ?_) (fun Ex_ u_ hp_ => ?_)
  · exact hp_.elim
  · obtain ⟨rfl, rfl⟩ := hp_
    refine VX_catch (name := xS) (pc' := 15) [⟨0, 9, 12, 13⟩] ⟨0, 9, 15, 63⟩ [] X htb (fun z hz => Or.inr (by rw [List.mem_singleton.mp hz]; exact ⟨by decide, xI, by decide +kernel, X.2.1.2.2.2.1.2.2⟩)) (by decide) (by decide) (by decide +kernel) X.2.1.2.2.1.2.2.1 rfl (fun q_1 => ?_)
    show V E G A 4 [OU G w fo, XB x (a 0) (r 0) (p 0) (h 0) q, SA G q o] 1 6 Q 15 [(0, .ref x), (1, .int (nI c)), (2, .ref w)] [.ref q_1]
    refine V_astore_n (pc' := 16) [(0, .ref x), (1, .int (nI c)), (2, .ref w), (3, .ref q_1)] [1, 2, 3, 0] X dL_restore_15 rfl (Nat.le_of_ble_eq_true rfl) rfl rfl ?_
    refine V_iconst (pc' := 17) (nI 2) X dL_restore_16 ki_2 rfl ?_
    refine V_ord [1, 2, 0] [XB x (a 0) (r 0) (p 0) (h 0) q, SA G q o, OU G w fo] (show (List.range 3).Perm [1, 2, 0] by decide) rfl ?_
    exact V_ireturn (v := nI 2) [XB x (a 0) (r 0) (p 0) (h 0) q, SA G q o, OU G w fo] hQ X hrt rfl dL_restore_17 (Nat.le_of_ble_eq_true rfl) (Nat.le_of_ble_eq_true rfl) (List.Perm.refl _) ⟨rfl, rfl⟩
