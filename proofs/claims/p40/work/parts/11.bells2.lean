/-! the class: what throws, what asks, the pad, undo, the slots -/
/-- the slots' row, a slot's drum -/
def SA (G : gT) (q : Nat) (o : Nat → Option (Nat → Nat)) : va_W := [(q, .inl (G.2 3, 2, .inr (.inr (.inr (.inr (fun k => (o k).map (fun b => b 0)))))))]
theorem rN_lt {k : Nat} (h : k < 2 ^ 31) : ¬ rN (some k) = -1 := by
  intro e
  have e2 := congrArg Int32.toInt e
  rw [show rN (some k) = nI k from rfl, nI_toInt h] at e2
  rw [show (-1 : Int32).toInt = -1 by decide] at e2
  omega
set_option maxHeartbeats 4000000 in
set_option maxRecDepth 100000 in
theorem c_X5_pegsIn (l : Launch) (G : gT) (x r0 p0 h0 q : Nat) (a S : Nat → Nat) (hI : IV S) (c : Nat) (hc : c < 32) : CM l G yX5_pegsIn wsX5_pegsIn 2 41 1 [.ref x, .int (nI c)] [XB x (a 0) r0 p0 h0 q, DW G a S] 0 0 (fun v u => v = some (.int (nI (S c))) ∧ u = [XB x (a 0) r0 p0 h0 q, DW G a S]) := by
  refine CM_of RX5 1 20 rfl rfl (by decide) (by decide +kernel) (Nat.le_of_ble_eq_true rfl) (fun E A X hrt hnm => ?_)
  have F10 := Fld_of (idx := 10) 5 0 X (by decide) (by decide) (by decide +kernel) (by decide +kernel)
  have F59 := Fld_of (idx := 59) 0 0 X (by decide) (by decide) (by decide +kernel) (by decide +kernel)
  generalize hQ : QM E G A _ _ _ = Q
  obtain ⟨i1, i2, i3, i4, i5, i6⟩ := id hI
  show V E G A 2 [XB x (a 0) r0 p0 h0 q, DW G a S] 0 0 Q 0 [(0, .ref x), (1, .int (nI c))] []
  refine V_iload_n (pc' := 1) 1 X dX5_pegsIn_0 rfl rfl rfl ?_
  refine V_callS (pc' := 4) (As := [.int (nI c)]) (st := []) [] [0, 1] (show (List.range 2).Perm ([] ++ [0, 1]) by decide) X (c_X5_isColumn1 l G c (by omega)) rfl gX5_pegsIn_X5_isColumn rfl rfl (Nat.le_of_ble_eq_true rfl) ⟨Nat.le_of_ble_eq_true rfl, Nat.le_of_ble_eq_true rfl⟩ ⟨Nat.le_of_ble_eq_true rfl, Nat.le_of_ble_eq_true rfl⟩ dX5_pegsIn_1 rfl (fun v_ u_ hp_ => ?_)
  obtain ⟨rfl, rfl⟩ := hp_
  show V E G A 2 [XB x (a 0) r0 p0 h0 q, DW G a S] 0 0 Q 4 [(0, .ref x), (1, .int (nI c))] [.int (nI 1)]
  refine V_if_ne (pc' := 7) (C := 1 = 0) 17 X dX5_pegsIn_4 (by decide) rfl (z_eq0 (by omega)) (fun _ => ?_) (fun hz => absurd hz (by decide))
  refine V_aload_n (pc' := 18) 0 X dX5_pegsIn_17 rfl rfl rfl ?_
  refine V_get (pc' := 21) 0 X F10 rfl rfl dX5_pegsIn_18 rfl ?_
  refine V_get (pc' := 24) 1 X F59 rfl rfl dX5_pegsIn_21 rfl ?_
  refine V_iload_n (pc' := 25) 1 X dX5_pegsIn_24 rfl rfl rfl ?_
  refine V_iald (pc' := 26) (v := nI (S c)) 2 c X rfl (by omega) (by decide) rfl dX5_pegsIn_25 rfl ?_
  exact V_ireturn (v := nI (S c)) [XB x (a 0) r0 p0 h0 q, DW G a S] hQ X hrt rfl dX5_pegsIn_26 (Nat.le_of_ble_eq_true rfl) (Nat.le_of_ble_eq_true rfl) (List.Perm.refl _) ⟨rfl, rfl⟩

set_option maxHeartbeats 4000000 in
set_option maxRecDepth 100000 in
theorem c_X5_pegs (l : Launch) (G : gT) (x r0 p0 h0 q : Nat) (a S : Nat → Nat) (hI : IV S) : CM l G yX5_pegs wsX5_pegs 3 62 0 [.ref x] [XB x (a 0) r0 p0 h0 q, DW G a S] 0 0 (fun v u => v = some (.int (nI (sm (fun k => cnt (S k)) 32))) ∧ u = [XB x (a 0) r0 p0 h0 q, DW G a S]) := by
  refine CM_of RX5 2 42 rfl rfl (by decide) (by decide +kernel) (Nat.le_of_ble_eq_true rfl) (fun E A X hrt hnm => ?_)
  have F10 := Fld_of (idx := 10) 5 0 X (by decide) (by decide) (by decide +kernel) (by decide +kernel)
  generalize hQ : QM E G A _ _ _ = Q
  obtain ⟨i1, i2, i3, i4, i5, i6⟩ := id hI
  show V E G A 1 [XB x (a 0) r0 p0 h0 q, DW G a S] 0 0 Q 0 [(0, .ref x)] []
  refine V_aload_n (pc' := 1) 0 X dX5_pegs_0 rfl rfl rfl ?_
  refine V_get (pc' := 4) 0 X F10 rfl rfl dX5_pegs_1 rfl ?_
  refine V_callV (pc' := 7) (As := []) (st := []) 0 1 [1] [0] (show (List.range 2).Perm ([1] ++ [0]) by decide) X (c_X0_countPegs l G a S hI) rfl gX5_pegs_X0_countPegs rfl (by decide) rfl rfl rfl (Nat.le_of_ble_eq_true rfl) ⟨Nat.le_of_ble_eq_true rfl, Nat.le_of_ble_eq_true rfl⟩ ⟨Nat.le_of_ble_eq_true rfl, Nat.le_of_ble_eq_true rfl⟩ dX5_pegs_4 rfl (fun v_ u_ hp_ => ?_)
  obtain ⟨rfl, rfl⟩ := hp_
  show V E G A 1 [XB x (a 0) r0 p0 h0 q, DW G a S] 0 0 Q 7 [(0, .ref x)] [.int (nI (sm (fun k => cnt (S k)) 32))]
  exact V_ireturn (v := nI (sm (fun k => cnt (S k)) 32)) [XB x (a 0) r0 p0 h0 q, DW G a S] hQ X hrt rfl dX5_pegs_7 (Nat.le_of_ble_eq_true rfl) (Nat.le_of_ble_eq_true rfl) (List.Perm.refl _) ⟨rfl, rfl⟩

set_option maxHeartbeats 4000000 in
set_option maxRecDepth 100000 in
theorem c_X5_tempoOf (l : Launch) (G : gT) (x r0 p0 h0 q : Nat) (a S : Nat → Nat) (hI : IV S) (c : Nat) (hc : c < 4) : CM l G yX5_tempoOf wsX5_tempoOf 2 41 1 [.ref x, .int (nI c)] [XB x (a 0) r0 p0 h0 q, DW G a S] 0 0 (fun v u => v = some (.int (nI (S (32 + c)))) ∧ u = [XB x (a 0) r0 p0 h0 q, DW G a S]) := by
  refine CM_of RX5 1 20 rfl rfl (by decide) (by decide +kernel) (Nat.le_of_ble_eq_true rfl) (fun E A X hrt hnm => ?_)
  have F10 := Fld_of (idx := 10) 5 0 X (by decide) (by decide) (by decide +kernel) (by decide +kernel)
  have F85 := Fld_of (idx := 85) 0 1 X (by decide) (by decide) (by decide +kernel) (by decide +kernel)
  generalize hQ : QM E G A _ _ _ = Q
  obtain ⟨i1, i2, i3, i4, i5, i6⟩ := id hI
  show V E G A 2 [XB x (a 0) r0 p0 h0 q, DW G a S] 0 0 Q 0 [(0, .ref x), (1, .int (nI c))] []
  refine V_iload_n (pc' := 1) 1 X dX5_tempoOf_0 rfl rfl rfl ?_
  refine V_callS (pc' := 4) (As := [.int (nI c)]) (st := []) [] [0, 1] (show (List.range 2).Perm ([] ++ [0, 1]) by decide) X (c_X5_isBar1 l G c (by omega)) rfl gX5_tempoOf_X5_isBar rfl rfl (Nat.le_of_ble_eq_true rfl) ⟨Nat.le_of_ble_eq_true rfl, Nat.le_of_ble_eq_true rfl⟩ ⟨Nat.le_of_ble_eq_true rfl, Nat.le_of_ble_eq_true rfl⟩ dX5_tempoOf_1 rfl (fun v_ u_ hp_ => ?_)
  obtain ⟨rfl, rfl⟩ := hp_
  show V E G A 2 [XB x (a 0) r0 p0 h0 q, DW G a S] 0 0 Q 4 [(0, .ref x), (1, .int (nI c))] [.int (nI 1)]
  refine V_if_ne (pc' := 7) (C := 1 = 0) 17 X dX5_tempoOf_4 (by decide) rfl (z_eq0 (by omega)) (fun _ => ?_) (fun hz => absurd hz (by decide))
  refine V_aload_n (pc' := 18) 0 X dX5_tempoOf_17 rfl rfl rfl ?_
  refine V_get (pc' := 21) 0 X F10 rfl rfl dX5_tempoOf_18 rfl ?_
  refine V_get (pc' := 24) 1 X F85 rfl rfl dX5_tempoOf_21 rfl ?_
  refine V_iload_n (pc' := 25) 1 X dX5_tempoOf_24 rfl rfl rfl ?_
  refine V_iald (pc' := 26) (v := nI (S (32 + c))) 3 c X rfl (by omega) (by decide) rfl dX5_tempoOf_25 rfl ?_
  exact V_ireturn (v := nI (S (32 + c))) [XB x (a 0) r0 p0 h0 q, DW G a S] hQ X hrt rfl dX5_tempoOf_26 (Nat.le_of_ble_eq_true rfl) (Nat.le_of_ble_eq_true rfl) (List.Perm.refl _) ⟨rfl, rfl⟩

set_option maxHeartbeats 4000000 in
set_option maxRecDepth 100000 in
theorem c_X5_weightOf (l : Launch) (G : gT) (x r0 p0 h0 q : Nat) (a S : Nat → Nat) (hI : IV S) (c : Nat) (hc : c < 10) : CM l G yX5_weightOf wsX5_weightOf 2 41 1 [.ref x, .int (nI c)] [XB x (a 0) r0 p0 h0 q, DW G a S] 0 0 (fun v u => v = some (.int (nI (S (36 + c)))) ∧ u = [XB x (a 0) r0 p0 h0 q, DW G a S]) := by
  refine CM_of RX5 1 20 rfl rfl (by decide) (by decide +kernel) (Nat.le_of_ble_eq_true rfl) (fun E A X hrt hnm => ?_)
  have F10 := Fld_of (idx := 10) 5 0 X (by decide) (by decide) (by decide +kernel) (by decide +kernel)
  have F92 := Fld_of (idx := 92) 0 2 X (by decide) (by decide) (by decide +kernel) (by decide +kernel)
  generalize hQ : QM E G A _ _ _ = Q
  obtain ⟨i1, i2, i3, i4, i5, i6⟩ := id hI
  show V E G A 2 [XB x (a 0) r0 p0 h0 q, DW G a S] 0 0 Q 0 [(0, .ref x), (1, .int (nI c))] []
  refine V_iload_n (pc' := 1) 1 X dX5_weightOf_0 rfl rfl rfl ?_
  refine V_callS (pc' := 4) (As := [.int (nI c)]) (st := []) [] [0, 1] (show (List.range 2).Perm ([] ++ [0, 1]) by decide) X (c_X5_isBell1 l G c (by omega)) rfl gX5_weightOf_X5_isBell rfl rfl (Nat.le_of_ble_eq_true rfl) ⟨Nat.le_of_ble_eq_true rfl, Nat.le_of_ble_eq_true rfl⟩ ⟨Nat.le_of_ble_eq_true rfl, Nat.le_of_ble_eq_true rfl⟩ dX5_weightOf_1 rfl (fun v_ u_ hp_ => ?_)
  obtain ⟨rfl, rfl⟩ := hp_
  show V E G A 2 [XB x (a 0) r0 p0 h0 q, DW G a S] 0 0 Q 4 [(0, .ref x), (1, .int (nI c))] [.int (nI 1)]
  refine V_if_ne (pc' := 7) (C := 1 = 0) 17 X dX5_weightOf_4 (by decide) rfl (z_eq0 (by omega)) (fun _ => ?_) (fun hz => absurd hz (by decide))
  refine V_aload_n (pc' := 18) 0 X dX5_weightOf_17 rfl rfl rfl ?_
  refine V_get (pc' := 21) 0 X F10 rfl rfl dX5_weightOf_18 rfl ?_
  refine V_get (pc' := 24) 1 X F92 rfl rfl dX5_weightOf_21 rfl ?_
  refine V_iload_n (pc' := 25) 1 X dX5_weightOf_24 rfl rfl rfl ?_
  refine V_iald (pc' := 26) (v := nI (S (36 + c))) 4 c X rfl (by omega) (by decide) rfl dX5_weightOf_25 rfl ?_
  exact V_ireturn (v := nI (S (36 + c))) [XB x (a 0) r0 p0 h0 q, DW G a S] hQ X hrt rfl dX5_weightOf_26 (Nat.le_of_ble_eq_true rfl) (Nat.le_of_ble_eq_true rfl) (List.Perm.refl _) ⟨rfl, rfl⟩

set_option maxHeartbeats 4000000 in
set_option maxRecDepth 100000 in
theorem c_X5_heardOf (l : Launch) (G : gT) (x r0 p0 h0 q : Nat) (a S : Nat → Nat) (hI : IV S) (c : Nat) (hc : c < 10) : CM l G yX5_heardOf wsX5_heardOf 2 41 1 [.ref x, .int (nI c)] [XB x (a 0) r0 p0 h0 q, DW G a S] 0 0 (fun v u => v = some (.int (nI (S (49 + c)))) ∧ u = [XB x (a 0) r0 p0 h0 q, DW G a S]) := by
  refine CM_of RX5 1 20 rfl rfl (by decide) (by decide +kernel) (Nat.le_of_ble_eq_true rfl) (fun E A X hrt hnm => ?_)
  have F10 := Fld_of (idx := 10) 5 0 X (by decide) (by decide) (by decide +kernel) (by decide +kernel)
  have F147 := Fld_of (idx := 147) 0 3 X (by decide) (by decide) (by decide +kernel) (by decide +kernel)
  generalize hQ : QM E G A _ _ _ = Q
  obtain ⟨i1, i2, i3, i4, i5, i6⟩ := id hI
  show V E G A 2 [XB x (a 0) r0 p0 h0 q, DW G a S] 0 0 Q 0 [(0, .ref x), (1, .int (nI c))] []
  refine V_iload_n (pc' := 1) 1 X dX5_heardOf_0 rfl rfl rfl ?_
  refine V_callS (pc' := 4) (As := [.int (nI c)]) (st := []) [] [0, 1] (show (List.range 2).Perm ([] ++ [0, 1]) by decide) X (c_X5_isBell1 l G c (by omega)) rfl gX5_heardOf_X5_isBell rfl rfl (Nat.le_of_ble_eq_true rfl) ⟨Nat.le_of_ble_eq_true rfl, Nat.le_of_ble_eq_true rfl⟩ ⟨Nat.le_of_ble_eq_true rfl, Nat.le_of_ble_eq_true rfl⟩ dX5_heardOf_1 rfl (fun v_ u_ hp_ => ?_)
  obtain ⟨rfl, rfl⟩ := hp_
  show V E G A 2 [XB x (a 0) r0 p0 h0 q, DW G a S] 0 0 Q 4 [(0, .ref x), (1, .int (nI c))] [.int (nI 1)]
  refine V_if_ne (pc' := 7) (C := 1 = 0) 17 X dX5_heardOf_4 (by decide) rfl (z_eq0 (by omega)) (fun _ => ?_) (fun hz => absurd hz (by decide))
  refine V_aload_n (pc' := 18) 0 X dX5_heardOf_17 rfl rfl rfl ?_
  refine V_get (pc' := 21) 0 X F10 rfl rfl dX5_heardOf_18 rfl ?_
  refine V_get (pc' := 24) 1 X F147 rfl rfl dX5_heardOf_21 rfl ?_
  refine V_iload_n (pc' := 25) 1 X dX5_heardOf_24 rfl rfl rfl ?_
  refine V_iald (pc' := 26) (v := nI (S (49 + c))) 5 c X rfl (by omega) (by decide) rfl dX5_heardOf_25 rfl ?_
  exact V_ireturn (v := nI (S (49 + c))) [XB x (a 0) r0 p0 h0 q, DW G a S] hQ X hrt rfl dX5_heardOf_26 (Nat.le_of_ble_eq_true rfl) (Nat.le_of_ble_eq_true rfl) (List.Perm.refl _) ⟨rfl, rfl⟩

set_option maxHeartbeats 4000000 in
set_option maxRecDepth 100000 in
theorem c_X5_column (l : Launch) (G : gT) (x r0 p0 h0 q : Nat) (a S : Nat → Nat) (hI : IV S) : CM l G yX5_column wsX5_column 1 20 0 [.ref x] [XB x (a 0) r0 p0 h0 q, DW G a S] 0 0 (fun v u => v = some (.int (nI (S 47))) ∧ u = [XB x (a 0) r0 p0 h0 q, DW G a S]) := by
  refine CM_of RX5 0 0 rfl rfl (by decide) (by decide +kernel) (Nat.le_of_ble_eq_true rfl) (fun E A X hrt hnm => ?_)
  have F10 := Fld_of (idx := 10) 5 0 X (by decide) (by decide) (by decide +kernel) (by decide +kernel)
  have F109 := Fld_of (idx := 109) 0 6 X (by decide) (by decide) (by decide +kernel) (by decide +kernel)
  generalize hQ : QM E G A _ _ _ = Q
  obtain ⟨i1, i2, i3, i4, i5, i6⟩ := id hI
  show V E G A 1 [XB x (a 0) r0 p0 h0 q, DW G a S] 0 0 Q 0 [(0, .ref x)] []
  refine V_aload_n (pc' := 1) 0 X dX5_column_0 rfl rfl rfl ?_
  refine V_get (pc' := 4) 0 X F10 rfl rfl dX5_column_1 rfl ?_
  refine V_get (pc' := 7) 1 X F109 rfl rfl dX5_column_4 rfl ?_
  exact V_ireturn (v := nI (S 47)) [XB x (a 0) r0 p0 h0 q, DW G a S] hQ X hrt rfl dX5_column_7 (Nat.le_of_ble_eq_true rfl) (Nat.le_of_ble_eq_true rfl) (List.Perm.refl _) ⟨rfl, rfl⟩

set_option maxHeartbeats 4000000 in
set_option maxRecDepth 100000 in
theorem c_X5_time (l : Launch) (G : gT) (x r0 p0 h0 q : Nat) (a S : Nat → Nat) (hI : IV S) : CM l G yX5_time wsX5_time 1 20 0 [.ref x] [XB x (a 0) r0 p0 h0 q, DW G a S] 0 0 (fun v u => v = some (.int (nI (S 48))) ∧ u = [XB x (a 0) r0 p0 h0 q, DW G a S]) := by
  refine CM_of RX5 0 0 rfl rfl (by decide) (by decide +kernel) (Nat.le_of_ble_eq_true rfl) (fun E A X hrt hnm => ?_)
  have F10 := Fld_of (idx := 10) 5 0 X (by decide) (by decide) (by decide +kernel) (by decide +kernel)
  have F144 := Fld_of (idx := 144) 0 7 X (by decide) (by decide) (by decide +kernel) (by decide +kernel)
  generalize hQ : QM E G A _ _ _ = Q
  obtain ⟨i1, i2, i3, i4, i5, i6⟩ := id hI
  show V E G A 1 [XB x (a 0) r0 p0 h0 q, DW G a S] 0 0 Q 0 [(0, .ref x)] []
  refine V_aload_n (pc' := 1) 0 X dX5_time_0 rfl rfl rfl ?_
  refine V_get (pc' := 4) 0 X F10 rfl rfl dX5_time_1 rfl ?_
  refine V_get (pc' := 7) 1 X F144 rfl rfl dX5_time_4 rfl ?_
  exact V_ireturn (v := nI (S 48)) [XB x (a 0) r0 p0 h0 q, DW G a S] hQ X hrt rfl dX5_time_7 (Nat.le_of_ble_eq_true rfl) (Nat.le_of_ble_eq_true rfl) (List.Perm.refl _) ⟨rfl, rfl⟩

set_option maxHeartbeats 4000000 in
set_option maxRecDepth 100000 in
theorem c_X5_missed (l : Launch) (G : gT) (x r0 p0 h0 q : Nat) (a S : Nat → Nat) (hI : IV S) : CM l G yX5_missed wsX5_missed 1 20 0 [.ref x] [XB x (a 0) r0 p0 h0 q, DW G a S] 0 0 (fun v u => v = some (.int (nI (S 59))) ∧ u = [XB x (a 0) r0 p0 h0 q, DW G a S]) := by
  refine CM_of RX5 0 0 rfl rfl (by decide) (by decide +kernel) (Nat.le_of_ble_eq_true rfl) (fun E A X hrt hnm => ?_)
  have F10 := Fld_of (idx := 10) 5 0 X (by decide) (by decide) (by decide +kernel) (by decide +kernel)
  have F156 := Fld_of (idx := 156) 0 9 X (by decide) (by decide) (by decide +kernel) (by decide +kernel)
  generalize hQ : QM E G A _ _ _ = Q
  obtain ⟨i1, i2, i3, i4, i5, i6⟩ := id hI
  show V E G A 1 [XB x (a 0) r0 p0 h0 q, DW G a S] 0 0 Q 0 [(0, .ref x)] []
  refine V_aload_n (pc' := 1) 0 X dX5_missed_0 rfl rfl rfl ?_
  refine V_get (pc' := 4) 0 X F10 rfl rfl dX5_missed_1 rfl ?_
  refine V_get (pc' := 7) 1 X F156 rfl rfl dX5_missed_4 rfl ?_
  exact V_ireturn (v := nI (S 59)) [XB x (a 0) r0 p0 h0 q, DW G a S] hQ X hrt rfl dX5_missed_7 (Nat.le_of_ble_eq_true rfl) (Nat.le_of_ble_eq_true rfl) (List.Perm.refl _) ⟨rfl, rfl⟩

set_option maxHeartbeats 4000000 in
set_option maxRecDepth 100000 in
theorem c_X5_heard (l : Launch) (G : gT) (x r0 p0 h0 q : Nat) (a S : Nat → Nat) (hI : IV S) (b : Nat) (hb : b < 2) : CM l G yX5_heard wsX5_heard 2 43 1 [.ref x, .int (nI b)] [XB x (a 0) r0 p0 h0 q, DW G a S] 0 0 (fun v u => v = some (.int (nI (if b = 0 then S 70 else sm (fun k => S (49 + k)) 10))) ∧ u = [XB x (a 0) r0 p0 h0 q, DW G a S]) := by
  refine CM_of RX5 1 22 rfl rfl (by decide) (by decide +kernel) (Nat.le_of_ble_eq_true rfl) (fun E A X hrt hnm => ?_)
  have F10 := Fld_of (idx := 10) 5 0 X (by decide) (by decide) (by decide +kernel) (by decide +kernel)
  have F153 := Fld_of (idx := 153) 0 8 X (by decide) (by decide) (by decide +kernel) (by decide +kernel)
  generalize hQ : QM E G A _ _ _ = Q
  obtain ⟨i1, i2, i3, i4, i5, i6⟩ := id hI
  show V E G A 2 [XB x (a 0) r0 p0 h0 q, DW G a S] 0 0 Q 0 [(0, .ref x), (1, .int (nI b))] []
  refine V_iload_n (pc' := 1) 1 X dX5_heard_0 rfl rfl rfl ?_
  refine V_if_eq (pc' := 4) (C := b = 0) 14 X dX5_heard_1 (by decide) rfl (z_eq0 (by omega)) (fun h1 => ?_) (fun h1 => ?_)
  · refine V_aload_n (pc' := 15) 0 X dX5_heard_14 rfl rfl rfl ?_
    refine V_get (pc' := 18) 0 X F10 rfl rfl dX5_heard_15 rfl ?_
    refine V_get (pc' := 21) 1 X F153 rfl rfl dX5_heard_18 rfl ?_
    exact V_ireturn (v := nI (S 70)) [XB x (a 0) r0 p0 h0 q, DW G a S] hQ X hrt rfl dX5_heard_21 (Nat.le_of_ble_eq_true rfl) (Nat.le_of_ble_eq_true rfl) (List.Perm.refl _) ⟨by rw [if_pos h1], rfl⟩
  · refine V_aload_n (pc' := 5) 0 X dX5_heard_4 rfl rfl rfl ?_
    refine V_get (pc' := 8) 0 X F10 rfl rfl dX5_heard_5 rfl ?_
    refine V_callV (pc' := 11) (As := []) (st := []) 0 1 [1] [0] (show (List.range 2).Perm ([1] ++ [0]) by decide) X (c_X0_sumOfTimesHeard l G a S hI) rfl gX5_heard_X0_sumOfTimesHeard rfl (by decide) rfl rfl rfl (Nat.le_of_ble_eq_true rfl) ⟨Nat.le_of_ble_eq_true rfl, Nat.le_of_ble_eq_true rfl⟩ ⟨Nat.le_of_ble_eq_true rfl, Nat.le_of_ble_eq_true rfl⟩ dX5_heard_8 rfl (fun v_ u_ hp_ => ?_)
    obtain ⟨rfl, rfl⟩ := hp_
    show V E G A 2 [XB x (a 0) r0 p0 h0 q, DW G a S] 0 0 Q 11 [(0, .ref x), (1, .int (nI b))] [.int (nI (sm (fun k => S (49 + k)) 10))]
    refine V_goto (pc' := 21) X dX5_heard_11 (by decide) ?_
    exact V_ireturn (v := nI (sm (fun k => S (49 + k)) 10)) [XB x (a 0) r0 p0 h0 q, DW G a S] hQ X hrt rfl dX5_heard_21 (Nat.le_of_ble_eq_true rfl) (Nat.le_of_ble_eq_true rfl) (List.Perm.refl _) ⟨by rw [if_neg h1], rfl⟩

set_option maxHeartbeats 4000000 in
set_option maxRecDepth 100000 in
theorem c_X5_ticksOfRound (l : Launch) (G : gT) (x r0 p0 h0 q : Nat) (a S : Nat → Nat) (hI : IV S) (b : Nat) (hb : b < 2) : CM l G yX5_ticksOfRound wsX5_ticksOfRound 2 43 1 [.ref x, .int (nI b)] [XB x (a 0) r0 p0 h0 q, DW G a S] 0 0 (fun v u => v = some (.int (nI (if b = 0 then sm (fun k => S (32 + k / 8)) 32 else sm (fun k => 8 * S (32 + k)) 4))) ∧ u = [XB x (a 0) r0 p0 h0 q, DW G a S]) := by
  refine CM_of RX5 1 22 rfl rfl (by decide) (by decide +kernel) (Nat.le_of_ble_eq_true rfl) (fun E A X hrt hnm => ?_)
  have F10 := Fld_of (idx := 10) 5 0 X (by decide) (by decide) (by decide +kernel) (by decide +kernel)
  generalize hQ : QM E G A _ _ _ = Q
  obtain ⟨i1, i2, i3, i4, i5, i6⟩ := id hI
  show V E G A 2 [XB x (a 0) r0 p0 h0 q, DW G a S] 0 0 Q 0 [(0, .ref x), (1, .int (nI b))] []
  refine V_iload_n (pc' := 1) 1 X dX5_ticksOfRound_0 rfl rfl rfl ?_
  refine V_if_eq (pc' := 4) (C := b = 0) 14 X dX5_ticksOfRound_1 (by decide) rfl (z_eq0 (by omega)) (fun h1 => ?_) (fun h1 => ?_)
  · refine V_aload_n (pc' := 15) 0 X dX5_ticksOfRound_14 rfl rfl rfl ?_
    refine V_get (pc' := 18) 0 X F10 rfl rfl dX5_ticksOfRound_15 rfl ?_
    refine V_callV (pc' := 21) (As := []) (st := []) 0 1 [1] [0] (show (List.range 2).Perm ([1] ++ [0]) by decide) X (c_X0_ticksByColumns l G a S hI) rfl gX5_ticksOfRound_X0_ticksByColumns rfl (by decide) rfl rfl rfl (Nat.le_of_ble_eq_true rfl) ⟨Nat.le_of_ble_eq_true rfl, Nat.le_of_ble_eq_true rfl⟩ ⟨Nat.le_of_ble_eq_true rfl, Nat.le_of_ble_eq_true rfl⟩ dX5_ticksOfRound_18 rfl (fun v_ u_ hp_ => ?_)
    obtain ⟨rfl, rfl⟩ := hp_
    show V E G A 2 [XB x (a 0) r0 p0 h0 q, DW G a S] 0 0 Q 21 [(0, .ref x), (1, .int (nI b))] [.int (nI (sm (fun k => S (32 + k / 8)) 32))]
    exact V_ireturn (v := nI (sm (fun k => S (32 + k / 8)) 32)) [XB x (a 0) r0 p0 h0 q, DW G a S] hQ X hrt rfl dX5_ticksOfRound_21 (Nat.le_of_ble_eq_true rfl) (Nat.le_of_ble_eq_true rfl) (List.Perm.refl _) ⟨by rw [if_pos h1], rfl⟩
  · refine V_aload_n (pc' := 5) 0 X dX5_ticksOfRound_4 rfl rfl rfl ?_
    refine V_get (pc' := 8) 0 X F10 rfl rfl dX5_ticksOfRound_5 rfl ?_
    refine V_callV (pc' := 11) (As := []) (st := []) 0 1 [1] [0] (show (List.range 2).Perm ([1] ++ [0]) by decide) X (c_X0_ticksByBars l G a S hI) rfl gX5_ticksOfRound_X0_ticksByBars rfl (by decide) rfl rfl rfl (Nat.le_of_ble_eq_true rfl) ⟨Nat.le_of_ble_eq_true rfl, Nat.le_of_ble_eq_true rfl⟩ ⟨Nat.le_of_ble_eq_true rfl, Nat.le_of_ble_eq_true rfl⟩ dX5_ticksOfRound_8 rfl (fun v_ u_ hp_ => ?_)
    obtain ⟨rfl, rfl⟩ := hp_
    show V E G A 2 [XB x (a 0) r0 p0 h0 q, DW G a S] 0 0 Q 11 [(0, .ref x), (1, .int (nI b))] [.int (nI (sm (fun k => 8 * S (32 + k)) 4))]
    refine V_goto (pc' := 21) X dX5_ticksOfRound_11 (by decide) ?_
    exact V_ireturn (v := nI (sm (fun k => 8 * S (32 + k)) 4)) [XB x (a 0) r0 p0 h0 q, DW G a S] hQ X hrt rfl dX5_ticksOfRound_21 (Nat.le_of_ble_eq_true rfl) (Nat.le_of_ble_eq_true rfl) (List.Perm.refl _) ⟨by rw [if_neg h1], rfl⟩

set_option maxHeartbeats 4000000 in
set_option maxRecDepth 100000 in
theorem c_X5_whyMissed (l : Launch) (G : gT) (x r0 p0 h0 q : Nat) (a S : Nat → Nat) (hI : IV S) (b : Nat) (hb : b < 10) : CM l G yX5_whyMissed wsX5_whyMissed 4 90 1 [.ref x, .int (nI b)] [XB x (a 0) r0 p0 h0 q, DW G a S] 0 0 (fun v u => v = some (.int (nI (why S b))) ∧ u = [XB x (a 0) r0 p0 h0 q, DW G a S]) := by
  refine CM_of RX5 3 69 rfl rfl (by decide) (by decide +kernel) (Nat.le_of_ble_eq_true rfl) (fun E A X hrt hnm => ?_)
  have F10 := Fld_of (idx := 10) 5 0 X (by decide) (by decide) (by decide +kernel) (by decide +kernel)
  have F59 := Fld_of (idx := 59) 0 0 X (by decide) (by decide) (by decide +kernel) (by decide +kernel)
  have F92 := Fld_of (idx := 92) 0 2 X (by decide) (by decide) (by decide +kernel) (by decide +kernel)
  have F109 := Fld_of (idx := 109) 0 6 X (by decide) (by decide) (by decide +kernel) (by decide +kernel)
  have F112 := Fld_of (idx := 112) 0 4 X (by decide) (by decide) (by decide +kernel) (by decide +kernel)
  generalize hQ : QM E G A _ _ _ = Q
  obtain ⟨i1, i2, i3, i4, i5, i6⟩ := id hI
  show V E G A 2 [XB x (a 0) r0 p0 h0 q, DW G a S] 0 0 Q 0 [(0, .ref x), (1, .int (nI b))] []
  refine V_iload_n (pc' := 1) 1 X dX5_whyMissed_0 rfl rfl rfl ?_
  refine V_callS (pc' := 4) (As := [.int (nI b)]) (st := []) [] [0, 1] (show (List.range 2).Perm ([] ++ [0, 1]) by decide) X (c_X5_isBell1 l G b (by omega)) rfl gX5_whyMissed_X5_isBell rfl rfl (Nat.le_of_ble_eq_true rfl) ⟨Nat.le_of_ble_eq_true rfl, Nat.le_of_ble_eq_true rfl⟩ ⟨Nat.le_of_ble_eq_true rfl, Nat.le_of_ble_eq_true rfl⟩ dX5_whyMissed_1 rfl (fun v_ u_ hp_ => ?_)
  obtain ⟨rfl, rfl⟩ := hp_
  show V E G A 2 [XB x (a 0) r0 p0 h0 q, DW G a S] 0 0 Q 4 [(0, .ref x), (1, .int (nI b))] [.int (nI 1)]
  refine V_if_ne (pc' := 7) (C := 1 = 0) 17 X dX5_whyMissed_4 (by decide) rfl (z_eq0 (by omega)) (fun _ => ?_) (fun hz => absurd hz (by decide))
  refine V_aload_n (pc' := 18) 0 X dX5_whyMissed_17 rfl rfl rfl ?_
  refine V_get (pc' := 21) 0 X F10 rfl rfl dX5_whyMissed_18 rfl ?_
  refine V_get (pc' := 24) 1 X F59 rfl rfl dX5_whyMissed_21 rfl ?_
  refine V_aload_n (pc' := 25) 0 X dX5_whyMissed_24 rfl rfl rfl ?_
  refine V_get (pc' := 28) 0 X F10 rfl rfl dX5_whyMissed_25 rfl ?_
  refine V_get (pc' := 31) 1 X F109 rfl rfl dX5_whyMissed_28 rfl ?_
  refine V_iald (pc' := 32) (v := nI (S (S 47))) 2 (S 47) X rfl (by omega) (by decide) rfl dX5_whyMissed_31 rfl ?_
  refine V_iload_n (pc' := 33) 1 X dX5_whyMissed_32 rfl rfl rfl ?_
  refine V_callS (pc' := 36) (As := [.int (nI (S (S 47))), .int (nI b)]) (st := []) [] [0, 1] (show (List.range 2).Perm ([] ++ [0, 1]) by decide) X (c_X5_holds l G (S (S 47)) b (Nat.lt_trans (i1 _ i5) (by decide)) (by omega)) rfl gX5_whyMissed_X5_holds rfl rfl (Nat.le_of_ble_eq_true rfl) ⟨Nat.le_of_ble_eq_true rfl, Nat.le_of_ble_eq_true rfl⟩ ⟨Nat.le_of_ble_eq_true rfl, Nat.le_of_ble_eq_true rfl⟩ dX5_whyMissed_33 rfl (fun v_ u_ hp_ => ?_)
  obtain ⟨rfl, rfl⟩ := hp_
  show V E G A 2 [XB x (a 0) r0 p0 h0 q, DW G a S] 0 0 Q 36 [(0, .ref x), (1, .int (nI b))] [.int (nI (bq (S (S 47)) b))]
  refine V_if_ne (pc' := 39) (C := (bq (S (S 47)) b) = 0) 41 X dX5_whyMissed_36 (by decide) rfl (z_eq0 (Nat.lt_trans (bq_lt _ _) (by decide))) (fun h36 => ?_) (fun h36 => ?_)
  · refine V_aload_n (pc' := 42) 0 X dX5_whyMissed_41 rfl rfl rfl ?_
    refine V_get (pc' := 45) 0 X F10 rfl rfl dX5_whyMissed_42 rfl ?_
    refine V_get (pc' := 48) 1 X F112 rfl rfl dX5_whyMissed_45 rfl ?_
    refine V_iload_n (pc' := 49) 1 X dX5_whyMissed_48 rfl rfl rfl ?_
    refine V_aload_n (pc' := 50) 0 X dX5_whyMissed_49 rfl rfl rfl ?_
    refine V_get (pc' := 53) 0 X F10 rfl rfl dX5_whyMissed_50 rfl ?_
    refine V_get (pc' := 56) 1 X F92 rfl rfl dX5_whyMissed_53 rfl ?_
    refine V_iload_n (pc' := 57) 1 X dX5_whyMissed_56 rfl rfl rfl ?_
    refine V_iald (pc' := 58) (v := nI (S (36 + b))) 4 b X rfl (by omega) (by decide) rfl dX5_whyMissed_57 rfl ?_
    refine V_ws [XB x (a 0) r0 p0 h0 q, [((a 0), .inr (0, [.ref (a 1), .ref (a 2), .ref (a 3), .ref (a 4), .ref (a 5), .int (nI (S 46)), .int (nI (S 47)), .int (nI (S 48)), .int (nI (S 70)), .int (nI (S 59))]))], [((a 1), .inl (G.2 0, 32, .inl (nf S)))], [((a 2), .inl (G.2 0, 4, .inl (nf (fun k => S (32 + k)))))], [((a 3), .inl (G.2 0, 10, .inl (nf (fun k => S (36 + k)))))], [((a 4), .inl (G.2 0, 10, .inl (nf (fun k => S (49 + k)))))], HM G (a 5) (a 6) (fun k => S (60 + k))] rfl ?_
    refine V_callV (pc' := 61) (As := [.int (nI b), .int (nI (S (36 + b)))]) (st := []) 1 6 [6] [0, 1, 2, 3, 4, 5] (show (List.range 7).Perm ([6] ++ [0, 1, 2, 3, 4, 5]) by decide) X (c_X1_isBack l G (a 5) (a 6) b (S (36 + b)) (fun k => S (60 + k)) hb (Nat.lt_of_le_of_lt (i3 b hb) (by decide)) (fun k hk => Nat.lt_of_le_of_lt (i6 k hk) (by decide))) rfl gX5_whyMissed_X1_isBack rfl (by decide) rfl rfl rfl (Nat.le_of_ble_eq_true rfl) ⟨Nat.le_of_ble_eq_true rfl, Nat.le_of_ble_eq_true rfl⟩ ⟨Nat.le_of_ble_eq_true rfl, Nat.le_of_ble_eq_true rfl⟩ dX5_whyMissed_58 rfl (fun v_ u_ hp_ => ?_)
    obtain ⟨rfl, rfl⟩ := hp_
    show V E G A 2 [XB x (a 0) r0 p0 h0 q, [((a 0), .inr (0, [.ref (a 1), .ref (a 2), .ref (a 3), .ref (a 4), .ref (a 5), .int (nI (S 46)), .int (nI (S 47)), .int (nI (S 48)), .int (nI (S 70)), .int (nI (S 59))]))], [((a 1), .inl (G.2 0, 32, .inl (nf S)))], [((a 2), .inl (G.2 0, 4, .inl (nf (fun k => S (32 + k)))))], [((a 3), .inl (G.2 0, 10, .inl (nf (fun k => S (36 + k)))))], [((a 4), .inl (G.2 0, 10, .inl (nf (fun k => S (49 + k)))))], HM G (a 5) (a 6) (fun k => S (60 + k))] 0 0 Q 61 [(0, .ref x), (1, .int (nI b))] [.int (nI (if S (36 + b) / 20 ≤ S (60 + b) then 1 else 0))]
    refine V_ws [XB x (a 0) r0 p0 h0 q, DW G a S] rfl ?_
    refine V_if_ne (pc' := 64) (C := ¬ (S (36 + b) / 20 ≤ S (60 + b))) 66 X dX5_whyMissed_61 (by decide) rfl z_ite0 (fun h61 => ?_) (fun h61 => ?_)
    · have h61 := Classical.not_not.mp h61
      refine V_aload_n (pc' := 67) 0 X dX5_whyMissed_66 rfl rfl rfl ?_
      refine V_get (pc' := 70) 0 X F10 rfl rfl dX5_whyMissed_67 rfl ?_
      refine V_callV (pc' := 73) (As := []) (st := []) 0 1 [1] [0] (show (List.range 2).Perm ([1] ++ [0]) by decide) X (c_X0_heardAtHand l G a S hI) rfl gX5_whyMissed_X0_heardAtHand rfl (by decide) rfl rfl rfl (Nat.le_of_ble_eq_true rfl) ⟨Nat.le_of_ble_eq_true rfl, Nat.le_of_ble_eq_true rfl⟩ ⟨Nat.le_of_ble_eq_true rfl, Nat.le_of_ble_eq_true rfl⟩ dX5_whyMissed_70 rfl (fun v_ u_ hp_ => ?_)
      obtain ⟨rfl, rfl⟩ := hp_
      show V E G A 2 [XB x (a 0) r0 p0 h0 q, DW G a S] 0 0 Q 73 [(0, .ref x), (1, .int (nI b))] [.int (nI (hs S))]
      refine V_iload_n (pc' := 74) 1 X dX5_whyMissed_73 rfl rfl rfl ?_
      refine V_callS (pc' := 77) (As := [.int (nI (hs S)), .int (nI b)]) (st := []) [] [0, 1] (show (List.range 2).Perm ([] ++ [0, 1]) by decide) X (c_X5_holds l G (hs S) b (Nat.lt_trans (hs_lt S) (by decide)) (by omega)) rfl gX5_whyMissed_X5_holds rfl rfl (Nat.le_of_ble_eq_true rfl) ⟨Nat.le_of_ble_eq_true rfl, Nat.le_of_ble_eq_true rfl⟩ ⟨Nat.le_of_ble_eq_true rfl, Nat.le_of_ble_eq_true rfl⟩ dX5_whyMissed_74 rfl (fun v_ u_ hp_ => ?_)
      obtain ⟨rfl, rfl⟩ := hp_
      show V E G A 2 [XB x (a 0) r0 p0 h0 q, DW G a S] 0 0 Q 77 [(0, .ref x), (1, .int (nI b))] [.int (nI (bq (hs S) b))]
      refine V_if_eq (pc' := 80) (C := (bq (hs S) b) = 0) 84 X dX5_whyMissed_77 (by decide) rfl (z_eq0 (Nat.lt_trans (bq_lt _ _) (by decide))) (fun h77 => ?_) (fun h77 => ?_)
      · refine V_iconst (pc' := 85) (nI 2) X dX5_whyMissed_84 ki_2 rfl ?_
        exact V_ireturn (v := nI 2) [XB x (a 0) r0 p0 h0 q, DW G a S] hQ X hrt rfl dX5_whyMissed_85 (Nat.le_of_ble_eq_true rfl) (Nat.le_of_ble_eq_true rfl) (List.Perm.refl _) ⟨by unfold why; rw [if_neg h36, if_neg (Classical.not_not.mpr h61), if_neg (by omega)], rfl⟩
      · refine V_iconst (pc' := 81) (nI 0) X dX5_whyMissed_80 ki_0 rfl ?_
        refine V_goto (pc' := 85) X dX5_whyMissed_81 (by decide) ?_
        exact V_ireturn (v := nI 0) [XB x (a 0) r0 p0 h0 q, DW G a S] hQ X hrt rfl dX5_whyMissed_85 (Nat.le_of_ble_eq_true rfl) (Nat.le_of_ble_eq_true rfl) (List.Perm.refl _) ⟨by unfold why; rw [if_neg h36, if_neg (Classical.not_not.mpr h61), if_pos (by have := bq_lt (hs S) b; omega)], rfl⟩
    · refine V_iconst (pc' := 65) (nI 1) X dX5_whyMissed_64 ki_1 rfl ?_
      exact V_ireturn (v := nI 1) [XB x (a 0) r0 p0 h0 q, DW G a S] hQ X hrt rfl dX5_whyMissed_65 (Nat.le_of_ble_eq_true rfl) (Nat.le_of_ble_eq_true rfl) (List.Perm.refl _) ⟨by unfold why; rw [if_neg h36, if_pos h61], rfl⟩
  · refine V_iconst (pc' := 40) (nI 3) X dX5_whyMissed_39 ki_3 rfl ?_
    exact V_ireturn (v := nI 3) [XB x (a 0) r0 p0 h0 q, DW G a S] hQ X hrt rfl dX5_whyMissed_40 (Nat.le_of_ble_eq_true rfl) (Nat.le_of_ble_eq_true rfl) (List.Perm.refl _) ⟨by unfold why; rw [if_pos h36], rfl⟩

set_option maxHeartbeats 4000000 in
set_option maxRecDepth 100000 in
theorem c_X5_inRound (l : Launch) (G : gT) (x p0 h0 q : Nat) (a S r H g : Nat → Nat) (hI : IV S) (c : Nat) (hc : c < 32) : CM l G yX5_inRound wsX5_inRound 4 95 1 [.ref x, .int (nI c)] [XB x (a 0) (r 0) p0 h0 q, DW G a S, RN G r H g] 0 0 (fun v u => v = some (.int (nI (rh 3 S (S 46) c))) ∧ u = [XB x (a 0) (r 0) p0 h0 q, DW G a S, RN G r (rh 3 S (S 46)) (rsp 3 S (S 46) 32)]) := by
  refine CM_of RX5 3 74 rfl rfl (by decide) (by decide +kernel) (Nat.le_of_ble_eq_true rfl) (fun E A X hrt hnm => ?_)
  have F10 := Fld_of (idx := 10) 5 0 X (by decide) (by decide) (by decide +kernel) (by decide +kernel)
  have F19 := Fld_of (idx := 19) 5 1 X (by decide) (by decide) (by decide +kernel) (by decide +kernel)
  have F97 := Fld_of (idx := 97) 0 5 X (by decide) (by decide) (by decide +kernel) (by decide +kernel)
  have F169 := Fld_of (idx := 169) 4 0 X (by decide) (by decide) (by decide +kernel) (by decide +kernel)
  generalize hQ : QM E G A _ _ _ = Q
  obtain ⟨i1, i2, i3, i4, i5, i6⟩ := id hI
  show V E G A 2 [XB x (a 0) (r 0) p0 h0 q, DW G a S, RN G r H g] 0 0 Q 0 [(0, .ref x), (1, .int (nI c))] []
  refine V_iload_n (pc' := 1) 1 X dX5_inRound_0 rfl rfl rfl ?_
  refine V_callS (pc' := 4) (As := [.int (nI c)]) (st := []) [] [0, 1, 2] (show (List.range 3).Perm ([] ++ [0, 1, 2]) by decide) X (c_X5_isColumn1 l G c (by omega)) rfl gX5_inRound_X5_isColumn rfl rfl (Nat.le_of_ble_eq_true rfl) ⟨Nat.le_of_ble_eq_true rfl, Nat.le_of_ble_eq_true rfl⟩ ⟨Nat.le_of_ble_eq_true rfl, Nat.le_of_ble_eq_true rfl⟩ dX5_inRound_1 rfl (fun v_ u_ hp_ => ?_)
  obtain ⟨rfl, rfl⟩ := hp_
  show V E G A 2 [XB x (a 0) (r 0) p0 h0 q, DW G a S, RN G r H g] 0 0 Q 4 [(0, .ref x), (1, .int (nI c))] [.int (nI 1)]
  refine V_if_ne (pc' := 7) (C := 1 = 0) 17 X dX5_inRound_4 (by decide) rfl (z_eq0 (by omega)) (fun _ => ?_) (fun hz => absurd hz (by decide))
  refine V_aload_n (pc' := 18) 0 X dX5_inRound_17 rfl rfl rfl ?_
  refine V_get (pc' := 21) 0 X F19 rfl rfl dX5_inRound_18 rfl ?_
  refine V_aload_n (pc' := 22) 0 X dX5_inRound_21 rfl rfl rfl ?_
  refine V_get (pc' := 25) 0 X F10 rfl rfl dX5_inRound_22 rfl ?_
  refine V_aload_n (pc' := 26) 0 X dX5_inRound_25 rfl rfl rfl ?_
  refine V_get (pc' := 29) 0 X F10 rfl rfl dX5_inRound_26 rfl ?_
  refine V_get (pc' := 32) 1 X F97 rfl rfl dX5_inRound_29 rfl ?_
  refine V_callV (pc' := 35) (As := [.ref (a 0), .int (nI (S 46))]) (st := []) 4 8 [2, 1] [0] (show (List.range 3).Perm ([2, 1] ++ [0]) by decide) X (c_X4_play l G r H g a S (S 46) hI (by omega)) rfl gX5_inRound_X4_play rfl (by decide) rfl rfl rfl (Nat.le_of_ble_eq_true rfl) ⟨Nat.le_of_ble_eq_true rfl, Nat.le_of_ble_eq_true rfl⟩ ⟨Nat.le_of_ble_eq_true rfl, Nat.le_of_ble_eq_true rfl⟩ dX5_inRound_32 rfl (fun v_ u_ hp_ => ?_)
  obtain ⟨rfl, rfl⟩ := hp_
  show V E G A 2 [XB x (a 0) (r 0) p0 h0 q, RN G r (rh 3 S (S 46)) (rsp 3 S (S 46) 32), DW G a S] 0 0 Q 35 [(0, .ref x), (1, .int (nI c))] [.int (nI (sm (fun k => cnt (rh 3 S (S 46) k)) 32))]
  refine V_ord [0, 2, 1] [XB x (a 0) (r 0) p0 h0 q, DW G a S, RN G r (rh 3 S (S 46)) (rsp 3 S (S 46) 32)] (show (List.range 3).Perm [0, 2, 1] by decide) rfl ?_
  refine V_pop (pc' := 36) X dX5_inRound_35 rfl rfl ?_
  refine V_aload_n (pc' := 37) 0 X dX5_inRound_36 rfl rfl rfl ?_
  refine V_get (pc' := 40) 0 X F19 rfl rfl dX5_inRound_37 rfl ?_
  refine V_get (pc' := 43) 8 X F169 rfl rfl dX5_inRound_40 rfl ?_
  refine V_iload_n (pc' := 44) 1 X dX5_inRound_43 rfl rfl rfl ?_
  refine V_iald (pc' := 45) (v := nI ((rh 3 S (S 46)) c)) 9 c X rfl (by omega) (by decide) rfl dX5_inRound_44 rfl ?_
  exact V_ireturn (v := nI ((rh 3 S (S 46)) c)) [XB x (a 0) (r 0) p0 h0 q, DW G a S, RN G r (rh 3 S (S 46)) (rsp 3 S (S 46) 32)] hQ X hrt rfl dX5_inRound_45 (Nat.le_of_ble_eq_true rfl) (Nat.le_of_ble_eq_true rfl) (List.Perm.refl _) ⟨rfl, rfl⟩

set_option maxHeartbeats 4000000 in
set_option maxRecDepth 100000 in
theorem c_X5_heardInRound (l : Launch) (G : gT) (x p0 h0 q : Nat) (a S r H g : Nat → Nat) (hI : IV S) (b : Nat) (hb : b < 2) : CM l G yX5_heardInRound wsX5_heardInRound 4 96 1 [.ref x, .int (nI b)] [XB x (a 0) (r 0) p0 h0 q, DW G a S, RN G r H g] 0 0 (fun v u => v = some (.int (nI (sm (fun k => cnt (rh 3 S (S 46) k)) 32))) ∧ u = [XB x (a 0) (r 0) p0 h0 q, DW G a S, RN G r (rh 3 S (S 46)) (rsp 3 S (S 46) 32)]) := by
  refine CM_of RX5 3 74 rfl rfl (by decide) (by decide +kernel) (Nat.le_of_ble_eq_true rfl) (fun E A X hrt hnm => ?_)
  have F10 := Fld_of (idx := 10) 5 0 X (by decide) (by decide) (by decide +kernel) (by decide +kernel)
  have F19 := Fld_of (idx := 19) 5 1 X (by decide) (by decide) (by decide +kernel) (by decide +kernel)
  have F97 := Fld_of (idx := 97) 0 5 X (by decide) (by decide) (by decide +kernel) (by decide +kernel)
  generalize hQ : QM E G A _ _ _ = Q
  obtain ⟨i1, i2, i3, i4, i5, i6⟩ := id hI
  show V E G A 3 [XB x (a 0) (r 0) p0 h0 q, DW G a S, RN G r H g] 0 0 Q 0 [(0, .ref x), (1, .int (nI b))] []
  refine V_aload_n (pc' := 1) 0 X dX5_heardInRound_0 rfl rfl rfl ?_
  refine V_get (pc' := 4) 0 X F19 rfl rfl dX5_heardInRound_1 rfl ?_
  refine V_aload_n (pc' := 5) 0 X dX5_heardInRound_4 rfl rfl rfl ?_
  refine V_get (pc' := 8) 0 X F10 rfl rfl dX5_heardInRound_5 rfl ?_
  refine V_aload_n (pc' := 9) 0 X dX5_heardInRound_8 rfl rfl rfl ?_
  refine V_get (pc' := 12) 0 X F10 rfl rfl dX5_heardInRound_9 rfl ?_
  refine V_get (pc' := 15) 1 X F97 rfl rfl dX5_heardInRound_12 rfl ?_
  refine V_callV (pc' := 18) (As := [.ref (a 0), .int (nI (S 46))]) (st := []) 4 8 [2, 1] [0] (show (List.range 3).Perm ([2, 1] ++ [0]) by decide) X (c_X4_play l G r H g a S (S 46) hI (by omega)) rfl gX5_heardInRound_X4_play rfl (by decide) rfl rfl rfl (Nat.le_of_ble_eq_true rfl) ⟨Nat.le_of_ble_eq_true rfl, Nat.le_of_ble_eq_true rfl⟩ ⟨Nat.le_of_ble_eq_true rfl, Nat.le_of_ble_eq_true rfl⟩ dX5_heardInRound_15 rfl (fun v_ u_ hp_ => ?_)
  obtain ⟨rfl, rfl⟩ := hp_
  show V E G A 3 [XB x (a 0) (r 0) p0 h0 q, RN G r (rh 3 S (S 46)) (rsp 3 S (S 46) 32), DW G a S] 0 0 Q 18 [(0, .ref x), (1, .int (nI b))] [.int (nI (sm (fun k => cnt (rh 3 S (S 46) k)) 32))]
  refine V_ord [0, 2, 1] [XB x (a 0) (r 0) p0 h0 q, DW G a S, RN G r (rh 3 S (S 46)) (rsp 3 S (S 46) 32)] (show (List.range 3).Perm [0, 2, 1] by decide) rfl ?_
  refine V_istore_n (pc' := 19) [(0, .ref x), (1, .int (nI b)), (2, .int (nI (sm (fun k => cnt (rh 3 S (S 46) k)) 32)))] [1, 2, 0] X dX5_heardInRound_18 rfl (Nat.le_of_ble_eq_true rfl) rfl rfl ?_
  refine V_iload_n (pc' := 20) 1 X dX5_heardInRound_19 rfl rfl rfl ?_
  refine V_if_eq (pc' := 23) (C := b = 0) 33 X dX5_heardInRound_20 (by decide) rfl (z_eq0 (by omega)) (fun h20 => ?_) (fun h20 => ?_)
  · refine V_iload_n (pc' := 34) 2 X dX5_heardInRound_33 rfl rfl rfl ?_
    exact V_ireturn (v := nI (sm (fun k => cnt (rh 3 S (S 46) k)) 32)) [XB x (a 0) (r 0) p0 h0 q, DW G a S, RN G r (rh 3 S (S 46)) (rsp 3 S (S 46) 32)] hQ X hrt rfl dX5_heardInRound_34 (Nat.le_of_ble_eq_true rfl) (Nat.le_of_ble_eq_true rfl) (List.Perm.refl _) ⟨rfl, rfl⟩
  · refine V_aload_n (pc' := 24) 0 X dX5_heardInRound_23 rfl rfl rfl ?_
    refine V_get (pc' := 27) 0 X F19 rfl rfl dX5_heardInRound_24 rfl ?_
    refine V_callV (pc' := 30) (As := []) (st := []) 4 8 [2] [0, 1] (show (List.range 3).Perm ([2] ++ [0, 1]) by decide) X (c_X4_sumOfColumns l G r (rh 3 S (S 46)) (rsp 3 S (S 46) 32) (fun k _ => rh_lt _ _ _ _)) rfl gX5_heardInRound_X4_sumOfColumns rfl (by decide) rfl rfl rfl (Nat.le_of_ble_eq_true rfl) ⟨Nat.le_of_ble_eq_true rfl, Nat.le_of_ble_eq_true rfl⟩ ⟨Nat.le_of_ble_eq_true rfl, Nat.le_of_ble_eq_true rfl⟩ dX5_heardInRound_27 rfl (fun v_ u_ hp_ => ?_)
    obtain ⟨rfl, rfl⟩ := hp_
    show V E G A 3 [XB x (a 0) (r 0) p0 h0 q, DW G a S, RN G r (rh 3 S (S 46)) (rsp 3 S (S 46) 32)] 0 0 Q 30 [(0, .ref x), (1, .int (nI b)), (2, .int (nI (sm (fun k => cnt (rh 3 S (S 46) k)) 32)))] [.int (nI (sm (fun k => cnt ((rh 3 S (S 46)) k)) 32))]
    refine V_goto (pc' := 34) X dX5_heardInRound_30 (by decide) ?_
    exact V_ireturn (v := nI (sm (fun k => cnt ((rh 3 S (S 46)) k)) 32)) [XB x (a 0) (r 0) p0 h0 q, DW G a S, RN G r (rh 3 S (S 46)) (rsp 3 S (S 46) 32)] hQ X hrt rfl dX5_heardInRound_34 (Nat.le_of_ble_eq_true rfl) (Nat.le_of_ble_eq_true rfl) (List.Perm.refl _) ⟨rfl, rfl⟩

set_option maxHeartbeats 4000000 in
set_option maxRecDepth 100000 in
theorem c_X5_missedInRound (l : Launch) (G : gT) (x p0 h0 q : Nat) (a S r H g : Nat → Nat) (hI : IV S) : CM l G yX5_missedInRound wsX5_missedInRound 4 94 0 [.ref x] [XB x (a 0) (r 0) p0 h0 q, DW G a S, RN G r H g] 0 0 (fun v u => v = some (.int (nI (sm (fun k => cnt (S k)) 32 - sm (fun k => cnt (rh 3 S (S 46) k)) 32))) ∧ u = [XB x (a 0) (r 0) p0 h0 q, DW G a S, RN G r (rh 3 S (S 46)) (rsp 3 S (S 46) 32)]) := by
  refine CM_of RX5 3 74 rfl rfl (by decide) (by decide +kernel) (Nat.le_of_ble_eq_true rfl) (fun E A X hrt hnm => ?_)
  have F10 := Fld_of (idx := 10) 5 0 X (by decide) (by decide) (by decide +kernel) (by decide +kernel)
  have F19 := Fld_of (idx := 19) 5 1 X (by decide) (by decide) (by decide +kernel) (by decide +kernel)
  have F97 := Fld_of (idx := 97) 0 5 X (by decide) (by decide) (by decide +kernel) (by decide +kernel)
  generalize hQ : QM E G A _ _ _ = Q
  obtain ⟨i1, i2, i3, i4, i5, i6⟩ := id hI
  show V E G A 1 [XB x (a 0) (r 0) p0 h0 q, DW G a S, RN G r H g] 0 0 Q 0 [(0, .ref x)] []
  refine V_aload_n (pc' := 1) 0 X dX5_missedInRound_0 rfl rfl rfl ?_
  refine V_get (pc' := 4) 0 X F10 rfl rfl dX5_missedInRound_1 rfl ?_
  refine V_callV (pc' := 7) (As := []) (st := []) 0 1 [1] [0, 2] (show (List.range 3).Perm ([1] ++ [0, 2]) by decide) X (c_X0_countPegs l G a S hI) rfl gX5_missedInRound_X0_countPegs rfl (by decide) rfl rfl rfl (Nat.le_of_ble_eq_true rfl) ⟨Nat.le_of_ble_eq_true rfl, Nat.le_of_ble_eq_true rfl⟩ ⟨Nat.le_of_ble_eq_true rfl, Nat.le_of_ble_eq_true rfl⟩ dX5_missedInRound_4 rfl (fun v_ u_ hp_ => ?_)
  obtain ⟨rfl, rfl⟩ := hp_
  show V E G A 1 [XB x (a 0) (r 0) p0 h0 q, RN G r H g, DW G a S] 0 0 Q 7 [(0, .ref x)] [.int (nI (sm (fun k => cnt (S k)) 32))]
  refine V_ord [0, 2, 1] [XB x (a 0) (r 0) p0 h0 q, DW G a S, RN G r H g] (show (List.range 3).Perm [0, 2, 1] by decide) rfl ?_
  refine V_aload_n (pc' := 8) 0 X dX5_missedInRound_7 rfl rfl rfl ?_
  refine V_get (pc' := 11) 0 X F19 rfl rfl dX5_missedInRound_8 rfl ?_
  refine V_aload_n (pc' := 12) 0 X dX5_missedInRound_11 rfl rfl rfl ?_
  refine V_get (pc' := 15) 0 X F10 rfl rfl dX5_missedInRound_12 rfl ?_
  refine V_aload_n (pc' := 16) 0 X dX5_missedInRound_15 rfl rfl rfl ?_
  refine V_get (pc' := 19) 0 X F10 rfl rfl dX5_missedInRound_16 rfl ?_
  refine V_get (pc' := 22) 1 X F97 rfl rfl dX5_missedInRound_19 rfl ?_
  refine V_callV (pc' := 25) (As := [.ref (a 0), .int (nI (S 46))]) (st := [.int (nI (sm (fun k => cnt (S k)) 32))]) 4 8 [2, 1] [0] (show (List.range 3).Perm ([2, 1] ++ [0]) by decide) X (c_X4_play l G r H g a S (S 46) hI (by omega)) rfl gX5_missedInRound_X4_play rfl (by decide) rfl rfl rfl (Nat.le_of_ble_eq_true rfl) ⟨Nat.le_of_ble_eq_true rfl, Nat.le_of_ble_eq_true rfl⟩ ⟨Nat.le_of_ble_eq_true rfl, Nat.le_of_ble_eq_true rfl⟩ dX5_missedInRound_22 rfl (fun v_ u_ hp_ => ?_)
  obtain ⟨rfl, rfl⟩ := hp_
  show V E G A 1 [XB x (a 0) (r 0) p0 h0 q, RN G r (rh 3 S (S 46)) (rsp 3 S (S 46) 32), DW G a S] 0 0 Q 25 [(0, .ref x)] [.int (nI (sm (fun k => cnt (rh 3 S (S 46) k)) 32)), .int (nI (sm (fun k => cnt (S k)) 32))]
  refine V_ord [0, 2, 1] [XB x (a 0) (r 0) p0 h0 q, DW G a S, RN G r (rh 3 S (S 46)) (rsp 3 S (S 46) 32)] (show (List.range 3).Perm [0, 2, 1] by decide) rfl ?_
  refine V_isub (pc' := 26) (nI ((sm (fun k => cnt (S k)) 32) - (sm (fun k => cnt (rh 3 S (S 46) k)) 32))) X dX5_missedInRound_25 (pk_sub (sm_cnt_mono (fun k i => hr_bq _ _ _ _ 10 i) 32)) rfl ?_
  exact V_ireturn (v := nI ((sm (fun k => cnt (S k)) 32) - (sm (fun k => cnt (rh 3 S (S 46) k)) 32))) [XB x (a 0) (r 0) p0 h0 q, DW G a S, RN G r (rh 3 S (S 46)) (rsp 3 S (S 46) 32)] hQ X hrt rfl dX5_missedInRound_26 (Nat.le_of_ble_eq_true rfl) (Nat.le_of_ble_eq_true rfl) (List.Perm.refl _) ⟨rfl, rfl⟩

set_option maxHeartbeats 4000000 in
set_option maxRecDepth 100000 in
theorem c_X5_busiest (l : Launch) (G : gT) (x p0 h0 q : Nat) (a S r H g : Nat → Nat) (hI : IV S) : CM l G yX5_busiest wsX5_busiest 4 98 0 [.ref x] [XB x (a 0) (r 0) p0 h0 q, DW G a S, RN G r H g] 0 0 (fun v u => v = some (.int (rN (bz (fun k => sm (fun j => bq (rh 3 S (S 46) j) k) 32) 10).1)) ∧ u = [XB x (a 0) (r 0) p0 h0 q, DW G a S, RN G r (rh 3 S (S 46)) (rsp 3 S (S 46) 32)]) := by
  refine CM_of RX5 3 74 rfl rfl (by decide) (by decide +kernel) (Nat.le_of_ble_eq_true rfl) (fun E A X hrt hnm => ?_)
  have F10 := Fld_of (idx := 10) 5 0 X (by decide) (by decide) (by decide +kernel) (by decide +kernel)
  have F19 := Fld_of (idx := 19) 5 1 X (by decide) (by decide) (by decide +kernel) (by decide +kernel)
  have F97 := Fld_of (idx := 97) 0 5 X (by decide) (by decide) (by decide +kernel) (by decide +kernel)
  generalize hQ : QM E G A _ _ _ = Q
  obtain ⟨i1, i2, i3, i4, i5, i6⟩ := id hI
  show V E G A 5 [XB x (a 0) (r 0) p0 h0 q, DW G a S, RN G r H g] 0 0 Q 0 [(0, .ref x)] []
  refine V_aload_n (pc' := 1) 0 X dX5_busiest_0 rfl rfl rfl ?_
  refine V_get (pc' := 4) 0 X F19 rfl rfl dX5_busiest_1 rfl ?_
  refine V_aload_n (pc' := 5) 0 X dX5_busiest_4 rfl rfl rfl ?_
  refine V_get (pc' := 8) 0 X F10 rfl rfl dX5_busiest_5 rfl ?_
  refine V_aload_n (pc' := 9) 0 X dX5_busiest_8 rfl rfl rfl ?_
  refine V_get (pc' := 12) 0 X F10 rfl rfl dX5_busiest_9 rfl ?_
  refine V_get (pc' := 15) 1 X F97 rfl rfl dX5_busiest_12 rfl ?_
  refine V_callV (pc' := 18) (As := [.ref (a 0), .int (nI (S 46))]) (st := []) 4 8 [2, 1] [0] (show (List.range 3).Perm ([2, 1] ++ [0]) by decide) X (c_X4_play l G r H g a S (S 46) hI (by omega)) rfl gX5_busiest_X4_play rfl (by decide) rfl rfl rfl (Nat.le_of_ble_eq_true rfl) ⟨Nat.le_of_ble_eq_true rfl, Nat.le_of_ble_eq_true rfl⟩ ⟨Nat.le_of_ble_eq_true rfl, Nat.le_of_ble_eq_true rfl⟩ dX5_busiest_15 rfl (fun v_ u_ hp_ => ?_)
  obtain ⟨rfl, rfl⟩ := hp_
  show V E G A 5 [XB x (a 0) (r 0) p0 h0 q, RN G r (rh 3 S (S 46)) (rsp 3 S (S 46) 32), DW G a S] 0 0 Q 18 [(0, .ref x)] [.int (nI (sm (fun k => cnt (rh 3 S (S 46) k)) 32))]
  refine V_ord [0, 2, 1] [XB x (a 0) (r 0) p0 h0 q, DW G a S, RN G r (rh 3 S (S 46)) (rsp 3 S (S 46) 32)] (show (List.range 3).Perm [0, 2, 1] by decide) rfl ?_
  refine V_pop (pc' := 19) X dX5_busiest_18 rfl rfl ?_
  refine V_iconst (pc' := 20) (-1) X dX5_busiest_19 rfl rfl ?_
  refine V_istore_n (pc' := 21) [(0, .ref x), (1, .int (-1))] [1, 0] X dX5_busiest_20 rfl (Nat.le_of_ble_eq_true rfl) rfl rfl ?_
  refine V_iconst (pc' := 22) (nI 0) X dX5_busiest_21 ki_0 rfl ?_
  refine V_istore_n (pc' := 23) [(0, .ref x), (1, .int (-1)), (2, .int (nI 0))] [1, 2, 0] X dX5_busiest_22 rfl (Nat.le_of_ble_eq_true rfl) rfl rfl ?_
  refine V_iconst (pc' := 24) (nI 0) X dX5_busiest_23 ki_0 rfl ?_
  refine V_istore_n (pc' := 25) [(0, .ref x), (1, .int (-1)), (2, .int (nI 0)), (3, .int (nI 0))] [1, 2, 3, 0] X dX5_busiest_24 rfl (Nat.le_of_ble_eq_true rfl) rfl rfl ?_
  have lp_1 : ∀ i, i ≤ 10 → V E G A 5 [XB x (a 0) (r 0) p0 h0 q, DW G a S, RN G r (rh 3 S (S 46)) (rsp 3 S (S 46) 32)] 0 0 Q 25 [(0, .ref x), (1, .int (rN (bz (fun k => sm (fun j => bq (rh 3 S (S 46) j) k) 32) i).1)), (2, .int (nI ((bz (fun k => sm (fun j => bq (rh 3 S (S 46) j) k) 32) i).2))), (3, .int (nI i))] [] := by
    refine loopD 10 ?_ ?_
    · show V E G A 5 [XB x (a 0) (r 0) p0 h0 q, DW G a S, RN G r (rh 3 S (S 46)) (rsp 3 S (S 46) 32)] 0 0 Q 25 [(0, .ref x), (1, .int (rN (bz (fun k => sm (fun j => bq (rh 3 S (S 46) j) k) 32) 10).1)), (2, .int (nI ((bz (fun k => sm (fun j => bq (rh 3 S (S 46) j) k) 32) 10).2))), (3, .int (nI 10))] []
      refine V_iload_n (pc' := 26) 3 X dX5_busiest_25 rfl rfl rfl ?_
      refine V_bipush (pc' := 28) (nI 10) X dX5_busiest_26 kb_10 rfl ?_
      refine V_icmp_ge (pc' := 31) (C := 10 ≤ 10) 58 X dX5_busiest_28 (by decide) rfl (nI_leI (by omega) (by omega)) (fun _ => ?_) (fun hz => absurd (by omega) hz)
      refine V_iload_n (pc' := 59) 1 X dX5_busiest_58 rfl rfl rfl ?_
      exact V_ireturn (v := (rN (bz (fun k => sm (fun j => bq (rh 3 S (S 46) j) k) 32) 10).1)) [XB x (a 0) (r 0) p0 h0 q, DW G a S, RN G r (rh 3 S (S 46)) (rsp 3 S (S 46) 32)] hQ X hrt rfl dX5_busiest_59 (Nat.le_of_ble_eq_true rfl) (Nat.le_of_ble_eq_true rfl) (List.Perm.refl _) ⟨rfl, rfl⟩
    · intro i hi_i ih
      show V E G A 5 [XB x (a 0) (r 0) p0 h0 q, DW G a S, RN G r (rh 3 S (S 46)) (rsp 3 S (S 46) 32)] 0 0 Q 25 [(0, .ref x), (1, .int (rN (bz (fun k => sm (fun j => bq (rh 3 S (S 46) j) k) 32) i).1)), (2, .int (nI ((bz (fun k => sm (fun j => bq (rh 3 S (S 46) j) k) 32) i).2))), (3, .int (nI i))] []
      have hbz := bz_le (t := (fun k => sm (fun j => bq (rh 3 S (S 46) j) k) 32)) (c := 32) (fun b => sm_bq_le _ b 32) i
      have hti : sm (fun j => bq (rh 3 S (S 46) j) i) 32 ≤ 32 := (fun b => sm_bq_le _ b 32) i
      refine V_iload_n (pc' := 26) 3 X dX5_busiest_25 rfl rfl rfl ?_
      refine V_bipush (pc' := 28) (nI 10) X dX5_busiest_26 kb_10 rfl ?_
      refine V_icmp_ge (pc' := 31) (C := 10 ≤ i) 58 X dX5_busiest_28 (by decide) rfl (nI_leI (by omega) (by omega)) (fun hz => absurd hz (by omega)) (fun _ => ?_)
      refine V_aload_n (pc' := 32) 0 X dX5_busiest_31 rfl rfl rfl ?_
      refine V_get (pc' := 35) 0 X F19 rfl rfl dX5_busiest_32 rfl ?_
      refine V_iload_n (pc' := 36) 3 X dX5_busiest_35 rfl rfl rfl ?_
      refine V_callV (pc' := 39) (As := [.int (nI i)]) (st := []) 4 8 [2] [0, 1] (show (List.range 3).Perm ([2] ++ [0, 1]) by decide) X (c_X4_timesHeard l G r (rh 3 S (S 46)) (rsp 3 S (S 46) 32) i (fun k _ => rh_lt _ _ _ _) (by omega)) rfl gX5_busiest_X4_timesHeard rfl (by decide) rfl rfl rfl (Nat.le_of_ble_eq_true rfl) ⟨Nat.le_of_ble_eq_true rfl, Nat.le_of_ble_eq_true rfl⟩ ⟨Nat.le_of_ble_eq_true rfl, Nat.le_of_ble_eq_true rfl⟩ dX5_busiest_36 rfl (fun v_ u_ hp_ => ?_)
      obtain ⟨rfl, rfl⟩ := hp_
      show V E G A 5 [XB x (a 0) (r 0) p0 h0 q, DW G a S, RN G r (rh 3 S (S 46)) (rsp 3 S (S 46) 32)] 0 0 Q 39 [(0, .ref x), (1, .int (rN (bz (fun k => sm (fun j => bq (rh 3 S (S 46) j) k) 32) i).1)), (2, .int (nI ((bz (fun k => sm (fun j => bq (rh 3 S (S 46) j) k) 32) i).2))), (3, .int (nI i))] [.int (nI (sm (fun k => bq ((rh 3 S (S 46)) k) i) 32))]
      refine V_istore (pc' := 41) [(0, .ref x), (1, .int (rN (bz (fun k => sm (fun j => bq (rh 3 S (S 46) j) k) 32) i).1)), (2, .int (nI ((bz (fun k => sm (fun j => bq (rh 3 S (S 46) j) k) 32) i).2))), (3, .int (nI i)), (4, .int (nI (sm (fun k => bq ((rh 3 S (S 46)) k) i) 32)))] [1, 2, 3, 4, 0] X dX5_busiest_39 (Nat.le_of_ble_eq_true rfl) rfl rfl ?_
      refine V_iload (pc' := 43) 4 X dX5_busiest_41 rfl rfl ?_
      refine V_iload_n (pc' := 44) 2 X dX5_busiest_43 rfl rfl rfl ?_
      refine V_icmp_le (pc' := 47) (C := (sm (fun k => bq ((rh 3 S (S 46)) k) i) 32) ≤ ((bz (fun k => sm (fun j => bq (rh 3 S (S 46) j) k) 32) i).2)) 52 X dX5_busiest_44 (by decide) rfl (nI_leI (by omega) (by omega)) (fun h44 => ?_) (fun h44 => ?_)
      · refine V_iinc (pc' := 55) [(0, .ref x), (1, .int (rN (bz (fun k => sm (fun j => bq (rh 3 S (S 46) j) k) 32) i).1)), (2, .int (nI ((bz (fun k => sm (fun j => bq (rh 3 S (S 46) j) k) 32) i).2))), (3, .int (nI (i + 1))), (4, .int (nI (sm (fun k => bq ((rh 3 S (S 46)) k) i) 32)))] 3 [1, 2, 3, 0, 4] X dX5_busiest_52 rfl (nI_i1 _) (Nat.le_of_ble_eq_true rfl) rfl rfl ?_
        refine V_goto (pc' := 25) X dX5_busiest_55 (by decide) ?_
        refine V_lv [0, 1, 2, 3] [(0, .ref x), (1, .int (rN (bz (fun k => sm (fun j => bq (rh 3 S (S 46) j) k) 32) i).1)), (2, .int (nI ((bz (fun k => sm (fun j => bq (rh 3 S (S 46) j) k) 32) i).2))), (3, .int (nI (i + 1)))] rfl ?_
        rw [show bz (fun k => sm (fun j => bq (rh 3 S (S 46) j) k) 32) (i + 1) = bz (fun k => sm (fun j => bq (rh 3 S (S 46) j) k) 32) i by rw [bz]; exact if_neg (by omega)] at ih
        exact ih
      · refine V_iload (pc' := 49) 4 X dX5_busiest_47 rfl rfl ?_
        refine V_istore_n (pc' := 50) [(0, .ref x), (1, .int (rN (bz (fun k => sm (fun j => bq (rh 3 S (S 46) j) k) 32) i).1)), (2, .int (nI (sm (fun k => bq ((rh 3 S (S 46)) k) i) 32))), (3, .int (nI i)), (4, .int (nI (sm (fun k => bq ((rh 3 S (S 46)) k) i) 32)))] [1, 2, 0, 3, 4] X dX5_busiest_49 rfl (Nat.le_of_ble_eq_true rfl) rfl rfl ?_
        refine V_iload_n (pc' := 51) 3 X dX5_busiest_50 rfl rfl rfl ?_
        refine V_istore_n (pc' := 52) [(0, .ref x), (1, .int (nI i)), (2, .int (nI (sm (fun k => bq ((rh 3 S (S 46)) k) i) 32))), (3, .int (nI i)), (4, .int (nI (sm (fun k => bq ((rh 3 S (S 46)) k) i) 32)))] [1, 0, 2, 3, 4] X dX5_busiest_51 rfl (Nat.le_of_ble_eq_true rfl) rfl rfl ?_
        refine V_iinc (pc' := 55) [(0, .ref x), (1, .int (nI i)), (2, .int (nI (sm (fun k => bq ((rh 3 S (S 46)) k) i) 32))), (3, .int (nI (i + 1))), (4, .int (nI (sm (fun k => bq ((rh 3 S (S 46)) k) i) 32)))] 3 [1, 2, 3, 0, 4] X dX5_busiest_52 rfl (nI_i1 _) (Nat.le_of_ble_eq_true rfl) rfl rfl ?_
        refine V_goto (pc' := 25) X dX5_busiest_55 (by decide) ?_
        refine V_lv [0, 1, 2, 3] [(0, .ref x), (1, .int (nI i)), (2, .int (nI (sm (fun k => bq ((rh 3 S (S 46)) k) i) 32))), (3, .int (nI (i + 1)))] rfl ?_
        rw [show bz (fun k => sm (fun j => bq (rh 3 S (S 46) j) k) 32) (i + 1) = (some i, sm (fun j => bq (rh 3 S (S 46) j) i) 32) by rw [bz]; exact if_pos (by omega)] at ih
        exact ih
  exact lp_1 0 (Nat.zero_le _)

set_option maxHeartbeats 4000000 in
set_option maxRecDepth 100000 in
theorem c_X5_heaviestColumn (l : Launch) (G : gT) (x p0 h0 q : Nat) (a S r H g : Nat → Nat) (hI : IV S) : CM l G yX5_heaviestColumn wsX5_heaviestColumn 4 98 0 [.ref x] [XB x (a 0) (r 0) p0 h0 q, DW G a S, RN G r H g] 0 0 (fun v u => v = some (.int (rN (bz (fun k => wIn (fun k => S (36 + k)) (rh 3 S (S 46) k)) 32).1)) ∧ u = [XB x (a 0) (r 0) p0 h0 q, DW G a S, RN G r (rh 3 S (S 46)) (rsp 3 S (S 46) 32)]) := by
  refine CM_of RX5 3 74 rfl rfl (by decide) (by decide +kernel) (Nat.le_of_ble_eq_true rfl) (fun E A X hrt hnm => ?_)
  have F10 := Fld_of (idx := 10) 5 0 X (by decide) (by decide) (by decide +kernel) (by decide +kernel)
  have F19 := Fld_of (idx := 19) 5 1 X (by decide) (by decide) (by decide +kernel) (by decide +kernel)
  have F97 := Fld_of (idx := 97) 0 5 X (by decide) (by decide) (by decide +kernel) (by decide +kernel)
  have F169 := Fld_of (idx := 169) 4 0 X (by decide) (by decide) (by decide +kernel) (by decide +kernel)
  generalize hQ : QM E G A _ _ _ = Q
  obtain ⟨i1, i2, i3, i4, i5, i6⟩ := id hI
  show V E G A 5 [XB x (a 0) (r 0) p0 h0 q, DW G a S, RN G r H g] 0 0 Q 0 [(0, .ref x)] []
  refine V_aload_n (pc' := 1) 0 X dX5_heaviestColumn_0 rfl rfl rfl ?_
  refine V_get (pc' := 4) 0 X F19 rfl rfl dX5_heaviestColumn_1 rfl ?_
  refine V_aload_n (pc' := 5) 0 X dX5_heaviestColumn_4 rfl rfl rfl ?_
  refine V_get (pc' := 8) 0 X F10 rfl rfl dX5_heaviestColumn_5 rfl ?_
  refine V_aload_n (pc' := 9) 0 X dX5_heaviestColumn_8 rfl rfl rfl ?_
  refine V_get (pc' := 12) 0 X F10 rfl rfl dX5_heaviestColumn_9 rfl ?_
  refine V_get (pc' := 15) 1 X F97 rfl rfl dX5_heaviestColumn_12 rfl ?_
  refine V_callV (pc' := 18) (As := [.ref (a 0), .int (nI (S 46))]) (st := []) 4 8 [2, 1] [0] (show (List.range 3).Perm ([2, 1] ++ [0]) by decide) X (c_X4_play l G r H g a S (S 46) hI (by omega)) rfl gX5_heaviestColumn_X4_play rfl (by decide) rfl rfl rfl (Nat.le_of_ble_eq_true rfl) ⟨Nat.le_of_ble_eq_true rfl, Nat.le_of_ble_eq_true rfl⟩ ⟨Nat.le_of_ble_eq_true rfl, Nat.le_of_ble_eq_true rfl⟩ dX5_heaviestColumn_15 rfl (fun v_ u_ hp_ => ?_)
  obtain ⟨rfl, rfl⟩ := hp_
  show V E G A 5 [XB x (a 0) (r 0) p0 h0 q, RN G r (rh 3 S (S 46)) (rsp 3 S (S 46) 32), DW G a S] 0 0 Q 18 [(0, .ref x)] [.int (nI (sm (fun k => cnt (rh 3 S (S 46) k)) 32))]
  refine V_ord [0, 2, 1] [XB x (a 0) (r 0) p0 h0 q, DW G a S, RN G r (rh 3 S (S 46)) (rsp 3 S (S 46) 32)] (show (List.range 3).Perm [0, 2, 1] by decide) rfl ?_
  refine V_pop (pc' := 19) X dX5_heaviestColumn_18 rfl rfl ?_
  refine V_iconst (pc' := 20) (-1) X dX5_heaviestColumn_19 rfl rfl ?_
  refine V_istore_n (pc' := 21) [(0, .ref x), (1, .int (-1))] [1, 0] X dX5_heaviestColumn_20 rfl (Nat.le_of_ble_eq_true rfl) rfl rfl ?_
  refine V_iconst (pc' := 22) (nI 0) X dX5_heaviestColumn_21 ki_0 rfl ?_
  refine V_istore_n (pc' := 23) [(0, .ref x), (1, .int (-1)), (2, .int (nI 0))] [1, 2, 0] X dX5_heaviestColumn_22 rfl (Nat.le_of_ble_eq_true rfl) rfl rfl ?_
  refine V_iconst (pc' := 24) (nI 0) X dX5_heaviestColumn_23 ki_0 rfl ?_
  refine V_istore_n (pc' := 25) [(0, .ref x), (1, .int (-1)), (2, .int (nI 0)), (3, .int (nI 0))] [1, 2, 3, 0] X dX5_heaviestColumn_24 rfl (Nat.le_of_ble_eq_true rfl) rfl rfl ?_
  have lp_1 : ∀ i, i ≤ 32 → V E G A 5 [XB x (a 0) (r 0) p0 h0 q, DW G a S, RN G r (rh 3 S (S 46)) (rsp 3 S (S 46) 32)] 0 0 Q 25 [(0, .ref x), (1, .int (rN (bz (fun k => wIn (fun k => S (36 + k)) (rh 3 S (S 46) k)) i).1)), (2, .int (nI ((bz (fun k => wIn (fun k => S (36 + k)) (rh 3 S (S 46) k)) i).2))), (3, .int (nI i))] [] := by
    refine loopD 32 ?_ ?_
    · show V E G A 5 [XB x (a 0) (r 0) p0 h0 q, DW G a S, RN G r (rh 3 S (S 46)) (rsp 3 S (S 46) 32)] 0 0 Q 25 [(0, .ref x), (1, .int (rN (bz (fun k => wIn (fun k => S (36 + k)) (rh 3 S (S 46) k)) 32).1)), (2, .int (nI ((bz (fun k => wIn (fun k => S (36 + k)) (rh 3 S (S 46) k)) 32).2))), (3, .int (nI 32))] []
      refine V_iload_n (pc' := 26) 3 X dX5_heaviestColumn_25 rfl rfl rfl ?_
      refine V_bipush (pc' := 28) (nI 32) X dX5_heaviestColumn_26 kb_32 rfl ?_
      refine V_icmp_ge (pc' := 31) (C := 32 ≤ 32) 66 X dX5_heaviestColumn_28 (by decide) rfl (nI_leI (by omega) (by omega)) (fun _ => ?_) (fun hz => absurd (by omega) hz)
      refine V_iload_n (pc' := 67) 1 X dX5_heaviestColumn_66 rfl rfl rfl ?_
      exact V_ireturn (v := (rN (bz (fun k => wIn (fun k => S (36 + k)) (rh 3 S (S 46) k)) 32).1)) [XB x (a 0) (r 0) p0 h0 q, DW G a S, RN G r (rh 3 S (S 46)) (rsp 3 S (S 46) 32)] hQ X hrt rfl dX5_heaviestColumn_67 (Nat.le_of_ble_eq_true rfl) (Nat.le_of_ble_eq_true rfl) (List.Perm.refl _) ⟨rfl, rfl⟩
    · intro i hi_i ih
      show V E G A 5 [XB x (a 0) (r 0) p0 h0 q, DW G a S, RN G r (rh 3 S (S 46)) (rsp 3 S (S 46) 32)] 0 0 Q 25 [(0, .ref x), (1, .int (rN (bz (fun k => wIn (fun k => S (36 + k)) (rh 3 S (S 46) k)) i).1)), (2, .int (nI ((bz (fun k => wIn (fun k => S (36 + k)) (rh 3 S (S 46) k)) i).2))), (3, .int (nI i))] []
      have hbz := bz_le (t := (fun k => wIn (fun k => S (36 + k)) (rh 3 S (S 46) k))) (c := 600) (fun _ => wIn_le i3) i
      have hti : wIn (fun i => S (36 + i)) (rh 3 S (S 46) i) ≤ 600 := (fun _ => wIn_le i3) i
      refine V_iload_n (pc' := 26) 3 X dX5_heaviestColumn_25 rfl rfl rfl ?_
      refine V_bipush (pc' := 28) (nI 32) X dX5_heaviestColumn_26 kb_32 rfl ?_
      refine V_icmp_ge (pc' := 31) (C := 32 ≤ i) 66 X dX5_heaviestColumn_28 (by decide) rfl (nI_leI (by omega) (by omega)) (fun hz => absurd hz (by omega)) (fun _ => ?_)
      refine V_aload_n (pc' := 32) 0 X dX5_heaviestColumn_31 rfl rfl rfl ?_
      refine V_get (pc' := 35) 0 X F10 rfl rfl dX5_heaviestColumn_32 rfl ?_
      refine V_aload_n (pc' := 36) 0 X dX5_heaviestColumn_35 rfl rfl rfl ?_
      refine V_get (pc' := 39) 0 X F19 rfl rfl dX5_heaviestColumn_36 rfl ?_
      refine V_get (pc' := 42) 8 X F169 rfl rfl dX5_heaviestColumn_39 rfl ?_
      refine V_iload_n (pc' := 43) 3 X dX5_heaviestColumn_42 rfl rfl rfl ?_
      refine V_iald (pc' := 44) (v := nI ((rh 3 S (S 46)) i)) 9 i X rfl (by omega) (by decide) rfl dX5_heaviestColumn_43 rfl ?_
      refine V_callV (pc' := 47) (As := [.int (nI ((rh 3 S (S 46)) i))]) (st := []) 0 1 [1] [0, 2] (show (List.range 3).Perm ([1] ++ [0, 2]) by decide) X (c_X0_weightOfAll l G a S ((rh 3 S (S 46)) i) (rh_lt _ _ _ _)) rfl gX5_heaviestColumn_X0_weightOfAll rfl (by decide) rfl rfl rfl (Nat.le_of_ble_eq_true rfl) ⟨Nat.le_of_ble_eq_true rfl, Nat.le_of_ble_eq_true rfl⟩ ⟨Nat.le_of_ble_eq_true rfl, Nat.le_of_ble_eq_true rfl⟩ dX5_heaviestColumn_44 rfl (fun v_ u_ hp_ => ?_)
      obtain ⟨rfl, rfl⟩ := hp_
      show V E G A 5 [XB x (a 0) (r 0) p0 h0 q, RN G r (rh 3 S (S 46)) (rsp 3 S (S 46) 32), DW G a S] 0 0 Q 47 [(0, .ref x), (1, .int (rN (bz (fun k => wIn (fun k => S (36 + k)) (rh 3 S (S 46) k)) i).1)), (2, .int (nI ((bz (fun k => wIn (fun k => S (36 + k)) (rh 3 S (S 46) k)) i).2))), (3, .int (nI i))] [.int (nI (wIn (fun k => S (36 + k)) ((rh 3 S (S 46)) i)))]
      refine V_ord [0, 2, 1] [XB x (a 0) (r 0) p0 h0 q, DW G a S, RN G r (rh 3 S (S 46)) (rsp 3 S (S 46) 32)] (show (List.range 3).Perm [0, 2, 1] by decide) rfl ?_
      refine V_istore (pc' := 49) [(0, .ref x), (1, .int (rN (bz (fun k => wIn (fun k => S (36 + k)) (rh 3 S (S 46) k)) i).1)), (2, .int (nI ((bz (fun k => wIn (fun k => S (36 + k)) (rh 3 S (S 46) k)) i).2))), (3, .int (nI i)), (4, .int (nI (wIn (fun k => S (36 + k)) ((rh 3 S (S 46)) i))))] [1, 2, 3, 4, 0] X dX5_heaviestColumn_47 (Nat.le_of_ble_eq_true rfl) rfl rfl ?_
      refine V_iload (pc' := 51) 4 X dX5_heaviestColumn_49 rfl rfl ?_
      refine V_iload_n (pc' := 52) 2 X dX5_heaviestColumn_51 rfl rfl rfl ?_
      refine V_icmp_le (pc' := 55) (C := (wIn (fun k => S (36 + k)) ((rh 3 S (S 46)) i)) ≤ ((bz (fun k => wIn (fun k => S (36 + k)) (rh 3 S (S 46) k)) i).2)) 60 X dX5_heaviestColumn_52 (by decide) rfl (nI_leI (by omega) (by omega)) (fun h52 => ?_) (fun h52 => ?_)
      · refine V_iinc (pc' := 63) [(0, .ref x), (1, .int (rN (bz (fun k => wIn (fun k => S (36 + k)) (rh 3 S (S 46) k)) i).1)), (2, .int (nI ((bz (fun k => wIn (fun k => S (36 + k)) (rh 3 S (S 46) k)) i).2))), (3, .int (nI (i + 1))), (4, .int (nI (wIn (fun k => S (36 + k)) ((rh 3 S (S 46)) i))))] 3 [1, 2, 3, 0, 4] X dX5_heaviestColumn_60 rfl (nI_i1 _) (Nat.le_of_ble_eq_true rfl) rfl rfl ?_
        refine V_goto (pc' := 25) X dX5_heaviestColumn_63 (by decide) ?_
        refine V_lv [0, 1, 2, 3] [(0, .ref x), (1, .int (rN (bz (fun k => wIn (fun k => S (36 + k)) (rh 3 S (S 46) k)) i).1)), (2, .int (nI ((bz (fun k => wIn (fun k => S (36 + k)) (rh 3 S (S 46) k)) i).2))), (3, .int (nI (i + 1)))] rfl ?_
        rw [show bz (fun k => wIn (fun k => S (36 + k)) (rh 3 S (S 46) k)) (i + 1) = bz (fun k => wIn (fun k => S (36 + k)) (rh 3 S (S 46) k)) i by rw [bz]; exact if_neg (by omega)] at ih
        exact ih
      · refine V_iload (pc' := 57) 4 X dX5_heaviestColumn_55 rfl rfl ?_
        refine V_istore_n (pc' := 58) [(0, .ref x), (1, .int (rN (bz (fun k => wIn (fun k => S (36 + k)) (rh 3 S (S 46) k)) i).1)), (2, .int (nI (wIn (fun k => S (36 + k)) ((rh 3 S (S 46)) i)))), (3, .int (nI i)), (4, .int (nI (wIn (fun k => S (36 + k)) ((rh 3 S (S 46)) i))))] [1, 2, 0, 3, 4] X dX5_heaviestColumn_57 rfl (Nat.le_of_ble_eq_true rfl) rfl rfl ?_
        refine V_iload_n (pc' := 59) 3 X dX5_heaviestColumn_58 rfl rfl rfl ?_
        refine V_istore_n (pc' := 60) [(0, .ref x), (1, .int (nI i)), (2, .int (nI (wIn (fun k => S (36 + k)) ((rh 3 S (S 46)) i)))), (3, .int (nI i)), (4, .int (nI (wIn (fun k => S (36 + k)) ((rh 3 S (S 46)) i))))] [1, 0, 2, 3, 4] X dX5_heaviestColumn_59 rfl (Nat.le_of_ble_eq_true rfl) rfl rfl ?_
        refine V_iinc (pc' := 63) [(0, .ref x), (1, .int (nI i)), (2, .int (nI (wIn (fun k => S (36 + k)) ((rh 3 S (S 46)) i)))), (3, .int (nI (i + 1))), (4, .int (nI (wIn (fun k => S (36 + k)) ((rh 3 S (S 46)) i))))] 3 [1, 2, 3, 0, 4] X dX5_heaviestColumn_60 rfl (nI_i1 _) (Nat.le_of_ble_eq_true rfl) rfl rfl ?_
        refine V_goto (pc' := 25) X dX5_heaviestColumn_63 (by decide) ?_
        refine V_lv [0, 1, 2, 3] [(0, .ref x), (1, .int (nI i)), (2, .int (nI (wIn (fun k => S (36 + k)) ((rh 3 S (S 46)) i)))), (3, .int (nI (i + 1)))] rfl ?_
        rw [show bz (fun k => wIn (fun k => S (36 + k)) (rh 3 S (S 46) k)) (i + 1) = (some i, wIn (fun i => S (36 + i)) (rh 3 S (S 46) i)) by rw [bz]; exact if_pos (by omega)] at ih
        exact ih
  exact lp_1 0 (Nat.zero_le _)

set_option maxHeartbeats 4000000 in
set_option maxRecDepth 100000 in
theorem c_X5_longestSilence (l : Launch) (G : gT) (x p0 h0 q : Nat) (a S r H g : Nat → Nat) (hI : IV S) : CM l G yX5_longestSilence wsX5_longestSilence 4 97 0 [.ref x] [XB x (a 0) (r 0) p0 h0 q, DW G a S, RN G r H g] 0 0 (fun v u => v = some (.int (nI (lsn (rh 3 S (S 46)) 32).1)) ∧ u = [XB x (a 0) (r 0) p0 h0 q, DW G a S, RN G r (rh 3 S (S 46)) (rsp 3 S (S 46) 32)]) := by
  refine CM_of RX5 3 74 rfl rfl (by decide) (by decide +kernel) (Nat.le_of_ble_eq_true rfl) (fun E A X hrt hnm => ?_)
  have F10 := Fld_of (idx := 10) 5 0 X (by decide) (by decide) (by decide +kernel) (by decide +kernel)
  have F19 := Fld_of (idx := 19) 5 1 X (by decide) (by decide) (by decide +kernel) (by decide +kernel)
  have F97 := Fld_of (idx := 97) 0 5 X (by decide) (by decide) (by decide +kernel) (by decide +kernel)
  have F169 := Fld_of (idx := 169) 4 0 X (by decide) (by decide) (by decide +kernel) (by decide +kernel)
  generalize hQ : QM E G A _ _ _ = Q
  obtain ⟨i1, i2, i3, i4, i5, i6⟩ := id hI
  show V E G A 4 [XB x (a 0) (r 0) p0 h0 q, DW G a S, RN G r H g] 0 0 Q 0 [(0, .ref x)] []
  refine V_aload_n (pc' := 1) 0 X dX5_longestSilence_0 rfl rfl rfl ?_
  refine V_get (pc' := 4) 0 X F19 rfl rfl dX5_longestSilence_1 rfl ?_
  refine V_aload_n (pc' := 5) 0 X dX5_longestSilence_4 rfl rfl rfl ?_
  refine V_get (pc' := 8) 0 X F10 rfl rfl dX5_longestSilence_5 rfl ?_
  refine V_aload_n (pc' := 9) 0 X dX5_longestSilence_8 rfl rfl rfl ?_
  refine V_get (pc' := 12) 0 X F10 rfl rfl dX5_longestSilence_9 rfl ?_
  refine V_get (pc' := 15) 1 X F97 rfl rfl dX5_longestSilence_12 rfl ?_
  refine V_callV (pc' := 18) (As := [.ref (a 0), .int (nI (S 46))]) (st := []) 4 8 [2, 1] [0] (show (List.range 3).Perm ([2, 1] ++ [0]) by decide) X (c_X4_play l G r H g a S (S 46) hI (by omega)) rfl gX5_longestSilence_X4_play rfl (by decide) rfl rfl rfl (Nat.le_of_ble_eq_true rfl) ⟨Nat.le_of_ble_eq_true rfl, Nat.le_of_ble_eq_true rfl⟩ ⟨Nat.le_of_ble_eq_true rfl, Nat.le_of_ble_eq_true rfl⟩ dX5_longestSilence_15 rfl (fun v_ u_ hp_ => ?_)
  obtain ⟨rfl, rfl⟩ := hp_
  show V E G A 4 [XB x (a 0) (r 0) p0 h0 q, RN G r (rh 3 S (S 46)) (rsp 3 S (S 46) 32), DW G a S] 0 0 Q 18 [(0, .ref x)] [.int (nI (sm (fun k => cnt (rh 3 S (S 46) k)) 32))]
  refine V_ord [0, 2, 1] [XB x (a 0) (r 0) p0 h0 q, DW G a S, RN G r (rh 3 S (S 46)) (rsp 3 S (S 46) 32)] (show (List.range 3).Perm [0, 2, 1] by decide) rfl ?_
  refine V_pop (pc' := 19) X dX5_longestSilence_18 rfl rfl ?_
  refine V_iconst (pc' := 20) (nI 0) X dX5_longestSilence_19 ki_0 rfl ?_
  refine V_istore_n (pc' := 21) [(0, .ref x), (1, .int (nI 0))] [1, 0] X dX5_longestSilence_20 rfl (Nat.le_of_ble_eq_true rfl) rfl rfl ?_
  refine V_iconst (pc' := 22) (nI 0) X dX5_longestSilence_21 ki_0 rfl ?_
  refine V_istore_n (pc' := 23) [(0, .ref x), (1, .int (nI 0)), (2, .int (nI 0))] [1, 2, 0] X dX5_longestSilence_22 rfl (Nat.le_of_ble_eq_true rfl) rfl rfl ?_
  refine V_iconst (pc' := 24) (nI 0) X dX5_longestSilence_23 ki_0 rfl ?_
  refine V_istore_n (pc' := 25) [(0, .ref x), (1, .int (nI 0)), (2, .int (nI 0)), (3, .int (nI 0))] [1, 2, 3, 0] X dX5_longestSilence_24 rfl (Nat.le_of_ble_eq_true rfl) rfl rfl ?_
  have lp_1 : ∀ i, i ≤ 32 → V E G A 4 [XB x (a 0) (r 0) p0 h0 q, DW G a S, RN G r (rh 3 S (S 46)) (rsp 3 S (S 46) 32)] 0 0 Q 25 [(0, .ref x), (1, .int (nI ((lsn (rh 3 S (S 46)) i).1))), (2, .int (nI ((lsn (rh 3 S (S 46)) i).2))), (3, .int (nI i))] [] := by
    refine loopD 32 ?_ ?_
    · show V E G A 4 [XB x (a 0) (r 0) p0 h0 q, DW G a S, RN G r (rh 3 S (S 46)) (rsp 3 S (S 46) 32)] 0 0 Q 25 [(0, .ref x), (1, .int (nI ((lsn (rh 3 S (S 46)) 32).1))), (2, .int (nI ((lsn (rh 3 S (S 46)) 32).2))), (3, .int (nI 32))] []
      refine V_iload_n (pc' := 26) 3 X dX5_longestSilence_25 rfl rfl rfl ?_
      refine V_bipush (pc' := 28) (nI 32) X dX5_longestSilence_26 kb_32 rfl ?_
      refine V_icmp_ge (pc' := 31) (C := 32 ≤ 32) 63 X dX5_longestSilence_28 (by decide) rfl (nI_leI (by omega) (by omega)) (fun _ => ?_) (fun hz => absurd (by omega) hz)
      refine V_iload_n (pc' := 64) 1 X dX5_longestSilence_63 rfl rfl rfl ?_
      exact V_ireturn (v := nI ((lsn (rh 3 S (S 46)) 32).1)) [XB x (a 0) (r 0) p0 h0 q, DW G a S, RN G r (rh 3 S (S 46)) (rsp 3 S (S 46) 32)] hQ X hrt rfl dX5_longestSilence_64 (Nat.le_of_ble_eq_true rfl) (Nat.le_of_ble_eq_true rfl) (List.Perm.refl _) ⟨rfl, rfl⟩
    · intro i hi_i ih
      show V E G A 4 [XB x (a 0) (r 0) p0 h0 q, DW G a S, RN G r (rh 3 S (S 46)) (rsp 3 S (S 46) 32)] 0 0 Q 25 [(0, .ref x), (1, .int (nI ((lsn (rh 3 S (S 46)) i).1))), (2, .int (nI ((lsn (rh 3 S (S 46)) i).2))), (3, .int (nI i))] []
      have hls := lsn_le (rh 3 S (S 46)) i
      have hri := rh_lt 3 S (S 46) i
      refine V_iload_n (pc' := 26) 3 X dX5_longestSilence_25 rfl rfl rfl ?_
      refine V_bipush (pc' := 28) (nI 32) X dX5_longestSilence_26 kb_32 rfl ?_
      refine V_icmp_ge (pc' := 31) (C := 32 ≤ i) 63 X dX5_longestSilence_28 (by decide) rfl (nI_leI (by omega) (by omega)) (fun hz => absurd hz (by omega)) (fun _ => ?_)
      refine V_aload_n (pc' := 32) 0 X dX5_longestSilence_31 rfl rfl rfl ?_
      refine V_get (pc' := 35) 0 X F19 rfl rfl dX5_longestSilence_32 rfl ?_
      refine V_get (pc' := 38) 8 X F169 rfl rfl dX5_longestSilence_35 rfl ?_
      refine V_iload_n (pc' := 39) 3 X dX5_longestSilence_38 rfl rfl rfl ?_
      refine V_iald (pc' := 40) (v := nI ((rh 3 S (S 46)) i)) 9 i X rfl (by omega) (by decide) rfl dX5_longestSilence_39 rfl ?_
      refine V_if_ne (pc' := 43) (C := ((rh 3 S (S 46)) i) = 0) 49 X dX5_longestSilence_40 (by decide) rfl (z_eq0 (by omega)) (fun h40 => ?_) (fun h40 => ?_)
      · refine V_iconst (pc' := 50) (nI 0) X dX5_longestSilence_49 ki_0 rfl ?_
        refine V_istore_n (pc' := 51) [(0, .ref x), (1, .int (nI ((lsn (rh 3 S (S 46)) i).1))), (2, .int (nI 0)), (3, .int (nI i))] [1, 2, 0, 3] X dX5_longestSilence_50 rfl (Nat.le_of_ble_eq_true rfl) rfl rfl ?_
        refine V_iload_n (pc' := 52) 1 X dX5_longestSilence_51 rfl rfl rfl ?_
        refine V_iload_n (pc' := 53) 2 X dX5_longestSilence_52 rfl rfl rfl ?_
        refine V_max (pc' := 56) (nI (max ((lsn (rh 3 S (S 46)) i).1) 0)) X (by decide +kernel) (by decide +kernel) (by decide +kernel) (by decide +kernel) (Nat.le_of_ble_eq_true rfl) (Nat.le_of_ble_eq_true rfl) (Nat.le_of_ble_eq_true rfl) (Nat.le_of_ble_eq_true rfl) dX5_longestSilence_53 (z_max (by omega) (by omega)) rfl ?_
        refine V_istore_n (pc' := 57) [(0, .ref x), (1, .int (nI (max ((lsn (rh 3 S (S 46)) i).1) 0))), (2, .int (nI 0)), (3, .int (nI i))] [1, 0, 2, 3] X dX5_longestSilence_56 rfl (Nat.le_of_ble_eq_true rfl) rfl rfl ?_
        refine V_iinc (pc' := 60) [(0, .ref x), (1, .int (nI (max ((lsn (rh 3 S (S 46)) i).1) 0))), (2, .int (nI 0)), (3, .int (nI (i + 1)))] 3 [1, 2, 3, 0] X dX5_longestSilence_57 rfl (nI_i1 _) (Nat.le_of_ble_eq_true rfl) rfl rfl ?_
        refine V_goto (pc' := 25) X dX5_longestSilence_60 (by decide) ?_
        rw [show lsn (rh 3 S (S 46)) (i + 1) = (max (lsn (rh 3 S (S 46)) i).1 (0), 0) by rw [lsn, if_neg h40]] at ih
        exact ih
      · refine V_iload_n (pc' := 44) 2 X dX5_longestSilence_43 rfl rfl rfl ?_
        refine V_iconst (pc' := 45) (nI 1) X dX5_longestSilence_44 ki_1 rfl ?_
        refine V_iadd (pc' := 46) (nI (((lsn (rh 3 S (S 46)) i).2) + 1)) X dX5_longestSilence_45 (nI_add _ _) rfl ?_
        refine V_goto (pc' := 50) X dX5_longestSilence_46 (by decide) ?_
        refine V_istore_n (pc' := 51) [(0, .ref x), (1, .int (nI ((lsn (rh 3 S (S 46)) i).1))), (2, .int (nI (((lsn (rh 3 S (S 46)) i).2) + 1))), (3, .int (nI i))] [1, 2, 0, 3] X dX5_longestSilence_50 rfl (Nat.le_of_ble_eq_true rfl) rfl rfl ?_
        refine V_iload_n (pc' := 52) 1 X dX5_longestSilence_51 rfl rfl rfl ?_
        refine V_iload_n (pc' := 53) 2 X dX5_longestSilence_52 rfl rfl rfl ?_
        refine V_max (pc' := 56) (nI (max ((lsn (rh 3 S (S 46)) i).1) (((lsn (rh 3 S (S 46)) i).2) + 1))) X (by decide +kernel) (by decide +kernel) (by decide +kernel) (by decide +kernel) (Nat.le_of_ble_eq_true rfl) (Nat.le_of_ble_eq_true rfl) (Nat.le_of_ble_eq_true rfl) (Nat.le_of_ble_eq_true rfl) dX5_longestSilence_53 (z_max (by omega) (by omega)) rfl ?_
        refine V_istore_n (pc' := 57) [(0, .ref x), (1, .int (nI (max ((lsn (rh 3 S (S 46)) i).1) (((lsn (rh 3 S (S 46)) i).2) + 1)))), (2, .int (nI (((lsn (rh 3 S (S 46)) i).2) + 1))), (3, .int (nI i))] [1, 0, 2, 3] X dX5_longestSilence_56 rfl (Nat.le_of_ble_eq_true rfl) rfl rfl ?_
        refine V_iinc (pc' := 60) [(0, .ref x), (1, .int (nI (max ((lsn (rh 3 S (S 46)) i).1) (((lsn (rh 3 S (S 46)) i).2) + 1)))), (2, .int (nI (((lsn (rh 3 S (S 46)) i).2) + 1))), (3, .int (nI (i + 1)))] 3 [1, 2, 3, 0] X dX5_longestSilence_57 rfl (nI_i1 _) (Nat.le_of_ble_eq_true rfl) rfl rfl ?_
        refine V_goto (pc' := 25) X dX5_longestSilence_60 (by decide) ?_
        rw [show lsn (rh 3 S (S 46)) (i + 1) = (max (lsn (rh 3 S (S 46)) i).1 (((lsn (rh 3 S (S 46)) i).2) + 1), ((lsn (rh 3 S (S 46)) i).2) + 1) by rw [lsn, if_pos h40]] at ih
        exact ih
  exact lp_1 0 (Nat.zero_le _)

set_option maxHeartbeats 4000000 in
set_option maxRecDepth 100000 in
theorem c_X5_enoughBound (l : Launch) (G : gT) (x p0 h0 q : Nat) (a S r H g : Nat → Nat) (hI : IV S) : CM l G yX5_enoughBound wsX5_enoughBound 4 96 0 [.ref x] [XB x (a 0) (r 0) p0 h0 q, DW G a S, RN G r H g] 0 0 (fun v u => v = some (.int (rN (if mxs (fun k => wIn (fun k => S (36 + k)) (rh 3 S 601 k)) 32 ≤ 300 then some (mxs (fun k => wIn (fun k => S (36 + k)) (rh 3 S 601 k)) 32) else none))) ∧ u = [XB x (a 0) (r 0) p0 h0 q, DW G a S, RN G r (rh 3 S 601) (rsp 3 S 601 32)]) := by
  refine CM_of RX5 3 74 rfl rfl (by decide) (by decide +kernel) (Nat.le_of_ble_eq_true rfl) (fun E A X hrt hnm => ?_)
  have F10 := Fld_of (idx := 10) 5 0 X (by decide) (by decide) (by decide +kernel) (by decide +kernel)
  have F19 := Fld_of (idx := 19) 5 1 X (by decide) (by decide) (by decide +kernel) (by decide +kernel)
  have F169 := Fld_of (idx := 169) 4 0 X (by decide) (by decide) (by decide +kernel) (by decide +kernel)
  generalize hQ : QM E G A _ _ _ = Q
  obtain ⟨i1, i2, i3, i4, i5, i6⟩ := id hI
  show V E G A 3 [XB x (a 0) (r 0) p0 h0 q, DW G a S, RN G r H g] 0 0 Q 0 [(0, .ref x)] []
  refine V_aload_n (pc' := 1) 0 X dX5_enoughBound_0 rfl rfl rfl ?_
  refine V_get (pc' := 4) 0 X F19 rfl rfl dX5_enoughBound_1 rfl ?_
  refine V_aload_n (pc' := 5) 0 X dX5_enoughBound_4 rfl rfl rfl ?_
  refine V_get (pc' := 8) 0 X F10 rfl rfl dX5_enoughBound_5 rfl ?_
  refine V_sipush (pc' := 11) (nI 601) X dX5_enoughBound_8 ks_601 rfl ?_
  refine V_callV (pc' := 14) (As := [.ref (a 0), .int (nI 601)]) (st := []) 4 8 [2, 1] [0] (show (List.range 3).Perm ([2, 1] ++ [0]) by decide) X (c_X4_play l G r H g a S 601 hI (by decide)) rfl gX5_enoughBound_X4_play rfl (by decide) rfl rfl rfl (Nat.le_of_ble_eq_true rfl) ⟨Nat.le_of_ble_eq_true rfl, Nat.le_of_ble_eq_true rfl⟩ ⟨Nat.le_of_ble_eq_true rfl, Nat.le_of_ble_eq_true rfl⟩ dX5_enoughBound_11 rfl (fun v_ u_ hp_ => ?_)
  obtain ⟨rfl, rfl⟩ := hp_
  show V E G A 3 [XB x (a 0) (r 0) p0 h0 q, RN G r (rh 3 S 601) (rsp 3 S 601 32), DW G a S] 0 0 Q 14 [(0, .ref x)] [.int (nI (sm (fun k => cnt (rh 3 S 601 k)) 32))]
  refine V_ord [0, 2, 1] [XB x (a 0) (r 0) p0 h0 q, DW G a S, RN G r (rh 3 S 601) (rsp 3 S 601 32)] (show (List.range 3).Perm [0, 2, 1] by decide) rfl ?_
  refine V_pop (pc' := 15) X dX5_enoughBound_14 rfl rfl ?_
  refine V_iconst (pc' := 16) (nI 1) X dX5_enoughBound_15 ki_1 rfl ?_
  refine V_istore_n (pc' := 17) [(0, .ref x), (1, .int (nI 1))] [1, 0] X dX5_enoughBound_16 rfl (Nat.le_of_ble_eq_true rfl) rfl rfl ?_
  refine V_iconst (pc' := 18) (nI 0) X dX5_enoughBound_17 ki_0 rfl ?_
  refine V_istore_n (pc' := 19) [(0, .ref x), (1, .int (nI 1)), (2, .int (nI 0))] [1, 2, 0] X dX5_enoughBound_18 rfl (Nat.le_of_ble_eq_true rfl) rfl rfl ?_
  have lp_1 : ∀ i, i ≤ 32 → V E G A 3 [XB x (a 0) (r 0) p0 h0 q, DW G a S, RN G r (rh 3 S 601) (rsp 3 S 601 32)] 0 0 Q 19 [(0, .ref x), (1, .int (nI (mxs (fun k => wIn (fun k => S (36 + k)) (rh 3 S 601 k)) i))), (2, .int (nI i))] [] := by
    refine loopD 32 ?_ ?_
    · show V E G A 3 [XB x (a 0) (r 0) p0 h0 q, DW G a S, RN G r (rh 3 S 601) (rsp 3 S 601 32)] 0 0 Q 19 [(0, .ref x), (1, .int (nI (mxs (fun k => wIn (fun k => S (36 + k)) (rh 3 S 601 k)) 32))), (2, .int (nI 32))] []
      have hmx := mxs_le (t := (fun k => wIn (fun k => S (36 + k)) (rh 3 S 601 k))) (c := 600) (by decide) (fun _ => wIn_le i3) 32
      refine V_iload_n (pc' := 20) 2 X dX5_enoughBound_19 rfl rfl rfl ?_
      refine V_bipush (pc' := 22) (nI 32) X dX5_enoughBound_20 kb_32 rfl ?_
      refine V_icmp_ge (pc' := 25) (C := 32 ≤ 32) 52 X dX5_enoughBound_22 (by decide) rfl (nI_leI (by omega) (by omega)) (fun _ => ?_) (fun hz => absurd (by omega) hz)
      refine V_iload_n (pc' := 53) 1 X dX5_enoughBound_52 rfl rfl rfl ?_
      refine V_sipush (pc' := 56) (nI 300) X dX5_enoughBound_53 ks_300 rfl ?_
      refine V_icmp_gt (pc' := 59) (C := 300 < (mxs (fun k => wIn (fun k => S (36 + k)) (rh 3 S 601 k)) 32)) 63 X dX5_enoughBound_56 (by decide) rfl (nI_ltI (by omega) (by omega)) (fun h56 => ?_) (fun h56 => ?_)
      · refine V_iconst (pc' := 64) (-1) X dX5_enoughBound_63 rfl rfl ?_
        exact V_ireturn (v := (-1)) [XB x (a 0) (r 0) p0 h0 q, DW G a S, RN G r (rh 3 S 601) (rsp 3 S 601 32)] hQ X hrt rfl dX5_enoughBound_64 (Nat.le_of_ble_eq_true rfl) (Nat.le_of_ble_eq_true rfl) (List.Perm.refl _) ⟨by rw [if_neg (by omega)]; rfl, rfl⟩
      · refine V_iload_n (pc' := 60) 1 X dX5_enoughBound_59 rfl rfl rfl ?_
        refine V_goto (pc' := 64) X dX5_enoughBound_60 (by decide) ?_
        exact V_ireturn (v := nI (mxs (fun k => wIn (fun k => S (36 + k)) (rh 3 S 601 k)) 32)) [XB x (a 0) (r 0) p0 h0 q, DW G a S, RN G r (rh 3 S 601) (rsp 3 S 601 32)] hQ X hrt rfl dX5_enoughBound_64 (Nat.le_of_ble_eq_true rfl) (Nat.le_of_ble_eq_true rfl) (List.Perm.refl _) ⟨by rw [if_pos (by omega)]; rfl, rfl⟩
    · intro i hi_i ih
      show V E G A 3 [XB x (a 0) (r 0) p0 h0 q, DW G a S, RN G r (rh 3 S 601) (rsp 3 S 601 32)] 0 0 Q 19 [(0, .ref x), (1, .int (nI (mxs (fun k => wIn (fun k => S (36 + k)) (rh 3 S 601 k)) i))), (2, .int (nI i))] []
      have hmx := mxs_le (t := (fun k => wIn (fun k => S (36 + k)) (rh 3 S 601 k))) (c := 600) (by decide) (fun _ => wIn_le i3) i
      have hwi : wIn (fun i => S (36 + i)) (rh 3 S 601 i) ≤ 600 := wIn_le i3
      refine V_iload_n (pc' := 20) 2 X dX5_enoughBound_19 rfl rfl rfl ?_
      refine V_bipush (pc' := 22) (nI 32) X dX5_enoughBound_20 kb_32 rfl ?_
      refine V_icmp_ge (pc' := 25) (C := 32 ≤ i) 52 X dX5_enoughBound_22 (by decide) rfl (nI_leI (by omega) (by omega)) (fun hz => absurd hz (by omega)) (fun _ => ?_)
      refine V_iload_n (pc' := 26) 1 X dX5_enoughBound_25 rfl rfl rfl ?_
      refine V_aload_n (pc' := 27) 0 X dX5_enoughBound_26 rfl rfl rfl ?_
      refine V_get (pc' := 30) 0 X F10 rfl rfl dX5_enoughBound_27 rfl ?_
      refine V_aload_n (pc' := 31) 0 X dX5_enoughBound_30 rfl rfl rfl ?_
      refine V_get (pc' := 34) 0 X F19 rfl rfl dX5_enoughBound_31 rfl ?_
      refine V_get (pc' := 37) 8 X F169 rfl rfl dX5_enoughBound_34 rfl ?_
      refine V_iload_n (pc' := 38) 2 X dX5_enoughBound_37 rfl rfl rfl ?_
      refine V_iald (pc' := 39) (v := nI ((rh 3 S 601) i)) 9 i X rfl (by omega) (by decide) rfl dX5_enoughBound_38 rfl ?_
      refine V_callV (pc' := 42) (As := [.int (nI ((rh 3 S 601) i))]) (st := [.int (nI (mxs (fun k => wIn (fun k => S (36 + k)) (rh 3 S 601 k)) i))]) 0 1 [1] [0, 2] (show (List.range 3).Perm ([1] ++ [0, 2]) by decide) X (c_X0_weightOfAll l G a S ((rh 3 S 601) i) (rh_lt _ _ _ _)) rfl gX5_enoughBound_X0_weightOfAll rfl (by decide) rfl rfl rfl (Nat.le_of_ble_eq_true rfl) ⟨Nat.le_of_ble_eq_true rfl, Nat.le_of_ble_eq_true rfl⟩ ⟨Nat.le_of_ble_eq_true rfl, Nat.le_of_ble_eq_true rfl⟩ dX5_enoughBound_39 rfl (fun v_ u_ hp_ => ?_)
      obtain ⟨rfl, rfl⟩ := hp_
      show V E G A 3 [XB x (a 0) (r 0) p0 h0 q, RN G r (rh 3 S 601) (rsp 3 S 601 32), DW G a S] 0 0 Q 42 [(0, .ref x), (1, .int (nI (mxs (fun k => wIn (fun k => S (36 + k)) (rh 3 S 601 k)) i))), (2, .int (nI i))] [.int (nI (wIn (fun k => S (36 + k)) ((rh 3 S 601) i))), .int (nI (mxs (fun k => wIn (fun k => S (36 + k)) (rh 3 S 601 k)) i))]
      refine V_ord [0, 2, 1] [XB x (a 0) (r 0) p0 h0 q, DW G a S, RN G r (rh 3 S 601) (rsp 3 S 601 32)] (show (List.range 3).Perm [0, 2, 1] by decide) rfl ?_
      refine V_max (pc' := 45) (nI (max (mxs (fun k => wIn (fun k => S (36 + k)) (rh 3 S 601 k)) i) (wIn (fun k => S (36 + k)) ((rh 3 S 601) i)))) X (by decide +kernel) (by decide +kernel) (by decide +kernel) (by decide +kernel) (Nat.le_of_ble_eq_true rfl) (Nat.le_of_ble_eq_true rfl) (Nat.le_of_ble_eq_true rfl) (Nat.le_of_ble_eq_true rfl) dX5_enoughBound_42 (z_max (by omega) (by omega)) rfl ?_
      refine V_istore_n (pc' := 46) [(0, .ref x), (1, .int (nI (max (mxs (fun k => wIn (fun k => S (36 + k)) (rh 3 S 601 k)) i) (wIn (fun k => S (36 + k)) ((rh 3 S 601) i))))), (2, .int (nI i))] [1, 0, 2] X dX5_enoughBound_45 rfl (Nat.le_of_ble_eq_true rfl) rfl rfl ?_
      refine V_iinc (pc' := 49) [(0, .ref x), (1, .int (nI (max (mxs (fun k => wIn (fun k => S (36 + k)) (rh 3 S 601 k)) i) (wIn (fun k => S (36 + k)) ((rh 3 S 601) i))))), (2, .int (nI (i + 1)))] 2 [1, 2, 0] X dX5_enoughBound_46 rfl (nI_i1 _) (Nat.le_of_ble_eq_true rfl) rfl rfl ?_
      refine V_goto (pc' := 19) X dX5_enoughBound_49 (by decide) ?_
      exact ih
  exact lp_1 0 (Nat.zero_le _)

set_option maxHeartbeats 4000000 in
set_option maxRecDepth 100000 in
theorem c_X5_undo (l : Launch) (G : gT) (x r p q : Nat) (a S h : Nat → Nat) (n : Nat) (d T : Nat → Nat → Nat) (hn : n < 6) : CM l G yX5_undo wsX5_undo 4 102 0 [.ref x] [XB x (a 0) r p (h 0) q, DW G a S, HI G h (n + 1) d, HD G d T] 0 0 (fun v u => v = some (.int (nI n)) ∧ u = [XB x (a 0) r p (h 0) q, DW G a (T n), HI G h n d, HD G d T]) := by
  refine CM_of RX5 3 82 rfl rfl (by decide) (by decide +kernel) (Nat.le_of_ble_eq_true rfl) (fun E A X hrt hnm => ?_)
  have F10 := Fld_of (idx := 10) 5 0 X (by decide) (by decide) (by decide +kernel) (by decide +kernel)
  have F33 := Fld_of (idx := 33) 5 3 X (by decide) (by decide) (by decide +kernel) (by decide +kernel)
  have F217 := Fld_of (idx := 217) 2 1 X (by decide) (by decide) (by decide +kernel) (by decide +kernel)
  generalize hQ : QM E G A _ _ _ = Q
  show V E G A 1 [XB x (a 0) r p (h 0) q, DW G a S, HI G h (n + 1) d, HD G d T] 0 0 Q 0 [(0, .ref x)] []
  refine V_aload_n (pc' := 1) 0 X dX5_undo_0 rfl rfl rfl ?_
  refine V_get (pc' := 4) 0 X F10 rfl rfl dX5_undo_1 rfl ?_
  refine V_aload_n (pc' := 5) 0 X dX5_undo_4 rfl rfl rfl ?_
  refine V_get (pc' := 8) 0 X F33 rfl rfl dX5_undo_5 rfl ?_
  refine V_callV (pc' := 11) (As := []) (st := [.ref (a 0)]) 2 8 [2] [0, 1, 3] (show (List.range 4).Perm ([2] ++ [0, 1, 3]) by decide) X (c_X2_takeLatest l G h d n hn) rfl gX5_undo_X2_takeLatest rfl (by decide) rfl rfl rfl (Nat.le_of_ble_eq_true rfl) ⟨Nat.le_of_ble_eq_true rfl, Nat.le_of_ble_eq_true rfl⟩ ⟨Nat.le_of_ble_eq_true rfl, Nat.le_of_ble_eq_true rfl⟩ dX5_undo_8 rfl (fun v_ u_ hp_ => ?_)
  obtain ⟨rfl, rfl⟩ := hp_
  show V E G A 1 [XB x (a 0) r p (h 0) q, DW G a S, HD G d T, HI G h n d] 0 0 Q 11 [(0, .ref x)] [.ref ((d n) 0), .ref (a 0)]
  refine V_ord [0, 1, 3, 2] [XB x (a 0) r p (h 0) q, DW G a S, HI G h n d, HD G d T] (show (List.range 4).Perm [0, 1, 3, 2] by decide) rfl ?_
  refine V_split 3 rfl (HD_perm G d T n hn) rfl ?_
  show V E G A 1 [XB x (a 0) r p (h 0) q, DW G a S, HI G h n d, DW G (d n) (T n), HR G d T n] 0 0 Q 11 [(0, .ref x)] [.ref ((d n) 0), .ref (a 0)]
  refine V_callV (pc' := 14) (As := [.ref ((d n) 0)]) (st := []) 0 1 [1, 3] [0, 2, 4] (show (List.range 5).Perm ([1, 3] ++ [0, 2, 4]) by decide) X (c_X0_copyFrom l G a S (d n) (T n)) rfl gX5_undo_X0_copyFrom rfl (by decide) rfl rfl rfl (Nat.le_of_ble_eq_true rfl) ⟨Nat.le_of_ble_eq_true rfl, Nat.le_of_ble_eq_true rfl⟩ ⟨Nat.le_of_ble_eq_true rfl, Nat.le_of_ble_eq_true rfl⟩ dX5_undo_11 rfl (fun v_ u_ hp_ => ?_)
  obtain ⟨rfl, rfl⟩ := hp_
  show V E G A 1 [XB x (a 0) r p (h 0) q, HI G h n d, HR G d T n, DW G a (T n), DW G (d n) (T n)] 0 0 Q 14 [(0, .ref x)] []
  refine V_ord [0, 3, 1, 4, 2] [XB x (a 0) r p (h 0) q, DW G a (T n), HI G h n d, DW G (d n) (T n), HR G d T n] (show (List.range 5).Perm [0, 3, 1, 4, 2] by decide) rfl ?_
  refine V_aload_n (pc' := 15) 0 X dX5_undo_14 rfl rfl rfl ?_
  refine V_get (pc' := 18) 0 X F33 rfl rfl dX5_undo_15 rfl ?_
  refine V_get (pc' := 21) 8 X F217 rfl rfl dX5_undo_18 rfl ?_
  refine V_join (bs' := [XB x (a 0) r p (h 0) q, DW G a (T n), HI G h n d, HD G d T]) 3 rfl (HD_perm G d T n hn).symm rfl ?_
  exact V_ireturn (v := nI n) [XB x (a 0) r p (h 0) q, DW G a (T n), HI G h n d, HD G d T] hQ X hrt rfl dX5_undo_21 (Nat.le_of_ble_eq_true rfl) (Nat.le_of_ble_eq_true rfl) (List.Perm.refl _) ⟨rfl, rfl⟩

set_option maxHeartbeats 4000000 in
set_option maxRecDepth 100000 in
theorem c_X5_undoable (l : Launch) (G : gT) (x a0 r p q : Nat) (h : Nat → Nat) (n : Nat) (d : Nat → Nat → Nat) : CM l G yX5_undoable wsX5_undoable 1 20 0 [.ref x] [XB x a0 r p (h 0) q, HI G h n d] 0 0 (fun v u => v = some (.int (nI n)) ∧ u = [XB x a0 r p (h 0) q, HI G h n d]) := by
  refine CM_of RX5 0 0 rfl rfl (by decide) (by decide +kernel) (Nat.le_of_ble_eq_true rfl) (fun E A X hrt hnm => ?_)
  have F33 := Fld_of (idx := 33) 5 3 X (by decide) (by decide) (by decide +kernel) (by decide +kernel)
  have F217 := Fld_of (idx := 217) 2 1 X (by decide) (by decide) (by decide +kernel) (by decide +kernel)
  generalize hQ : QM E G A _ _ _ = Q
  show V E G A 1 [XB x a0 r p (h 0) q, HI G h n d] 0 0 Q 0 [(0, .ref x)] []
  refine V_aload_n (pc' := 1) 0 X dX5_undoable_0 rfl rfl rfl ?_
  refine V_get (pc' := 4) 0 X F33 rfl rfl dX5_undoable_1 rfl ?_
  refine V_get (pc' := 7) 1 X F217 rfl rfl dX5_undoable_4 rfl ?_
  exact V_ireturn (v := nI n) [XB x a0 r p (h 0) q, HI G h n d] hQ X hrt rfl dX5_undoable_7 (Nat.le_of_ble_eq_true rfl) (Nat.le_of_ble_eq_true rfl) (List.Perm.refl _) ⟨rfl, rfl⟩

set_option maxHeartbeats 4000000 in
set_option maxRecDepth 100000 in
theorem c_X5_save_some (l : Launch) (G : gT) (x r0 p0 h0 q : Nat) (a S : Nat → Nat) (o : Nat → Option (Nat → Nat)) (c : Nat) (hc : c < 2) (hI : IV S) (b O : Nat → Nat) (ho : o c = some b) : CM l G yX5_save wsX5_save 4 104 1 [.ref x, .int (nI c)] [XB x (a 0) r0 p0 h0 q, DW G a S, SA G q o, DW G b O] 0 0 (fun v u => v = some (.int (nI (sm (fun k => cnt (S k)) 32))) ∧ u = [XB x (a 0) r0 p0 h0 q, DW G a S, SA G q o, DW G b S]) := by
  refine CM_of RX5 3 82 rfl rfl (by decide) (by decide +kernel) (Nat.le_of_ble_eq_true rfl) (fun E A X hrt hnm => ?_)
  have F10 := Fld_of (idx := 10) 5 0 X (by decide) (by decide) (by decide +kernel) (by decide +kernel)
  have F37 := Fld_of (idx := 37) 5 4 X (by decide) (by decide) (by decide +kernel) (by decide +kernel)
  generalize hQ : QM E G A _ _ _ = Q
  obtain ⟨i1, i2, i3, i4, i5, i6⟩ := id hI
  show V E G A 3 [XB x (a 0) r0 p0 h0 q, DW G a S, SA G q o, DW G b O] 0 0 Q 0 [(0, .ref x), (1, .int (nI c))] []
  refine V_iload_n (pc' := 1) 1 X dX5_save_0 rfl rfl rfl ?_
  refine V_callS (pc' := 4) (As := [.int (nI c)]) (st := []) [] [0, 1, 2, 3] (show (List.range 4).Perm ([] ++ [0, 1, 2, 3]) by decide) X (c_X5_isSlot1 l G c (by omega)) rfl gX5_save_X5_isSlot rfl rfl (Nat.le_of_ble_eq_true rfl) ⟨Nat.le_of_ble_eq_true rfl, Nat.le_of_ble_eq_true rfl⟩ ⟨Nat.le_of_ble_eq_true rfl, Nat.le_of_ble_eq_true rfl⟩ dX5_save_1 rfl (fun v_ u_ hp_ => ?_)
  obtain ⟨rfl, rfl⟩ := hp_
  show V E G A 3 [XB x (a 0) r0 p0 h0 q, DW G a S, SA G q o, DW G b O] 0 0 Q 4 [(0, .ref x), (1, .int (nI c))] [.int (nI 1)]
  refine V_if_ne (pc' := 7) (C := 1 = 0) 17 X dX5_save_4 (by decide) rfl (z_eq0 (by omega)) (fun _ => ?_) (fun hz => absurd hz (by decide))
  refine V_aload_n (pc' := 18) 0 X dX5_save_17 rfl rfl rfl ?_
  refine V_get (pc' := 21) 0 X F37 rfl rfl dX5_save_18 rfl ?_
  refine V_iload_n (pc' := 22) 1 X dX5_save_21 rfl rfl rfl ?_
  refine V_aald (pc' := 23) (v := .ref (b 0)) 8 c X rfl (by omega) (by decide) (by show va_rf ((o c).map _) = _; rw [ho]; rfl) dX5_save_22 rfl ?_
  refine V_astore_n (pc' := 24) [(0, .ref x), (1, .int (nI c)), (2, .ref (b 0))] [1, 2, 0] X dX5_save_23 rfl (Nat.le_of_ble_eq_true rfl) rfl rfl ?_
  refine V_aload_n (pc' := 25) 2 X dX5_save_24 rfl rfl rfl ?_
  refine V_ifnonnull (pc' := 43) X dX5_save_25 (by decide) ?_
  refine V_aload_n (pc' := 44) 2 X dX5_save_43 rfl rfl rfl ?_
  refine V_aload_n (pc' := 45) 0 X dX5_save_44 rfl rfl rfl ?_
  refine V_get (pc' := 48) 0 X F10 rfl rfl dX5_save_45 rfl ?_
  refine V_callV (pc' := 51) (As := [.ref (a 0)]) (st := []) 0 9 [3, 1] [0, 2] (show (List.range 4).Perm ([3, 1] ++ [0, 2]) by decide) X (c_X0_copyFrom l G b O a S) rfl gX5_save_X0_copyFrom rfl (by decide) rfl rfl rfl (Nat.le_of_ble_eq_true rfl) ⟨Nat.le_of_ble_eq_true rfl, Nat.le_of_ble_eq_true rfl⟩ ⟨Nat.le_of_ble_eq_true rfl, Nat.le_of_ble_eq_true rfl⟩ dX5_save_48 rfl (fun v_ u_ hp_ => ?_)
  obtain ⟨rfl, rfl⟩ := hp_
  show V E G A 3 [XB x (a 0) r0 p0 h0 q, SA G q o, DW G b S, DW G a S] 0 0 Q 51 [(0, .ref x), (1, .int (nI c)), (2, .ref (b 0))] []
  refine V_ord [0, 3, 1, 2] [XB x (a 0) r0 p0 h0 q, DW G a S, SA G q o, DW G b S] (show (List.range 4).Perm [0, 3, 1, 2] by decide) rfl ?_
  refine V_aload_n (pc' := 52) 0 X dX5_save_51 rfl rfl rfl ?_
  refine V_get (pc' := 55) 0 X F10 rfl rfl dX5_save_52 rfl ?_
  refine V_callV (pc' := 58) (As := []) (st := []) 0 1 [1] [0, 2, 3] (show (List.range 4).Perm ([1] ++ [0, 2, 3]) by decide) X (c_X0_countPegs l G a S hI) rfl gX5_save_X0_countPegs rfl (by decide) rfl rfl rfl (Nat.le_of_ble_eq_true rfl) ⟨Nat.le_of_ble_eq_true rfl, Nat.le_of_ble_eq_true rfl⟩ ⟨Nat.le_of_ble_eq_true rfl, Nat.le_of_ble_eq_true rfl⟩ dX5_save_55 rfl (fun v_ u_ hp_ => ?_)
  obtain ⟨rfl, rfl⟩ := hp_
  show V E G A 3 [XB x (a 0) r0 p0 h0 q, SA G q o, DW G b S, DW G a S] 0 0 Q 58 [(0, .ref x), (1, .int (nI c)), (2, .ref (b 0))] [.int (nI (sm (fun k => cnt (S k)) 32))]
  refine V_ord [0, 3, 1, 2] [XB x (a 0) r0 p0 h0 q, DW G a S, SA G q o, DW G b S] (show (List.range 4).Perm [0, 3, 1, 2] by decide) rfl ?_
  exact V_ireturn (v := nI (sm (fun k => cnt (S k)) 32)) [XB x (a 0) r0 p0 h0 q, DW G a S, SA G q o, DW G b S] hQ X hrt rfl dX5_save_58 (Nat.le_of_ble_eq_true rfl) (Nat.le_of_ble_eq_true rfl) (List.Perm.refl _) ⟨rfl, rfl⟩

set_option maxHeartbeats 4000000 in
set_option maxRecDepth 100000 in
theorem c_X5_save_none (l : Launch) (G : gT) (x r0 p0 h0 q : Nat) (a S : Nat → Nat) (o : Nat → Option (Nat → Nat)) (c : Nat) (hc : c < 2) (hI : IV S) (ho : o c = none) : CM l G yX5_save wsX5_save 4 104 1 [.ref x, .int (nI c)] [XB x (a 0) r0 p0 h0 q, DW G a S, SA G q o] 7 77 (fun v u => ∃ b : Nat → Nat, v = some (.int (nI (sm (fun k => cnt (S k)) 32))) ∧ u = [XB x (a 0) r0 p0 h0 q, DW G a S, SA G q (va_up o c (some b)), DW G b S]) := by
  refine CM_of RX5 3 82 rfl rfl (by decide) (by decide +kernel) (Nat.le_of_ble_eq_true rfl) (fun E A X hrt hnm => ?_)
  have F10 := Fld_of (idx := 10) 5 0 X (by decide) (by decide) (by decide +kernel) (by decide +kernel)
  have F37 := Fld_of (idx := 37) 5 4 X (by decide) (by decide) (by decide +kernel) (by decide +kernel)
  generalize hQ : QM E G A _ _ _ = Q
  obtain ⟨i1, i2, i3, i4, i5, i6⟩ := id hI
  show V E G A 3 [XB x (a 0) r0 p0 h0 q, DW G a S, SA G q o] 0 0 Q 0 [(0, .ref x), (1, .int (nI c))] []
  refine V_iload_n (pc' := 1) 1 X dX5_save_0 rfl rfl rfl ?_
  refine V_callS (pc' := 4) (As := [.int (nI c)]) (st := []) [] [0, 1, 2] (show (List.range 3).Perm ([] ++ [0, 1, 2]) by decide) X (c_X5_isSlot1 l G c (by omega)) rfl gX5_save_X5_isSlot rfl rfl (Nat.le_of_ble_eq_true rfl) ⟨Nat.le_of_ble_eq_true rfl, Nat.le_of_ble_eq_true rfl⟩ ⟨Nat.le_of_ble_eq_true rfl, Nat.le_of_ble_eq_true rfl⟩ dX5_save_1 rfl (fun v_ u_ hp_ => ?_)
  obtain ⟨rfl, rfl⟩ := hp_
  show V E G A 3 [XB x (a 0) r0 p0 h0 q, DW G a S, SA G q o] 0 0 Q 4 [(0, .ref x), (1, .int (nI c))] [.int (nI 1)]
  refine V_if_ne (pc' := 7) (C := 1 = 0) 17 X dX5_save_4 (by decide) rfl (z_eq0 (by omega)) (fun _ => ?_) (fun hz => absurd hz (by decide))
  refine V_aload_n (pc' := 18) 0 X dX5_save_17 rfl rfl rfl ?_
  refine V_get (pc' := 21) 0 X F37 rfl rfl dX5_save_18 rfl ?_
  refine V_iload_n (pc' := 22) 1 X dX5_save_21 rfl rfl rfl ?_
  refine V_aald (pc' := 23) (v := .null) 8 c X rfl (by omega) (by decide) (by show va_rf ((o c).map _) = _; rw [ho]; rfl) dX5_save_22 rfl ?_
  refine V_astore_nN (pc' := 24) [(0, .ref x), (1, .int (nI c)), (2, .null)] [1, 2, 0] X dX5_save_23 rfl (Nat.le_of_ble_eq_true rfl) rfl rfl ?_
  refine V_aload_nN (pc' := 25) 2 X dX5_save_24 rfl rfl rfl ?_
  refine V_ifnonnullN (pc' := 28) X dX5_save_25 rfl ?_
  refine V_new (pc' := 31) 0 [.null, .null, .null, .null, .null, .int 0, .int 0, .int 0, .int 0, .int 0] X (by decide) (by decide +kernel) (by decide +kernel) (by decide +kernel) (by decide +kernel) (fun j hj => by have hj : j < 10 := hj; rcases (show j = 0 ∨ j = 1 ∨ j = 2 ∨ j = 3 ∨ j = 4 ∨ j = 5 ∨ j = 6 ∨ j = 7 ∨ j = 8 ∨ j = 9 by omega) with rfl | rfl | rfl | rfl | rfl | rfl | rfl | rfl | rfl | rfl <;> rfl) (Nat.le_of_ble_eq_true rfl) (Nat.le_of_ble_eq_true rfl) dX5_save_28 rfl (fun q_1 => ?_)
  show V E G A 3 [XB x (a 0) r0 p0 h0 q, DW G a S, SA G q o, [(q_1, .inr (0, [.null, .null, .null, .null, .null, .int 0, .int 0, .int 0, .int 0, .int 0]))]] 1 10 Q 31 [(0, .ref x), (1, .int (nI c)), (2, .null)] [.ref q_1]
  refine V_dup (pc' := 32) X dX5_save_31 rfl rfl ?_
  refine V_callI (pc' := 35) (As := []) (st := [.ref q_1]) [3] [0, 1, 2] (show (List.range 4).Perm ([3] ++ [0, 1, 2]) by decide) X (c_X0_init l G q_1) rfl gX5_save_X0_init (by decide +kernel) (by decide +kernel) (by decide +kernel) rfl (fun _ _ _ _ h => (Cond.code.inj (List.cons.inj h).1).2.2.2.symm) rfl rfl (Nat.le_of_ble_eq_true rfl) ⟨Nat.le_of_ble_eq_true rfl, Nat.le_of_ble_eq_true rfl⟩ ⟨Nat.le_of_ble_eq_true rfl, Nat.le_of_ble_eq_true rfl⟩ dX5_save_32 rfl (fun v_ u_ hp_ => ?_)
  obtain ⟨ad_2, rfl, rfl, rfl⟩ := hp_
  show V E G A 3 [XB x (a 0) r0 p0 h0 q, DW G a S, SA G q o, DW G ad_2 (S0 3)] 7 77 Q 35 [(0, .ref x), (1, .int (nI c)), (2, .null)] [.ref (ad_2 0)]
  refine V_astore_n (pc' := 36) [(0, .ref x), (1, .int (nI c)), (2, .ref (ad_2 0))] [1, 2, 0] X dX5_save_35 rfl (Nat.le_of_ble_eq_true rfl) rfl rfl ?_
  refine V_aload_n (pc' := 37) 0 X dX5_save_36 rfl rfl rfl ?_
  refine V_get (pc' := 40) 0 X F37 rfl rfl dX5_save_37 rfl ?_
  refine V_iload_n (pc' := 41) 1 X dX5_save_40 rfl rfl rfl ?_
  refine V_aload_n (pc' := 42) 2 X dX5_save_41 rfl rfl rfl ?_
  refine V_ws [XB x (a 0) r0 p0 h0 q, DW G a S, [(q, .inl (G.2 3, 2, .inr (.inr (.inr (.inr (fun k => (o k).map (fun b => b 0)))))))], DW G ad_2 (S0 3)] rfl ?_
  refine V_aast (pc' := 43) 8 9 c [XB x (a 0) r0 p0 h0 q, DW G a S, [(q, .inl (G.2 3, 2, .inr (.inr (.inr (.inr (va_up (fun k => (o k).map (fun b => b 0)) c (some (ad_2 0))))))))], DW G ad_2 (S0 3)] X rfl rfl (by omega) (by decide) rfl dX5_save_42 rfl ?_
  refine V_aload_n (pc' := 44) 2 X dX5_save_43 rfl rfl rfl ?_
  refine V_aload_n (pc' := 45) 0 X dX5_save_44 rfl rfl rfl ?_
  refine V_get (pc' := 48) 0 X F10 rfl rfl dX5_save_45 rfl ?_
  refine V_callV (pc' := 51) (As := [.ref (a 0)]) (st := []) 0 9 [3, 1] [0, 2] (show (List.range 4).Perm ([3, 1] ++ [0, 2]) by decide) X (c_X0_copyFrom l G ad_2 (S0 3) a S) rfl gX5_save_X0_copyFrom rfl (by decide) rfl rfl rfl (Nat.le_of_ble_eq_true rfl) ⟨Nat.le_of_ble_eq_true rfl, Nat.le_of_ble_eq_true rfl⟩ ⟨Nat.le_of_ble_eq_true rfl, Nat.le_of_ble_eq_true rfl⟩ dX5_save_48 rfl (fun v_ u_ hp_ => ?_)
  obtain ⟨rfl, rfl⟩ := hp_
  show V E G A 3 [XB x (a 0) r0 p0 h0 q, [(q, .inl (G.2 3, 2, .inr (.inr (.inr (.inr (va_up (fun k => (o k).map (fun b => b 0)) c (some (ad_2 0))))))))], DW G ad_2 S, DW G a S] 7 77 Q 51 [(0, .ref x), (1, .int (nI c)), (2, .ref (ad_2 0))] []
  refine V_ord [0, 3, 1, 2] [XB x (a 0) r0 p0 h0 q, DW G a S, [(q, .inl (G.2 3, 2, .inr (.inr (.inr (.inr (va_up (fun k => (o k).map (fun b => b 0)) c (some (ad_2 0))))))))], DW G ad_2 S] (show (List.range 4).Perm [0, 3, 1, 2] by decide) rfl ?_
  refine V_aload_n (pc' := 52) 0 X dX5_save_51 rfl rfl rfl ?_
  refine V_get (pc' := 55) 0 X F10 rfl rfl dX5_save_52 rfl ?_
  refine V_callV (pc' := 58) (As := []) (st := []) 0 1 [1] [0, 2, 3] (show (List.range 4).Perm ([1] ++ [0, 2, 3]) by decide) X (c_X0_countPegs l G a S hI) rfl gX5_save_X0_countPegs rfl (by decide) rfl rfl rfl (Nat.le_of_ble_eq_true rfl) ⟨Nat.le_of_ble_eq_true rfl, Nat.le_of_ble_eq_true rfl⟩ ⟨Nat.le_of_ble_eq_true rfl, Nat.le_of_ble_eq_true rfl⟩ dX5_save_55 rfl (fun v_ u_ hp_ => ?_)
  obtain ⟨rfl, rfl⟩ := hp_
  show V E G A 3 [XB x (a 0) r0 p0 h0 q, [(q, .inl (G.2 3, 2, .inr (.inr (.inr (.inr (va_up (fun k => (o k).map (fun b => b 0)) c (some (ad_2 0))))))))], DW G ad_2 S, DW G a S] 7 77 Q 58 [(0, .ref x), (1, .int (nI c)), (2, .ref (ad_2 0))] [.int (nI (sm (fun k => cnt (S k)) 32))]
  refine V_ord [0, 3, 1, 2] [XB x (a 0) r0 p0 h0 q, DW G a S, [(q, .inl (G.2 3, 2, .inr (.inr (.inr (.inr (va_up (fun k => (o k).map (fun b => b 0)) c (some (ad_2 0))))))))], DW G ad_2 S] (show (List.range 4).Perm [0, 3, 1, 2] by decide) rfl ?_
  refine V_wsq [XB x (a 0) r0 p0 h0 q, DW G a S, SA G q (va_up o c (some ad_2)), DW G ad_2 S] (wsq.app (wsq.rf _) (wsq.app (wsq.rf _) (wsq.cons (weq.rowq (fun k hk => by unfold va_up; by_cases e : k = c; rw [if_pos e, if_pos e]; rfl; rw [if_neg e, if_neg e])) (wsq.rf _)))) ?_
  exact V_ireturn (v := nI (sm (fun k => cnt (S k)) 32)) [XB x (a 0) r0 p0 h0 q, DW G a S, SA G q (va_up o c (some ad_2)), DW G ad_2 S] hQ X hrt rfl dX5_save_58 (Nat.le_of_ble_eq_true rfl) (Nat.le_of_ble_eq_true rfl) (List.Perm.refl _) ⟨_, rfl, rfl⟩

set_option maxHeartbeats 4000000 in
set_option maxRecDepth 100000 in
theorem c_X5_restore (l : Launch) (G : gT) (x r p q : Nat) (a S h : Nat → Nat) (n : Nat) (d T : Nat → Nat → Nat) (hn : n ≤ 6) (o : Nat → Option (Nat → Nat)) (c : Nat) (hc : c < 2) (b O : Nat → Nat) (ho : o c = some b) (hO : IV O) : CM l G yX5_restore wsX5_restore 5 126 1 [.ref x, .int (nI c)] [XB x (a 0) r p (h 0) q, DW G a S, HI G h n d, HD G d T, SA G q o, DW G b O] 0 0 (fun v u => v = some (.int (nI (sm (fun k => cnt (O k)) 32))) ∧ u = [XB x (a 0) r p (h 0) q, DW G a O, HI G h (aM n + 1) (aD n d), HD G (aD n d) (hT n S T), SA G q o, DW G b O]) := by
  refine CM_of RX5 4 104 rfl rfl (by decide) (by decide +kernel) (Nat.le_of_ble_eq_true rfl) (fun E A X hrt hnm => ?_)
  have F10 := Fld_of (idx := 10) 5 0 X (by decide) (by decide) (by decide +kernel) (by decide +kernel)
  have F33 := Fld_of (idx := 33) 5 3 X (by decide) (by decide) (by decide +kernel) (by decide +kernel)
  have F37 := Fld_of (idx := 37) 5 4 X (by decide) (by decide) (by decide +kernel) (by decide +kernel)
  generalize hQ : QM E G A _ _ _ = Q
  show V E G A 3 [XB x (a 0) r p (h 0) q, DW G a S, HI G h n d, HD G d T, SA G q o, DW G b O] 0 0 Q 0 [(0, .ref x), (1, .int (nI c))] []
  refine V_iload_n (pc' := 1) 1 X dX5_restore_0 rfl rfl rfl ?_
  refine V_callS (pc' := 4) (As := [.int (nI c)]) (st := []) [] [0, 1, 2, 3, 4, 5] (show (List.range 6).Perm ([] ++ [0, 1, 2, 3, 4, 5]) by decide) X (c_X5_isSlot1 l G c (by omega)) rfl gX5_restore_X5_isSlot rfl rfl (Nat.le_of_ble_eq_true rfl) ⟨Nat.le_of_ble_eq_true rfl, Nat.le_of_ble_eq_true rfl⟩ ⟨Nat.le_of_ble_eq_true rfl, Nat.le_of_ble_eq_true rfl⟩ dX5_restore_1 rfl (fun v_ u_ hp_ => ?_)
  obtain ⟨rfl, rfl⟩ := hp_
  show V E G A 3 [XB x (a 0) r p (h 0) q, DW G a S, HI G h n d, HD G d T, SA G q o, DW G b O] 0 0 Q 4 [(0, .ref x), (1, .int (nI c))] [.int (nI 1)]
  refine V_if_ne (pc' := 7) (C := 1 = 0) 17 X dX5_restore_4 (by decide) rfl (z_eq0 (by omega)) (fun _ => ?_) (fun hz => absurd hz (by decide))
  refine V_aload_n (pc' := 18) 0 X dX5_restore_17 rfl rfl rfl ?_
  refine V_get (pc' := 21) 0 X F37 rfl rfl dX5_restore_18 rfl ?_
  refine V_iload_n (pc' := 22) 1 X dX5_restore_21 rfl rfl rfl ?_
  refine V_aald (pc' := 23) (v := .ref (b 0)) 52 c X rfl (by omega) (by decide) (by show va_rf ((o c).map _) = _; rw [ho]; rfl) dX5_restore_22 rfl ?_
  refine V_astore_n (pc' := 24) [(0, .ref x), (1, .int (nI c)), (2, .ref (b 0))] [1, 2, 0] X dX5_restore_23 rfl (Nat.le_of_ble_eq_true rfl) rfl rfl ?_
  refine V_aload_n (pc' := 25) 2 X dX5_restore_24 rfl rfl rfl ?_
  refine V_ifnonnull (pc' := 38) X dX5_restore_25 (by decide) ?_
  refine V_aload_n (pc' := 39) 0 X dX5_restore_38 rfl rfl rfl ?_
  refine V_get (pc' := 42) 0 X F33 rfl rfl dX5_restore_39 rfl ?_
  refine V_aload_n (pc' := 43) 0 X dX5_restore_42 rfl rfl rfl ?_
  refine V_get (pc' := 46) 0 X F10 rfl rfl dX5_restore_43 rfl ?_
  refine V_callV (pc' := 49) (As := [.ref (a 0)]) (st := []) 2 8 [2, 3, 1] [0, 4, 5] (show (List.range 6).Perm ([2, 3, 1] ++ [0, 4, 5]) by decide) X (c_X2_add l G h d T a S n hn) rfl gX5_restore_X2_add rfl (by decide) rfl rfl rfl (Nat.le_of_ble_eq_true rfl) ⟨Nat.le_of_ble_eq_true rfl, Nat.le_of_ble_eq_true rfl⟩ ⟨Nat.le_of_ble_eq_true rfl, Nat.le_of_ble_eq_true rfl⟩ dX5_restore_46 rfl (fun v_ u_ hp_ => ?_)
  obtain ⟨rfl, rfl⟩ := hp_
  show V E G A 3 [XB x (a 0) r p (h 0) q, SA G q o, DW G b O, HI G h (aM n + 1) (aD n d), DW G ((aD n d) (aM n)) S, DW G a S, HR G (aD n d) (aD n T) (aM n)] 0 0 Q 49 [(0, .ref x), (1, .int (nI c)), (2, .ref (b 0))] [.ref (((aD n d) (aM n)) 0)]
  refine V_pop (pc' := 50) X dX5_restore_49 rfl rfl ?_
  refine V_aload_n (pc' := 51) 0 X dX5_restore_50 rfl rfl rfl ?_
  refine V_get (pc' := 54) 0 X F10 rfl rfl dX5_restore_51 rfl ?_
  refine V_aload_n (pc' := 55) 2 X dX5_restore_54 rfl rfl rfl ?_
  refine V_callV (pc' := 58) (As := [.ref (b 0)]) (st := []) 0 18 [5, 2] [0, 1, 3, 4, 6] (show (List.range 7).Perm ([5, 2] ++ [0, 1, 3, 4, 6]) by decide) X (c_X0_copyFrom l G a S b O) rfl gX5_restore_X0_copyFrom rfl (by decide) rfl rfl rfl (Nat.le_of_ble_eq_true rfl) ⟨Nat.le_of_ble_eq_true rfl, Nat.le_of_ble_eq_true rfl⟩ ⟨Nat.le_of_ble_eq_true rfl, Nat.le_of_ble_eq_true rfl⟩ dX5_restore_55 rfl (fun v_ u_ hp_ => ?_)
  obtain ⟨rfl, rfl⟩ := hp_
  show V E G A 3 [XB x (a 0) r p (h 0) q, SA G q o, HI G h (aM n + 1) (aD n d), DW G ((aD n d) (aM n)) S, HR G (aD n d) (aD n T) (aM n), DW G a O, DW G b O] 0 0 Q 58 [(0, .ref x), (1, .int (nI c)), (2, .ref (b 0))] []
  refine V_ord [0, 1, 6, 2, 3, 5, 4] [XB x (a 0) r p (h 0) q, SA G q o, DW G b O, HI G h (aM n + 1) (aD n d), DW G ((aD n d) (aM n)) S, DW G a O, HR G (aD n d) (aD n T) (aM n)] (show (List.range 7).Perm [0, 1, 6, 2, 3, 5, 4] by decide) rfl ?_
  refine V_aload_n (pc' := 59) 0 X dX5_restore_58 rfl rfl rfl ?_
  refine V_get (pc' := 62) 0 X F10 rfl rfl dX5_restore_59 rfl ?_
  refine V_callV (pc' := 65) (As := []) (st := []) 0 18 [5] [0, 1, 2, 3, 4, 6] (show (List.range 7).Perm ([5] ++ [0, 1, 2, 3, 4, 6]) by decide) X (c_X0_countPegs l G a O hO) rfl gX5_restore_X0_countPegs rfl (by decide) rfl rfl rfl (Nat.le_of_ble_eq_true rfl) ⟨Nat.le_of_ble_eq_true rfl, Nat.le_of_ble_eq_true rfl⟩ ⟨Nat.le_of_ble_eq_true rfl, Nat.le_of_ble_eq_true rfl⟩ dX5_restore_62 rfl (fun v_ u_ hp_ => ?_)
  obtain ⟨rfl, rfl⟩ := hp_
  show V E G A 3 [XB x (a 0) r p (h 0) q, SA G q o, DW G b O, HI G h (aM n + 1) (aD n d), DW G ((aD n d) (aM n)) S, HR G (aD n d) (aD n T) (aM n), DW G a O] 0 0 Q 65 [(0, .ref x), (1, .int (nI c)), (2, .ref (b 0))] [.int (nI (sm (fun k => cnt (O k)) 32))]
  refine V_ord [0, 1, 2, 3, 4, 6, 5] [XB x (a 0) r p (h 0) q, SA G q o, DW G b O, HI G h (aM n + 1) (aD n d), DW G ((aD n d) (aM n)) S, DW G a O, HR G (aD n d) (aD n T) (aM n)] (show (List.range 7).Perm [0, 1, 2, 3, 4, 6, 5] by decide) rfl ?_
  refine V_ord [0, 5, 3, 4, 6, 1, 2] [XB x (a 0) r p (h 0) q, DW G a O, HI G h (aM n + 1) (aD n d), DW G ((aD n d) (aM n)) S, HR G (aD n d) (aD n T) (aM n), SA G q o, DW G b O] (show (List.range 7).Perm [0, 5, 3, 4, 6, 1, 2] by decide) rfl ?_
  refine V_join (bs' := [XB x (a 0) r p (h 0) q, DW G a O, HI G h (aM n + 1) (aD n d), HD G (aD n d) (hT n S T), SA G q o, DW G b O]) 3 rfl (HD_perm' G (aD n d) (aD n T) S (aM_lt hn)) rfl ?_
  exact V_ireturn (v := nI (sm (fun k => cnt (O k)) 32)) [XB x (a 0) r p (h 0) q, DW G a O, HI G h (aM n + 1) (aD n d), HD G (aD n d) (hT n S T), SA G q o, DW G b O] hQ X hrt rfl dX5_restore_65 (Nat.le_of_ble_eq_true rfl) (Nat.le_of_ble_eq_true rfl) (List.Perm.refl _) ⟨rfl, rfl⟩

set_option maxHeartbeats 4000000 in
set_option maxRecDepth 100000 in
theorem c_Y5_init (l : Launch) (G : gT) (x : Nat) : CM l G yX5_init wsX5_init 5 105 0 [.ref x] [[(x, .inr (5, [.null, .null, .null, .null, .null]))]] 60 698 (fun v u => ∃ (a r p h : Nat → Nat) (q : Nat) (H g : Nat → Nat) (d : Nat → Nat → Nat), v = none ∧ u = [XB x (a 0) (r 0) (p 0) (h 0) q, DW G a (S0 3), RN G r H g, PD G p (fun _ => 0) 0, HI G h 0 d, HD G d (fun _ => S0 3), SA G q (fun _ => none)]) := by
  refine CM_of RX5 4 85 rfl rfl (by decide) (by decide +kernel) (Nat.le_of_ble_eq_true rfl) (fun E A X hrt hnm => ?_)
  have hin : (e_h E).name = "<init>" := hnm
  have F10 := Fld_of (idx := 10) 5 0 X (by decide) (by decide) (by decide +kernel) (by decide +kernel)
  have F19 := Fld_of (idx := 19) 5 1 X (by decide) (by decide) (by decide +kernel) (by decide +kernel)
  have F26 := Fld_of (idx := 26) 5 2 X (by decide) (by decide) (by decide +kernel) (by decide +kernel)
  have F33 := Fld_of (idx := 33) 5 3 X (by decide) (by decide) (by decide +kernel) (by decide +kernel)
  have F37 := Fld_of (idx := 37) 5 4 X (by decide) (by decide) (by decide +kernel) (by decide +kernel)
  generalize hQ : QM E G A _ _ _ = Q
  show V E G A 1 [[(x, .inr (5, [.null, .null, .null, .null, .null]))]] 0 0 Q 0 [(0, .ref x)] []
  refine V_aload_n (pc' := 1) 0 X dX5_init_0 rfl rfl rfl ?_
  refine V_obj (pc' := 4) X (by decide +kernel) (by decide +kernel) (by decide +kernel) dX5_init_1 (Nat.le_of_ble_eq_true rfl) (Nat.le_of_ble_eq_true rfl) rfl ?_
  refine V_aload_n (pc' := 5) 0 X dX5_init_4 rfl rfl rfl ?_
  refine V_new (pc' := 8) 0 [.null, .null, .null, .null, .null, .int 0, .int 0, .int 0, .int 0, .int 0] X (by decide) (by decide +kernel) (by decide +kernel) (by decide +kernel) (by decide +kernel) (fun j hj => by have hj : j < 10 := hj; rcases (show j = 0 ∨ j = 1 ∨ j = 2 ∨ j = 3 ∨ j = 4 ∨ j = 5 ∨ j = 6 ∨ j = 7 ∨ j = 8 ∨ j = 9 by omega) with rfl | rfl | rfl | rfl | rfl | rfl | rfl | rfl | rfl | rfl <;> rfl) (Nat.le_of_ble_eq_true rfl) (Nat.le_of_ble_eq_true rfl) dX5_init_5 rfl (fun q_1 => ?_)
  show V E G A 1 [[(x, .inr (5, [.null, .null, .null, .null, .null]))], [(q_1, .inr (0, [.null, .null, .null, .null, .null, .int 0, .int 0, .int 0, .int 0, .int 0]))]] 1 10 Q 8 [(0, .ref x)] [.ref q_1, .ref x]
  refine V_dup (pc' := 9) X dX5_init_8 rfl rfl ?_
  refine V_callI (pc' := 12) (As := []) (st := [.ref q_1, .ref x]) [1] [0] (show (List.range 2).Perm ([1] ++ [0]) by decide) X (c_X0_init l G q_1) rfl gX5_init_X0_init (by decide +kernel) (by decide +kernel) (by decide +kernel) rfl (fun _ _ _ _ h => (Cond.code.inj (List.cons.inj h).1).2.2.2.symm) rfl rfl (Nat.le_of_ble_eq_true rfl) ⟨Nat.le_of_ble_eq_true rfl, Nat.le_of_ble_eq_true rfl⟩ ⟨Nat.le_of_ble_eq_true rfl, Nat.le_of_ble_eq_true rfl⟩ dX5_init_9 rfl (fun v_ u_ hp_ => ?_)
  obtain ⟨ad_2, rfl, rfl, rfl⟩ := hp_
  show V E G A 1 [[(x, .inr (5, [.null, .null, .null, .null, .null]))], DW G ad_2 (S0 3)] 7 77 Q 12 [(0, .ref x)] [.ref (ad_2 0), .ref x]
  refine V_putF (pc' := 15) 0 [[(x, .inr (5, [.ref (ad_2 0), .null, .null, .null, .null]))], DW G ad_2 (S0 3)] X F10 rfl rfl hin rfl rfl rfl (Nat.le_of_ble_eq_true rfl) rfl dX5_init_12 rfl ?_
  refine V_aload_n (pc' := 16) 0 X dX5_init_15 rfl rfl rfl ?_
  refine V_new (pc' := 19) 4 [.null, .null] X (by decide) (by decide +kernel) (by decide +kernel) (by decide +kernel) (by decide +kernel) (fun j hj => by have hj : j < 2 := hj; rcases (show j = 0 ∨ j = 1 by omega) with rfl | rfl <;> rfl) (Nat.le_of_ble_eq_true rfl) (Nat.le_of_ble_eq_true rfl) dX5_init_16 rfl (fun q_3 => ?_)
  show V E G A 1 [[(x, .inr (5, [.ref (ad_2 0), .null, .null, .null, .null]))], DW G ad_2 (S0 3), [(q_3, .inr (4, [.null, .null]))]] 8 79 Q 19 [(0, .ref x)] [.ref q_3, .ref x]
  refine V_dup (pc' := 20) X dX5_init_19 rfl rfl ?_
  refine V_callIN (host := RX5) (pc' := 23) (As := []) (st := [.ref q_3, .ref x]) [2] [0, 1] (show (List.range 3).Perm ([2] ++ [0, 1]) by decide) X (c_X4_init l G q_3) rfl gX5_init_X4_init_n18 X.2.1.2.2.2.2.1.1 (by decide +kernel) (by decide +kernel) rfl (fun _ _ _ _ h => (Cond.code.inj (List.cons.inj h).1).2.2.2.symm) rfl rfl (Nat.le_of_ble_eq_true rfl) ⟨Nat.le_of_ble_eq_true rfl, Nat.le_of_ble_eq_true rfl⟩ ⟨Nat.le_of_ble_eq_true rfl, Nat.le_of_ble_eq_true rfl⟩ dX5_init_20 rfl (fun v_ u_ hp_ => ?_)
  obtain ⟨rn, Hn, gn, rfl, rfl, rfl⟩ := hp_
  show V E G A 1 [[(x, .inr (5, [.ref (ad_2 0), .null, .null, .null, .null]))], DW G ad_2 (S0 3), RN G rn Hn gn] 12 124 Q 23 [(0, .ref x)] [.ref (rn 0), .ref x]
  refine V_putF (pc' := 26) 0 [[(x, .inr (5, [.ref (ad_2 0), .ref (rn 0), .null, .null, .null]))], DW G ad_2 (S0 3), RN G rn Hn gn] X F19 rfl rfl hin rfl rfl rfl (Nat.le_of_ble_eq_true rfl) rfl dX5_init_23 rfl ?_
  refine V_aload_n (pc' := 27) 0 X dX5_init_26 rfl rfl rfl ?_
  refine V_new (pc' := 30) 3 [.null, .int 0] X (by decide) (by decide +kernel) (by decide +kernel) (by decide +kernel) (by decide +kernel) (fun j hj => by have hj : j < 2 := hj; rcases (show j = 0 ∨ j = 1 by omega) with rfl | rfl <;> rfl) (Nat.le_of_ble_eq_true rfl) (Nat.le_of_ble_eq_true rfl) dX5_init_27 rfl (fun q_4 => ?_)
  show V E G A 1 [[(x, .inr (5, [.ref (ad_2 0), .ref (rn 0), .null, .null, .null]))], DW G ad_2 (S0 3), RN G rn Hn gn, [(q_4, .inr (3, [.null, .int 0]))]] 13 126 Q 30 [(0, .ref x)] [.ref q_4, .ref x]
  refine V_dup (pc' := 31) X dX5_init_30 rfl rfl ?_
  refine V_callIN (host := RX5) (pc' := 34) (As := []) (st := [.ref q_4, .ref x]) [3] [0, 1, 2] (show (List.range 4).Perm ([3] ++ [0, 1, 2]) by decide) X (c_Y3_init l G q_4) rfl gX5_init_X3_init_n25 X.2.1.2.2.2.2.1.2.1 (by decide +kernel) (by decide +kernel) rfl (fun _ _ _ _ h => (Cond.code.inj (List.cons.inj h).1).2.2.2.symm) rfl rfl (Nat.le_of_ble_eq_true rfl) ⟨Nat.le_of_ble_eq_true rfl, Nat.le_of_ble_eq_true rfl⟩ ⟨Nat.le_of_ble_eq_true rfl, Nat.le_of_ble_eq_true rfl⟩ dX5_init_31 rfl (fun v_ u_ hp_ => ?_)
  obtain ⟨pn, rfl, rfl, rfl⟩ := hp_
  show V E G A 1 [[(x, .inr (5, [.ref (ad_2 0), .ref (rn 0), .null, .null, .null]))], DW G ad_2 (S0 3), RN G rn Hn gn, PD G pn (fun _ => 0) 0] 14 186 Q 34 [(0, .ref x)] [.ref (pn 0), .ref x]
  refine V_putF (pc' := 37) 0 [[(x, .inr (5, [.ref (ad_2 0), .ref (rn 0), .ref (pn 0), .null, .null]))], DW G ad_2 (S0 3), RN G rn Hn gn, PD G pn (fun _ => 0) 0] X F26 rfl rfl hin rfl rfl rfl (Nat.le_of_ble_eq_true rfl) rfl dX5_init_34 rfl ?_
  refine V_aload_n (pc' := 38) 0 X dX5_init_37 rfl rfl rfl ?_
  refine V_new (pc' := 41) 2 [.null, .int 0] X (by decide) (by decide +kernel) (by decide +kernel) (by decide +kernel) (by decide +kernel) (fun j hj => by have hj : j < 2 := hj; rcases (show j = 0 ∨ j = 1 by omega) with rfl | rfl <;> rfl) (Nat.le_of_ble_eq_true rfl) (Nat.le_of_ble_eq_true rfl) dX5_init_38 rfl (fun q_5 => ?_)
  show V E G A 1 [[(x, .inr (5, [.ref (ad_2 0), .ref (rn 0), .ref (pn 0), .null, .null]))], DW G ad_2 (S0 3), RN G rn Hn gn, PD G pn (fun _ => 0) 0, [(q_5, .inr (2, [.null, .int 0]))]] 15 188 Q 41 [(0, .ref x)] [.ref q_5, .ref x]
  refine V_dup (pc' := 42) X dX5_init_41 rfl rfl ?_
  refine V_callI (pc' := 45) (As := []) (st := [.ref q_5, .ref x]) [4] [0, 1, 2, 3] (show (List.range 5).Perm ([4] ++ [0, 1, 2, 3]) by decide) X (c_X2_init l G q_5) rfl gX5_init_X2_init (by decide +kernel) (by decide +kernel) (by decide +kernel) rfl (fun _ _ _ _ h => (Cond.code.inj (List.cons.inj h).1).2.2.2.symm) rfl rfl (Nat.le_of_ble_eq_true rfl) ⟨Nat.le_of_ble_eq_true rfl, Nat.le_of_ble_eq_true rfl⟩ ⟨Nat.le_of_ble_eq_true rfl, Nat.le_of_ble_eq_true rfl⟩ dX5_init_42 rfl (fun v_ u_ hp_ => ?_)
  obtain ⟨hn, dn, rfl, rfl, rfl⟩ := hp_
  show V E G A 1 [[(x, .inr (5, [.ref (ad_2 0), .ref (rn 0), .ref (pn 0), .null, .null]))], DW G ad_2 (S0 3), RN G rn Hn gn, PD G pn (fun _ => 0) 0, HI G hn 0 dn, HD G dn (fun _ => S0 3)] 58 656 Q 45 [(0, .ref x)] [.ref (hn 0), .ref x]
  refine V_putF (pc' := 48) 0 [[(x, .inr (5, [.ref (ad_2 0), .ref (rn 0), .ref (pn 0), .ref (hn 0), .null]))], DW G ad_2 (S0 3), RN G rn Hn gn, PD G pn (fun _ => 0) 0, HI G hn 0 dn, HD G dn (fun _ => S0 3)] X F33 rfl rfl hin rfl rfl rfl (Nat.le_of_ble_eq_true rfl) rfl dX5_init_45 rfl ?_
  refine V_aload_n (pc' := 49) 0 X dX5_init_48 rfl rfl rfl ?_
  refine V_iconst (pc' := 50) (nI 2) X dX5_init_49 ki_2 rfl ?_
  refine V_newq (pc' := 53) (n := 2) X (by decide +kernel) (by decide) (Nat.le_of_ble_eq_true rfl) (Nat.le_of_ble_eq_true rfl) dX5_init_50 rfl (fun q_6 => ?_)
  show V E G A 1 [[(x, .inr (5, [.ref (ad_2 0), .ref (rn 0), .ref (pn 0), .ref (hn 0), .null]))], DW G ad_2 (S0 3), RN G rn Hn gn, PD G pn (fun _ => 0) 0, HI G hn 0 dn, HD G dn (fun _ => S0 3), [(q_6, .inl (G.2 3, 2, .inr (.inr (.inr (.inr (fun _ => none))))))]] 59 658 Q 53 [(0, .ref x)] [.ref q_6, .ref x]
  refine V_putF (pc' := 56) 0 [[(x, .inr (5, [.ref (ad_2 0), .ref (rn 0), .ref (pn 0), .ref (hn 0), .ref q_6]))], DW G ad_2 (S0 3), RN G rn Hn gn, PD G pn (fun _ => 0) 0, HI G hn 0 dn, HD G dn (fun _ => S0 3), [(q_6, .inl (G.2 3, 2, .inr (.inr (.inr (.inr (fun _ => none))))))]] X F37 rfl rfl hin rfl rfl rfl (Nat.le_of_ble_eq_true rfl) rfl dX5_init_53 rfl ?_
  refine V_wsq [XB x (ad_2 0) (rn 0) (pn 0) (hn 0) q_6, DW G ad_2 (S0 3), RN G rn Hn gn, PD G pn (fun _ => 0) 0, HI G hn 0 dn, HD G dn (fun _ => S0 3), SA G q_6 (fun _ => none)] (wsq.cons (weq.rf _) (wsq.app (wsq.rf _) (wsq.app (wsq.rf _) (wsq.app (wsq.rf _) (wsq.app (wsq.rf _) (wsq.app (wsq.rf _) (wsq.cons (weq.rf _) (wsq.rf _)))))))) ?_
  exact V_return [XB x (ad_2 0) (rn 0) (pn 0) (hn 0) q_6, DW G ad_2 (S0 3), RN G rn Hn gn, PD G pn (fun _ => 0) 0, HI G hn 0 dn, HD G dn (fun _ => S0 3), SA G q_6 (fun _ => none)] hQ X hrt dX5_init_56 (Nat.le_of_ble_eq_true rfl) (Nat.le_of_ble_eq_true rfl) (List.Perm.refl _) ⟨_, _, _, _, _, _, _, _, rfl, rfl⟩
