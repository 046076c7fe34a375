/-! the law's methods: count, low, roll, turns, moves, one, cranks -/
theorem stkN_lin (S : Nat → Nat) : ∀ i, stkN 3 S i 70 - S 70 ≤ 10 * i
  | 0 => by show S 70 - S 70 ≤ 0; omega
  | i + 1 => by
    have h := stkN_lin S i
    have h2 := cnt_le (hs (stkN 3 S i))
    rw [stkN_h]; omega
set_option maxHeartbeats 4000000 in
set_option maxRecDepth 100000 in
theorem c_L_count (l : Launch) (G : gT) (p : Nat) (hp : p < 2 ^ 20) : CM l G yL_count wsL_count 1 22 1 [.int (nI p)] [] 0 0 (fun v u => v = some (.int (nI (cnt p))) ∧ u = []) := by
  refine CM_of RL 0 0 rfl rfl (by decide) (by decide +kernel) (Nat.le_of_ble_eq_true rfl) (fun E A X hrt hnm => ?_)
  generalize hQ : QM E G A _ _ _ = Q
  show V E G A 3 [] 0 0 Q 0 [(0, .int (nI p))] []
  refine V_iconst (pc' := 1) (nI 0) X dL_count_0 ki_0 rfl ?_
  refine V_istore_n (pc' := 2) [(0, .int (nI p)), (1, .int (nI 0))] [1, 0] X dL_count_1 rfl (Nat.le_of_ble_eq_true rfl) rfl rfl ?_
  refine V_iconst (pc' := 3) (nI 0) X dL_count_2 ki_0 rfl ?_
  refine V_istore_n (pc' := 4) [(0, .int (nI p)), (1, .int (nI 0)), (2, .int (nI 0))] [1, 2, 0] X dL_count_3 rfl (Nat.le_of_ble_eq_true rfl) rfl rfl ?_
  have lp_1 : ∀ i, i ≤ 10 → V E G A 3 [] 0 0 Q 4 [(0, .int (nI p)), (1, .int (nI (sm (bq p) i))), (2, .int (nI i))] [] := by
    refine loopD 10 ?_ ?_
    · show V E G A 3 [] 0 0 Q 4 [(0, .int (nI p)), (1, .int (nI (sm (bq p) 10))), (2, .int (nI 10))] []
      refine V_iload_n (pc' := 5) 2 X dL_count_4 rfl rfl rfl ?_
      refine V_bipush (pc' := 7) (nI 10) X dL_count_5 kb_10 rfl ?_
      refine V_icmp_ge (pc' := 10) (C := 10 ≤ 10) 24 X dL_count_7 (by decide) rfl (nI_leI (by omega) (by omega)) (fun _ => ?_) (fun hz => absurd (by omega) hz)
      refine V_iload_n (pc' := 25) 1 X dL_count_24 rfl rfl rfl ?_
      exact V_ireturn (v := nI (sm (bq p) 10)) [] hQ X hrt rfl dL_count_25 (Nat.le_of_ble_eq_true rfl) (Nat.le_of_ble_eq_true rfl) (List.Perm.refl _) ⟨rfl, rfl⟩
    · intro i hi_i ih
      show V E G A 3 [] 0 0 Q 4 [(0, .int (nI p)), (1, .int (nI (sm (bq p) i))), (2, .int (nI i))] []
      refine V_iload_n (pc' := 5) 2 X dL_count_4 rfl rfl rfl ?_
      refine V_bipush (pc' := 7) (nI 10) X dL_count_5 kb_10 rfl ?_
      refine V_icmp_ge (pc' := 10) (C := 10 ≤ i) 24 X dL_count_7 (by decide) rfl (nI_leI (by omega) (by omega)) (fun hz => absurd hz (by omega)) (fun _ => ?_)
      refine V_iload_n (pc' := 11) 1 X dL_count_10 rfl rfl rfl ?_
      refine V_iload_n (pc' := 12) 0 X dL_count_11 rfl rfl rfl ?_
      refine V_iload_n (pc' := 13) 2 X dL_count_12 rfl rfl rfl ?_
      refine V_ishr (pc' := 14) (nI (p / 2 ^ i)) X dL_count_13 (z_shr (by omega) (by omega)) rfl ?_
      refine V_iconst (pc' := 15) (nI 1) X dL_count_14 ki_1 rfl ?_
      refine V_iand (pc' := 16) (nI (bq p i)) X dL_count_15 (z_and1 _) rfl ?_
      refine V_iadd (pc' := 17) (nI ((sm (bq p) i) + (bq p i))) X dL_count_16 (nI_add _ _) rfl ?_
      refine V_istore_n (pc' := 18) [(0, .int (nI p)), (1, .int (nI ((sm (bq p) i) + (bq p i)))), (2, .int (nI i))] [1, 0, 2] X dL_count_17 rfl (Nat.le_of_ble_eq_true rfl) rfl rfl ?_
      refine V_iinc (pc' := 21) [(0, .int (nI p)), (1, .int (nI ((sm (bq p) i) + (bq p i)))), (2, .int (nI (i + 1)))] 2 [1, 2, 0] X dL_count_18 rfl (nI_i1 _) (Nat.le_of_ble_eq_true rfl) rfl rfl ?_
      refine V_goto (pc' := 4) X dL_count_21 (by decide) ?_
      exact ih
  exact lp_1 0 (Nat.zero_le _)

set_option maxHeartbeats 4000000 in
set_option maxRecDepth 100000 in
theorem c_L_low (l : Launch) (G : gT) (z : Int32) (m : Nat) (h0 : 0 < m) (hm : m < 2 ^ 20) : CM l G yL_low wsL_low 1 21 2 [.int z, .int (nI m)] [] 0 0 (fun v u => v = some (.int (nI (lwN z m))) ∧ u = []) := by
  refine CM_of RL 0 0 rfl rfl (by decide) (by decide +kernel) (Nat.le_of_ble_eq_true rfl) (fun E A X hrt hnm => ?_)
  generalize hQ : QM E G A _ _ _ = Q
  show V E G A 2 [] 0 0 Q 0 [(0, .int z), (1, .int (nI m))] []
  refine V_iload_n (pc' := 1) 0 X dL_low_0 rfl rfl rfl ?_
  refine V_ldc (pc' := 3) (v := 2147483647) X (by decide +kernel) dL_low_1 rfl ?_
  refine V_iand (pc' := 4) (nI (z.toBitVec.toNat % 2 ^ 31)) X dL_low_3 (lw_mask z) rfl ?_
  refine V_iload_n (pc' := 5) 1 X dL_low_4 rfl rfl rfl ?_
  refine V_irem (pc' := 6) (nI (lwN z m)) X dL_low_5 (z_ne0 h0 (by omega)) (lw_rem z h0 (by omega)) rfl ?_
  exact V_ireturn (v := nI (lwN z m)) [] hQ X hrt rfl dL_low_6 (Nat.le_of_ble_eq_true rfl) (Nat.le_of_ble_eq_true rfl) (List.Perm.refl _) ⟨rfl, rfl⟩

set_option maxHeartbeats 4000000 in
set_option maxRecDepth 100000 in
theorem c_L_roll (l : Launch) (G : gT) (x K : Nat) (S : Nat → Nat) (n : Nat) (T : Nat → Nat → Nat) (P : Nat → Option (Nat → Nat)) (w : va_W) (hw : OJ G x K S n T P w) : CM l G yL_roll wsL_roll 3 64 1 [.ref x] [w] 0 0 (fun v u => v = some (.long (lN (rl S 32))) ∧ ∃ w', OJ G x K S n T P w' ∧ u = [w']) := by
  refine CM_of RL 2 41 rfl rfl (by decide) (by decide +kernel) (Nat.le_of_ble_eq_true rfl) (fun E A X hrt hnm => ?_)
  generalize hQ : QM E G A _ _ _ = Q
  obtain ⟨i1, i2, i3, i4, i5, i6⟩ := hw.iv
  show V E G A 4 [w] 0 0 Q 0 [(0, .ref x)] []
  refine V_lconst (pc' := 1) (lN 1) X dL_roll_0 (by decide +kernel) rfl ?_
  refine V_lstore_n (pc' := 2) [(0, .ref x), (1, .long (lN 1))] [1, 0] X dL_roll_1 rfl (Nat.le_of_ble_eq_true rfl) rfl rfl ?_
  refine V_iconst (pc' := 3) (nI 0) X dL_roll_2 ki_0 rfl ?_
  refine V_istore_n (pc' := 4) [(0, .ref x), (1, .long (lN 1)), (3, .int (nI 0))] [1, 2, 0] X dL_roll_3 rfl (Nat.le_of_ble_eq_true rfl) rfl rfl ?_
  have lp_1 : ∀ i, i ≤ 32 → ∀ (wl_1 : va_W), OJ G x K S n T P wl_1 → V E G A 4 [wl_1] 0 0 Q 4 [(0, .ref x), (1, .long (lN (rl S i))), (3, .int (nI i))] [] := by
    refine loopD 32 ?_ ?_
    · intro wl_1 hl_1
      show V E G A 4 [wl_1] 0 0 Q 4 [(0, .ref x), (1, .long (lN (rl S 32))), (3, .int (nI 32))] []
      refine V_iload_n (pc' := 5) 2 X dL_roll_4 rfl rfl rfl ?_
      refine V_bipush (pc' := 7) (nI 32) X dL_roll_5 kb_32 rfl ?_
      refine V_icmp_ge (pc' := 10) (C := 32 ≤ 32) 29 X dL_roll_7 (by decide) rfl (nI_leI (by omega) (by omega)) (fun _ => ?_) (fun hz => absurd (by omega) hz)
      refine V_lload_n (pc' := 30) 1 X dL_roll_29 rfl rfl rfl ?_
      exact V_lreturn (v := lN (rl S 32)) [wl_1] hQ X hrt dL_roll_30 (Nat.le_of_ble_eq_true rfl) (Nat.le_of_ble_eq_true rfl) (List.Perm.refl _) ⟨rfl, wl_1, hl_1, rfl⟩
    · intro i hi_i ih wl_1 hl_1
      show V E G A 4 [wl_1] 0 0 Q 4 [(0, .ref x), (1, .long (lN (rl S i))), (3, .int (nI i))] []
      refine V_iload_n (pc' := 5) 2 X dL_roll_4 rfl rfl rfl ?_
      refine V_bipush (pc' := 7) (nI 32) X dL_roll_5 kb_32 rfl ?_
      refine V_icmp_ge (pc' := 10) (C := 32 ≤ i) 29 X dL_roll_7 (by decide) rfl (nI_leI (by omega) (by omega)) (fun hz => absurd hz (by omega)) (fun _ => ?_)
      refine V_ldc2 (pc' := 13) (v := 1031) (lN 1031) X (by decide +kernel) (by decide +kernel) dL_roll_10 rfl ?_
      refine V_lload_n (pc' := 14) 1 X dL_roll_13 rfl rfl rfl ?_
      refine V_lmul (pc' := 15) (lN (1031 * rl S i)) X dL_roll_14 (lN_mul _ _) rfl ?_
      refine V_aload_n (pc' := 16) 0 X dL_roll_15 rfl rfl rfl ?_
      refine V_iload_n (pc' := 17) 2 X dL_roll_16 rfl rfl rfl ?_
      refine O_pegsIn (pc' := 20) (st := [.long (lN (1031 * rl S i))]) i (by omega) hl_1 X gL_roll_X5_pegsIn (Nat.le_of_ble_eq_true rfl) ⟨Nat.le_of_ble_eq_true rfl, Nat.le_of_ble_eq_true rfl⟩ ⟨Nat.le_of_ble_eq_true rfl, Nat.le_of_ble_eq_true rfl⟩ dL_roll_17 rfl (fun w_1 hw_1 => ?_)
      refine V_i2l (pc' := 21) (lN (S i)) X dL_roll_20 (nI_l (Nat.lt_trans (i1 i hi_i) (by decide))) rfl ?_
      refine V_ladd (pc' := 22) (lN (1031 * rl S i + S i)) X dL_roll_21 (lN_add _ _) rfl ?_
      refine V_lstore_n (pc' := 23) [(0, .ref x), (1, .long (lN (1031 * rl S i + S i))), (3, .int (nI i))] [1, 0, 2] X dL_roll_22 rfl (Nat.le_of_ble_eq_true rfl) rfl rfl ?_
      refine V_iinc (pc' := 26) [(0, .ref x), (1, .long (lN (1031 * rl S i + S i))), (3, .int (nI (i + 1)))] 2 [1, 2, 0] X dL_roll_23 rfl (nI_i1 _) (Nat.le_of_ble_eq_true rfl) rfl rfl ?_
      refine V_goto (pc' := 4) X dL_roll_26 (by decide) ?_
      exact ih w_1 hw_1
  exact lp_1 0 (Nat.zero_le _) w hw

set_option maxHeartbeats 4000000 in
set_option maxRecDepth 100000 in
theorem c_L_turns (l : Launch) (G : gT) (x K : Nat) (S : Nat → Nat) (n : Nat) (T : Nat → Nat → Nat) (P : Nat → Option (Nat → Nat)) (w : va_W) (hw : OJ G x K S n T P w) : CM l G yL_turns wsL_turns 6 153 1 [.ref x] [w] 0 0 (fun v u => v = some (.int (nI 1)) ∧ ∃ (S' : Nat → Nat) (n' : Nat) (T' : Nat → Nat → Nat) (w' : va_W), OJ G x K S' n' T' P w' ∧ u = [w']) := by
  refine CM_of RL 5 126 rfl rfl (by decide) (by decide +kernel) (Nat.le_of_ble_eq_true rfl) (fun E A X hrt hnm => ?_)
  generalize hQ : QM E G A _ _ _ = Q
  have hot := oth_le (fun k => trn S k ^^^ S k)
  have hev := trn_even S
  show V E G A 8 [w] 0 0 Q 0 [(0, .ref x)] []
  refine V_aload_n (pc' := 1) 0 X dL_turns_0 rfl rfl rfl ?_
  refine V_callS (pc' := 4) (As := [.ref x]) (st := []) [0] [] (List.Perm.refl _) X (c_L_roll l G x K S n T P w hw) rfl gL_turns_L_roll rfl rfl (Nat.le_of_ble_eq_true rfl) ⟨Nat.le_of_ble_eq_true rfl, Nat.le_of_ble_eq_true rfl⟩ ⟨Nat.le_of_ble_eq_true rfl, Nat.le_of_ble_eq_true rfl⟩ dL_turns_1 rfl (fun v_ u_ hp_ => ?_)
  obtain ⟨rfl, w_1, hw_1, rfl⟩ := hp_
  show V E G A 8 [w_1] 0 0 Q 4 [(0, .ref x)] [.long (lN (rl S 32))]
  refine V_lstore_n (pc' := 5) [(0, .ref x), (1, .long (lN (rl S 32)))] [1, 0] X dL_turns_4 rfl (Nat.le_of_ble_eq_true rfl) rfl rfl ?_
  refine V_aload_n (pc' := 6) 0 X dL_turns_5 rfl rfl rfl ?_
  refine O_pegs (pc' := 9) (st := []) hw_1 X gL_turns_X5_pegs (Nat.le_of_ble_eq_true rfl) ⟨Nat.le_of_ble_eq_true rfl, Nat.le_of_ble_eq_true rfl⟩ ⟨Nat.le_of_ble_eq_true rfl, Nat.le_of_ble_eq_true rfl⟩ dL_turns_6 rfl (fun w_2 hw_2 => ?_)
  refine V_istore_n (pc' := 10) [(0, .ref x), (1, .long (lN (rl S 32))), (3, .int (nI (pgs S)))] [1, 2, 0] X dL_turns_9 rfl (Nat.le_of_ble_eq_true rfl) rfl rfl ?_
  refine V_aload_n (pc' := 11) 0 X dL_turns_10 rfl rfl rfl ?_
  refine O_turnRound (pc' := 14) (st := []) hw_2 X gL_turns_X5_turnRound (Nat.le_of_ble_eq_true rfl) ⟨Nat.le_of_ble_eq_true rfl, Nat.le_of_ble_eq_true rfl⟩ ⟨Nat.le_of_ble_eq_true rfl, Nat.le_of_ble_eq_true rfl⟩ dL_turns_11 rfl (fun w_3 hw_3 => ?_)
  refine V_istore (pc' := 16) [(0, .ref x), (1, .long (lN (rl S 32))), (3, .int (nI (pgs S))), (4, .int (nI (sm (fun k => cnt (trn S k ^^^ S k)) 32)))] [1, 2, 3, 0] X dL_turns_14 (Nat.le_of_ble_eq_true rfl) rfl rfl ?_
  refine V_iload (pc' := 18) 3 X dL_turns_16 rfl rfl ?_
  refine V_if_lt (pc' := 21) (C := False) 40 X dL_turns_18 (by decide) rfl (z_lt0 (Nat.lt_of_le_of_lt hot (by decide))) (fun hz => absurd hz (by decide)) (fun _ => ?_)
  refine V_aload_n (pc' := 22) 0 X dL_turns_21 rfl rfl rfl ?_
  refine O_pegs (pc' := 25) (st := []) hw_3 X gL_turns_X5_pegs (Nat.le_of_ble_eq_true rfl) ⟨Nat.le_of_ble_eq_true rfl, Nat.le_of_ble_eq_true rfl⟩ ⟨Nat.le_of_ble_eq_true rfl, Nat.le_of_ble_eq_true rfl⟩ dL_turns_22 rfl (fun w_4 hw_4 => ?_)
  refine V_iload_n (pc' := 26) 2 X dL_turns_25 rfl rfl rfl ?_
  refine V_icmp_ne (pc' := 29) (C := (nI (pgs (trn S))) = (nI (pgs S))) 40 X dL_turns_26 (by decide) rfl Iff.rfl (fun hz => absurd (congrArg nI (pgs_trn S)) hz) (fun _ => ?_)
  refine V_iload (pc' := 31) 3 X dL_turns_29 rfl rfl ?_
  refine V_iconst (pc' := 32) (nI 2) X dL_turns_31 ki_2 rfl ?_
  refine V_irem (pc' := 33) (nI 0) X dL_turns_32 (z_ne0 (by decide) (by decide)) ((pk_rem (Nat.lt_of_le_of_lt hot (by decide)) (by decide) (by decide)).trans (congrArg nI hev)) rfl ?_
  refine V_if_ne (pc' := 36) (C := 0 = 0) 40 X dL_turns_33 (by decide) rfl (z_eq0 (by omega)) (fun hz => absurd (by decide) hz) (fun _ => ?_)
  refine V_iconst (pc' := 37) (nI 1) X dL_turns_36 ki_1 rfl ?_
  refine V_goto (pc' := 41) X dL_turns_37 (by decide) ?_
  refine V_istore (pc' := 43) [(0, .ref x), (1, .long (lN (rl S 32))), (3, .int (nI (pgs S))), (4, .int (nI (sm (fun k => cnt (trn S k ^^^ S k)) 32))), (5, .int (nI 1))] [1, 2, 3, 4, 0] X dL_turns_41 (Nat.le_of_ble_eq_true rfl) rfl rfl ?_
  refine V_aload_n (pc' := 44) 0 X dL_turns_43 rfl rfl rfl ?_
  refine V_callS (pc' := 47) (As := [.ref x]) (st := []) [0] [] (List.Perm.refl _) X (c_L_roll l G x K (trn S) (aM n + 1) (hT n S T) P w_4 hw_4) rfl gL_turns_L_roll rfl rfl (Nat.le_of_ble_eq_true rfl) ⟨Nat.le_of_ble_eq_true rfl, Nat.le_of_ble_eq_true rfl⟩ ⟨Nat.le_of_ble_eq_true rfl, Nat.le_of_ble_eq_true rfl⟩ dL_turns_44 rfl (fun v_ u_ hp_ => ?_)
  obtain ⟨rfl, w_5, hw_5, rfl⟩ := hp_
  show V E G A 8 [w_5] 0 0 Q 47 [(0, .ref x), (1, .long (lN (rl S 32))), (3, .int (nI (pgs S))), (4, .int (nI (sm (fun k => cnt (trn S k ^^^ S k)) 32))), (5, .int (nI 1))] [.long (lN (rl (trn S) 32))]
  refine V_lstore (pc' := 49) [(0, .ref x), (1, .long (lN (rl S 32))), (3, .int (nI (pgs S))), (4, .int (nI (sm (fun k => cnt (trn S k ^^^ S k)) 32))), (5, .int (nI 1)), (6, .long (lN (rl (trn S) 32)))] [1, 2, 3, 4, 5, 0] X dL_turns_47 (Nat.le_of_ble_eq_true rfl) rfl rfl ?_
  refine V_iload (pc' := 51) 4 X dL_turns_49 rfl rfl ?_
  refine V_if_eq (pc' := 54) (C := 1 = 0) 83 X dL_turns_51 (by decide) rfl (z_eq0 (by omega)) (fun hz => absurd hz (by decide)) (fun _ => ?_)
  refine V_aload_n (pc' := 55) 0 X dL_turns_54 rfl rfl rfl ?_
  refine O_turnRound (pc' := 58) (st := []) hw_5 X gL_turns_X5_turnRound (Nat.le_of_ble_eq_true rfl) ⟨Nat.le_of_ble_eq_true rfl, Nat.le_of_ble_eq_true rfl⟩ ⟨Nat.le_of_ble_eq_true rfl, Nat.le_of_ble_eq_true rfl⟩ dL_turns_55 rfl (fun w_6 hw_6 => ?_)
  refine V_iload (pc' := 60) 3 X dL_turns_58 rfl rfl ?_
  refine V_icmp_ne (pc' := 63) (C := (nI (sm (fun k => cnt (trn (trn S) k ^^^ (trn S) k)) 32)) = (nI (sm (fun k => cnt (trn S k ^^^ S k)) 32))) 83 X dL_turns_60 (by decide) rfl Iff.rfl (fun hz => absurd (congrArg nI (trn_val S)) hz) (fun _ => ?_)
  refine V_aload_n (pc' := 64) 0 X dL_turns_63 rfl rfl rfl ?_
  refine V_callS (pc' := 67) (As := [.ref x]) (st := []) [0] [] (List.Perm.refl _) X (c_L_roll l G x K (trn (trn S)) (aM (aM n + 1) + 1) (hT (aM n + 1) (trn S) (hT n S T)) P w_6 hw_6) rfl gL_turns_L_roll rfl rfl (Nat.le_of_ble_eq_true rfl) ⟨Nat.le_of_ble_eq_true rfl, Nat.le_of_ble_eq_true rfl⟩ ⟨Nat.le_of_ble_eq_true rfl, Nat.le_of_ble_eq_true rfl⟩ dL_turns_64 rfl (fun v_ u_ hp_ => ?_)
  obtain ⟨rfl, w_7, hw_7, rfl⟩ := hp_
  show V E G A 8 [w_7] 0 0 Q 67 [(0, .ref x), (1, .long (lN (rl S 32))), (3, .int (nI (pgs S))), (4, .int (nI (sm (fun k => cnt (trn S k ^^^ S k)) 32))), (5, .int (nI 1)), (6, .long (lN (rl (trn S) 32)))] [.long (lN (rl (trn (trn S)) 32))]
  refine V_lload_n (pc' := 68) 1 X dL_turns_67 rfl rfl rfl ?_
  refine V_lcmp (pc' := 69) (nI 0) X dL_turns_68 (lc_same (congrArg lN (rl_congr (fun k hk => trn2 hk)))) rfl ?_
  refine V_if_ne (pc' := 72) (C := 0 = 0) 83 X dL_turns_69 (by decide) rfl (z_eq0 (by omega)) (fun hz => absurd (by decide) hz) (fun _ => ?_)
  refine V_aload_n (pc' := 73) 0 X dL_turns_72 rfl rfl rfl ?_
  refine O_undo (pc' := 76) (st := []) hw_7 X gL_turns_X5_undo (Nat.le_of_ble_eq_true rfl) ⟨Nat.le_of_ble_eq_true rfl, Nat.le_of_ble_eq_true rfl⟩ ⟨Nat.le_of_ble_eq_true rfl, Nat.le_of_ble_eq_true rfl⟩ dL_turns_73 rfl (fun w_8 hw_8 => ?_)
  rw [hT_self] at hw_8
  refine V_if_lt (pc' := 79) (C := False) 83 X dL_turns_76 (by decide) rfl (z_lt0 (Nat.lt_of_lt_of_le (aM_lt (aM_le hw.2.2.1)) (by decide))) (fun hz => absurd hz (by decide)) (fun _ => ?_)
  refine V_iconst (pc' := 80) (nI 1) X dL_turns_79 ki_1 rfl ?_
  refine V_goto (pc' := 84) X dL_turns_80 (by decide) ?_
  refine V_istore (pc' := 86) [(0, .ref x), (1, .long (lN (rl S 32))), (3, .int (nI (pgs S))), (4, .int (nI (sm (fun k => cnt (trn S k ^^^ S k)) 32))), (5, .int (nI 1)), (6, .long (lN (rl (trn S) 32)))] [1, 2, 3, 4, 0, 5] X dL_turns_84 (Nat.le_of_ble_eq_true rfl) rfl rfl ?_
  refine V_iload (pc' := 88) 4 X dL_turns_86 rfl rfl ?_
  refine V_if_eq (pc' := 91) (C := 1 = 0) 105 X dL_turns_88 (by decide) rfl (z_eq0 (by omega)) (fun hz => absurd hz (by decide)) (fun _ => ?_)
  refine V_aload_n (pc' := 92) 0 X dL_turns_91 rfl rfl rfl ?_
  refine V_callS (pc' := 95) (As := [.ref x]) (st := []) [0] [] (List.Perm.refl _) X (c_L_roll l G x K (trn S) (aM (aM n + 1)) (hT (aM n + 1) (trn S) (hT n S T)) P w_8 hw_8) rfl gL_turns_L_roll rfl rfl (Nat.le_of_ble_eq_true rfl) ⟨Nat.le_of_ble_eq_true rfl, Nat.le_of_ble_eq_true rfl⟩ ⟨Nat.le_of_ble_eq_true rfl, Nat.le_of_ble_eq_true rfl⟩ dL_turns_92 rfl (fun v_ u_ hp_ => ?_)
  obtain ⟨rfl, w_9, hw_9, rfl⟩ := hp_
  show V E G A 8 [w_9] 0 0 Q 95 [(0, .ref x), (1, .long (lN (rl S 32))), (3, .int (nI (pgs S))), (4, .int (nI (sm (fun k => cnt (trn S k ^^^ S k)) 32))), (5, .int (nI 1)), (6, .long (lN (rl (trn S) 32)))] [.long (lN (rl (trn S) 32))]
  refine V_lload (pc' := 97) 5 X dL_turns_95 rfl rfl ?_
  refine V_lcmp (pc' := 98) (nI 0) X dL_turns_97 (lc_same (congrArg lN rfl)) rfl ?_
  refine V_if_ne (pc' := 101) (C := 0 = 0) 105 X dL_turns_98 (by decide) rfl (z_eq0 (by omega)) (fun hz => absurd (by decide) hz) (fun _ => ?_)
  refine V_iconst (pc' := 102) (nI 1) X dL_turns_101 ki_1 rfl ?_
  refine V_goto (pc' := 106) X dL_turns_102 (by decide) ?_
  exact V_ireturn (v := nI 1) [w_9] hQ X hrt rfl dL_turns_106 (Nat.le_of_ble_eq_true rfl) (Nat.le_of_ble_eq_true rfl) (List.Perm.refl _) ⟨rfl, _, _, _, w_9, hw_9, rfl⟩

set_option maxHeartbeats 4000000 in
set_option maxRecDepth 100000 in
theorem c_L_moves (l : Launch) (G : gT) (x K : Nat) (S : Nat → Nat) (n : Nat) (T : Nat → Nat → Nat) (P : Nat → Option (Nat → Nat)) (w : va_W) (hw : OJ G x K S n T P w) (m : Nat) (hm1 : 1 ≤ m) (hm : m < 32) : CM l G yL_moves wsL_moves 6 156 2 [.ref x, .int (nI m)] [w] 0 0 (fun v u => v = some (.int (nI 1)) ∧ ∃ (S' : Nat → Nat) (n' : Nat) (T' : Nat → Nat → Nat) (w' : va_W), OJ G x K S' n' T' P w' ∧ u = [w']) := by
  refine CM_of RL 5 127 rfl rfl (by decide) (by decide +kernel) (Nat.le_of_ble_eq_true rfl) (fun E A X hrt hnm => ?_)
  generalize hQ : QM E G A _ _ _ = Q
  show V E G A 10 [w] 0 0 Q 0 [(0, .ref x), (1, .int (nI m))] []
  refine V_aload_n (pc' := 1) 0 X dL_moves_0 rfl rfl rfl ?_
  refine V_callS (pc' := 4) (As := [.ref x]) (st := []) [0] [] (List.Perm.refl _) X (c_L_roll l G x K S n T P w hw) rfl gL_moves_L_roll rfl rfl (Nat.le_of_ble_eq_true rfl) ⟨Nat.le_of_ble_eq_true rfl, Nat.le_of_ble_eq_true rfl⟩ ⟨Nat.le_of_ble_eq_true rfl, Nat.le_of_ble_eq_true rfl⟩ dL_moves_1 rfl (fun v_ u_ hp_ => ?_)
  obtain ⟨rfl, w_1, hw_1, rfl⟩ := hp_
  show V E G A 10 [w_1] 0 0 Q 4 [(0, .ref x), (1, .int (nI m))] [.long (lN (rl S 32))]
  refine V_lstore_n (pc' := 5) [(0, .ref x), (1, .int (nI m)), (2, .long (lN (rl S 32)))] [1, 2, 0] X dL_moves_4 rfl (Nat.le_of_ble_eq_true rfl) rfl rfl ?_
  refine V_aload_n (pc' := 6) 0 X dL_moves_5 rfl rfl rfl ?_
  refine V_iconst (pc' := 7) (nI 0) X dL_moves_6 ki_0 rfl ?_
  refine O_pegsIn (pc' := 10) (st := []) 0 (by omega) hw_1 X gL_moves_X5_pegsIn (Nat.le_of_ble_eq_true rfl) ⟨Nat.le_of_ble_eq_true rfl, Nat.le_of_ble_eq_true rfl⟩ ⟨Nat.le_of_ble_eq_true rfl, Nat.le_of_ble_eq_true rfl⟩ dL_moves_7 rfl (fun w_2 hw_2 => ?_)
  refine V_istore (pc' := 12) [(0, .ref x), (1, .int (nI m)), (2, .long (lN (rl S 32))), (4, .int (nI (S 0)))] [1, 2, 3, 0] X dL_moves_10 (Nat.le_of_ble_eq_true rfl) rfl rfl ?_
  refine V_aload_n (pc' := 13) 0 X dL_moves_12 rfl rfl rfl ?_
  refine V_bipush (pc' := 15) (nI 31) X dL_moves_13 kb_31 rfl ?_
  refine O_pegsIn (pc' := 18) (st := []) 31 (by omega) hw_2 X gL_moves_X5_pegsIn (Nat.le_of_ble_eq_true rfl) ⟨Nat.le_of_ble_eq_true rfl, Nat.le_of_ble_eq_true rfl⟩ ⟨Nat.le_of_ble_eq_true rfl, Nat.le_of_ble_eq_true rfl⟩ dL_moves_15 rfl (fun w_3 hw_3 => ?_)
  refine V_istore (pc' := 20) [(0, .ref x), (1, .int (nI m)), (2, .long (lN (rl S 32))), (4, .int (nI (S 0))), (5, .int (nI (S 31)))] [1, 2, 3, 4, 0] X dL_moves_18 (Nat.le_of_ble_eq_true rfl) rfl rfl ?_
  refine V_aload_n (pc' := 21) 0 X dL_moves_20 rfl rfl rfl ?_
  refine V_iload_n (pc' := 22) 1 X dL_moves_21 rfl rfl rfl ?_
  refine O_move (pc' := 25) (st := []) m (by omega) (by omega) hw_3 X gL_moves_X5_move (Nat.le_of_ble_eq_true rfl) ⟨Nat.le_of_ble_eq_true rfl, Nat.le_of_ble_eq_true rfl⟩ ⟨Nat.le_of_ble_eq_true rfl, Nat.le_of_ble_eq_true rfl⟩ dL_moves_22 rfl (fun w_4 hw_4 => ?_)
  refine V_istore (pc' := 27) [(0, .ref x), (1, .int (nI m)), (2, .long (lN (rl S 32))), (4, .int (nI (S 0))), (5, .int (nI (S 31))), (6, .int (nI (sm (fun k => cnt (mvd m S k ^^^ S k)) 32)))] [1, 2, 3, 4, 5, 0] X dL_moves_25 (Nat.le_of_ble_eq_true rfl) rfl rfl ?_
  refine V_aload_n (pc' := 28) 0 X dL_moves_27 rfl rfl rfl ?_
  refine V_callS (pc' := 31) (As := [.ref x]) (st := []) [0] [] (List.Perm.refl _) X (c_L_roll l G x K (mvd m S) (aM n + 1) (hT n S T) P w_4 hw_4) rfl gL_moves_L_roll rfl rfl (Nat.le_of_ble_eq_true rfl) ⟨Nat.le_of_ble_eq_true rfl, Nat.le_of_ble_eq_true rfl⟩ ⟨Nat.le_of_ble_eq_true rfl, Nat.le_of_ble_eq_true rfl⟩ dL_moves_28 rfl (fun v_ u_ hp_ => ?_)
  obtain ⟨rfl, w_5, hw_5, rfl⟩ := hp_
  show V E G A 10 [w_5] 0 0 Q 31 [(0, .ref x), (1, .int (nI m)), (2, .long (lN (rl S 32))), (4, .int (nI (S 0))), (5, .int (nI (S 31))), (6, .int (nI (sm (fun k => cnt (mvd m S k ^^^ S k)) 32)))] [.long (lN (rl (mvd m S) 32))]
  refine V_lstore (pc' := 33) [(0, .ref x), (1, .int (nI m)), (2, .long (lN (rl S 32))), (4, .int (nI (S 0))), (5, .int (nI (S 31))), (6, .int (nI (sm (fun k => cnt (mvd m S k ^^^ S k)) 32))), (7, .long (lN (rl (mvd m S) 32)))] [1, 2, 3, 4, 5, 6, 0] X dL_moves_31 (Nat.le_of_ble_eq_true rfl) rfl rfl ?_
  refine V_aload_n (pc' := 34) 0 X dL_moves_33 rfl rfl rfl ?_
  refine V_iload_n (pc' := 35) 1 X dL_moves_34 rfl rfl rfl ?_
  refine O_pegsIn (pc' := 38) (st := []) m (by omega) hw_5 X gL_moves_X5_pegsIn (Nat.le_of_ble_eq_true rfl) ⟨Nat.le_of_ble_eq_true rfl, Nat.le_of_ble_eq_true rfl⟩ ⟨Nat.le_of_ble_eq_true rfl, Nat.le_of_ble_eq_true rfl⟩ dL_moves_35 rfl (fun w_6 hw_6 => ?_)
  refine V_iload (pc' := 40) 3 X dL_moves_38 rfl rfl ?_
  refine V_icmp_ne (pc' := 43) (C := (nI ((mvd m S) m)) = (nI (S 0))) 88 X dL_moves_40 (by decide) rfl Iff.rfl (fun hz => absurd (congrArg nI (mvd_first hm1 hm)) hz) (fun _ => ?_)
  refine V_aload_n (pc' := 44) 0 X dL_moves_43 rfl rfl rfl ?_
  refine V_iload_n (pc' := 45) 1 X dL_moves_44 rfl rfl rfl ?_
  refine V_iconst (pc' := 46) (nI 1) X dL_moves_45 ki_1 rfl ?_
  refine V_isub (pc' := 47) (nI (m - 1)) X dL_moves_46 (pk_sub (by omega)) rfl ?_
  refine O_pegsIn (pc' := 50) (st := []) (m - 1) (by omega) hw_6 X gL_moves_X5_pegsIn (Nat.le_of_ble_eq_true rfl) ⟨Nat.le_of_ble_eq_true rfl, Nat.le_of_ble_eq_true rfl⟩ ⟨Nat.le_of_ble_eq_true rfl, Nat.le_of_ble_eq_true rfl⟩ dL_moves_47 rfl (fun w_7 hw_7 => ?_)
  refine V_iload (pc' := 52) 4 X dL_moves_50 rfl rfl ?_
  refine V_icmp_ne (pc' := 55) (C := (nI ((mvd m S) (m - 1))) = (nI (S 31))) 88 X dL_moves_52 (by decide) rfl Iff.rfl (fun hz => absurd (congrArg nI (mvd_last hm1 hm)) hz) (fun _ => ?_)
  refine V_aload_n (pc' := 56) 0 X dL_moves_55 rfl rfl rfl ?_
  refine V_bipush (pc' := 58) (nI 32) X dL_moves_56 kb_32 rfl ?_
  refine V_iload_n (pc' := 59) 1 X dL_moves_58 rfl rfl rfl ?_
  refine V_isub (pc' := 60) (nI (32 - m)) X dL_moves_59 (pk_sub (by omega)) rfl ?_
  refine O_move (pc' := 63) (st := []) (32 - m) (by omega) (by omega) hw_7 X gL_moves_X5_move (Nat.le_of_ble_eq_true rfl) ⟨Nat.le_of_ble_eq_true rfl, Nat.le_of_ble_eq_true rfl⟩ ⟨Nat.le_of_ble_eq_true rfl, Nat.le_of_ble_eq_true rfl⟩ dL_moves_60 rfl (fun w_8 hw_8 => ?_)
  refine V_iload (pc' := 65) 5 X dL_moves_63 rfl rfl ?_
  refine V_icmp_ne (pc' := 68) (C := (nI (sm (fun k => cnt (mvd (32 - m) (mvd m S) k ^^^ (mvd m S) k)) 32)) = (nI (sm (fun k => cnt (mvd m S k ^^^ S k)) 32))) 88 X dL_moves_65 (by decide) rfl Iff.rfl (fun hz => absurd (congrArg nI (mvd_val hm1 hm)) hz) (fun _ => ?_)
  refine V_aload_n (pc' := 69) 0 X dL_moves_68 rfl rfl rfl ?_
  refine V_callS (pc' := 72) (As := [.ref x]) (st := []) [0] [] (List.Perm.refl _) X (c_L_roll l G x K (mvd (32 - m) (mvd m S)) (aM (aM n + 1) + 1) (hT (aM n + 1) (mvd m S) (hT n S T)) P w_8 hw_8) rfl gL_moves_L_roll rfl rfl (Nat.le_of_ble_eq_true rfl) ⟨Nat.le_of_ble_eq_true rfl, Nat.le_of_ble_eq_true rfl⟩ ⟨Nat.le_of_ble_eq_true rfl, Nat.le_of_ble_eq_true rfl⟩ dL_moves_69 rfl (fun v_ u_ hp_ => ?_)
  obtain ⟨rfl, w_9, hw_9, rfl⟩ := hp_
  show V E G A 10 [w_9] 0 0 Q 72 [(0, .ref x), (1, .int (nI m)), (2, .long (lN (rl S 32))), (4, .int (nI (S 0))), (5, .int (nI (S 31))), (6, .int (nI (sm (fun k => cnt (mvd m S k ^^^ S k)) 32))), (7, .long (lN (rl (mvd m S) 32)))] [.long (lN (rl (mvd (32 - m) (mvd m S)) 32))]
  refine V_lload_n (pc' := 73) 2 X dL_moves_72 rfl rfl rfl ?_
  refine V_lcmp (pc' := 74) (nI 0) X dL_moves_73 (lc_same (congrArg lN (rl_congr (fun k hk => mvd2 hm1 hm hk)))) rfl ?_
  refine V_if_ne (pc' := 77) (C := 0 = 0) 88 X dL_moves_74 (by decide) rfl (z_eq0 (by omega)) (fun hz => absurd (by decide) hz) (fun _ => ?_)
  refine V_aload_n (pc' := 78) 0 X dL_moves_77 rfl rfl rfl ?_
  refine O_undo (pc' := 81) (st := []) hw_9 X gL_moves_X5_undo (Nat.le_of_ble_eq_true rfl) ⟨Nat.le_of_ble_eq_true rfl, Nat.le_of_ble_eq_true rfl⟩ ⟨Nat.le_of_ble_eq_true rfl, Nat.le_of_ble_eq_true rfl⟩ dL_moves_78 rfl (fun w_10 hw_10 => ?_)
  rw [hT_self] at hw_10
  refine V_if_lt (pc' := 84) (C := False) 88 X dL_moves_81 (by decide) rfl (z_lt0 (Nat.lt_of_lt_of_le (aM_lt (aM_le hw.2.2.1)) (by decide))) (fun hz => absurd hz (by decide)) (fun _ => ?_)
  refine V_iconst (pc' := 85) (nI 1) X dL_moves_84 ki_1 rfl ?_
  refine V_goto (pc' := 89) X dL_moves_85 (by decide) ?_
  refine V_istore (pc' := 91) [(0, .ref x), (1, .int (nI m)), (2, .long (lN (rl S 32))), (4, .int (nI (S 0))), (5, .int (nI (S 31))), (6, .int (nI (sm (fun k => cnt (mvd m S k ^^^ S k)) 32))), (7, .long (lN (rl (mvd m S) 32))), (9, .int (nI 1))] [1, 2, 3, 4, 5, 6, 7, 0] X dL_moves_89 (Nat.le_of_ble_eq_true rfl) rfl rfl ?_
  refine V_iload (pc' := 93) 7 X dL_moves_91 rfl rfl ?_
  refine V_if_eq (pc' := 96) (C := 1 = 0) 110 X dL_moves_93 (by decide) rfl (z_eq0 (by omega)) (fun hz => absurd hz (by decide)) (fun _ => ?_)
  refine V_aload_n (pc' := 97) 0 X dL_moves_96 rfl rfl rfl ?_
  refine V_callS (pc' := 100) (As := [.ref x]) (st := []) [0] [] (List.Perm.refl _) X (c_L_roll l G x K (mvd m S) (aM (aM n + 1)) (hT (aM n + 1) (mvd m S) (hT n S T)) P w_10 hw_10) rfl gL_moves_L_roll rfl rfl (Nat.le_of_ble_eq_true rfl) ⟨Nat.le_of_ble_eq_true rfl, Nat.le_of_ble_eq_true rfl⟩ ⟨Nat.le_of_ble_eq_true rfl, Nat.le_of_ble_eq_true rfl⟩ dL_moves_97 rfl (fun v_ u_ hp_ => ?_)
  obtain ⟨rfl, w_11, hw_11, rfl⟩ := hp_
  show V E G A 10 [w_11] 0 0 Q 100 [(0, .ref x), (1, .int (nI m)), (2, .long (lN (rl S 32))), (4, .int (nI (S 0))), (5, .int (nI (S 31))), (6, .int (nI (sm (fun k => cnt (mvd m S k ^^^ S k)) 32))), (7, .long (lN (rl (mvd m S) 32))), (9, .int (nI 1))] [.long (lN (rl (mvd m S) 32))]
  refine V_lload (pc' := 102) 6 X dL_moves_100 rfl rfl ?_
  refine V_lcmp (pc' := 103) (nI 0) X dL_moves_102 (lc_same (congrArg lN rfl)) rfl ?_
  refine V_if_ne (pc' := 106) (C := 0 = 0) 110 X dL_moves_103 (by decide) rfl (z_eq0 (by omega)) (fun hz => absurd (by decide) hz) (fun _ => ?_)
  refine V_iconst (pc' := 107) (nI 1) X dL_moves_106 ki_1 rfl ?_
  refine V_goto (pc' := 111) X dL_moves_107 (by decide) ?_
  exact V_ireturn (v := nI 1) [w_11] hQ X hrt rfl dL_moves_111 (Nat.le_of_ble_eq_true rfl) (Nat.le_of_ble_eq_true rfl) (List.Perm.refl _) ⟨rfl, _, _, _, w_11, hw_11, rfl⟩

set_option maxHeartbeats 4000000 in
set_option maxRecDepth 100000 in
theorem c_L_one (l : Launch) (G : gT) (x K : Nat) (S : Nat → Nat) (n : Nat) (T : Nat → Nat → Nat) (P : Nat → Option (Nat → Nat)) (w : va_W) (hw : OJ G x K S n T P w) (hK : K ≤ 100000) : CM l G yL_one wsL_one 7 164 1 [.ref x] [w] 0 0 (fun v u => v = some (.int (nI (cnt (hs S)))) ∧ ∃ (w' : va_W), OJ G x (K + 1) (stkN 3 S 1) (aM n + 1) (hT n S T) P w' ∧ u = [w']) := by
  refine CM_of RL 6 134 rfl rfl (by decide) (by decide +kernel) (Nat.le_of_ble_eq_true rfl) (fun E A X hrt hnm => ?_)
  generalize hQ : QM E G A _ _ _ = Q
  obtain ⟨i1, i2, i3, i4, i5, i6⟩ := hw.iv
  have hp := i1 _ i5
  have hhl := hs_lt S
  have hwt : sm (fun k => bq (hs S) k * S (36 + k)) 10 ≤ S 46 := hs_wt S
  have hc := hs_cnt S
  have hcl := cnt_le (S (S 47))
  have hJ5 := hw.2.1.2.2.2.2
  have hv : stkN 3 S 1 70 - S 70 = cnt (hs S) := Nat.add_sub_cancel_left _ _
  show V E G A 11 [w] 0 0 Q 0 [(0, .ref x)] []
  refine V_aload_n (pc' := 1) 0 X dL_one_0 rfl rfl rfl ?_
  refine O_column (pc' := 4) (st := []) hw X gL_one_X5_column (Nat.le_of_ble_eq_true rfl) ⟨Nat.le_of_ble_eq_true rfl, Nat.le_of_ble_eq_true rfl⟩ ⟨Nat.le_of_ble_eq_true rfl, Nat.le_of_ble_eq_true rfl⟩ dL_one_1 rfl (fun w_1 hw_1 => ?_)
  refine V_istore_n (pc' := 5) [(0, .ref x), (1, .int (nI (S 47)))] [1, 0] X dL_one_4 rfl (Nat.le_of_ble_eq_true rfl) rfl rfl ?_
  refine V_aload_n (pc' := 6) 0 X dL_one_5 rfl rfl rfl ?_
  refine V_iload_n (pc' := 7) 1 X dL_one_6 rfl rfl rfl ?_
  refine O_pegsIn (pc' := 10) (st := []) (S 47) (by omega) hw_1 X gL_one_X5_pegsIn (Nat.le_of_ble_eq_true rfl) ⟨Nat.le_of_ble_eq_true rfl, Nat.le_of_ble_eq_true rfl⟩ ⟨Nat.le_of_ble_eq_true rfl, Nat.le_of_ble_eq_true rfl⟩ dL_one_7 rfl (fun w_2 hw_2 => ?_)
  refine V_istore_n (pc' := 11) [(0, .ref x), (1, .int (nI (S 47))), (2, .int (nI (S (S 47))))] [1, 2, 0] X dL_one_10 rfl (Nat.le_of_ble_eq_true rfl) rfl rfl ?_
  refine V_iconst (pc' := 12) (nI 0) X dL_one_11 ki_0 rfl ?_
  refine V_istore_n (pc' := 13) [(0, .ref x), (1, .int (nI (S 47))), (2, .int (nI (S (S 47)))), (3, .int (nI 0))] [1, 2, 3, 0] X dL_one_12 rfl (Nat.le_of_ble_eq_true rfl) rfl rfl ?_
  refine V_iconst (pc' := 14) (nI 0) X dL_one_13 ki_0 rfl ?_
  refine V_istore (pc' := 16) [(0, .ref x), (1, .int (nI (S 47))), (2, .int (nI (S (S 47)))), (3, .int (nI 0)), (4, .int (nI 0))] [1, 2, 3, 4, 0] X dL_one_14 (Nat.le_of_ble_eq_true rfl) rfl rfl ?_
  refine V_aload_n (pc' := 17) 0 X dL_one_16 rfl rfl rfl ?_
  refine O_missed (pc' := 20) (st := []) hw_2 X gL_one_X5_missed (Nat.le_of_ble_eq_true rfl) ⟨Nat.le_of_ble_eq_true rfl, Nat.le_of_ble_eq_true rfl⟩ ⟨Nat.le_of_ble_eq_true rfl, Nat.le_of_ble_eq_true rfl⟩ dL_one_17 rfl (fun w_3 hw_3 => ?_)
  refine V_istore (pc' := 22) [(0, .ref x), (1, .int (nI (S 47))), (2, .int (nI (S (S 47)))), (3, .int (nI 0)), (4, .int (nI 0)), (5, .int (nI (S 59)))] [1, 2, 3, 4, 5, 0] X dL_one_20 (Nat.le_of_ble_eq_true rfl) rfl rfl ?_
  refine V_aload_n (pc' := 23) 0 X dL_one_22 rfl rfl rfl ?_
  refine O_time (pc' := 26) (st := []) hw_3 X gL_one_X5_time (Nat.le_of_ble_eq_true rfl) ⟨Nat.le_of_ble_eq_true rfl, Nat.le_of_ble_eq_true rfl⟩ ⟨Nat.le_of_ble_eq_true rfl, Nat.le_of_ble_eq_true rfl⟩ dL_one_23 rfl (fun w_4 hw_4 => ?_)
  refine V_istore (pc' := 28) [(0, .ref x), (1, .int (nI (S 47))), (2, .int (nI (S (S 47)))), (3, .int (nI 0)), (4, .int (nI 0)), (5, .int (nI (S 59))), (6, .int (nI (S 48)))] [1, 2, 3, 4, 5, 6, 0] X dL_one_26 (Nat.le_of_ble_eq_true rfl) rfl rfl ?_
  refine V_aload_n (pc' := 29) 0 X dL_one_28 rfl rfl rfl ?_
  refine V_iconst (pc' := 30) (nI 1) X dL_one_29 ki_1 rfl ?_
  refine O_heard (pc' := 33) (st := []) 1 (by decide) hw_4 X gL_one_X5_heard (Nat.le_of_ble_eq_true rfl) ⟨Nat.le_of_ble_eq_true rfl, Nat.le_of_ble_eq_true rfl⟩ ⟨Nat.le_of_ble_eq_true rfl, Nat.le_of_ble_eq_true rfl⟩ dL_one_30 rfl (fun w_5 hw_5 => ?_)
  refine V_istore (pc' := 35) [(0, .ref x), (1, .int (nI (S 47))), (2, .int (nI (S (S 47)))), (3, .int (nI 0)), (4, .int (nI 0)), (5, .int (nI (S 59))), (6, .int (nI (S 48))), (7, .int (nI (S 70)))] [1, 2, 3, 4, 5, 6, 7, 0] X dL_one_33 (Nat.le_of_ble_eq_true rfl) rfl rfl ?_
  refine V_iconst (pc' := 36) (nI 1) X dL_one_35 ki_1 rfl ?_
  refine V_istore (pc' := 38) [(0, .ref x), (1, .int (nI (S 47))), (2, .int (nI (S (S 47)))), (3, .int (nI 0)), (4, .int (nI 0)), (5, .int (nI (S 59))), (6, .int (nI (S 48))), (7, .int (nI (S 70))), (8, .int (nI 1))] [1, 2, 3, 4, 5, 6, 7, 8, 0] X dL_one_36 (Nat.le_of_ble_eq_true rfl) rfl rfl ?_
  refine V_iconst (pc' := 39) (nI 0) X dL_one_38 ki_0 rfl ?_
  refine V_istore (pc' := 41) [(0, .ref x), (1, .int (nI (S 47))), (2, .int (nI (S (S 47)))), (3, .int (nI 0)), (4, .int (nI 0)), (5, .int (nI (S 59))), (6, .int (nI (S 48))), (7, .int (nI (S 70))), (8, .int (nI 1)), (9, .int (nI 0))] [1, 2, 3, 4, 5, 6, 7, 8, 9, 0] X dL_one_39 (Nat.le_of_ble_eq_true rfl) rfl rfl ?_
  have lp_1 : ∀ i, i ≤ 10 → ∀ (wl_1 : va_W), OJ G x K S n T P wl_1 → V E G A 11 [wl_1] 0 0 Q 41 [(0, .ref x), (1, .int (nI (S 47))), (2, .int (nI (S (S 47)))), (3, .int (nI (hs S % 2 ^ i))), (4, .int (nI (sm (fun k => bq (hs S) k * S (36 + k)) i))), (5, .int (nI (S 59))), (6, .int (nI (S 48))), (7, .int (nI (S 70))), (8, .int (nI 1)), (9, .int (nI i))] [] := by
    refine loopD 10 ?_ ?_
    · intro wl_1 hl_1
      show V E G A 11 [wl_1] 0 0 Q 41 [(0, .ref x), (1, .int (nI (S 47))), (2, .int (nI (S (S 47)))), (3, .int (nI (hs S % 2 ^ 10))), (4, .int (nI (sm (fun k => bq (hs S) k * S (36 + k)) 10))), (5, .int (nI (S 59))), (6, .int (nI (S 48))), (7, .int (nI (S 70))), (8, .int (nI 1)), (9, .int (nI 10))] []
      refine V_iload (pc' := 43) 9 X dL_one_41 rfl rfl ?_
      refine V_bipush (pc' := 45) (nI 10) X dL_one_43 kb_10 rfl ?_
      refine V_icmp_ge (pc' := 48) (C := 10 ≤ 10) 138 X dL_one_45 (by decide) rfl (nI_leI (by omega) (by omega)) (fun _ => ?_) (fun hz => absurd (by omega) hz)
      refine V_aload_n (pc' := 139) 0 X dL_one_138 rfl rfl rfl ?_
      refine V_iconst (pc' := 140) (nI 1) X dL_one_139 ki_1 rfl ?_
      refine O_crank (pc' := 143) (st := []) 1 (by decide) (by decide) hl_1 X gL_one_X5_crank (Nat.le_of_ble_eq_true rfl) ⟨Nat.le_of_ble_eq_true rfl, Nat.le_of_ble_eq_true rfl⟩ ⟨Nat.le_of_ble_eq_true rfl, Nat.le_of_ble_eq_true rfl⟩ dL_one_140 rfl (fun w_6 hw_6 => ?_)
      rw [hv]
      show V E G A 11 [w_6] 0 0 Q 143 [(0, .ref x), (1, .int (nI (S 47))), (2, .int (nI (S (S 47)))), (3, .int (nI (hs S % 2 ^ 10))), (4, .int (nI (sm (fun k => bq (hs S) k * S (36 + k)) 10))), (5, .int (nI (S 59))), (6, .int (nI (S 48))), (7, .int (nI (S 70))), (8, .int (nI 1)), (9, .int (nI 10))] [.int (nI (cnt (hs S)))]
      refine V_istore (pc' := 145) [(0, .ref x), (1, .int (nI (S 47))), (2, .int (nI (S (S 47)))), (3, .int (nI (hs S % 2 ^ 10))), (4, .int (nI (sm (fun k => bq (hs S) k * S (36 + k)) 10))), (5, .int (nI (S 59))), (6, .int (nI (S 48))), (7, .int (nI (S 70))), (8, .int (nI 1)), (9, .int (nI (cnt (hs S))))] [1, 2, 3, 4, 5, 6, 7, 8, 9, 0] X dL_one_143 (Nat.le_of_ble_eq_true rfl) rfl rfl ?_
      refine V_iload (pc' := 147) 8 X dL_one_145 rfl rfl ?_
      refine V_if_eq (pc' := 150) (C := 1 = 0) 224 X dL_one_147 (by decide) rfl (z_eq0 (by omega)) (fun hz => absurd hz (by decide)) (fun _ => ?_)
      refine V_iload (pc' := 152) 9 X dL_one_150 rfl rfl ?_
      refine V_iload_n (pc' := 153) 3 X dL_one_152 rfl rfl rfl ?_
      refine V_callS (pc' := 156) (As := [.int (nI (hs S % 2 ^ 10))]) (st := [.int (nI (cnt (hs S)))]) [] [0] (List.Perm.refl _) X (c_L_count l G (hs S % 2 ^ 10) (Nat.lt_of_lt_of_le (Nat.mod_lt _ (by decide)) (by decide))) rfl gL_one_L_count rfl rfl (Nat.le_of_ble_eq_true rfl) ⟨Nat.le_of_ble_eq_true rfl, Nat.le_of_ble_eq_true rfl⟩ ⟨Nat.le_of_ble_eq_true rfl, Nat.le_of_ble_eq_true rfl⟩ dL_one_153 rfl (fun v_ u_ hp_ => ?_)
      obtain ⟨rfl, rfl⟩ := hp_
      show V E G A 11 [w_6] 0 0 Q 156 [(0, .ref x), (1, .int (nI (S 47))), (2, .int (nI (S (S 47)))), (3, .int (nI (hs S % 2 ^ 10))), (4, .int (nI (sm (fun k => bq (hs S) k * S (36 + k)) 10))), (5, .int (nI (S 59))), (6, .int (nI (S 48))), (7, .int (nI (S 70))), (8, .int (nI 1)), (9, .int (nI (cnt (hs S))))] [.int (nI (cnt (hs S % 2 ^ 10))), .int (nI (cnt (hs S)))]
      refine V_icmp_ne (pc' := 159) (C := (nI (cnt (hs S))) = (nI (cnt (hs S % 2 ^ 10)))) 224 X dL_one_156 (by decide) rfl Iff.rfl (fun hz => absurd (congrArg nI (by rw [due_end hhl])) hz) (fun _ => ?_)
      refine V_aload_n (pc' := 160) 0 X dL_one_159 rfl rfl rfl ?_
      refine O_missed (pc' := 163) (st := []) hw_6 X gL_one_X5_missed (Nat.le_of_ble_eq_true rfl) ⟨Nat.le_of_ble_eq_true rfl, Nat.le_of_ble_eq_true rfl⟩ ⟨Nat.le_of_ble_eq_true rfl, Nat.le_of_ble_eq_true rfl⟩ dL_one_160 rfl (fun w_7 hw_7 => ?_)
      refine V_iload (pc' := 165) 5 X dL_one_163 rfl rfl ?_
      refine V_iload_n (pc' := 166) 2 X dL_one_165 rfl rfl rfl ?_
      refine V_callS (pc' := 169) (As := [.int (nI (S (S 47)))]) (st := [.int (nI (S 59)), .int (nI ((stkN 3 S 1) 59))]) [] [0] (List.Perm.refl _) X (c_L_count l G (S (S 47)) (by omega)) rfl gL_one_L_count rfl rfl (Nat.le_of_ble_eq_true rfl) ⟨Nat.le_of_ble_eq_true rfl, Nat.le_of_ble_eq_true rfl⟩ ⟨Nat.le_of_ble_eq_true rfl, Nat.le_of_ble_eq_true rfl⟩ dL_one_166 rfl (fun v_ u_ hp_ => ?_)
      obtain ⟨rfl, rfl⟩ := hp_
      show V E G A 11 [w_7] 0 0 Q 169 [(0, .ref x), (1, .int (nI (S 47))), (2, .int (nI (S (S 47)))), (3, .int (nI (hs S % 2 ^ 10))), (4, .int (nI (sm (fun k => bq (hs S) k * S (36 + k)) 10))), (5, .int (nI (S 59))), (6, .int (nI (S 48))), (7, .int (nI (S 70))), (8, .int (nI 1)), (9, .int (nI (cnt (hs S))))] [.int (nI (cnt (S (S 47)))), .int (nI (S 59)), .int (nI ((stkN 3 S 1) 59))]
      refine V_iadd (pc' := 170) (nI ((S 59) + (cnt (S (S 47))))) X dL_one_169 (nI_add _ _) rfl ?_
      refine V_iload (pc' := 172) 9 X dL_one_170 rfl rfl ?_
      refine V_isub (pc' := 173) (nI (((S 59) + (cnt (S (S 47)))) - (cnt (hs S)))) X dL_one_172 (pk_sub (by omega)) rfl ?_
      refine V_icmp_ne (pc' := 176) (C := (nI ((stkN 3 S 1) 59)) = (nI (((S 59) + (cnt (S (S 47)))) - (cnt (hs S))))) 224 X dL_one_173 (by decide) rfl Iff.rfl (fun hz => absurd (congrArg nI (by show S 59 + (cnt (S (S 47)) - cnt (hs S)) = _; omega)) hz) (fun _ => ?_)
      refine V_aload_n (pc' := 177) 0 X dL_one_176 rfl rfl rfl ?_
      refine V_iconst (pc' := 178) (nI 0) X dL_one_177 ki_0 rfl ?_
      refine O_heard (pc' := 181) (st := []) 0 (by decide) hw_7 X gL_one_X5_heard (Nat.le_of_ble_eq_true rfl) ⟨Nat.le_of_ble_eq_true rfl, Nat.le_of_ble_eq_true rfl⟩ ⟨Nat.le_of_ble_eq_true rfl, Nat.le_of_ble_eq_true rfl⟩ dL_one_178 rfl (fun w_8 hw_8 => ?_)
      refine V_iload (pc' := 183) 7 X dL_one_181 rfl rfl ?_
      refine V_iload (pc' := 185) 9 X dL_one_183 rfl rfl ?_
      refine V_iadd (pc' := 186) (nI ((S 70) + (cnt (hs S)))) X dL_one_185 (nI_add _ _) rfl ?_
      refine V_icmp_ne (pc' := 189) (C := (nI ((stkN 3 S 1) 70)) = (nI ((S 70) + (cnt (hs S))))) 224 X dL_one_186 (by decide) rfl Iff.rfl (fun hz => absurd (congrArg nI (by rfl)) hz) (fun _ => ?_)
      refine V_aload_n (pc' := 190) 0 X dL_one_189 rfl rfl rfl ?_
      refine O_time (pc' := 193) (st := []) hw_8 X gL_one_X5_time (Nat.le_of_ble_eq_true rfl) ⟨Nat.le_of_ble_eq_true rfl, Nat.le_of_ble_eq_true rfl⟩ ⟨Nat.le_of_ble_eq_true rfl, Nat.le_of_ble_eq_true rfl⟩ dL_one_190 rfl (fun w_9 hw_9 => ?_)
      refine V_iload (pc' := 195) 6 X dL_one_193 rfl rfl ?_
      refine V_aload_n (pc' := 196) 0 X dL_one_195 rfl rfl rfl ?_
      refine V_iload_n (pc' := 197) 1 X dL_one_196 rfl rfl rfl ?_
      refine V_bipush (pc' := 199) (nI 8) X dL_one_197 kb_8 rfl ?_
      refine V_idiv (pc' := 200) (nI ((S 47) / 8)) X dL_one_199 (z_ne0 (by omega) (by omega)) (pk_div (by omega) (by omega) (by omega)) rfl ?_
      refine O_tempoOf (pc' := 203) (st := [.int (nI (S 48)), .int (nI ((stkN 3 S 1) 48))]) ((S 47) / 8) (by omega) hw_9 X gL_one_X5_tempoOf (Nat.le_of_ble_eq_true rfl) ⟨Nat.le_of_ble_eq_true rfl, Nat.le_of_ble_eq_true rfl⟩ ⟨Nat.le_of_ble_eq_true rfl, Nat.le_of_ble_eq_true rfl⟩ dL_one_200 rfl (fun w_10 hw_10 => ?_)
      refine V_iadd (pc' := 204) (nI ((S 48) + ((stkN 3 S 1) (32 + ((S 47) / 8))))) X dL_one_203 (nI_add _ _) rfl ?_
      refine V_icmp_ne (pc' := 207) (C := (nI ((stkN 3 S 1) 48)) = (nI ((S 48) + ((stkN 3 S 1) (32 + ((S 47) / 8)))))) 224 X dL_one_204 (by decide) rfl Iff.rfl (fun hz => absurd (congrArg nI (by show S 48 + S (32 + S 47 / 8) = S 48 + stkN 3 S 1 (32 + S 47 / 8); rw [stkN_lo (by omega)])) hz) (fun _ => ?_)
      refine V_aload_n (pc' := 208) 0 X dL_one_207 rfl rfl rfl ?_
      refine O_column (pc' := 211) (st := []) hw_10 X gL_one_X5_column (Nat.le_of_ble_eq_true rfl) ⟨Nat.le_of_ble_eq_true rfl, Nat.le_of_ble_eq_true rfl⟩ ⟨Nat.le_of_ble_eq_true rfl, Nat.le_of_ble_eq_true rfl⟩ dL_one_208 rfl (fun w_11 hw_11 => ?_)
      refine V_iload_n (pc' := 212) 1 X dL_one_211 rfl rfl rfl ?_
      refine V_iconst (pc' := 213) (nI 1) X dL_one_212 ki_1 rfl ?_
      refine V_iadd (pc' := 214) (nI ((S 47) + 1)) X dL_one_213 (nI_add _ _) rfl ?_
      refine V_bipush (pc' := 216) (nI 32) X dL_one_214 kb_32 rfl ?_
      refine V_irem (pc' := 217) (nI (((S 47) + 1) % 32)) X dL_one_216 (z_ne0 (by omega) (by omega)) (pk_rem (by omega) (by omega) (by omega)) rfl ?_
      refine V_icmp_ne (pc' := 220) (C := (nI ((stkN 3 S 1) 47)) = (nI (((S 47) + 1) % 32))) 224 X dL_one_217 (by decide) rfl Iff.rfl (fun hz => absurd (congrArg nI rfl) hz) (fun _ => ?_)
      refine V_iconst (pc' := 221) (nI 1) X dL_one_220 ki_1 rfl ?_
      refine V_goto (pc' := 225) X dL_one_221 (by decide) ?_
      refine V_istore (pc' := 227) [(0, .ref x), (1, .int (nI (S 47))), (2, .int (nI (S (S 47)))), (3, .int (nI (hs S % 2 ^ 10))), (4, .int (nI (sm (fun k => bq (hs S) k * S (36 + k)) 10))), (5, .int (nI (S 59))), (6, .int (nI (S 48))), (7, .int (nI (S 70))), (8, .int (nI 1)), (9, .int (nI (cnt (hs S))))] [1, 2, 3, 4, 5, 6, 7, 8, 0, 9] X dL_one_225 (Nat.le_of_ble_eq_true rfl) rfl rfl ?_
      refine V_iconst (pc' := 228) (nI 0) X dL_one_227 ki_0 rfl ?_
      refine V_istore (pc' := 230) [(0, .ref x), (1, .int (nI (S 47))), (2, .int (nI (S (S 47)))), (3, .int (nI (hs S % 2 ^ 10))), (4, .int (nI (sm (fun k => bq (hs S) k * S (36 + k)) 10))), (5, .int (nI (S 59))), (6, .int (nI (S 48))), (7, .int (nI (S 70))), (8, .int (nI 1)), (9, .int (nI (cnt (hs S)))), (10, .int (nI 0))] [1, 2, 3, 4, 5, 6, 7, 8, 9, 10, 0] X dL_one_228 (Nat.le_of_ble_eq_true rfl) rfl rfl ?_
      have lp_2 : ∀ j, j ≤ 10 → ∀ (wl_2 : va_W), OJ G x (K + 1) (stkN 3 S 1) (aM n + 1) (hT n S T) P wl_2 → V E G A 11 [wl_2] 0 0 Q 230 [(0, .ref x), (3, .int (nI (hs S % 2 ^ 10))), (4, .int (nI (sm (fun k => bq (hs S) k * S (36 + k)) 10))), (8, .int (nI 1)), (9, .int (nI (cnt (hs S)))), (10, .int (nI j))] [] := by
        refine loopD 10 ?_ ?_
        · intro wl_2 hl_2
          show V E G A 11 [wl_2] 0 0 Q 230 [(0, .ref x), (3, .int (nI (hs S % 2 ^ 10))), (4, .int (nI (sm (fun k => bq (hs S) k * S (36 + k)) 10))), (8, .int (nI 1)), (9, .int (nI (cnt (hs S)))), (10, .int (nI 10))] []
          refine V_iload (pc' := 232) 5 X dL_one_230 rfl rfl ?_
          refine V_bipush (pc' := 234) (nI 10) X dL_one_232 kb_10 rfl ?_
          refine V_icmp_ge (pc' := 237) (C := 10 ≤ 10) 273 X dL_one_234 (by decide) rfl (nI_leI (by omega) (by omega)) (fun _ => ?_) (fun hz => absurd (by omega) hz)
          refine V_iload (pc' := 275) 3 X dL_one_273 rfl rfl ?_
          refine V_if_eq (pc' := 278) (C := 1 = 0) 291 X dL_one_275 (by decide) rfl (z_eq0 (by omega)) (fun hz => absurd hz (by decide)) (fun _ => ?_)
          refine V_iload (pc' := 280) 2 X dL_one_278 rfl rfl ?_
          refine V_sipush (pc' := 283) (nI 300) X dL_one_280 ks_300 rfl ?_
          refine V_icmp_gt (pc' := 286) (C := 300 < (sm (fun k => bq (hs S) k * S (36 + k)) 10)) 291 X dL_one_283 (by decide) rfl (nI_ltI (by omega) (by omega)) (fun hz => absurd hz (by omega)) (fun _ => ?_)
          refine V_iload (pc' := 288) 4 X dL_one_286 rfl rfl ?_
          refine V_goto (pc' := 293) X dL_one_288 (by decide) ?_
          exact V_ireturn (v := nI (cnt (hs S))) [wl_2] hQ X hrt rfl dL_one_293 (Nat.le_of_ble_eq_true rfl) (Nat.le_of_ble_eq_true rfl) (List.Perm.refl _) ⟨rfl, wl_2, hl_2, rfl⟩
        · intro j hi_j ih wl_2 hl_2
          show V E G A 11 [wl_2] 0 0 Q 230 [(0, .ref x), (3, .int (nI (hs S % 2 ^ 10))), (4, .int (nI (sm (fun k => bq (hs S) k * S (36 + k)) 10))), (8, .int (nI 1)), (9, .int (nI (cnt (hs S)))), (10, .int (nI j))] []
          refine V_iload (pc' := 232) 5 X dL_one_230 rfl rfl ?_
          refine V_bipush (pc' := 234) (nI 10) X dL_one_232 kb_10 rfl ?_
          refine V_icmp_ge (pc' := 237) (C := 10 ≤ j) 273 X dL_one_234 (by decide) rfl (nI_leI (by omega) (by omega)) (fun hz => absurd hz (by omega)) (fun _ => ?_)
          refine V_iload (pc' := 239) 3 X dL_one_237 rfl rfl ?_
          refine V_if_eq (pc' := 242) (C := 1 = 0) 264 X dL_one_239 (by decide) rfl (z_eq0 (by omega)) (fun hz => absurd hz (by decide)) (fun _ => ?_)
          rcases (show bq (hs S % 2 ^ 10) j = 0 ∨ bq (hs S % 2 ^ 10) j = 1 by have := bq_lt (hs S % 2 ^ 10) j; omega) with e3 | e3
          · refine V_iload_n (pc' := 243) 1 X dL_one_242 rfl rfl rfl ?_
            refine V_iload (pc' := 245) 5 X dL_one_243 rfl rfl ?_
            refine V_ishr (pc' := 246) (nI ((hs S % 2 ^ 10) / 2 ^ j)) X dL_one_245 (z_shr (by omega) (by omega)) rfl ?_
            refine V_iconst (pc' := 247) (nI 1) X dL_one_246 ki_1 rfl ?_
            refine V_iand (pc' := 248) (nI (bq (hs S % 2 ^ 10) j)) X dL_one_247 (z_and1 _) rfl ?_
            refine V_if_eq (pc' := 251) (C := (bq (hs S % 2 ^ 10) j) = 0) 260 X dL_one_248 (by decide) rfl (z_eq0 (Nat.lt_trans (bq_lt _ _) (by decide))) (fun _ => ?_) (fun hz => absurd (by omega) hz)
            refine V_iconst (pc' := 261) (nI 1) X dL_one_260 ki_1 rfl ?_
            refine V_goto (pc' := 265) X dL_one_261 (by decide) ?_
            refine V_istore (pc' := 267) [(0, .ref x), (3, .int (nI (hs S % 2 ^ 10))), (4, .int (nI (sm (fun k => bq (hs S) k * S (36 + k)) 10))), (8, .int (nI 1)), (9, .int (nI (cnt (hs S)))), (10, .int (nI j))] [1, 2, 3, 0, 4, 5] X dL_one_265 (Nat.le_of_ble_eq_true rfl) rfl rfl ?_
            refine V_iinc (pc' := 270) [(0, .ref x), (3, .int (nI (hs S % 2 ^ 10))), (4, .int (nI (sm (fun k => bq (hs S) k * S (36 + k)) 10))), (8, .int (nI 1)), (9, .int (nI (cnt (hs S)))), (10, .int (nI (j + 1)))] 5 [1, 2, 3, 4, 5, 0] X dL_one_267 rfl (nI_i1 _) (Nat.le_of_ble_eq_true rfl) rfl rfl ?_
            refine V_goto (pc' := 230) X dL_one_270 (by decide) ?_
            exact ih wl_2 hl_2
          · have e4 : stkN 3 S 1 (49 + j) = S (49 + j) + 1 := by show stk 3 S (49 + j) = _; rw [stk_th hi_j]; rw [due_end hhl] at e3; rw [e3]
            have e5 := hJ5 j hi_j
            refine V_iload_n (pc' := 243) 1 X dL_one_242 rfl rfl rfl ?_
            refine V_iload (pc' := 245) 5 X dL_one_243 rfl rfl ?_
            refine V_ishr (pc' := 246) (nI ((hs S % 2 ^ 10) / 2 ^ j)) X dL_one_245 (z_shr (by omega) (by omega)) rfl ?_
            refine V_iconst (pc' := 247) (nI 1) X dL_one_246 ki_1 rfl ?_
            refine V_iand (pc' := 248) (nI (bq (hs S % 2 ^ 10) j)) X dL_one_247 (z_and1 _) rfl ?_
            refine V_if_eq (pc' := 251) (C := (bq (hs S % 2 ^ 10) j) = 0) 260 X dL_one_248 (by decide) rfl (z_eq0 (Nat.lt_trans (bq_lt _ _) (by decide))) (fun hz => absurd hz (by omega)) (fun _ => ?_)
            refine V_aload_n (pc' := 252) 0 X dL_one_251 rfl rfl rfl ?_
            refine V_iload (pc' := 254) 5 X dL_one_252 rfl rfl ?_
            refine O_heardOf (pc' := 257) (st := []) j (by omega) hl_2 X gL_one_X5_heardOf (Nat.le_of_ble_eq_true rfl) ⟨Nat.le_of_ble_eq_true rfl, Nat.le_of_ble_eq_true rfl⟩ ⟨Nat.le_of_ble_eq_true rfl, Nat.le_of_ble_eq_true rfl⟩ dL_one_254 rfl (fun w_12 hw_12 => ?_)
            refine V_if_le (pc' := 260) (C := ((stkN 3 S 1) (49 + j)) = 0) 264 X dL_one_257 (by decide) rfl (z_le0 (by omega)) (fun hz => absurd hz (by omega)) (fun _ => ?_)
            refine V_iconst (pc' := 261) (nI 1) X dL_one_260 ki_1 rfl ?_
            refine V_goto (pc' := 265) X dL_one_261 (by decide) ?_
            refine V_istore (pc' := 267) [(0, .ref x), (3, .int (nI (hs S % 2 ^ 10))), (4, .int (nI (sm (fun k => bq (hs S) k * S (36 + k)) 10))), (8, .int (nI 1)), (9, .int (nI (cnt (hs S)))), (10, .int (nI j))] [1, 2, 3, 0, 4, 5] X dL_one_265 (Nat.le_of_ble_eq_true rfl) rfl rfl ?_
            refine V_iinc (pc' := 270) [(0, .ref x), (3, .int (nI (hs S % 2 ^ 10))), (4, .int (nI (sm (fun k => bq (hs S) k * S (36 + k)) 10))), (8, .int (nI 1)), (9, .int (nI (cnt (hs S)))), (10, .int (nI (j + 1)))] 5 [1, 2, 3, 4, 5, 0] X dL_one_267 rfl (nI_i1 _) (Nat.le_of_ble_eq_true rfl) rfl rfl ?_
            refine V_goto (pc' := 230) X dL_one_270 (by decide) ?_
            exact ih w_12 hw_12
      refine V_lv [0, 3, 4, 8, 9, 10] [(0, .ref x), (3, .int (nI (hs S % 2 ^ 10))), (4, .int (nI (sm (fun k => bq (hs S) k * S (36 + k)) 10))), (8, .int (nI 1)), (9, .int (nI (cnt (hs S)))), (10, .int (nI 0))] rfl ?_
      exact lp_2 0 (Nat.zero_le _) w_11 hw_11
    · intro i hi_i ih wl_1 hl_1
      show V E G A 11 [wl_1] 0 0 Q 41 [(0, .ref x), (1, .int (nI (S 47))), (2, .int (nI (S (S 47)))), (3, .int (nI (hs S % 2 ^ i))), (4, .int (nI (sm (fun k => bq (hs S) k * S (36 + k)) i))), (5, .int (nI (S 59))), (6, .int (nI (S 48))), (7, .int (nI (S 70))), (8, .int (nI 1)), (9, .int (nI i))] []
      refine V_iload (pc' := 43) 9 X dL_one_41 rfl rfl ?_
      refine V_bipush (pc' := 45) (nI 10) X dL_one_43 kb_10 rfl ?_
      refine V_icmp_ge (pc' := 48) (C := 10 ≤ i) 138 X dL_one_45 (by decide) rfl (nI_leI (by omega) (by omega)) (fun hz => absurd hz (by omega)) (fun _ => ?_)
      refine V_aload_n (pc' := 49) 0 X dL_one_48 rfl rfl rfl ?_
      refine V_iload (pc' := 51) 9 X dL_one_49 rfl rfl ?_
      refine O_whyMissed (pc' := 54) (st := []) i (by omega) hl_1 X gL_one_X5_whyMissed (Nat.le_of_ble_eq_true rfl) ⟨Nat.le_of_ble_eq_true rfl, Nat.le_of_ble_eq_true rfl⟩ ⟨Nat.le_of_ble_eq_true rfl, Nat.le_of_ble_eq_true rfl⟩ dL_one_51 rfl (fun w_13 hw_13 => ?_)
      rcases why_cases S i with ⟨e1, e2, e3⟩ | ⟨e1, e2, e3⟩ | ⟨e1, e2, e3⟩
      · have hwl : why S i < 4 := by omega
        refine V_istore (pc' := 56) [(0, .ref x), (1, .int (nI (S 47))), (2, .int (nI (S (S 47)))), (3, .int (nI (hs S % 2 ^ i))), (4, .int (nI (sm (fun k => bq (hs S) k * S (36 + k)) i))), (5, .int (nI (S 59))), (6, .int (nI (S 48))), (7, .int (nI (S 70))), (8, .int (nI 1)), (9, .int (nI i)), (10, .int (nI (why S i)))] [1, 2, 3, 4, 5, 6, 7, 8, 9, 10, 0] X dL_one_54 (Nat.le_of_ble_eq_true rfl) rfl rfl ?_
        refine V_iload (pc' := 58) 8 X dL_one_56 rfl rfl ?_
        refine V_if_eq (pc' := 61) (C := 1 = 0) 93 X dL_one_58 (by decide) rfl (z_eq0 (by omega)) (fun hz => absurd hz (by decide)) (fun _ => ?_)
        refine V_iload (pc' := 63) 10 X dL_one_61 rfl rfl ?_
        refine V_iconst (pc' := 64) (nI 3) X dL_one_63 ki_3 rfl ?_
        refine V_icmp_ne (pc' := 67) (C := (nI (why S i)) = (nI 3)) 71 X dL_one_64 (by decide) rfl Iff.rfl (fun hz => absurd (congrArg nI e2) hz) (fun _ => ?_)
        refine V_iconst (pc' := 68) (nI 1) X dL_one_67 ki_1 rfl ?_
        refine V_goto (pc' := 72) X dL_one_68 (by decide) ?_
        refine V_iload_n (pc' := 73) 2 X dL_one_72 rfl rfl rfl ?_
        refine V_iload (pc' := 75) 9 X dL_one_73 rfl rfl ?_
        refine V_ishr (pc' := 76) (nI ((S (S 47)) / 2 ^ i)) X dL_one_75 (z_shr (by omega) (by omega)) rfl ?_
        refine V_iconst (pc' := 77) (nI 1) X dL_one_76 ki_1 rfl ?_
        refine V_iand (pc' := 78) (nI (bq (S (S 47)) i)) X dL_one_77 (z_and1 _) rfl ?_
        refine V_if_ne (pc' := 81) (C := (bq (S (S 47)) i) = 0) 85 X dL_one_78 (by decide) rfl (z_eq0 (Nat.lt_trans (bq_lt _ _) (by decide))) (fun hz => absurd (e1) hz) (fun _ => ?_)
        refine V_iconst (pc' := 82) (nI 1) X dL_one_81 ki_1 rfl ?_
        refine V_goto (pc' := 86) X dL_one_82 (by decide) ?_
        refine V_icmp_ne (pc' := 89) (C := 1 = 1) 93 X dL_one_86 (by decide) rfl (nI_eq (by omega) (by omega)) (fun hz => absurd (by decide) hz) (fun _ => ?_)
        refine V_iconst (pc' := 90) (nI 1) X dL_one_89 ki_1 rfl ?_
        refine V_goto (pc' := 94) X dL_one_90 (by decide) ?_
        refine V_istore (pc' := 96) [(0, .ref x), (1, .int (nI (S 47))), (2, .int (nI (S (S 47)))), (3, .int (nI (hs S % 2 ^ i))), (4, .int (nI (sm (fun k => bq (hs S) k * S (36 + k)) i))), (5, .int (nI (S 59))), (6, .int (nI (S 48))), (7, .int (nI (S 70))), (8, .int (nI 1)), (9, .int (nI i)), (10, .int (nI (why S i)))] [1, 2, 3, 4, 5, 6, 7, 8, 0, 9, 10] X dL_one_94 (Nat.le_of_ble_eq_true rfl) rfl rfl ?_
        refine V_iload_n (pc' := 97) 3 X dL_one_96 rfl rfl rfl ?_
        refine V_iload (pc' := 99) 10 X dL_one_97 rfl rfl ?_
        refine V_if_ne (pc' := 102) (C := (why S i) = 0) 109 X dL_one_99 (by decide) rfl (z_eq0 (by omega)) (fun _ => ?_) (fun hz => absurd hz (by omega))
        refine V_iconst (pc' := 110) (nI 0) X dL_one_109 ki_0 rfl ?_
        refine V_ior (pc' := 111) (nI (hs S % 2 ^ (i + 1))) X dL_one_110 (due_no e3) rfl ?_
        refine V_istore_n (pc' := 112) [(0, .ref x), (1, .int (nI (S 47))), (2, .int (nI (S (S 47)))), (3, .int (nI (hs S % 2 ^ (i + 1)))), (4, .int (nI (sm (fun k => bq (hs S) k * S (36 + k)) i))), (5, .int (nI (S 59))), (6, .int (nI (S 48))), (7, .int (nI (S 70))), (8, .int (nI 1)), (9, .int (nI i)), (10, .int (nI (why S i)))] [1, 2, 3, 0, 4, 5, 6, 7, 8, 9, 10] X dL_one_111 rfl (Nat.le_of_ble_eq_true rfl) rfl rfl ?_
        refine V_iload (pc' := 114) 4 X dL_one_112 rfl rfl ?_
        refine V_iload (pc' := 116) 10 X dL_one_114 rfl rfl ?_
        refine V_if_ne (pc' := 119) (C := (why S i) = 0) 128 X dL_one_116 (by decide) rfl (z_eq0 (by omega)) (fun _ => ?_) (fun hz => absurd hz (by omega))
        refine V_iconst (pc' := 129) (nI 0) X dL_one_128 ki_0 rfl ?_
        refine V_iadd (pc' := 130) (nI (sm (fun k => bq (hs S) k * S (36 + k)) (i + 1))) X dL_one_129 (by rw [sm_succ, e3, Nat.zero_mul, Nat.add_zero]; exact nI_add0 _) rfl ?_
        refine V_istore (pc' := 132) [(0, .ref x), (1, .int (nI (S 47))), (2, .int (nI (S (S 47)))), (3, .int (nI (hs S % 2 ^ (i + 1)))), (4, .int (nI (sm (fun k => bq (hs S) k * S (36 + k)) (i + 1)))), (5, .int (nI (S 59))), (6, .int (nI (S 48))), (7, .int (nI (S 70))), (8, .int (nI 1)), (9, .int (nI i)), (10, .int (nI (why S i)))] [1, 2, 3, 4, 0, 5, 6, 7, 8, 9, 10] X dL_one_130 (Nat.le_of_ble_eq_true rfl) rfl rfl ?_
        refine V_iinc (pc' := 135) [(0, .ref x), (1, .int (nI (S 47))), (2, .int (nI (S (S 47)))), (3, .int (nI (hs S % 2 ^ (i + 1)))), (4, .int (nI (sm (fun k => bq (hs S) k * S (36 + k)) (i + 1)))), (5, .int (nI (S 59))), (6, .int (nI (S 48))), (7, .int (nI (S 70))), (8, .int (nI 1)), (9, .int (nI (i + 1))), (10, .int (nI (why S i)))] 9 [1, 2, 3, 4, 5, 6, 7, 8, 9, 0, 10] X dL_one_132 rfl (nI_i1 _) (Nat.le_of_ble_eq_true rfl) rfl rfl ?_
        refine V_goto (pc' := 41) X dL_one_135 (by decide) ?_
        refine V_lv [0, 1, 2, 3, 4, 5, 6, 7, 8, 9] [(0, .ref x), (1, .int (nI (S 47))), (2, .int (nI (S (S 47)))), (3, .int (nI (hs S % 2 ^ (i + 1)))), (4, .int (nI (sm (fun k => bq (hs S) k * S (36 + k)) (i + 1)))), (5, .int (nI (S 59))), (6, .int (nI (S 48))), (7, .int (nI (S 70))), (8, .int (nI 1)), (9, .int (nI (i + 1)))] rfl ?_
        exact ih w_13 hw_13
      · have hwl : why S i < 4 := by omega
        refine V_istore (pc' := 56) [(0, .ref x), (1, .int (nI (S 47))), (2, .int (nI (S (S 47)))), (3, .int (nI (hs S % 2 ^ i))), (4, .int (nI (sm (fun k => bq (hs S) k * S (36 + k)) i))), (5, .int (nI (S 59))), (6, .int (nI (S 48))), (7, .int (nI (S 70))), (8, .int (nI 1)), (9, .int (nI i)), (10, .int (nI (why S i)))] [1, 2, 3, 4, 5, 6, 7, 8, 9, 10, 0] X dL_one_54 (Nat.le_of_ble_eq_true rfl) rfl rfl ?_
        refine V_iload (pc' := 58) 8 X dL_one_56 rfl rfl ?_
        refine V_if_eq (pc' := 61) (C := 1 = 0) 93 X dL_one_58 (by decide) rfl (z_eq0 (by omega)) (fun hz => absurd hz (by decide)) (fun _ => ?_)
        refine V_iload (pc' := 63) 10 X dL_one_61 rfl rfl ?_
        refine V_iconst (pc' := 64) (nI 3) X dL_one_63 ki_3 rfl ?_
        refine V_icmp_ne (pc' := 67) (C := (why S i) = 3) 71 X dL_one_64 (by decide) rfl (nI_eq (by omega) (by omega)) (fun _ => ?_) (fun hz => absurd hz (by omega))
        refine V_iconst (pc' := 72) (nI 0) X dL_one_71 ki_0 rfl ?_
        refine V_iload_n (pc' := 73) 2 X dL_one_72 rfl rfl rfl ?_
        refine V_iload (pc' := 75) 9 X dL_one_73 rfl rfl ?_
        refine V_ishr (pc' := 76) (nI ((S (S 47)) / 2 ^ i)) X dL_one_75 (z_shr (by omega) (by omega)) rfl ?_
        refine V_iconst (pc' := 77) (nI 1) X dL_one_76 ki_1 rfl ?_
        refine V_iand (pc' := 78) (nI (bq (S (S 47)) i)) X dL_one_77 (z_and1 _) rfl ?_
        refine V_if_ne (pc' := 81) (C := (bq (S (S 47)) i) = 0) 85 X dL_one_78 (by decide) rfl (z_eq0 (Nat.lt_trans (bq_lt _ _) (by decide))) (fun _ => ?_) (fun hz => absurd hz (by omega))
        refine V_iconst (pc' := 86) (nI 0) X dL_one_85 ki_0 rfl ?_
        refine V_icmp_ne (pc' := 89) (C := 0 = 0) 93 X dL_one_86 (by decide) rfl (nI_eq (by omega) (by omega)) (fun hz => absurd (by decide) hz) (fun _ => ?_)
        refine V_iconst (pc' := 90) (nI 1) X dL_one_89 ki_1 rfl ?_
        refine V_goto (pc' := 94) X dL_one_90 (by decide) ?_
        refine V_istore (pc' := 96) [(0, .ref x), (1, .int (nI (S 47))), (2, .int (nI (S (S 47)))), (3, .int (nI (hs S % 2 ^ i))), (4, .int (nI (sm (fun k => bq (hs S) k * S (36 + k)) i))), (5, .int (nI (S 59))), (6, .int (nI (S 48))), (7, .int (nI (S 70))), (8, .int (nI 1)), (9, .int (nI i)), (10, .int (nI (why S i)))] [1, 2, 3, 4, 5, 6, 7, 8, 0, 9, 10] X dL_one_94 (Nat.le_of_ble_eq_true rfl) rfl rfl ?_
        refine V_iload_n (pc' := 97) 3 X dL_one_96 rfl rfl rfl ?_
        refine V_iload (pc' := 99) 10 X dL_one_97 rfl rfl ?_
        refine V_if_ne (pc' := 102) (C := (why S i) = 0) 109 X dL_one_99 (by decide) rfl (z_eq0 (by omega)) (fun _ => ?_) (fun hz => absurd hz (by omega))
        refine V_iconst (pc' := 110) (nI 0) X dL_one_109 ki_0 rfl ?_
        refine V_ior (pc' := 111) (nI (hs S % 2 ^ (i + 1))) X dL_one_110 (due_no e3) rfl ?_
        refine V_istore_n (pc' := 112) [(0, .ref x), (1, .int (nI (S 47))), (2, .int (nI (S (S 47)))), (3, .int (nI (hs S % 2 ^ (i + 1)))), (4, .int (nI (sm (fun k => bq (hs S) k * S (36 + k)) i))), (5, .int (nI (S 59))), (6, .int (nI (S 48))), (7, .int (nI (S 70))), (8, .int (nI 1)), (9, .int (nI i)), (10, .int (nI (why S i)))] [1, 2, 3, 0, 4, 5, 6, 7, 8, 9, 10] X dL_one_111 rfl (Nat.le_of_ble_eq_true rfl) rfl rfl ?_
        refine V_iload (pc' := 114) 4 X dL_one_112 rfl rfl ?_
        refine V_iload (pc' := 116) 10 X dL_one_114 rfl rfl ?_
        refine V_if_ne (pc' := 119) (C := (why S i) = 0) 128 X dL_one_116 (by decide) rfl (z_eq0 (by omega)) (fun _ => ?_) (fun hz => absurd hz (by omega))
        refine V_iconst (pc' := 129) (nI 0) X dL_one_128 ki_0 rfl ?_
        refine V_iadd (pc' := 130) (nI (sm (fun k => bq (hs S) k * S (36 + k)) (i + 1))) X dL_one_129 (by rw [sm_succ, e3, Nat.zero_mul, Nat.add_zero]; exact nI_add0 _) rfl ?_
        refine V_istore (pc' := 132) [(0, .ref x), (1, .int (nI (S 47))), (2, .int (nI (S (S 47)))), (3, .int (nI (hs S % 2 ^ (i + 1)))), (4, .int (nI (sm (fun k => bq (hs S) k * S (36 + k)) (i + 1)))), (5, .int (nI (S 59))), (6, .int (nI (S 48))), (7, .int (nI (S 70))), (8, .int (nI 1)), (9, .int (nI i)), (10, .int (nI (why S i)))] [1, 2, 3, 4, 0, 5, 6, 7, 8, 9, 10] X dL_one_130 (Nat.le_of_ble_eq_true rfl) rfl rfl ?_
        refine V_iinc (pc' := 135) [(0, .ref x), (1, .int (nI (S 47))), (2, .int (nI (S (S 47)))), (3, .int (nI (hs S % 2 ^ (i + 1)))), (4, .int (nI (sm (fun k => bq (hs S) k * S (36 + k)) (i + 1)))), (5, .int (nI (S 59))), (6, .int (nI (S 48))), (7, .int (nI (S 70))), (8, .int (nI 1)), (9, .int (nI (i + 1))), (10, .int (nI (why S i)))] 9 [1, 2, 3, 4, 5, 6, 7, 8, 9, 0, 10] X dL_one_132 rfl (nI_i1 _) (Nat.le_of_ble_eq_true rfl) rfl rfl ?_
        refine V_goto (pc' := 41) X dL_one_135 (by decide) ?_
        refine V_lv [0, 1, 2, 3, 4, 5, 6, 7, 8, 9] [(0, .ref x), (1, .int (nI (S 47))), (2, .int (nI (S (S 47)))), (3, .int (nI (hs S % 2 ^ (i + 1)))), (4, .int (nI (sm (fun k => bq (hs S) k * S (36 + k)) (i + 1)))), (5, .int (nI (S 59))), (6, .int (nI (S 48))), (7, .int (nI (S 70))), (8, .int (nI 1)), (9, .int (nI (i + 1)))] rfl ?_
        exact ih w_13 hw_13
      · have hwl : why S i < 4 := by omega
        refine V_istore (pc' := 56) [(0, .ref x), (1, .int (nI (S 47))), (2, .int (nI (S (S 47)))), (3, .int (nI (hs S % 2 ^ i))), (4, .int (nI (sm (fun k => bq (hs S) k * S (36 + k)) i))), (5, .int (nI (S 59))), (6, .int (nI (S 48))), (7, .int (nI (S 70))), (8, .int (nI 1)), (9, .int (nI i)), (10, .int (nI (why S i)))] [1, 2, 3, 4, 5, 6, 7, 8, 9, 10, 0] X dL_one_54 (Nat.le_of_ble_eq_true rfl) rfl rfl ?_
        refine V_iload (pc' := 58) 8 X dL_one_56 rfl rfl ?_
        refine V_if_eq (pc' := 61) (C := 1 = 0) 93 X dL_one_58 (by decide) rfl (z_eq0 (by omega)) (fun hz => absurd hz (by decide)) (fun _ => ?_)
        refine V_iload (pc' := 63) 10 X dL_one_61 rfl rfl ?_
        refine V_iconst (pc' := 64) (nI 3) X dL_one_63 ki_3 rfl ?_
        refine V_icmp_ne (pc' := 67) (C := (why S i) = 3) 71 X dL_one_64 (by decide) rfl (nI_eq (by omega) (by omega)) (fun _ => ?_) (fun hz => absurd hz (by omega))
        refine V_iconst (pc' := 72) (nI 0) X dL_one_71 ki_0 rfl ?_
        refine V_iload_n (pc' := 73) 2 X dL_one_72 rfl rfl rfl ?_
        refine V_iload (pc' := 75) 9 X dL_one_73 rfl rfl ?_
        refine V_ishr (pc' := 76) (nI ((S (S 47)) / 2 ^ i)) X dL_one_75 (z_shr (by omega) (by omega)) rfl ?_
        refine V_iconst (pc' := 77) (nI 1) X dL_one_76 ki_1 rfl ?_
        refine V_iand (pc' := 78) (nI (bq (S (S 47)) i)) X dL_one_77 (z_and1 _) rfl ?_
        refine V_if_ne (pc' := 81) (C := (bq (S (S 47)) i) = 0) 85 X dL_one_78 (by decide) rfl (z_eq0 (Nat.lt_trans (bq_lt _ _) (by decide))) (fun _ => ?_) (fun hz => absurd hz (by omega))
        refine V_iconst (pc' := 86) (nI 0) X dL_one_85 ki_0 rfl ?_
        refine V_icmp_ne (pc' := 89) (C := 0 = 0) 93 X dL_one_86 (by decide) rfl (nI_eq (by omega) (by omega)) (fun hz => absurd (by decide) hz) (fun _ => ?_)
        refine V_iconst (pc' := 90) (nI 1) X dL_one_89 ki_1 rfl ?_
        refine V_goto (pc' := 94) X dL_one_90 (by decide) ?_
        refine V_istore (pc' := 96) [(0, .ref x), (1, .int (nI (S 47))), (2, .int (nI (S (S 47)))), (3, .int (nI (hs S % 2 ^ i))), (4, .int (nI (sm (fun k => bq (hs S) k * S (36 + k)) i))), (5, .int (nI (S 59))), (6, .int (nI (S 48))), (7, .int (nI (S 70))), (8, .int (nI 1)), (9, .int (nI i)), (10, .int (nI (why S i)))] [1, 2, 3, 4, 5, 6, 7, 8, 0, 9, 10] X dL_one_94 (Nat.le_of_ble_eq_true rfl) rfl rfl ?_
        refine V_iload_n (pc' := 97) 3 X dL_one_96 rfl rfl rfl ?_
        refine V_iload (pc' := 99) 10 X dL_one_97 rfl rfl ?_
        refine V_if_ne (pc' := 102) (C := (why S i) = 0) 109 X dL_one_99 (by decide) rfl (z_eq0 (by omega)) (fun hz => absurd (e2) hz) (fun _ => ?_)
        refine V_iconst (pc' := 103) (nI 1) X dL_one_102 ki_1 rfl ?_
        refine V_iload (pc' := 105) 9 X dL_one_103 rfl rfl ?_
        refine V_ishl (pc' := 106) (nI (2 ^ i)) X dL_one_105 (z_shl1 (by omega)) rfl ?_
        refine V_goto (pc' := 110) X dL_one_106 (by decide) ?_
        refine V_ior (pc' := 111) (nI (hs S % 2 ^ (i + 1))) X dL_one_110 (due_or e3) rfl ?_
        refine V_istore_n (pc' := 112) [(0, .ref x), (1, .int (nI (S 47))), (2, .int (nI (S (S 47)))), (3, .int (nI (hs S % 2 ^ (i + 1)))), (4, .int (nI (sm (fun k => bq (hs S) k * S (36 + k)) i))), (5, .int (nI (S 59))), (6, .int (nI (S 48))), (7, .int (nI (S 70))), (8, .int (nI 1)), (9, .int (nI i)), (10, .int (nI (why S i)))] [1, 2, 3, 0, 4, 5, 6, 7, 8, 9, 10] X dL_one_111 rfl (Nat.le_of_ble_eq_true rfl) rfl rfl ?_
        refine V_iload (pc' := 114) 4 X dL_one_112 rfl rfl ?_
        refine V_iload (pc' := 116) 10 X dL_one_114 rfl rfl ?_
        refine V_if_ne (pc' := 119) (C := (why S i) = 0) 128 X dL_one_116 (by decide) rfl (z_eq0 (by omega)) (fun hz => absurd (e2) hz) (fun _ => ?_)
        refine V_aload_n (pc' := 120) 0 X dL_one_119 rfl rfl rfl ?_
        refine V_iload (pc' := 122) 9 X dL_one_120 rfl rfl ?_
        refine O_weightOf (pc' := 125) (st := [.int (nI (sm (fun k => bq (hs S) k * S (36 + k)) i))]) i (by omega) hw_13 X gL_one_X5_weightOf (Nat.le_of_ble_eq_true rfl) ⟨Nat.le_of_ble_eq_true rfl, Nat.le_of_ble_eq_true rfl⟩ ⟨Nat.le_of_ble_eq_true rfl, Nat.le_of_ble_eq_true rfl⟩ dL_one_122 rfl (fun w_14 hw_14 => ?_)
        refine V_goto (pc' := 129) X dL_one_125 (by decide) ?_
        refine V_iadd (pc' := 130) (nI (sm (fun k => bq (hs S) k * S (36 + k)) (i + 1))) X dL_one_129 (by rw [sm_succ, e3, Nat.one_mul]; exact nI_add _ _) rfl ?_
        refine V_istore (pc' := 132) [(0, .ref x), (1, .int (nI (S 47))), (2, .int (nI (S (S 47)))), (3, .int (nI (hs S % 2 ^ (i + 1)))), (4, .int (nI (sm (fun k => bq (hs S) k * S (36 + k)) (i + 1)))), (5, .int (nI (S 59))), (6, .int (nI (S 48))), (7, .int (nI (S 70))), (8, .int (nI 1)), (9, .int (nI i)), (10, .int (nI (why S i)))] [1, 2, 3, 4, 0, 5, 6, 7, 8, 9, 10] X dL_one_130 (Nat.le_of_ble_eq_true rfl) rfl rfl ?_
        refine V_iinc (pc' := 135) [(0, .ref x), (1, .int (nI (S 47))), (2, .int (nI (S (S 47)))), (3, .int (nI (hs S % 2 ^ (i + 1)))), (4, .int (nI (sm (fun k => bq (hs S) k * S (36 + k)) (i + 1)))), (5, .int (nI (S 59))), (6, .int (nI (S 48))), (7, .int (nI (S 70))), (8, .int (nI 1)), (9, .int (nI (i + 1))), (10, .int (nI (why S i)))] 9 [1, 2, 3, 4, 5, 6, 7, 8, 9, 0, 10] X dL_one_132 rfl (nI_i1 _) (Nat.le_of_ble_eq_true rfl) rfl rfl ?_
        refine V_goto (pc' := 41) X dL_one_135 (by decide) ?_
        refine V_lv [0, 1, 2, 3, 4, 5, 6, 7, 8, 9] [(0, .ref x), (1, .int (nI (S 47))), (2, .int (nI (S (S 47)))), (3, .int (nI (hs S % 2 ^ (i + 1)))), (4, .int (nI (sm (fun k => bq (hs S) k * S (36 + k)) (i + 1)))), (5, .int (nI (S 59))), (6, .int (nI (S 48))), (7, .int (nI (S 70))), (8, .int (nI 1)), (9, .int (nI (i + 1)))] rfl ?_
        exact ih w_14 hw_14
  have h0_ := lp_1 0 (Nat.zero_le _) w_5 hw_5
  rw [show hs S % 2 ^ 0 = 0 from Nat.mod_one _] at h0_
  exact h0_

set_option maxHeartbeats 4000000 in
set_option maxRecDepth 100000 in
theorem c_L_cranks (l : Launch) (G : gT) (x K : Nat) (S : Nat → Nat) (n : Nat) (T : Nat → Nat → Nat) (P : Nat → Option (Nat → Nat)) (w : va_W) (hw : OJ G x K S n T P w) (m : Nat) (hm1 : 1 ≤ m) (hm : m ≤ 200) (hK : K ≤ 90000) : CM l G yL_cranks wsL_cranks 8 194 2 [.ref x, .int (nI m)] [w] 7 77 (fun v u => v = some (.int (nI 1)) ∧ ∃ (S' : Nat → Nat) (n' : Nat) (T' : Nat → Nat → Nat) (P' : Nat → Option (Nat → Nat)) (w' : va_W), OJ G x (K + 400) S' n' T' P' w' ∧ P' 0 = P 0 ∧ u = [w']) := by
  refine CM_of RL 7 164 rfl rfl (by decide) (by decide +kernel) (Nat.le_of_ble_eq_true rfl) (fun E A X hrt hnm => ?_)
  generalize hQ : QM E G A _ _ _ = Q
  obtain ⟨i1, i2, i3, i4, i5, i6⟩ := hw.iv
  have h70 := fun i => stkN_70 3 S i
  show V E G A 11 [w] 0 0 Q 0 [(0, .ref x), (1, .int (nI m))] []
  refine V_aload_n (pc' := 1) 0 X dL_cranks_0 rfl rfl rfl ?_
  refine V_iconst (pc' := 2) (nI 1) X dL_cranks_1 ki_1 rfl ?_
  refine O_save1 (pc' := 5) (st := []) hw X gL_cranks_X5_save (Nat.le_of_ble_eq_true rfl) ⟨Nat.le_of_ble_eq_true rfl, Nat.le_of_ble_eq_true rfl⟩ ⟨Nat.le_of_ble_eq_true rfl, Nat.le_of_ble_eq_true rfl⟩ dL_cranks_2 rfl (fun w_1 hw_1 => ?_)
  refine V_istore_n (pc' := 6) [(0, .ref x), (1, .int (nI m)), (2, .int (nI (pgs S)))] [1, 2, 0] X dL_cranks_5 rfl (Nat.le_of_ble_eq_true rfl) rfl rfl ?_
  refine V_aload_n (pc' := 7) 0 X dL_cranks_6 rfl rfl rfl ?_
  refine O_column (pc' := 10) (st := []) hw_1 X gL_cranks_X5_column (Nat.le_of_ble_eq_true rfl) ⟨Nat.le_of_ble_eq_true rfl, Nat.le_of_ble_eq_true rfl⟩ ⟨Nat.le_of_ble_eq_true rfl, Nat.le_of_ble_eq_true rfl⟩ dL_cranks_7 rfl (fun w_2 hw_2 => ?_)
  refine V_istore_n (pc' := 11) [(0, .ref x), (1, .int (nI m)), (2, .int (nI (pgs S))), (3, .int (nI (S 47)))] [1, 2, 3, 0] X dL_cranks_10 rfl (Nat.le_of_ble_eq_true rfl) rfl rfl ?_
  refine V_aload_n (pc' := 12) 0 X dL_cranks_11 rfl rfl rfl ?_
  refine V_iload_n (pc' := 13) 1 X dL_cranks_12 rfl rfl rfl ?_
  refine O_crank (pc' := 16) (st := []) m (by omega) (by omega) hw_2 X gL_cranks_X5_crank (Nat.le_of_ble_eq_true rfl) ⟨Nat.le_of_ble_eq_true rfl, Nat.le_of_ble_eq_true rfl⟩ ⟨Nat.le_of_ble_eq_true rfl, Nat.le_of_ble_eq_true rfl⟩ dL_cranks_13 rfl (fun w_3 hw_3 => ?_)
  refine V_istore (pc' := 18) [(0, .ref x), (1, .int (nI m)), (2, .int (nI (pgs S))), (3, .int (nI (S 47))), (4, .int (nI (stkN 3 S m 70 - S 70)))] [1, 2, 3, 4, 0] X dL_cranks_16 (Nat.le_of_ble_eq_true rfl) rfl rfl ?_
  refine V_aload_n (pc' := 19) 0 X dL_cranks_18 rfl rfl rfl ?_
  refine V_iconst (pc' := 20) (nI 1) X dL_cranks_19 ki_1 rfl ?_
  refine O_heard (pc' := 23) (st := []) 1 (by decide) hw_3 X gL_cranks_X5_heard (Nat.le_of_ble_eq_true rfl) ⟨Nat.le_of_ble_eq_true rfl, Nat.le_of_ble_eq_true rfl⟩ ⟨Nat.le_of_ble_eq_true rfl, Nat.le_of_ble_eq_true rfl⟩ dL_cranks_20 rfl (fun w_4 hw_4 => ?_)
  refine V_istore (pc' := 25) [(0, .ref x), (1, .int (nI m)), (2, .int (nI (pgs S))), (3, .int (nI (S 47))), (4, .int (nI (stkN 3 S m 70 - S 70))), (5, .int (nI ((stkN 3 S m) 70)))] [1, 2, 3, 4, 5, 0] X dL_cranks_23 (Nat.le_of_ble_eq_true rfl) rfl rfl ?_
  refine V_aload_n (pc' := 26) 0 X dL_cranks_25 rfl rfl rfl ?_
  refine O_missed (pc' := 29) (st := []) hw_4 X gL_cranks_X5_missed (Nat.le_of_ble_eq_true rfl) ⟨Nat.le_of_ble_eq_true rfl, Nat.le_of_ble_eq_true rfl⟩ ⟨Nat.le_of_ble_eq_true rfl, Nat.le_of_ble_eq_true rfl⟩ dL_cranks_26 rfl (fun w_5 hw_5 => ?_)
  refine V_istore (pc' := 31) [(0, .ref x), (1, .int (nI m)), (2, .int (nI (pgs S))), (3, .int (nI (S 47))), (4, .int (nI (stkN 3 S m 70 - S 70))), (5, .int (nI ((stkN 3 S m) 70))), (6, .int (nI ((stkN 3 S m) 59)))] [1, 2, 3, 4, 5, 6, 0] X dL_cranks_29 (Nat.le_of_ble_eq_true rfl) rfl rfl ?_
  refine V_aload_n (pc' := 32) 0 X dL_cranks_31 rfl rfl rfl ?_
  refine O_time (pc' := 35) (st := []) hw_5 X gL_cranks_X5_time (Nat.le_of_ble_eq_true rfl) ⟨Nat.le_of_ble_eq_true rfl, Nat.le_of_ble_eq_true rfl⟩ ⟨Nat.le_of_ble_eq_true rfl, Nat.le_of_ble_eq_true rfl⟩ dL_cranks_32 rfl (fun w_6 hw_6 => ?_)
  refine V_istore (pc' := 37) [(0, .ref x), (1, .int (nI m)), (2, .int (nI (pgs S))), (3, .int (nI (S 47))), (4, .int (nI (stkN 3 S m 70 - S 70))), (5, .int (nI ((stkN 3 S m) 70))), (6, .int (nI ((stkN 3 S m) 59))), (7, .int (nI ((stkN 3 S m) 48)))] [1, 2, 3, 4, 5, 6, 7, 0] X dL_cranks_35 (Nat.le_of_ble_eq_true rfl) rfl rfl ?_
  refine V_aload_n (pc' := 38) 0 X dL_cranks_37 rfl rfl rfl ?_
  refine O_column (pc' := 41) (st := []) hw_6 X gL_cranks_X5_column (Nat.le_of_ble_eq_true rfl) ⟨Nat.le_of_ble_eq_true rfl, Nat.le_of_ble_eq_true rfl⟩ ⟨Nat.le_of_ble_eq_true rfl, Nat.le_of_ble_eq_true rfl⟩ dL_cranks_38 rfl (fun w_7 hw_7 => ?_)
  refine V_iload_n (pc' := 42) 3 X dL_cranks_41 rfl rfl rfl ?_
  refine V_iload_n (pc' := 43) 1 X dL_cranks_42 rfl rfl rfl ?_
  refine V_iadd (pc' := 44) (nI ((S 47) + m)) X dL_cranks_43 (nI_add _ _) rfl ?_
  refine V_bipush (pc' := 46) (nI 32) X dL_cranks_44 kb_32 rfl ?_
  refine V_irem (pc' := 47) (nI (((S 47) + m) % 32)) X dL_cranks_46 (z_ne0 (by omega) (by omega)) (pk_rem (by omega) (by omega) (by omega)) rfl ?_
  refine V_icmp_ne (pc' := 50) (C := (nI ((stkN 3 S m) 47)) = (nI (((S 47) + m) % 32))) 71 X dL_cranks_47 (by decide) rfl Iff.rfl (fun hz => absurd (congrArg nI (stkN_47 i5 m)) hz) (fun _ => ?_)
  refine V_aload_n (pc' := 51) 0 X dL_cranks_50 rfl rfl rfl ?_
  refine V_iconst (pc' := 52) (nI 1) X dL_cranks_51 ki_1 rfl ?_
  refine O_restore1 (pc' := 55) (st := []) S (va_up_self _ _ _) hw_7 X gL_cranks_X5_restore (Nat.le_of_ble_eq_true rfl) ⟨Nat.le_of_ble_eq_true rfl, Nat.le_of_ble_eq_true rfl⟩ ⟨Nat.le_of_ble_eq_true rfl, Nat.le_of_ble_eq_true rfl⟩ dL_cranks_52 rfl (fun w_8 hw_8 => ?_)
  refine V_iload_n (pc' := 56) 2 X dL_cranks_55 rfl rfl rfl ?_
  refine V_icmp_ne (pc' := 59) (C := (nI (pgs S)) = (nI (pgs S))) 71 X dL_cranks_56 (by decide) rfl Iff.rfl (fun hz => absurd (congrArg nI rfl) hz) (fun _ => ?_)
  refine V_aload_n (pc' := 60) 0 X dL_cranks_59 rfl rfl rfl ?_
  refine O_column (pc' := 63) (st := []) hw_8 X gL_cranks_X5_column (Nat.le_of_ble_eq_true rfl) ⟨Nat.le_of_ble_eq_true rfl, Nat.le_of_ble_eq_true rfl⟩ ⟨Nat.le_of_ble_eq_true rfl, Nat.le_of_ble_eq_true rfl⟩ dL_cranks_60 rfl (fun w_9 hw_9 => ?_)
  refine V_iload_n (pc' := 64) 3 X dL_cranks_63 rfl rfl rfl ?_
  refine V_icmp_ne (pc' := 67) (C := (nI (S 47)) = (nI (S 47))) 71 X dL_cranks_64 (by decide) rfl Iff.rfl (fun hz => absurd (congrArg nI rfl) hz) (fun _ => ?_)
  refine V_iconst (pc' := 68) (nI 1) X dL_cranks_67 ki_1 rfl ?_
  refine V_goto (pc' := 72) X dL_cranks_68 (by decide) ?_
  refine V_istore (pc' := 74) [(0, .ref x), (1, .int (nI m)), (2, .int (nI (pgs S))), (3, .int (nI (S 47))), (4, .int (nI (stkN 3 S m 70 - S 70))), (5, .int (nI ((stkN 3 S m) 70))), (6, .int (nI ((stkN 3 S m) 59))), (7, .int (nI ((stkN 3 S m) 48))), (8, .int (nI 1))] [1, 2, 3, 4, 5, 6, 7, 8, 0] X dL_cranks_72 (Nat.le_of_ble_eq_true rfl) rfl rfl ?_
  refine V_iconst (pc' := 75) (nI 0) X dL_cranks_74 ki_0 rfl ?_
  refine V_istore (pc' := 77) [(0, .ref x), (1, .int (nI m)), (2, .int (nI (pgs S))), (3, .int (nI (S 47))), (4, .int (nI (stkN 3 S m 70 - S 70))), (5, .int (nI ((stkN 3 S m) 70))), (6, .int (nI ((stkN 3 S m) 59))), (7, .int (nI ((stkN 3 S m) 48))), (8, .int (nI 1)), (9, .int (nI 0))] [1, 2, 3, 4, 5, 6, 7, 8, 9, 0] X dL_cranks_75 (Nat.le_of_ble_eq_true rfl) rfl rfl ?_
  refine V_iconst (pc' := 78) (nI 0) X dL_cranks_77 ki_0 rfl ?_
  refine V_istore (pc' := 80) [(0, .ref x), (1, .int (nI m)), (2, .int (nI (pgs S))), (3, .int (nI (S 47))), (4, .int (nI (stkN 3 S m 70 - S 70))), (5, .int (nI ((stkN 3 S m) 70))), (6, .int (nI ((stkN 3 S m) 59))), (7, .int (nI ((stkN 3 S m) 48))), (8, .int (nI 1)), (9, .int (nI 0)), (10, .int (nI 0))] [1, 2, 3, 4, 5, 6, 7, 8, 9, 10, 0] X dL_cranks_78 (Nat.le_of_ble_eq_true rfl) rfl rfl ?_
  rcases Nat.lt_or_ge 40 m with hq | hq
  · have hq : 40 < m := by omega
    have lp_1 : ∀ i, i ≤ 40 → ∀ (n' : Nat) (T' : Nat → Nat → Nat) (wl_1 : va_W), OJ G x (K + m + i) (stkN 3 S i) n' T' (va_up P 1 (some S)) wl_1 → V E G A 11 [wl_1] 7 77 Q 80 [(0, .ref x), (1, .int (nI m)), (4, .int (nI (stkN 3 S m 70 - S 70))), (5, .int (nI (stkN 3 S m 70))), (6, .int (nI (stkN 3 S m 59))), (7, .int (nI (stkN 3 S m 48))), (8, .int (nI 1)), (9, .int (nI (stkN 3 S i 70 - S 70))), (10, .int (nI i))] [] := by
      refine loopD 40 ?_ ?_
      · intro n' T' wl_1 hl_1
        show V E G A 11 [wl_1] 7 77 Q 80 [(0, .ref x), (1, .int (nI m)), (4, .int (nI (stkN 3 S m 70 - S 70))), (5, .int (nI (stkN 3 S m 70))), (6, .int (nI (stkN 3 S m 59))), (7, .int (nI (stkN 3 S m 48))), (8, .int (nI 1)), (9, .int (nI (stkN 3 S 40 70 - S 70))), (10, .int (nI 40))] []
        refine V_iload (pc' := 82) 8 X dL_cranks_80 rfl rfl ?_
        refine V_iload_n (pc' := 83) 1 X dL_cranks_82 rfl rfl rfl ?_
        refine V_icmp_ge (pc' := 86) (C := m ≤ 40) 125 X dL_cranks_83 (by decide) rfl (nI_leI (by omega) (by omega)) (fun hz => absurd hz (by omega)) (fun _ => ?_)
        refine V_iload (pc' := 88) 8 X dL_cranks_86 rfl rfl ?_
        refine V_bipush (pc' := 90) (nI 40) X dL_cranks_88 kb_40 rfl ?_
        refine V_icmp_ge (pc' := 93) (C := 40 ≤ 40) 125 X dL_cranks_90 (by decide) rfl (nI_leI (by omega) (by omega)) (fun _ => ?_) (fun hz => absurd (by omega) hz)
        refine V_iload_n (pc' := 126) 1 X dL_cranks_125 rfl rfl rfl ?_
        refine V_bipush (pc' := 128) (nI 40) X dL_cranks_126 kb_40 rfl ?_
        refine V_icmp_le (pc' := 131) (C := m ≤ 40) 186 X dL_cranks_128 (by decide) rfl (nI_leI (by omega) (by omega)) (fun hz => absurd hz (by omega)) (fun _ => ?_)
        refine V_iload (pc' := 133) 6 X dL_cranks_131 rfl rfl ?_
        refine V_if_eq (pc' := 136) (C := 1 = 0) 184 X dL_cranks_133 (by decide) rfl (z_eq0 (by omega)) (fun hz => absurd hz (by decide)) (fun _ => ?_)
        refine V_aload_n (pc' := 137) 0 X dL_cranks_136 rfl rfl rfl ?_
        refine V_iload_n (pc' := 138) 1 X dL_cranks_137 rfl rfl rfl ?_
        refine V_bipush (pc' := 140) (nI 40) X dL_cranks_138 kb_40 rfl ?_
        refine V_isub (pc' := 141) (nI (m - 40)) X dL_cranks_140 (pk_sub (by omega)) rfl ?_
        refine O_crank (pc' := 144) (st := []) (m - 40) (by omega) (by omega) hl_1 X gL_cranks_X5_crank (Nat.le_of_ble_eq_true rfl) ⟨Nat.le_of_ble_eq_true rfl, Nat.le_of_ble_eq_true rfl⟩ ⟨Nat.le_of_ble_eq_true rfl, Nat.le_of_ble_eq_true rfl⟩ dL_cranks_141 rfl (fun w_10 hw_10 => ?_)
        refine V_iload (pc' := 146) 2 X dL_cranks_144 rfl rfl ?_
        refine V_iload (pc' := 148) 7 X dL_cranks_146 rfl rfl ?_
        refine V_isub (pc' := 149) (nI ((stkN 3 S m 70 - S 70) - (stkN 3 S 40 70 - S 70))) X dL_cranks_148 (pk_sub (by have := stkN_70 3 (stkN 3 S 40) (m - 40); rw [stkN_add, show 40 + (m - 40) = m by omega] at this; have := h70 40; omega)) rfl ?_
        refine V_icmp_ne (pc' := 152) (C := (nI (stkN 3 (stkN 3 S 40) (m - 40) 70 - (stkN 3 S 40) 70)) = (nI ((stkN 3 S m 70 - S 70) - (stkN 3 S 40 70 - S 70)))) 184 X dL_cranks_149 (by decide) rfl Iff.rfl (fun hz => absurd (congrArg nI (by rw [stkN_add, show 40 + (m - 40) = m by omega]; have := h70 40; omega)) hz) (fun _ => ?_)
        refine V_aload_n (pc' := 153) 0 X dL_cranks_152 rfl rfl rfl ?_
        refine V_iconst (pc' := 154) (nI 0) X dL_cranks_153 ki_0 rfl ?_
        refine O_heard (pc' := 157) (st := []) 0 (by decide) hw_10 X gL_cranks_X5_heard (Nat.le_of_ble_eq_true rfl) ⟨Nat.le_of_ble_eq_true rfl, Nat.le_of_ble_eq_true rfl⟩ ⟨Nat.le_of_ble_eq_true rfl, Nat.le_of_ble_eq_true rfl⟩ dL_cranks_154 rfl (fun w_11 hw_11 => ?_)
        refine V_iload (pc' := 159) 3 X dL_cranks_157 rfl rfl ?_
        refine V_icmp_ne (pc' := 162) (C := (nI ((stkN 3 (stkN 3 S 40) (m - 40)) 70)) = (nI (stkN 3 S m 70))) 184 X dL_cranks_159 (by decide) rfl Iff.rfl (fun hz => absurd (congrArg nI (by rw [stkN_add, show 40 + (m - 40) = m by omega])) hz) (fun _ => ?_)
        refine V_aload_n (pc' := 163) 0 X dL_cranks_162 rfl rfl rfl ?_
        refine O_missed (pc' := 166) (st := []) hw_11 X gL_cranks_X5_missed (Nat.le_of_ble_eq_true rfl) ⟨Nat.le_of_ble_eq_true rfl, Nat.le_of_ble_eq_true rfl⟩ ⟨Nat.le_of_ble_eq_true rfl, Nat.le_of_ble_eq_true rfl⟩ dL_cranks_163 rfl (fun w_12 hw_12 => ?_)
        refine V_iload (pc' := 168) 4 X dL_cranks_166 rfl rfl ?_
        refine V_icmp_ne (pc' := 171) (C := (nI ((stkN 3 (stkN 3 S 40) (m - 40)) 59)) = (nI (stkN 3 S m 59))) 184 X dL_cranks_168 (by decide) rfl Iff.rfl (fun hz => absurd (congrArg nI (by rw [stkN_add, show 40 + (m - 40) = m by omega])) hz) (fun _ => ?_)
        refine V_aload_n (pc' := 172) 0 X dL_cranks_171 rfl rfl rfl ?_
        refine O_time (pc' := 175) (st := []) hw_12 X gL_cranks_X5_time (Nat.le_of_ble_eq_true rfl) ⟨Nat.le_of_ble_eq_true rfl, Nat.le_of_ble_eq_true rfl⟩ ⟨Nat.le_of_ble_eq_true rfl, Nat.le_of_ble_eq_true rfl⟩ dL_cranks_172 rfl (fun w_13 hw_13 => ?_)
        refine V_iload (pc' := 177) 5 X dL_cranks_175 rfl rfl ?_
        refine V_icmp_ne (pc' := 180) (C := (nI ((stkN 3 (stkN 3 S 40) (m - 40)) 48)) = (nI (stkN 3 S m 48))) 184 X dL_cranks_177 (by decide) rfl Iff.rfl (fun hz => absurd (congrArg nI (by rw [stkN_add, show 40 + (m - 40) = m by omega])) hz) (fun _ => ?_)
        refine V_iconst (pc' := 181) (nI 1) X dL_cranks_180 ki_1 rfl ?_
        refine V_goto (pc' := 185) X dL_cranks_181 (by decide) ?_
        exact V_ireturn (v := nI 1) [w_13] hQ X hrt rfl dL_cranks_185 (Nat.le_of_ble_eq_true rfl) (Nat.le_of_ble_eq_true rfl) (List.Perm.refl _) ⟨rfl, _, _, _, _, w_13, hw_13.mono (by omega), va_up_ne _ _ (by decide), rfl⟩
      · intro i hi_i ih n' T' wl_1 hl_1
        show V E G A 11 [wl_1] 7 77 Q 80 [(0, .ref x), (1, .int (nI m)), (4, .int (nI (stkN 3 S m 70 - S 70))), (5, .int (nI (stkN 3 S m 70))), (6, .int (nI (stkN 3 S m 59))), (7, .int (nI (stkN 3 S m 48))), (8, .int (nI 1)), (9, .int (nI (stkN 3 S i 70 - S 70))), (10, .int (nI i))] []
        have hbz : stkN 3 S i 70 - S 70 ≤ 10 * i := stkN_lin S i
        have hbz2 := stkN_lin S (i + 1)
        refine V_iload (pc' := 82) 8 X dL_cranks_80 rfl rfl ?_
        refine V_iload_n (pc' := 83) 1 X dL_cranks_82 rfl rfl rfl ?_
        refine V_icmp_ge (pc' := 86) (C := m ≤ i) 125 X dL_cranks_83 (by decide) rfl (nI_leI (by omega) (by omega)) (fun hz => absurd hz (by omega)) (fun _ => ?_)
        refine V_iload (pc' := 88) 8 X dL_cranks_86 rfl rfl ?_
        refine V_bipush (pc' := 90) (nI 40) X dL_cranks_88 kb_40 rfl ?_
        refine V_icmp_ge (pc' := 93) (C := 40 ≤ i) 125 X dL_cranks_90 (by decide) rfl (nI_leI (by omega) (by omega)) (fun hz => absurd hz (by omega)) (fun _ => ?_)
        refine V_iload (pc' := 95) 6 X dL_cranks_93 rfl rfl ?_
        refine V_if_eq (pc' := 98) (C := 1 = 0) 125 X dL_cranks_95 (by decide) rfl (z_eq0 (by omega)) (fun hz => absurd hz (by decide)) (fun _ => ?_)
        refine V_iload (pc' := 100) 7 X dL_cranks_98 rfl rfl ?_
        refine V_aload_n (pc' := 101) 0 X dL_cranks_100 rfl rfl rfl ?_
        refine V_callS (pc' := 104) (As := [.ref x]) (st := [.int (nI (stkN 3 S i 70 - S 70))]) [0] [] (List.Perm.refl _) X (c_L_one l G x (K + m + i) (stkN 3 S i) n' T' (va_up P 1 (some S)) wl_1 hl_1 (by omega)) rfl gL_cranks_L_one rfl rfl (Nat.le_of_ble_eq_true rfl) ⟨Nat.le_of_ble_eq_true rfl, Nat.le_of_ble_eq_true rfl⟩ ⟨Nat.le_of_ble_eq_true rfl, Nat.le_of_ble_eq_true rfl⟩ dL_cranks_101 rfl (fun v_ u_ hp_ => ?_)
        obtain ⟨rfl, w_14, hw_14, rfl⟩ := hp_
        show V E G A 11 [w_14] 7 77 Q 104 [(0, .ref x), (1, .int (nI m)), (4, .int (nI (stkN 3 S m 70 - S 70))), (5, .int (nI (stkN 3 S m 70))), (6, .int (nI (stkN 3 S m 59))), (7, .int (nI (stkN 3 S m 48))), (8, .int (nI 1)), (9, .int (nI (stkN 3 S i 70 - S 70))), (10, .int (nI i))] [.int (nI (cnt (hs (stkN 3 S i)))), .int (nI (stkN 3 S i 70 - S 70))]
        refine V_iadd (pc' := 105) (nI (stkN 3 S (i + 1) 70 - S 70)) X dL_cranks_104 ((nI_add _ _).trans (congrArg nI (by have := h70 i; have e : stkN 3 S (i + 1) 70 = stkN 3 S i 70 + cnt (hs (stkN 3 S i)) := rfl; omega))) rfl ?_
        refine V_istore (pc' := 107) [(0, .ref x), (1, .int (nI m)), (4, .int (nI (stkN 3 S m 70 - S 70))), (5, .int (nI (stkN 3 S m 70))), (6, .int (nI (stkN 3 S m 59))), (7, .int (nI (stkN 3 S m 48))), (8, .int (nI 1)), (9, .int (nI (stkN 3 S (i + 1) 70 - S 70))), (10, .int (nI i))] [1, 2, 3, 4, 5, 6, 7, 0, 8] X dL_cranks_105 (Nat.le_of_ble_eq_true rfl) rfl rfl ?_
        refine V_iload (pc' := 109) 7 X dL_cranks_107 rfl rfl ?_
        refine V_if_lt (pc' := 112) (C := False) 116 X dL_cranks_109 (by decide) rfl (z_lt0 (by omega)) (fun hz => absurd hz (by decide)) (fun _ => ?_)
        refine V_iconst (pc' := 113) (nI 1) X dL_cranks_112 ki_1 rfl ?_
        refine V_goto (pc' := 117) X dL_cranks_113 (by decide) ?_
        refine V_istore (pc' := 119) [(0, .ref x), (1, .int (nI m)), (4, .int (nI (stkN 3 S m 70 - S 70))), (5, .int (nI (stkN 3 S m 70))), (6, .int (nI (stkN 3 S m 59))), (7, .int (nI (stkN 3 S m 48))), (8, .int (nI 1)), (9, .int (nI (stkN 3 S (i + 1) 70 - S 70))), (10, .int (nI i))] [1, 2, 3, 4, 5, 6, 0, 7, 8] X dL_cranks_117 (Nat.le_of_ble_eq_true rfl) rfl rfl ?_
        refine V_iinc (pc' := 122) [(0, .ref x), (1, .int (nI m)), (4, .int (nI (stkN 3 S m 70 - S 70))), (5, .int (nI (stkN 3 S m 70))), (6, .int (nI (stkN 3 S m 59))), (7, .int (nI (stkN 3 S m 48))), (8, .int (nI 1)), (9, .int (nI (stkN 3 S (i + 1) 70 - S 70))), (10, .int (nI (i + 1)))] 8 [1, 2, 3, 4, 5, 6, 7, 8, 0] X dL_cranks_119 rfl (nI_i1 _) (Nat.le_of_ble_eq_true rfl) rfl rfl ?_
        refine V_goto (pc' := 80) X dL_cranks_122 (by decide) ?_
        exact ih _ _ w_14 hw_14
    refine V_lv [0, 1, 4, 5, 6, 7, 8, 9, 10] [(0, .ref x), (1, .int (nI m)), (4, .int (nI (stkN 3 S m 70 - S 70))), (5, .int (nI ((stkN 3 S m) 70))), (6, .int (nI ((stkN 3 S m) 59))), (7, .int (nI ((stkN 3 S m) 48))), (8, .int (nI 1)), (9, .int (nI 0)), (10, .int (nI 0))] rfl ?_
    have h0_ := lp_1 0 (Nat.zero_le _) _ _ w_9 hw_9
    rw [show stkN 3 S 0 70 - S 70 = 0 from Nat.sub_self _] at h0_
    exact h0_
  · have hq : m ≤ 40 := hq
    have lp_2 : ∀ i, i ≤ m → ∀ (n' : Nat) (T' : Nat → Nat → Nat) (wl_2 : va_W), OJ G x (K + m + i) (stkN 3 S i) n' T' (va_up P 1 (some S)) wl_2 → V E G A 11 [wl_2] 7 77 Q 80 [(0, .ref x), (1, .int (nI m)), (4, .int (nI (stkN 3 S m 70 - S 70))), (5, .int (nI (stkN 3 S m 70))), (6, .int (nI (stkN 3 S m 59))), (7, .int (nI (stkN 3 S m 48))), (8, .int (nI 1)), (9, .int (nI (stkN 3 S i 70 - S 70))), (10, .int (nI i))] [] := by
      refine loopD m ?_ ?_
      · intro n' T' wl_2 hl_2
        show V E G A 11 [wl_2] 7 77 Q 80 [(0, .ref x), (1, .int (nI m)), (4, .int (nI (stkN 3 S m 70 - S 70))), (5, .int (nI (stkN 3 S m 70))), (6, .int (nI (stkN 3 S m 59))), (7, .int (nI (stkN 3 S m 48))), (8, .int (nI 1)), (9, .int (nI (stkN 3 S m 70 - S 70))), (10, .int (nI m))] []
        refine V_iload (pc' := 82) 8 X dL_cranks_80 rfl rfl ?_
        refine V_iload_n (pc' := 83) 1 X dL_cranks_82 rfl rfl rfl ?_
        refine V_icmp_ge (pc' := 86) (C := m ≤ m) 125 X dL_cranks_83 (by decide) rfl (nI_leI (by omega) (by omega)) (fun _ => ?_) (fun hz => absurd (by omega) hz)
        refine V_iload_n (pc' := 126) 1 X dL_cranks_125 rfl rfl rfl ?_
        refine V_bipush (pc' := 128) (nI 40) X dL_cranks_126 kb_40 rfl ?_
        refine V_icmp_le (pc' := 131) (C := m ≤ 40) 186 X dL_cranks_128 (by decide) rfl (nI_leI (by omega) (by omega)) (fun _ => ?_) (fun hz => absurd (by omega) hz)
        refine V_iload (pc' := 188) 6 X dL_cranks_186 rfl rfl ?_
        refine V_if_eq (pc' := 191) (C := 1 = 0) 230 X dL_cranks_188 (by decide) rfl (z_eq0 (by omega)) (fun hz => absurd hz (by decide)) (fun _ => ?_)
        refine V_iload (pc' := 193) 7 X dL_cranks_191 rfl rfl ?_
        refine V_iload (pc' := 195) 2 X dL_cranks_193 rfl rfl ?_
        refine V_icmp_ne (pc' := 198) (C := (nI (stkN 3 S m 70 - S 70)) = (nI (stkN 3 S m 70 - S 70))) 230 X dL_cranks_195 (by decide) rfl Iff.rfl (fun hz => absurd (congrArg nI rfl) hz) (fun _ => ?_)
        refine V_aload_n (pc' := 199) 0 X dL_cranks_198 rfl rfl rfl ?_
        refine V_iconst (pc' := 200) (nI 0) X dL_cranks_199 ki_0 rfl ?_
        refine O_heard (pc' := 203) (st := []) 0 (by decide) hl_2 X gL_cranks_X5_heard (Nat.le_of_ble_eq_true rfl) ⟨Nat.le_of_ble_eq_true rfl, Nat.le_of_ble_eq_true rfl⟩ ⟨Nat.le_of_ble_eq_true rfl, Nat.le_of_ble_eq_true rfl⟩ dL_cranks_200 rfl (fun w_15 hw_15 => ?_)
        refine V_iload (pc' := 205) 3 X dL_cranks_203 rfl rfl ?_
        refine V_icmp_ne (pc' := 208) (C := (nI ((stkN 3 S m) 70)) = (nI (stkN 3 S m 70))) 230 X dL_cranks_205 (by decide) rfl Iff.rfl (fun hz => absurd (congrArg nI rfl) hz) (fun _ => ?_)
        refine V_aload_n (pc' := 209) 0 X dL_cranks_208 rfl rfl rfl ?_
        refine O_missed (pc' := 212) (st := []) hw_15 X gL_cranks_X5_missed (Nat.le_of_ble_eq_true rfl) ⟨Nat.le_of_ble_eq_true rfl, Nat.le_of_ble_eq_true rfl⟩ ⟨Nat.le_of_ble_eq_true rfl, Nat.le_of_ble_eq_true rfl⟩ dL_cranks_209 rfl (fun w_16 hw_16 => ?_)
        refine V_iload (pc' := 214) 4 X dL_cranks_212 rfl rfl ?_
        refine V_icmp_ne (pc' := 217) (C := (nI ((stkN 3 S m) 59)) = (nI (stkN 3 S m 59))) 230 X dL_cranks_214 (by decide) rfl Iff.rfl (fun hz => absurd (congrArg nI rfl) hz) (fun _ => ?_)
        refine V_aload_n (pc' := 218) 0 X dL_cranks_217 rfl rfl rfl ?_
        refine O_time (pc' := 221) (st := []) hw_16 X gL_cranks_X5_time (Nat.le_of_ble_eq_true rfl) ⟨Nat.le_of_ble_eq_true rfl, Nat.le_of_ble_eq_true rfl⟩ ⟨Nat.le_of_ble_eq_true rfl, Nat.le_of_ble_eq_true rfl⟩ dL_cranks_218 rfl (fun w_17 hw_17 => ?_)
        refine V_iload (pc' := 223) 5 X dL_cranks_221 rfl rfl ?_
        refine V_icmp_ne (pc' := 226) (C := (nI ((stkN 3 S m) 48)) = (nI (stkN 3 S m 48))) 230 X dL_cranks_223 (by decide) rfl Iff.rfl (fun hz => absurd (congrArg nI rfl) hz) (fun _ => ?_)
        refine V_iconst (pc' := 227) (nI 1) X dL_cranks_226 ki_1 rfl ?_
        refine V_goto (pc' := 231) X dL_cranks_227 (by decide) ?_
        exact V_ireturn (v := nI 1) [w_17] hQ X hrt rfl dL_cranks_231 (Nat.le_of_ble_eq_true rfl) (Nat.le_of_ble_eq_true rfl) (List.Perm.refl _) ⟨rfl, _, _, _, _, w_17, hw_17.mono (by omega), va_up_ne _ _ (by decide), rfl⟩
      · intro i hi_i ih n' T' wl_2 hl_2
        show V E G A 11 [wl_2] 7 77 Q 80 [(0, .ref x), (1, .int (nI m)), (4, .int (nI (stkN 3 S m 70 - S 70))), (5, .int (nI (stkN 3 S m 70))), (6, .int (nI (stkN 3 S m 59))), (7, .int (nI (stkN 3 S m 48))), (8, .int (nI 1)), (9, .int (nI (stkN 3 S i 70 - S 70))), (10, .int (nI i))] []
        have hbz : stkN 3 S i 70 - S 70 ≤ 10 * i := stkN_lin S i
        have hbz2 := stkN_lin S (i + 1)
        refine V_iload (pc' := 82) 8 X dL_cranks_80 rfl rfl ?_
        refine V_iload_n (pc' := 83) 1 X dL_cranks_82 rfl rfl rfl ?_
        refine V_icmp_ge (pc' := 86) (C := m ≤ i) 125 X dL_cranks_83 (by decide) rfl (nI_leI (by omega) (by omega)) (fun hz => absurd hz (by omega)) (fun _ => ?_)
        refine V_iload (pc' := 88) 8 X dL_cranks_86 rfl rfl ?_
        refine V_bipush (pc' := 90) (nI 40) X dL_cranks_88 kb_40 rfl ?_
        refine V_icmp_ge (pc' := 93) (C := 40 ≤ i) 125 X dL_cranks_90 (by decide) rfl (nI_leI (by omega) (by omega)) (fun hz => absurd hz (by omega)) (fun _ => ?_)
        refine V_iload (pc' := 95) 6 X dL_cranks_93 rfl rfl ?_
        refine V_if_eq (pc' := 98) (C := 1 = 0) 125 X dL_cranks_95 (by decide) rfl (z_eq0 (by omega)) (fun hz => absurd hz (by decide)) (fun _ => ?_)
        refine V_iload (pc' := 100) 7 X dL_cranks_98 rfl rfl ?_
        refine V_aload_n (pc' := 101) 0 X dL_cranks_100 rfl rfl rfl ?_
        refine V_callS (pc' := 104) (As := [.ref x]) (st := [.int (nI (stkN 3 S i 70 - S 70))]) [0] [] (List.Perm.refl _) X (c_L_one l G x (K + m + i) (stkN 3 S i) n' T' (va_up P 1 (some S)) wl_2 hl_2 (by omega)) rfl gL_cranks_L_one rfl rfl (Nat.le_of_ble_eq_true rfl) ⟨Nat.le_of_ble_eq_true rfl, Nat.le_of_ble_eq_true rfl⟩ ⟨Nat.le_of_ble_eq_true rfl, Nat.le_of_ble_eq_true rfl⟩ dL_cranks_101 rfl (fun v_ u_ hp_ => ?_)
        obtain ⟨rfl, w_18, hw_18, rfl⟩ := hp_
        show V E G A 11 [w_18] 7 77 Q 104 [(0, .ref x), (1, .int (nI m)), (4, .int (nI (stkN 3 S m 70 - S 70))), (5, .int (nI (stkN 3 S m 70))), (6, .int (nI (stkN 3 S m 59))), (7, .int (nI (stkN 3 S m 48))), (8, .int (nI 1)), (9, .int (nI (stkN 3 S i 70 - S 70))), (10, .int (nI i))] [.int (nI (cnt (hs (stkN 3 S i)))), .int (nI (stkN 3 S i 70 - S 70))]
        refine V_iadd (pc' := 105) (nI (stkN 3 S (i + 1) 70 - S 70)) X dL_cranks_104 ((nI_add _ _).trans (congrArg nI (by have := h70 i; have e : stkN 3 S (i + 1) 70 = stkN 3 S i 70 + cnt (hs (stkN 3 S i)) := rfl; omega))) rfl ?_
        refine V_istore (pc' := 107) [(0, .ref x), (1, .int (nI m)), (4, .int (nI (stkN 3 S m 70 - S 70))), (5, .int (nI (stkN 3 S m 70))), (6, .int (nI (stkN 3 S m 59))), (7, .int (nI (stkN 3 S m 48))), (8, .int (nI 1)), (9, .int (nI (stkN 3 S (i + 1) 70 - S 70))), (10, .int (nI i))] [1, 2, 3, 4, 5, 6, 7, 0, 8] X dL_cranks_105 (Nat.le_of_ble_eq_true rfl) rfl rfl ?_
        refine V_iload (pc' := 109) 7 X dL_cranks_107 rfl rfl ?_
        refine V_if_lt (pc' := 112) (C := False) 116 X dL_cranks_109 (by decide) rfl (z_lt0 (by omega)) (fun hz => absurd hz (by decide)) (fun _ => ?_)
        refine V_iconst (pc' := 113) (nI 1) X dL_cranks_112 ki_1 rfl ?_
        refine V_goto (pc' := 117) X dL_cranks_113 (by decide) ?_
        refine V_istore (pc' := 119) [(0, .ref x), (1, .int (nI m)), (4, .int (nI (stkN 3 S m 70 - S 70))), (5, .int (nI (stkN 3 S m 70))), (6, .int (nI (stkN 3 S m 59))), (7, .int (nI (stkN 3 S m 48))), (8, .int (nI 1)), (9, .int (nI (stkN 3 S (i + 1) 70 - S 70))), (10, .int (nI i))] [1, 2, 3, 4, 5, 6, 0, 7, 8] X dL_cranks_117 (Nat.le_of_ble_eq_true rfl) rfl rfl ?_
        refine V_iinc (pc' := 122) [(0, .ref x), (1, .int (nI m)), (4, .int (nI (stkN 3 S m 70 - S 70))), (5, .int (nI (stkN 3 S m 70))), (6, .int (nI (stkN 3 S m 59))), (7, .int (nI (stkN 3 S m 48))), (8, .int (nI 1)), (9, .int (nI (stkN 3 S (i + 1) 70 - S 70))), (10, .int (nI (i + 1)))] 8 [1, 2, 3, 4, 5, 6, 7, 8, 0] X dL_cranks_119 rfl (nI_i1 _) (Nat.le_of_ble_eq_true rfl) rfl rfl ?_
        refine V_goto (pc' := 80) X dL_cranks_122 (by decide) ?_
        exact ih _ _ w_18 hw_18
    refine V_lv [0, 1, 4, 5, 6, 7, 8, 9, 10] [(0, .ref x), (1, .int (nI m)), (4, .int (nI (stkN 3 S m 70 - S 70))), (5, .int (nI ((stkN 3 S m) 70))), (6, .int (nI ((stkN 3 S m) 59))), (7, .int (nI ((stkN 3 S m) 48))), (8, .int (nI 1)), (9, .int (nI 0)), (10, .int (nI 0))] rfl ?_
    have h0_ := lp_2 0 (Nat.zero_le _) _ _ w_9 hw_9
    rw [show stkN 3 S 0 70 - S 70 = 0 from Nat.sub_self _] at h0_
    exact h0_
