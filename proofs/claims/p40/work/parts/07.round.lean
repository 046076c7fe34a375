/-! the round: what would be heard, column by column -/
def rsp (c : Nat) (S : Nat → Nat) (B : Nat) : Nat → (Nat → Nat)
  | 0 => fun _ => c
  | i + 1 => swg c (rsp c S B i) (hr (S i) (rsp c S B i) (fun k => S (36 + k)) B 10).1
def rh (c : Nat) (S : Nat → Nat) (B i : Nat) : Nat := (hr (S i) (rsp c S B i) (fun k => S (36 + k)) B 10).1
theorem rsp_succ (c : Nat) (S : Nat → Nat) (B i : Nat) : rsp c S B (i + 1) = swg c (rsp c S B i) (rh c S B i) := rfl
theorem rh_lt (c : Nat) (S : Nat → Nat) (B i : Nat) : rh c S B i < 1024 := hr_lt _ _ _ _ 10
theorem rsp_le (c : Nat) (S : Nat → Nat) (B : Nat) : ∀ i k, rsp c S B i k ≤ c
  | 0, _ => Nat.le_refl _
  | _ + 1, _ => swg_le
theorem cnt_le (n : Nat) : cnt n ≤ 10 := sm_le (c := 1) (fun k _ => by have := bq_lt n k; omega)
def RN (G : gT) (r H g : Nat → Nat) : va_W := [(r 0, .inr (4, [.ref (r 1), .ref (r 2)])), (r 1, .inl (G.2 0, 32, .inl (nf H))), (r 2, .inr (1, [.ref (r 3)])), (r 3, .inl (G.2 0, 10, .inl (nf g)))]

set_option maxHeartbeats 4000000 in
set_option maxRecDepth 100000 in
theorem c_X4_init (l : Launch) (G : gT) (d : Nat) : CM l G yX4_init wsX4_init 3 63 0 [.ref d] [[(d, .inr (4, [.null, .null]))]] 4 45 (fun v u => ∃ r H g : Nat → Nat, r 0 = d ∧ v = none ∧ u = [RN G r H g]) := by
  refine CM_of RX4 2 43 rfl rfl (by decide) (by decide +kernel) (Nat.le_of_ble_eq_true rfl) (fun E A X hrt hnm => ?_)
  have hin : (e_h E).name = "<init>" := hnm
  have F9 := Fld_of (idx := 9) 4 0 X (by decide) (by decide) (by decide +kernel) (by decide +kernel)
  have F18 := Fld_of (idx := 18) 4 1 X (by decide) (by decide) (by decide +kernel) (by decide +kernel)
  generalize hQ : QM E G A _ _ _ = Q
  show V E G A 1 [[(d, .inr (4, [.null, .null]))]] 0 0 Q 0 [(0, .ref d)] []
  refine V_aload_n (pc' := 1) 0 X dX4_init_0 rfl rfl rfl ?_
  refine V_obj (pc' := 4) X (by decide +kernel) (by decide +kernel) (by decide +kernel) dX4_init_1 (Nat.le_of_ble_eq_true rfl) (Nat.le_of_ble_eq_true rfl) rfl ?_
  refine V_aload_n (pc' := 5) 0 X dX4_init_4 rfl rfl rfl ?_
  refine V_bipush (pc' := 7) (nI 32) X dX4_init_5 kb_32 rfl ?_
  refine V_newi (pc' := 9) (n := 32) X (by decide +kernel) (by decide) (Nat.le_of_ble_eq_true rfl) (Nat.le_of_ble_eq_true rfl) dX4_init_7 rfl (fun q_1 => ?_)
  show V E G A 1 [[(d, .inr (4, [.null, .null]))], [(q_1, .inl (G.2 0, 32, .inl (fun _ => 0)))]] 1 32 Q 9 [(0, .ref d)] [.ref q_1, .ref d]
  refine V_putF (pc' := 12) 0 [[(d, .inr (4, [.ref q_1, .null]))], [(q_1, .inl (G.2 0, 32, .inl (fun _ => 0)))]] X F9 rfl rfl hin rfl rfl rfl (Nat.le_of_ble_eq_true rfl) rfl dX4_init_9 rfl ?_
  refine V_aload_n (pc' := 13) 0 X dX4_init_12 rfl rfl rfl ?_
  refine V_new (pc' := 16) 1 [.null] X (by decide) (by decide +kernel) (by decide +kernel) (by decide +kernel) (by decide +kernel) (fun j hj => by have hj : j < 1 := hj; rcases (show j = 0 by omega) with rfl <;> rfl) (Nat.le_of_ble_eq_true rfl) (Nat.le_of_ble_eq_true rfl) dX4_init_13 rfl (fun q_2 => ?_)
  show V E G A 1 [[(d, .inr (4, [.ref q_1, .null]))], [(q_1, .inl (G.2 0, 32, .inl (fun _ => 0)))], [(q_2, .inr (1, [.null]))]] 2 33 Q 16 [(0, .ref d)] [.ref q_2, .ref d]
  refine V_dup (pc' := 17) X dX4_init_16 rfl rfl ?_
  refine V_callI (pc' := 20) (As := []) (st := [.ref q_2, .ref d]) [2] [0, 1] (show (List.range 3).Perm ([2] ++ [0, 1]) by decide) X (c_X1_init l G q_2) rfl gX4_init_X1_init (by decide +kernel) (by decide +kernel) (by decide +kernel) rfl (fun _ _ _ _ h => (Cond.code.inj (List.cons.inj h).1).2.2.2.symm) rfl rfl (Nat.le_of_ble_eq_true rfl) ⟨Nat.le_of_ble_eq_true rfl, Nat.le_of_ble_eq_true rfl⟩ ⟨Nat.le_of_ble_eq_true rfl, Nat.le_of_ble_eq_true rfl⟩ dX4_init_17 rfl (fun v_ u_ hp_ => ?_)
  obtain ⟨rr_3, rfl, rfl⟩ := hp_
  show V E G A 1 [[(d, .inr (4, [.ref q_1, .null]))], [(q_1, .inl (G.2 0, 32, .inl (fun _ => 0)))], HM G q_2 rr_3 (fun _ => 3)] 3 43 Q 20 [(0, .ref d)] [.ref q_2, .ref d]
  refine V_putF (pc' := 23) 0 [[(d, .inr (4, [.ref q_1, .ref q_2]))], [(q_1, .inl (G.2 0, 32, .inl (fun _ => 0)))], HM G q_2 rr_3 (fun _ => 3)] X F18 rfl rfl hin rfl rfl rfl (Nat.le_of_ble_eq_true rfl) rfl dX4_init_20 rfl ?_
  refine V_ws [[(d, .inr (4, [.ref q_1, .ref q_2]))], [(q_1, .inl (G.2 0, 32, .inl (fun _ => 0)))], [(q_2, .inr (1, [.ref rr_3])), (rr_3, .inl (G.2 0, 10, .inl (nf (fun _ => 3))))]] rfl ?_
  refine V_ws [[(d, .inr (4, [.ref q_1, .ref q_2]))], [(q_1, .inl (G.2 0, 32, .inl (fun _ => 0)))], [(q_2, .inr (1, [.ref rr_3]))], [(rr_3, .inl (G.2 0, 10, .inl (nf (fun _ => 3))))]] rfl ?_
  refine V_wsq [RN G (fun k => ([d, q_1, q_2, rr_3].getD k 0)) (fun _ => 0) (fun _ => 3)] (wsq.cons (weq.rf _) (wsq.cons (weq.row (fun k hk => nI_0.symm)) (wsq.cons (weq.rf _) (wsq.cons (weq.rf _) (wsq.rf _))))) ?_
  exact V_return [RN G (fun k => ([d, q_1, q_2, rr_3].getD k 0)) (fun _ => 0) (fun _ => 3)] hQ X hrt dX4_init_23 (Nat.le_of_ble_eq_true rfl) (Nat.le_of_ble_eq_true rfl) (List.Perm.refl _) ⟨_, _, _, rfl, rfl, rfl⟩

set_option maxHeartbeats 4000000 in
set_option maxRecDepth 100000 in
theorem c_X4_play (l : Launch) (G : gT) (r H g a S : Nat → Nat) (B : Nat) (hI : IV S) (hB : B ≤ 601) : CM l G yX4_play wsX4_play 3 74 2 [.ref (r 0), .ref (a 0), .int (nI B)] [RN G r H g, DW G a S] 0 0 (fun v u => v = some (.int (nI (sm (fun k => cnt (rh 3 S B k)) 32))) ∧ u = [RN G r (rh 3 S B) (rsp 3 S B 32), DW G a S]) := by
  refine CM_of RX4 2 49 rfl rfl (by decide) (by decide +kernel) (Nat.le_of_ble_eq_true rfl) (fun E A X hrt hnm => ?_)
  have F9 := Fld_of (idx := 9) 4 0 X (by decide) (by decide) (by decide +kernel) (by decide +kernel)
  have F18 := Fld_of (idx := 18) 4 1 X (by decide) (by decide) (by decide +kernel) (by decide +kernel)
  have F25 := Fld_of (idx := 25) 0 0 X (by decide) (by decide) (by decide +kernel) (by decide +kernel)
  have F30 := Fld_of (idx := 30) 0 2 X (by decide) (by decide) (by decide +kernel) (by decide +kernel)
  generalize hQ : QM E G A _ _ _ = Q
  obtain ⟨i1, i2, i3, i4, i5, i6⟩ := id hI
  refine V_ws [[((r 0), .inr (4, [.ref (r 1), .ref (r 2)]))], [((r 1), .inl (G.2 0, 32, .inl (nf H)))], HM G (r 2) (r 3) g, [((a 0), .inr (0, [.ref (a 1), .ref (a 2), .ref (a 3), .ref (a 4), .ref (a 5), .int (nI (S 46)), .int (nI (S 47)), .int (nI (S 48)), .int (nI (S 70)), .int (nI (S 59))]))], [((a 1), .inl (G.2 0, 32, .inl (nf S)))], [((a 2), .inl (G.2 0, 4, .inl (nf (fun k => S (32 + k)))))], [((a 3), .inl (G.2 0, 10, .inl (nf (fun k => S (36 + k)))))], [((a 4), .inl (G.2 0, 10, .inl (nf (fun k => S (49 + k)))))], HM G (a 5) (a 6) (fun k => S (60 + k))] rfl ?_
  refine V_aload_n (pc' := 1) 0 X dX4_play_0 rfl rfl rfl ?_
  refine V_get (pc' := 4) 0 X F18 rfl rfl dX4_play_1 rfl ?_
  refine V_callV (pc' := 7) (As := []) (st := []) 1 2 [2] [0, 1, 3, 4, 5, 6, 7, 8] (show (List.range 9).Perm ([2] ++ [0, 1, 3, 4, 5, 6, 7, 8]) by decide) X (c_X1_allBack l G (r 2) (r 3) g) rfl gX4_play_X1_allBack rfl (by decide) rfl rfl rfl (Nat.le_of_ble_eq_true rfl) ⟨Nat.le_of_ble_eq_true rfl, Nat.le_of_ble_eq_true rfl⟩ ⟨Nat.le_of_ble_eq_true rfl, Nat.le_of_ble_eq_true rfl⟩ dX4_play_4 rfl (fun v_ u_ hp_ => ?_)
  obtain ⟨rfl, rfl⟩ := hp_
  show V E G A 6 [[((r 0), .inr (4, [.ref (r 1), .ref (r 2)]))], [((r 1), .inl (G.2 0, 32, .inl (nf H)))], [((a 0), .inr (0, [.ref (a 1), .ref (a 2), .ref (a 3), .ref (a 4), .ref (a 5), .int (nI (S 46)), .int (nI (S 47)), .int (nI (S 48)), .int (nI (S 70)), .int (nI (S 59))]))], [((a 1), .inl (G.2 0, 32, .inl (nf S)))], [((a 2), .inl (G.2 0, 4, .inl (nf (fun k => S (32 + k)))))], [((a 3), .inl (G.2 0, 10, .inl (nf (fun k => S (36 + k)))))], [((a 4), .inl (G.2 0, 10, .inl (nf (fun k => S (49 + k)))))], HM G (a 5) (a 6) (fun k => S (60 + k)), HM G (r 2) (r 3) (fun _ => 3)] 0 0 Q 7 [(0, .ref (r 0)), (1, .ref (a 0)), (2, .int (nI B))] []
  refine V_ord [0, 1, 8, 2, 3, 4, 5, 6, 7] [[((r 0), .inr (4, [.ref (r 1), .ref (r 2)]))], [((r 1), .inl (G.2 0, 32, .inl (nf H)))], HM G (r 2) (r 3) (fun _ => 3), [((a 0), .inr (0, [.ref (a 1), .ref (a 2), .ref (a 3), .ref (a 4), .ref (a 5), .int (nI (S 46)), .int (nI (S 47)), .int (nI (S 48)), .int (nI (S 70)), .int (nI (S 59))]))], [((a 1), .inl (G.2 0, 32, .inl (nf S)))], [((a 2), .inl (G.2 0, 4, .inl (nf (fun k => S (32 + k)))))], [((a 3), .inl (G.2 0, 10, .inl (nf (fun k => S (36 + k)))))], [((a 4), .inl (G.2 0, 10, .inl (nf (fun k => S (49 + k)))))], HM G (a 5) (a 6) (fun k => S (60 + k))] (show (List.range 9).Perm [0, 1, 8, 2, 3, 4, 5, 6, 7] by decide) rfl ?_
  refine V_iconst (pc' := 8) (nI 0) X dX4_play_7 ki_0 rfl ?_
  refine V_istore_n (pc' := 9) [(0, .ref (r 0)), (1, .ref (a 0)), (2, .int (nI B)), (3, .int (nI 0))] [1, 2, 3, 0] X dX4_play_8 rfl (Nat.le_of_ble_eq_true rfl) rfl rfl ?_
  refine V_iconst (pc' := 10) (nI 0) X dX4_play_9 ki_0 rfl ?_
  refine V_istore (pc' := 12) [(0, .ref (r 0)), (1, .ref (a 0)), (2, .int (nI B)), (3, .int (nI 0)), (4, .int (nI 0))] [1, 2, 3, 4, 0] X dX4_play_10 (Nat.le_of_ble_eq_true rfl) rfl rfl ?_
  have lp_1 : ∀ i, i ≤ 32 → V E G A 6 [[((r 0), .inr (4, [.ref (r 1), .ref (r 2)]))], [((r 1), .inl (G.2 0, 32, .inl (nf (upN H (rh 3 S B) i))))], HM G (r 2) (r 3) (rsp 3 S B i), [((a 0), .inr (0, [.ref (a 1), .ref (a 2), .ref (a 3), .ref (a 4), .ref (a 5), .int (nI (S 46)), .int (nI (S 47)), .int (nI (S 48)), .int (nI (S 70)), .int (nI (S 59))]))], [((a 1), .inl (G.2 0, 32, .inl (nf S)))], [((a 2), .inl (G.2 0, 4, .inl (nf (fun k => S (32 + k)))))], [((a 3), .inl (G.2 0, 10, .inl (nf (fun k => S (36 + k)))))], [((a 4), .inl (G.2 0, 10, .inl (nf (fun k => S (49 + k)))))], HM G (a 5) (a 6) (fun k => S (60 + k))] 0 0 Q 12 [(0, .ref (r 0)), (1, .ref (a 0)), (2, .int (nI B)), (3, .int (nI (sm (fun k => cnt (rh 3 S B k)) i))), (4, .int (nI i))] [] := by
    refine loopD 32 ?_ ?_
    · show V E G A 6 [[((r 0), .inr (4, [.ref (r 1), .ref (r 2)]))], [((r 1), .inl (G.2 0, 32, .inl (nf (upN H (rh 3 S B) 32))))], HM G (r 2) (r 3) (rsp 3 S B 32), [((a 0), .inr (0, [.ref (a 1), .ref (a 2), .ref (a 3), .ref (a 4), .ref (a 5), .int (nI (S 46)), .int (nI (S 47)), .int (nI (S 48)), .int (nI (S 70)), .int (nI (S 59))]))], [((a 1), .inl (G.2 0, 32, .inl (nf S)))], [((a 2), .inl (G.2 0, 4, .inl (nf (fun k => S (32 + k)))))], [((a 3), .inl (G.2 0, 10, .inl (nf (fun k => S (36 + k)))))], [((a 4), .inl (G.2 0, 10, .inl (nf (fun k => S (49 + k)))))], HM G (a 5) (a 6) (fun k => S (60 + k))] 0 0 Q 12 [(0, .ref (r 0)), (1, .ref (a 0)), (2, .int (nI B)), (3, .int (nI (sm (fun k => cnt (rh 3 S B k)) 32))), (4, .int (nI 32))] []
      refine V_iload (pc' := 14) 4 X dX4_play_12 rfl rfl ?_
      refine V_bipush (pc' := 16) (nI 32) X dX4_play_14 kb_32 rfl ?_
      refine V_icmp_ge (pc' := 19) (C := 32 ≤ 32) 72 X dX4_play_16 (by decide) rfl (nI_leI (by omega) (by omega)) (fun _ => ?_) (fun hz => absurd (by omega) hz)
      refine V_iload_n (pc' := 73) 3 X dX4_play_72 rfl rfl rfl ?_
      refine V_wsq [[((r 0), .inr (4, [.ref (r 1), .ref (r 2)]))], [((r 1), .inl (G.2 0, 32, .inl (nf (rh 3 S B))))], HM G (r 2) (r 3) (rsp 3 S B 32), [((a 0), .inr (0, [.ref (a 1), .ref (a 2), .ref (a 3), .ref (a 4), .ref (a 5), .int (nI (S 46)), .int (nI (S 47)), .int (nI (S 48)), .int (nI (S 70)), .int (nI (S 59))]))], [((a 1), .inl (G.2 0, 32, .inl (nf S)))], [((a 2), .inl (G.2 0, 4, .inl (nf (fun k => S (32 + k)))))], [((a 3), .inl (G.2 0, 10, .inl (nf (fun k => S (36 + k)))))], [((a 4), .inl (G.2 0, 10, .inl (nf (fun k => S (49 + k)))))], HM G (a 5) (a 6) (fun k => S (60 + k))] (wsq.cons (weq.rf _) (wsq.cons (weq.row (fun k hk => by show nI (upN H (rh 3 S B) 32 k) = nI (rh 3 S B k); rw [upN_in hk])) (wsq.rf _))) ?_
      refine V_ws [RN G r (rh 3 S B) (rsp 3 S B 32), DW G a S] rfl ?_
      exact V_ireturn (v := nI (sm (fun k => cnt (rh 3 S B k)) 32)) [RN G r (rh 3 S B) (rsp 3 S B 32), DW G a S] hQ X hrt rfl dX4_play_73 (Nat.le_of_ble_eq_true rfl) (Nat.le_of_ble_eq_true rfl) (List.Perm.refl _) ⟨rfl, rfl⟩
    · intro i hi_i ih
      show V E G A 6 [[((r 0), .inr (4, [.ref (r 1), .ref (r 2)]))], [((r 1), .inl (G.2 0, 32, .inl (nf (upN H (rh 3 S B) i))))], HM G (r 2) (r 3) (rsp 3 S B i), [((a 0), .inr (0, [.ref (a 1), .ref (a 2), .ref (a 3), .ref (a 4), .ref (a 5), .int (nI (S 46)), .int (nI (S 47)), .int (nI (S 48)), .int (nI (S 70)), .int (nI (S 59))]))], [((a 1), .inl (G.2 0, 32, .inl (nf S)))], [((a 2), .inl (G.2 0, 4, .inl (nf (fun k => S (32 + k)))))], [((a 3), .inl (G.2 0, 10, .inl (nf (fun k => S (36 + k)))))], [((a 4), .inl (G.2 0, 10, .inl (nf (fun k => S (49 + k)))))], HM G (a 5) (a 6) (fun k => S (60 + k))] 0 0 Q 12 [(0, .ref (r 0)), (1, .ref (a 0)), (2, .int (nI B)), (3, .int (nI (sm (fun k => cnt (rh 3 S B k)) i))), (4, .int (nI i))] []
      have hri := rh_lt 3 S B i
      have hsm := sm_le (f := fun k => cnt (rh 3 S B k)) (n := i) (fun k _ => cnt_le _)
      have hci := cnt_le (rh 3 S B i)
      refine V_iload (pc' := 14) 4 X dX4_play_12 rfl rfl ?_
      refine V_bipush (pc' := 16) (nI 32) X dX4_play_14 kb_32 rfl ?_
      refine V_icmp_ge (pc' := 19) (C := 32 ≤ i) 72 X dX4_play_16 (by decide) rfl (nI_leI (by omega) (by omega)) (fun hz => absurd hz (by omega)) (fun _ => ?_)
      refine V_aload_n (pc' := 20) 0 X dX4_play_19 rfl rfl rfl ?_
      refine V_get (pc' := 23) 0 X F18 rfl rfl dX4_play_20 rfl ?_
      refine V_aload_n (pc' := 24) 1 X dX4_play_23 rfl rfl rfl ?_
      refine V_get (pc' := 27) 4 X F25 rfl rfl dX4_play_24 rfl ?_
      refine V_iload (pc' := 29) 4 X dX4_play_27 rfl rfl ?_
      refine V_iald (pc' := 30) (v := nI (S i)) 5 i X rfl (by omega) (by decide) rfl dX4_play_29 rfl ?_
      refine V_aload_n (pc' := 31) 1 X dX4_play_30 rfl rfl rfl ?_
      refine V_get (pc' := 34) 4 X F30 rfl rfl dX4_play_31 rfl ?_
      refine V_iload_n (pc' := 35) 2 X dX4_play_34 rfl rfl rfl ?_
      refine V_callV (pc' := 38) (As := [.int (nI (S i)), .ref (a 3), .int (nI B)]) (st := []) 1 2 [2, 6] [0, 1, 3, 4, 5, 7, 8] (show (List.range 9).Perm ([2, 6] ++ [0, 1, 3, 4, 5, 7, 8]) by decide) X (c_X1_heardOutOf l G (r 2) (r 3) (S i) (a 3) B (rsp 3 S B i) (fun k => S (36 + k)) (i1 _ hi_i) (fun k _ => Nat.le_trans (rsp_le 3 S B i k) (by decide)) i3 (by omega)) rfl gX4_play_X1_heardOutOf rfl (by decide) rfl rfl rfl (Nat.le_of_ble_eq_true rfl) ⟨Nat.le_of_ble_eq_true rfl, Nat.le_of_ble_eq_true rfl⟩ ⟨Nat.le_of_ble_eq_true rfl, Nat.le_of_ble_eq_true rfl⟩ dX4_play_35 rfl (fun v_ u_ hp_ => ?_)
      obtain ⟨rfl, rfl⟩ := hp_
      show V E G A 6 [[((r 0), .inr (4, [.ref (r 1), .ref (r 2)]))], [((r 1), .inl (G.2 0, 32, .inl (nf (upN H (rh 3 S B) i))))], [((a 0), .inr (0, [.ref (a 1), .ref (a 2), .ref (a 3), .ref (a 4), .ref (a 5), .int (nI (S 46)), .int (nI (S 47)), .int (nI (S 48)), .int (nI (S 70)), .int (nI (S 59))]))], [((a 1), .inl (G.2 0, 32, .inl (nf S)))], [((a 2), .inl (G.2 0, 4, .inl (nf (fun k => S (32 + k)))))], [((a 4), .inl (G.2 0, 10, .inl (nf (fun k => S (49 + k)))))], HM G (a 5) (a 6) (fun k => S (60 + k)), HM G (r 2) (r 3) (rsp 3 S B i), [((a 3), .inl (G.2 0, 10, .inl (nf (fun k => S (36 + k)))))]] 0 0 Q 38 [(0, .ref (r 0)), (1, .ref (a 0)), (2, .int (nI B)), (3, .int (nI (sm (fun k => cnt (rh 3 S B k)) i))), (4, .int (nI i))] [.int (nI (rh 3 S B i))]
      refine V_ord [0, 1, 7, 2, 3, 4, 8, 5, 6] [[((r 0), .inr (4, [.ref (r 1), .ref (r 2)]))], [((r 1), .inl (G.2 0, 32, .inl (nf (upN H (rh 3 S B) i))))], HM G (r 2) (r 3) (rsp 3 S B i), [((a 0), .inr (0, [.ref (a 1), .ref (a 2), .ref (a 3), .ref (a 4), .ref (a 5), .int (nI (S 46)), .int (nI (S 47)), .int (nI (S 48)), .int (nI (S 70)), .int (nI (S 59))]))], [((a 1), .inl (G.2 0, 32, .inl (nf S)))], [((a 2), .inl (G.2 0, 4, .inl (nf (fun k => S (32 + k)))))], [((a 3), .inl (G.2 0, 10, .inl (nf (fun k => S (36 + k)))))], [((a 4), .inl (G.2 0, 10, .inl (nf (fun k => S (49 + k)))))], HM G (a 5) (a 6) (fun k => S (60 + k))] (show (List.range 9).Perm [0, 1, 7, 2, 3, 4, 8, 5, 6] by decide) rfl ?_
      refine V_istore (pc' := 40) [(0, .ref (r 0)), (1, .ref (a 0)), (2, .int (nI B)), (3, .int (nI (sm (fun k => cnt (rh 3 S B k)) i))), (4, .int (nI i)), (5, .int (nI (rh 3 S B i)))] [1, 2, 3, 4, 5, 0] X dX4_play_38 (Nat.le_of_ble_eq_true rfl) rfl rfl ?_
      refine V_aload_n (pc' := 41) 0 X dX4_play_40 rfl rfl rfl ?_
      refine V_get (pc' := 44) 0 X F18 rfl rfl dX4_play_41 rfl ?_
      refine V_iload (pc' := 46) 5 X dX4_play_44 rfl rfl ?_
      refine V_callV (pc' := 49) (As := [.int (nI (rh 3 S B i))]) (st := []) 1 2 [2] [0, 1, 3, 4, 5, 6, 7, 8] (show (List.range 9).Perm ([2] ++ [0, 1, 3, 4, 5, 6, 7, 8]) by decide) X (c_X1_swing l G (r 2) (r 3) (rh 3 S B i) (rsp 3 S B i) hri (fun k _ => Nat.le_trans (rsp_le 3 S B i k) (by decide))) rfl gX4_play_X1_swing rfl (by decide) rfl rfl rfl (Nat.le_of_ble_eq_true rfl) ⟨Nat.le_of_ble_eq_true rfl, Nat.le_of_ble_eq_true rfl⟩ ⟨Nat.le_of_ble_eq_true rfl, Nat.le_of_ble_eq_true rfl⟩ dX4_play_46 rfl (fun v_ u_ hp_ => ?_)
      obtain ⟨rfl, rfl⟩ := hp_
      show V E G A 6 [[((r 0), .inr (4, [.ref (r 1), .ref (r 2)]))], [((r 1), .inl (G.2 0, 32, .inl (nf (upN H (rh 3 S B) i))))], [((a 0), .inr (0, [.ref (a 1), .ref (a 2), .ref (a 3), .ref (a 4), .ref (a 5), .int (nI (S 46)), .int (nI (S 47)), .int (nI (S 48)), .int (nI (S 70)), .int (nI (S 59))]))], [((a 1), .inl (G.2 0, 32, .inl (nf S)))], [((a 2), .inl (G.2 0, 4, .inl (nf (fun k => S (32 + k)))))], [((a 3), .inl (G.2 0, 10, .inl (nf (fun k => S (36 + k)))))], [((a 4), .inl (G.2 0, 10, .inl (nf (fun k => S (49 + k)))))], HM G (a 5) (a 6) (fun k => S (60 + k)), HM G (r 2) (r 3) (rsp 3 S B (i + 1))] 0 0 Q 49 [(0, .ref (r 0)), (1, .ref (a 0)), (2, .int (nI B)), (3, .int (nI (sm (fun k => cnt (rh 3 S B k)) i))), (4, .int (nI i)), (5, .int (nI (rh 3 S B i)))] []
      refine V_ord [0, 1, 8, 2, 3, 4, 5, 6, 7] [[((r 0), .inr (4, [.ref (r 1), .ref (r 2)]))], [((r 1), .inl (G.2 0, 32, .inl (nf (upN H (rh 3 S B) i))))], HM G (r 2) (r 3) (rsp 3 S B (i + 1)), [((a 0), .inr (0, [.ref (a 1), .ref (a 2), .ref (a 3), .ref (a 4), .ref (a 5), .int (nI (S 46)), .int (nI (S 47)), .int (nI (S 48)), .int (nI (S 70)), .int (nI (S 59))]))], [((a 1), .inl (G.2 0, 32, .inl (nf S)))], [((a 2), .inl (G.2 0, 4, .inl (nf (fun k => S (32 + k)))))], [((a 3), .inl (G.2 0, 10, .inl (nf (fun k => S (36 + k)))))], [((a 4), .inl (G.2 0, 10, .inl (nf (fun k => S (49 + k)))))], HM G (a 5) (a 6) (fun k => S (60 + k))] (show (List.range 9).Perm [0, 1, 8, 2, 3, 4, 5, 6, 7] by decide) rfl ?_
      refine V_aload_n (pc' := 50) 0 X dX4_play_49 rfl rfl rfl ?_
      refine V_get (pc' := 53) 0 X F9 rfl rfl dX4_play_50 rfl ?_
      refine V_iload (pc' := 55) 4 X dX4_play_53 rfl rfl ?_
      refine V_iload (pc' := 57) 5 X dX4_play_55 rfl rfl ?_
      refine V_iast (pc' := 58) 1 i [[((r 0), .inr (4, [.ref (r 1), .ref (r 2)]))], [((r 1), .inl (G.2 0, 32, .inl (upd (nf (upN H (rh 3 S B) i)) i (nI (rh 3 S B i)))))], HM G (r 2) (r 3) (rsp 3 S B (i + 1)), [((a 0), .inr (0, [.ref (a 1), .ref (a 2), .ref (a 3), .ref (a 4), .ref (a 5), .int (nI (S 46)), .int (nI (S 47)), .int (nI (S 48)), .int (nI (S 70)), .int (nI (S 59))]))], [((a 1), .inl (G.2 0, 32, .inl (nf S)))], [((a 2), .inl (G.2 0, 4, .inl (nf (fun k => S (32 + k)))))], [((a 3), .inl (G.2 0, 10, .inl (nf (fun k => S (36 + k)))))], [((a 4), .inl (G.2 0, 10, .inl (nf (fun k => S (49 + k)))))], HM G (a 5) (a 6) (fun k => S (60 + k))] X rfl (by omega) (by decide) rfl dX4_play_57 rfl ?_
      refine V_ws [[((r 0), .inr (4, [.ref (r 1), .ref (r 2)]))], [((r 1), .inl (G.2 0, 32, .inl (nf (va_up (upN H (rh 3 S B) i) i (rh 3 S B i)))))], HM G (r 2) (r 3) (rsp 3 S B (i + 1)), [((a 0), .inr (0, [.ref (a 1), .ref (a 2), .ref (a 3), .ref (a 4), .ref (a 5), .int (nI (S 46)), .int (nI (S 47)), .int (nI (S 48)), .int (nI (S 70)), .int (nI (S 59))]))], [((a 1), .inl (G.2 0, 32, .inl (nf S)))], [((a 2), .inl (G.2 0, 4, .inl (nf (fun k => S (32 + k)))))], [((a 3), .inl (G.2 0, 10, .inl (nf (fun k => S (36 + k)))))], [((a 4), .inl (G.2 0, 10, .inl (nf (fun k => S (49 + k)))))], HM G (a 5) (a 6) (fun k => S (60 + k))] (by simp only [nf_upd]) ?_
      refine V_iload_n (pc' := 59) 3 X dX4_play_58 rfl rfl rfl ?_
      refine V_iload (pc' := 61) 5 X dX4_play_59 rfl rfl ?_
      refine V_callS (pc' := 64) (As := [.int (nI (rh 3 S B i))]) (st := [.int (nI (sm (fun k => cnt (rh 3 S B k)) i))]) [] [0, 1, 2, 3, 4, 5, 6, 7, 8] (show (List.range 9).Perm ([] ++ [0, 1, 2, 3, 4, 5, 6, 7, 8]) by decide) X (c_J6_bitCount_0f7a4 l G (rh 3 S B i) hri) rfl gX4_play_J6_bitCount_0f7a4 rfl rfl (Nat.le_of_ble_eq_true rfl) ⟨Nat.le_of_ble_eq_true rfl, Nat.le_of_ble_eq_true rfl⟩ ⟨Nat.le_of_ble_eq_true rfl, Nat.le_of_ble_eq_true rfl⟩ dX4_play_61 rfl (fun v_ u_ hp_ => ?_)
      obtain ⟨rfl, rfl⟩ := hp_
      show V E G A 6 [[((r 0), .inr (4, [.ref (r 1), .ref (r 2)]))], [((r 1), .inl (G.2 0, 32, .inl (nf (va_up (upN H (rh 3 S B) i) i (rh 3 S B i)))))], HM G (r 2) (r 3) (rsp 3 S B (i + 1)), [((a 0), .inr (0, [.ref (a 1), .ref (a 2), .ref (a 3), .ref (a 4), .ref (a 5), .int (nI (S 46)), .int (nI (S 47)), .int (nI (S 48)), .int (nI (S 70)), .int (nI (S 59))]))], [((a 1), .inl (G.2 0, 32, .inl (nf S)))], [((a 2), .inl (G.2 0, 4, .inl (nf (fun k => S (32 + k)))))], [((a 3), .inl (G.2 0, 10, .inl (nf (fun k => S (36 + k)))))], [((a 4), .inl (G.2 0, 10, .inl (nf (fun k => S (49 + k)))))], HM G (a 5) (a 6) (fun k => S (60 + k))] 0 0 Q 64 [(0, .ref (r 0)), (1, .ref (a 0)), (2, .int (nI B)), (3, .int (nI (sm (fun k => cnt (rh 3 S B k)) i))), (4, .int (nI i)), (5, .int (nI (rh 3 S B i)))] [.int (nI (cnt (rh 3 S B i))), .int (nI (sm (fun k => cnt (rh 3 S B k)) i))]
      refine V_iadd (pc' := 65) (nI ((sm (fun k => cnt (rh 3 S B k)) i) + (cnt (rh 3 S B i)))) X dX4_play_64 (nI_add _ _) rfl ?_
      refine V_istore_n (pc' := 66) [(0, .ref (r 0)), (1, .ref (a 0)), (2, .int (nI B)), (3, .int (nI ((sm (fun k => cnt (rh 3 S B k)) i) + (cnt (rh 3 S B i))))), (4, .int (nI i)), (5, .int (nI (rh 3 S B i)))] [1, 2, 3, 0, 4, 5] X dX4_play_65 rfl (Nat.le_of_ble_eq_true rfl) rfl rfl ?_
      refine V_iinc (pc' := 69) [(0, .ref (r 0)), (1, .ref (a 0)), (2, .int (nI B)), (3, .int (nI ((sm (fun k => cnt (rh 3 S B k)) i) + (cnt (rh 3 S B i))))), (4, .int (nI (i + 1))), (5, .int (nI (rh 3 S B i)))] 4 [1, 2, 3, 4, 0, 5] X dX4_play_66 rfl (nI_i1 _) (Nat.le_of_ble_eq_true rfl) rfl rfl ?_
      refine V_goto (pc' := 12) X dX4_play_69 (by decide) ?_
      refine V_lv [0, 1, 2, 3, 4] [(0, .ref (r 0)), (1, .ref (a 0)), (2, .int (nI B)), (3, .int (nI ((sm (fun k => cnt (rh 3 S B k)) i) + (cnt (rh 3 S B i))))), (4, .int (nI (i + 1)))] rfl ?_
      exact ih
  exact lp_1 0 (Nat.zero_le _)

set_option maxHeartbeats 4000000 in
set_option maxRecDepth 100000 in
theorem c_X4_sumOfColumns (l : Launch) (G : gT) (r H g : Nat → Nat) (hH : ∀ k, k < 32 → H k < 1024) : CM l G yX4_sumOfColumns wsX4_sumOfColumns 2 42 0 [.ref (r 0)] [RN G r H g] 0 0 (fun v u => v = some (.int (nI (sm (fun k => cnt (H k)) 32))) ∧ u = [RN G r H g]) := by
  refine CM_of RX4 1 20 rfl rfl (by decide) (by decide +kernel) (Nat.le_of_ble_eq_true rfl) (fun E A X hrt hnm => ?_)
  have F9 := Fld_of (idx := 9) 4 0 X (by decide) (by decide) (by decide +kernel) (by decide +kernel)
  generalize hQ : QM E G A _ _ _ = Q
  show V E G A 3 [RN G r H g] 0 0 Q 0 [(0, .ref (r 0))] []
  refine V_iconst (pc' := 1) (nI 0) X dX4_sumOfColumns_0 ki_0 rfl ?_
  refine V_istore_n (pc' := 2) [(0, .ref (r 0)), (1, .int (nI 0))] [1, 0] X dX4_sumOfColumns_1 rfl (Nat.le_of_ble_eq_true rfl) rfl rfl ?_
  refine V_iconst (pc' := 3) (nI 0) X dX4_sumOfColumns_2 ki_0 rfl ?_
  refine V_istore_n (pc' := 4) [(0, .ref (r 0)), (1, .int (nI 0)), (2, .int (nI 0))] [1, 2, 0] X dX4_sumOfColumns_3 rfl (Nat.le_of_ble_eq_true rfl) rfl rfl ?_
  have lp_1 : ∀ i, i ≤ 32 → V E G A 3 [RN G r H g] 0 0 Q 4 [(0, .ref (r 0)), (1, .int (nI (sm (fun k => cnt (H k)) i))), (2, .int (nI i))] [] := by
    refine loopD 32 ?_ ?_
    · show V E G A 3 [RN G r H g] 0 0 Q 4 [(0, .ref (r 0)), (1, .int (nI (sm (fun k => cnt (H k)) 32))), (2, .int (nI 32))] []
      refine V_iload_n (pc' := 5) 2 X dX4_sumOfColumns_4 rfl rfl rfl ?_
      refine V_bipush (pc' := 7) (nI 32) X dX4_sumOfColumns_5 kb_32 rfl ?_
      refine V_icmp_ge (pc' := 10) (C := 32 ≤ 32) 28 X dX4_sumOfColumns_7 (by decide) rfl (nI_leI (by omega) (by omega)) (fun _ => ?_) (fun hz => absurd (by omega) hz)
      refine V_iload_n (pc' := 29) 1 X dX4_sumOfColumns_28 rfl rfl rfl ?_
      exact V_ireturn (v := nI (sm (fun k => cnt (H k)) 32)) [RN G r H g] hQ X hrt rfl dX4_sumOfColumns_29 (Nat.le_of_ble_eq_true rfl) (Nat.le_of_ble_eq_true rfl) (List.Perm.refl _) ⟨rfl, rfl⟩
    · intro i hi_i ih
      show V E G A 3 [RN G r H g] 0 0 Q 4 [(0, .ref (r 0)), (1, .int (nI (sm (fun k => cnt (H k)) i))), (2, .int (nI i))] []
      refine V_iload_n (pc' := 5) 2 X dX4_sumOfColumns_4 rfl rfl rfl ?_
      refine V_bipush (pc' := 7) (nI 32) X dX4_sumOfColumns_5 kb_32 rfl ?_
      refine V_icmp_ge (pc' := 10) (C := 32 ≤ i) 28 X dX4_sumOfColumns_7 (by decide) rfl (nI_leI (by omega) (by omega)) (fun hz => absurd hz (by omega)) (fun _ => ?_)
      refine V_iload_n (pc' := 11) 1 X dX4_sumOfColumns_10 rfl rfl rfl ?_
      refine V_aload_n (pc' := 12) 0 X dX4_sumOfColumns_11 rfl rfl rfl ?_
      refine V_get (pc' := 15) 0 X F9 rfl rfl dX4_sumOfColumns_12 rfl ?_
      refine V_iload_n (pc' := 16) 2 X dX4_sumOfColumns_15 rfl rfl rfl ?_
      refine V_iald (pc' := 17) (v := nI (H i)) 1 i X rfl (by omega) (by decide) rfl dX4_sumOfColumns_16 rfl ?_
      refine V_callS (pc' := 20) (As := [.int (nI (H i))]) (st := [.int (nI (sm (fun k => cnt (H k)) i))]) [] [0] (show (List.range 1).Perm ([] ++ [0]) by decide) X (c_J6_bitCount_0f7a4 l G (H i) (hH _ hi_i)) rfl gX4_sumOfColumns_J6_bitCount_0f7a4 rfl rfl (Nat.le_of_ble_eq_true rfl) ⟨Nat.le_of_ble_eq_true rfl, Nat.le_of_ble_eq_true rfl⟩ ⟨Nat.le_of_ble_eq_true rfl, Nat.le_of_ble_eq_true rfl⟩ dX4_sumOfColumns_17 rfl (fun v_ u_ hp_ => ?_)
      obtain ⟨rfl, rfl⟩ := hp_
      show V E G A 3 [RN G r H g] 0 0 Q 20 [(0, .ref (r 0)), (1, .int (nI (sm (fun k => cnt (H k)) i))), (2, .int (nI i))] [.int (nI (cnt (H i))), .int (nI (sm (fun k => cnt (H k)) i))]
      refine V_iadd (pc' := 21) (nI ((sm (fun k => cnt (H k)) i) + (cnt (H i)))) X dX4_sumOfColumns_20 (nI_add _ _) rfl ?_
      refine V_istore_n (pc' := 22) [(0, .ref (r 0)), (1, .int (nI ((sm (fun k => cnt (H k)) i) + (cnt (H i))))), (2, .int (nI i))] [1, 0, 2] X dX4_sumOfColumns_21 rfl (Nat.le_of_ble_eq_true rfl) rfl rfl ?_
      refine V_iinc (pc' := 25) [(0, .ref (r 0)), (1, .int (nI ((sm (fun k => cnt (H k)) i) + (cnt (H i))))), (2, .int (nI (i + 1)))] 2 [1, 2, 0] X dX4_sumOfColumns_22 rfl (nI_i1 _) (Nat.le_of_ble_eq_true rfl) rfl rfl ?_
      refine V_goto (pc' := 4) X dX4_sumOfColumns_25 (by decide) ?_
      exact ih
  exact lp_1 0 (Nat.zero_le _)

set_option maxHeartbeats 4000000 in
set_option maxRecDepth 100000 in
theorem c_X4_timesHeard (l : Launch) (G : gT) (r H g : Nat → Nat) (b : Nat) (hH : ∀ k, k < 32 → H k < 1024) (hb : b < 20) : CM l G yX4_timesHeard wsX4_timesHeard 2 44 1 [.ref (r 0), .int (nI b)] [RN G r H g] 0 0 (fun v u => v = some (.int (nI (sm (fun k => bq (H k) b) 32))) ∧ u = [RN G r H g]) := by
  refine CM_of RX4 1 21 rfl rfl (by decide) (by decide +kernel) (Nat.le_of_ble_eq_true rfl) (fun E A X hrt hnm => ?_)
  have F9 := Fld_of (idx := 9) 4 0 X (by decide) (by decide) (by decide +kernel) (by decide +kernel)
  generalize hQ : QM E G A _ _ _ = Q
  show V E G A 4 [RN G r H g] 0 0 Q 0 [(0, .ref (r 0)), (1, .int (nI b))] []
  refine V_iconst (pc' := 1) (nI 0) X dX4_timesHeard_0 ki_0 rfl ?_
  refine V_istore_n (pc' := 2) [(0, .ref (r 0)), (1, .int (nI b)), (2, .int (nI 0))] [1, 2, 0] X dX4_timesHeard_1 rfl (Nat.le_of_ble_eq_true rfl) rfl rfl ?_
  refine V_iconst (pc' := 3) (nI 0) X dX4_timesHeard_2 ki_0 rfl ?_
  refine V_istore_n (pc' := 4) [(0, .ref (r 0)), (1, .int (nI b)), (2, .int (nI 0)), (3, .int (nI 0))] [1, 2, 3, 0] X dX4_timesHeard_3 rfl (Nat.le_of_ble_eq_true rfl) rfl rfl ?_
  have lp_1 : ∀ i, i ≤ 32 → V E G A 4 [RN G r H g] 0 0 Q 4 [(0, .ref (r 0)), (1, .int (nI b)), (2, .int (nI (sm (fun k => bq (H k) b) i))), (3, .int (nI i))] [] := by
    refine loopD 32 ?_ ?_
    · show V E G A 4 [RN G r H g] 0 0 Q 4 [(0, .ref (r 0)), (1, .int (nI b)), (2, .int (nI (sm (fun k => bq (H k) b) 32))), (3, .int (nI 32))] []
      refine V_iload_n (pc' := 5) 3 X dX4_timesHeard_4 rfl rfl rfl ?_
      refine V_bipush (pc' := 7) (nI 32) X dX4_timesHeard_5 kb_32 rfl ?_
      refine V_icmp_ge (pc' := 10) (C := 32 ≤ 32) 32 X dX4_timesHeard_7 (by decide) rfl (nI_leI (by omega) (by omega)) (fun _ => ?_) (fun hz => absurd (by omega) hz)
      refine V_iload_n (pc' := 33) 2 X dX4_timesHeard_32 rfl rfl rfl ?_
      exact V_ireturn (v := nI (sm (fun k => bq (H k) b) 32)) [RN G r H g] hQ X hrt rfl dX4_timesHeard_33 (Nat.le_of_ble_eq_true rfl) (Nat.le_of_ble_eq_true rfl) (List.Perm.refl _) ⟨rfl, rfl⟩
    · intro i hi_i ih
      show V E G A 4 [RN G r H g] 0 0 Q 4 [(0, .ref (r 0)), (1, .int (nI b)), (2, .int (nI (sm (fun k => bq (H k) b) i))), (3, .int (nI i))] []
      have hHi := hH i hi_i
      refine V_iload_n (pc' := 5) 3 X dX4_timesHeard_4 rfl rfl rfl ?_
      refine V_bipush (pc' := 7) (nI 32) X dX4_timesHeard_5 kb_32 rfl ?_
      refine V_icmp_ge (pc' := 10) (C := 32 ≤ i) 32 X dX4_timesHeard_7 (by decide) rfl (nI_leI (by omega) (by omega)) (fun hz => absurd hz (by omega)) (fun _ => ?_)
      refine V_aload_n (pc' := 11) 0 X dX4_timesHeard_10 rfl rfl rfl ?_
      refine V_get (pc' := 14) 0 X F9 rfl rfl dX4_timesHeard_11 rfl ?_
      refine V_iload_n (pc' := 15) 3 X dX4_timesHeard_14 rfl rfl rfl ?_
      refine V_iald (pc' := 16) (v := nI (H i)) 1 i X rfl (by omega) (by decide) rfl dX4_timesHeard_15 rfl ?_
      refine V_iload_n (pc' := 17) 1 X dX4_timesHeard_16 rfl rfl rfl ?_
      refine V_callSN (host := RX5) (pc' := 20) (As := [.int (nI (H i)), .int (nI b)]) (st := []) [] [0] (show (List.range 1).Perm ([] ++ [0]) by decide) X (c_X5_holds l G (H i) b (Nat.lt_trans hHi (by decide)) (by omega)) rfl gX4_timesHeard_X5_holds_n47 X.2.1.2.2.2.2.1.2.2.2.2 (by decide +kernel) (by decide +kernel) rfl rfl (Nat.le_of_ble_eq_true rfl) ⟨Nat.le_of_ble_eq_true rfl, Nat.le_of_ble_eq_true rfl⟩ ⟨Nat.le_of_ble_eq_true rfl, Nat.le_of_ble_eq_true rfl⟩ dX4_timesHeard_17 rfl (fun v_ u_ hp_ => ?_)
      obtain ⟨rfl, rfl⟩ := hp_
      show V E G A 4 [RN G r H g] 0 0 Q 20 [(0, .ref (r 0)), (1, .int (nI b)), (2, .int (nI (sm (fun k => bq (H k) b) i))), (3, .int (nI i))] [.int (nI (bq (H i) b))]
      refine V_if_eq (pc' := 23) (C := (bq (H i) b) = 0) 26 X dX4_timesHeard_20 (by decide) rfl (z_eq0 (Nat.lt_trans (bq_lt _ _) (by decide))) (fun h20 => ?_) (fun h20 => ?_)
      · refine V_iinc (pc' := 29) [(0, .ref (r 0)), (1, .int (nI b)), (2, .int (nI (sm (fun k => bq (H k) b) i))), (3, .int (nI (i + 1)))] 3 [1, 2, 3, 0] X dX4_timesHeard_26 rfl (nI_i1 _) (Nat.le_of_ble_eq_true rfl) rfl rfl ?_
        refine V_goto (pc' := 4) X dX4_timesHeard_29 (by decide) ?_
        rw [sm_succ, show bq (H i) b = 0 from h20] at ih
        exact ih
      · refine V_iinc (pc' := 26) [(0, .ref (r 0)), (1, .int (nI b)), (2, .int (nI (sm (fun k => bq (H k) b) i + 1))), (3, .int (nI i))] 2 [1, 2, 0, 3] X dX4_timesHeard_23 rfl (nI_i1 _) (Nat.le_of_ble_eq_true rfl) rfl rfl ?_
        refine V_iinc (pc' := 29) [(0, .ref (r 0)), (1, .int (nI b)), (2, .int (nI (sm (fun k => bq (H k) b) i + 1))), (3, .int (nI (i + 1)))] 3 [1, 2, 3, 0] X dX4_timesHeard_26 rfl (nI_i1 _) (Nat.le_of_ble_eq_true rfl) rfl rfl ?_
        refine V_goto (pc' := 4) X dX4_timesHeard_29 (by decide) ?_
        rw [sm_succ, show bq (H i) b = 1 by have := bq_lt (H i) b; omega] at ih
        exact ih
  exact lp_1 0 (Nat.zero_le _)
