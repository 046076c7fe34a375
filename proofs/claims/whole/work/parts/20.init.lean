/-! the constructors once more: the pad is empty, its row too -/
set_option maxHeartbeats 4000000 in
set_option maxRecDepth 100000 in
theorem c_Y3_init (l : Launch) (G : gT) (d : Nat) : CM l G yX3_init wsX3_init 2 32 0 [.ref d] [[(d, .inr (3, [.null, .int 0]))]] 1 60 (fun v u => ∃ (p : Nat → Nat), p 0 = d ∧ v = none ∧ u = [PD G p (fun _ => 0) 0]) := by
  refine CM_of RX3 1 12 rfl rfl (by decide) (by decide +kernel) (Nat.le_of_ble_eq_true rfl) (fun E A X hrt hnm => ?_)
  have hin : (e_h E).name = "<init>" := hnm
  have F11 := Fld_of (idx := 11) 3 0 X (by decide) (by decide) (by decide +kernel) (by decide +kernel)
  have F15 := Fld_of (idx := 15) 3 1 X (by decide) (by decide) (by decide +kernel) (by decide +kernel)
  generalize hQ : QM E G A _ _ _ = Q
  show V E G A 1 [[(d, .inr (3, [.null, .int 0]))]] 0 0 Q 0 [(0, .ref d)] []
  refine V_aload_n (pc' := 1) 0 X dX3_init_0 rfl rfl rfl ?_
  refine V_obj (pc' := 4) X (by decide +kernel) (by decide +kernel) (by decide +kernel) dX3_init_1 (Nat.le_of_ble_eq_true rfl) (Nat.le_of_ble_eq_true rfl) rfl ?_
  refine V_aload_n (pc' := 5) 0 X dX3_init_4 rfl rfl rfl ?_
  refine V_bipush (pc' := 7) (nI 60) X dX3_init_5 kb_60 rfl ?_
  refine V_newc (pc' := 9) (n := 60) X (by decide +kernel) (by decide) (Nat.le_of_ble_eq_true rfl) (Nat.le_of_ble_eq_true rfl) dX3_init_7 rfl (fun q_1 => ?_)
  show V E G A 1 [[(d, .inr (3, [.null, .int 0]))], [(q_1, .inl (G.2 1, 60, .inl (fun _ => 0)))]] 1 60 Q 9 [(0, .ref d)] [.ref q_1, .ref d]
  refine V_putF (pc' := 12) 0 [[(d, .inr (3, [.ref q_1, .int 0]))], [(q_1, .inl (G.2 1, 60, .inl (fun _ => 0)))]] X F11 rfl rfl hin rfl rfl rfl (Nat.le_of_ble_eq_true rfl) rfl dX3_init_9 rfl ?_
  refine V_aload_n (pc' := 13) 0 X dX3_init_12 rfl rfl rfl ?_
  refine V_iconst (pc' := 14) (nI 0) X dX3_init_13 ki_0 rfl ?_
  refine V_put (pc' := 17) 0 [[(d, .inr (3, [.ref q_1, .int (nI 0)]))], [(q_1, .inl (G.2 1, 60, .inl (fun _ => 0)))]] X F15 rfl rfl rfl rfl (Nat.le_of_ble_eq_true rfl) rfl dX3_init_14 rfl ?_
  refine V_ws [[(d, .inr (3, [.ref q_1, .int (nI 0)])), (q_1, .inl (G.2 1, 60, .inl (fun _ => 0)))]] rfl ?_
  refine V_wsq [PD G (fun k => ([d, q_1].getD k 0)) (fun _ => 0) 0] (wsq.cons (weq.rf _) (wsq.cons (weq.row (fun k hk => nI_0.symm)) (wsq.rf _))) ?_
  exact V_return [PD G (fun k => ([d, q_1].getD k 0)) (fun _ => 0) 0] hQ X hrt dX3_init_17 (Nat.le_of_ble_eq_true rfl) (Nat.le_of_ble_eq_true rfl) (List.Perm.refl _) ⟨_, rfl, rfl, rfl⟩
set_option maxHeartbeats 4000000 in
set_option maxRecDepth 100000 in
theorem c_Y5_init (l : Launch) (G : gT) (x : Nat) : CM l G yX5_init wsX5_init 5 105 0 [.ref x] [[(x, .inr (5, [.null, .null, .null, .null, .null]))]] 60 698 (fun v u => ∃ (a r p h : Nat → Nat) (q : Nat) (H g : Nat → Nat) (d : Nat → Nat → Nat), v = none ∧ u = [XB x (a 0) (r 0) (p 0) (h 0) q, DW G a (S0 3), RN G r H g, PD G p (fun _ => 0) 0, HI G h 0 d, HD G d (fun _ => S0 3), SA G q (fun _ => none)]) := by
  refine CM_of RX5 4 85 rfl rfl (by decide) (by decide +kernel) (Nat.le_of_ble_eq_true rfl) (fun E A X hrt hnm => ?_)
  have hin : (e_h E).name = "<init>" := hnm
  have F10 := Fld_of (idx := 10) 5 0 X (by decide) (by decide) (by decide +kernel) (by decide +kernel)
  have F19 := Fld_of (idx := 19) 5 1 X (by decide) (by decide) (by decide +kernel) (by decide +kernel)
  have F26 := Fld_of (idx := 26) 5 2 X (by decide) (by decide) (by decide +kernel) (by decide +kernel)
  have F33 := Fld_of (idx := 33) 5 3 X (by decide) (by decide) (by decide +kernel) (by decide +kernel)
  have F37 := Fld_of (idx := 37) 5 4 X (by decide) (by decide) (by decide +kernel) (by decide +kernel)
  generalize hQ : QM E G A _ _ _ = Q
  show V E G A 1 [[(x, .inr (5, [.null, .null, .null, .null, .null]))]] 0 0 Q 0 [(0, .ref x)] []
  refine V_aload_n (pc' := 1) 0 X dX5_init_0 rfl rfl rfl ?_
  refine V_obj (pc' := 4) X (by decide +kernel) (by decide +kernel) (by decide +kernel) dX5_init_1 (Nat.le_of_ble_eq_true rfl) (Nat.le_of_ble_eq_true rfl) rfl ?_
  refine V_aload_n (pc' := 5) 0 X dX5_init_4 rfl rfl rfl ?_
  refine V_new (pc' := 8) 0 [.null, .null, .null, .null, .null, .int 0, .int 0, .int 0, .int 0, .int 0] X (by decide) (by decide +kernel) (by decide +kernel) (by decide +kernel) (by decide +kernel) (fun j hj => by have hj : j < 10 := hj; rcases (show j = 0 ∨ j = 1 ∨ j = 2 ∨ j = 3 ∨ j = 4 ∨ j = 5 ∨ j = 6 ∨ j = 7 ∨ j = 8 ∨ j = 9 by omega) with rfl | rfl | rfl | rfl | rfl | rfl | rfl | rfl | rfl | rfl <;> rfl) (Nat.le_of_ble_eq_true rfl) (Nat.le_of_ble_eq_true rfl) dX5_init_5 rfl (fun q_1 => ?_)
  show V E G A 1 [[(x, .inr (5, [.null, .null, .null, .null, .null]))], [(q_1, .inr (0, [.null, .null, .null, .null, .null, .int 0, .int 0, .int 0, .int 0, .int 0]))]] 1 10 Q 8 [(0, .ref x)] [.ref q_1, .ref x]
  refine V_dup (pc' := 9) X dX5_init_8 rfl rfl ?_
  refine V_callI (pc' := 12) (As := []) (st := [.ref q_1, .ref x]) [1] [0] (show (List.range 2).Perm ([1] ++ [0]) by decide) X (c_X0_init l G q_1) rfl gX5_init_X0_init (by decide +kernel) (by decide +kernel) (by decide +kernel) rfl (fun _ _ _ _ h => (Cond.code.inj (List.cons.inj h).1).2.2.2.symm) rfl rfl (Nat.le_of_ble_eq_true rfl) ⟨Nat.le_of_ble_eq_true rfl, Nat.le_of_ble_eq_true rfl⟩ ⟨Nat.le_of_ble_eq_true rfl, Nat.le_of_ble_eq_true rfl⟩ dX5_init_9 rfl (fun v_ u_ hp_ => ?_)
  obtain ⟨ad_2, rfl, rfl, rfl⟩ := hp_
  show V E G A 1 [[(x, .inr (5, [.null, .null, .null, .null, .null]))], DW G ad_2 (S0 3)] 7 77 Q 12 [(0, .ref x)] [.ref (ad_2 0), .ref x]
  refine V_putF (pc' := 15) 0 [[(x, .inr (5, [.ref (ad_2 0), .null, .null, .null, .null]))], DW G ad_2 (S0 3)] X F10 rfl rfl hin rfl rfl rfl (Nat.le_of_ble_eq_true rfl) rfl dX5_init_12 rfl ?_
  refine V_aload_n (pc' := 16) 0 X dX5_init_15 rfl rfl rfl ?_
  refine V_new (pc' := 19) 4 [.null, .null] X (by decide) (by decide +kernel) (by decide +kernel) (by decide +kernel) (by decide +kernel) (fun j hj => by have hj : j < 2 := hj; rcases (show j = 0 ∨ j = 1 by omega) with rfl | rfl <;> rfl) (Nat.le_of_ble_eq_true rfl) (Nat.le_of_ble_eq_true rfl) dX5_init_16 rfl (fun q_3 => ?_)
  show V E G A 1 [[(x, .inr (5, [.ref (ad_2 0), .null, .null, .null, .null]))], DW G ad_2 (S0 3), [(q_3, .inr (4, [.null, .null]))]] 8 79 Q 19 [(0, .ref x)] [.ref q_3, .ref x]
  refine V_dup (pc' := 20) X dX5_init_19 rfl rfl ?_
  refine V_callIN (host := RX5) (pc' := 23) (As := []) (st := [.ref q_3, .ref x]) [2] [0, 1] (show (List.range 3).Perm ([2] ++ [0, 1]) by decide) X (c_X4_init l G q_3) rfl gX5_init_X4_init_n18 X.2.1.2.2.2.2.1.1 (by decide +kernel) (by decide +kernel) rfl (fun _ _ _ _ h => (Cond.code.inj (List.cons.inj h).1).2.2.2.symm) rfl rfl (Nat.le_of_ble_eq_true rfl) ⟨Nat.le_of_ble_eq_true rfl, Nat.le_of_ble_eq_true rfl⟩ ⟨Nat.le_of_ble_eq_true rfl, Nat.le_of_ble_eq_true rfl⟩ dX5_init_20 rfl (fun v_ u_ hp_ => ?_)
  obtain ⟨rn, Hn, gn, rfl, rfl, rfl⟩ := hp_
  show V E G A 1 [[(x, .inr (5, [.ref (ad_2 0), .null, .null, .null, .null]))], DW G ad_2 (S0 3), RN G rn Hn gn] 12 124 Q 23 [(0, .ref x)] [.ref (rn 0), .ref x]
  refine V_putF (pc' := 26) 0 [[(x, .inr (5, [.ref (ad_2 0), .ref (rn 0), .null, .null, .null]))], DW G ad_2 (S0 3), RN G rn Hn gn] X F19 rfl rfl hin rfl rfl rfl (Nat.le_of_ble_eq_true rfl) rfl dX5_init_23 rfl ?_
  refine V_aload_n (pc' := 27) 0 X dX5_init_26 rfl rfl rfl ?_
  refine V_new (pc' := 30) 3 [.null, .int 0] X (by decide) (by decide +kernel) (by decide +kernel) (by decide +kernel) (by decide +kernel) (fun j hj => by have hj : j < 2 := hj; rcases (show j = 0 ∨ j = 1 by omega) with rfl | rfl <;> rfl) (Nat.le_of_ble_eq_true rfl) (Nat.le_of_ble_eq_true rfl) dX5_init_27 rfl (fun q_4 => ?_)
  show V E G A 1 [[(x, .inr (5, [.ref (ad_2 0), .ref (rn 0), .null, .null, .null]))], DW G ad_2 (S0 3), RN G rn Hn gn, [(q_4, .inr (3, [.null, .int 0]))]] 13 126 Q 30 [(0, .ref x)] [.ref q_4, .ref x]
  refine V_dup (pc' := 31) X dX5_init_30 rfl rfl ?_
  refine V_callIN (host := RX5) (pc' := 34) (As := []) (st := [.ref q_4, .ref x]) [3] [0, 1, 2] (show (List.range 4).Perm ([3] ++ [0, 1, 2]) by decide) X (c_Y3_init l G q_4) rfl gX5_init_X3_init_n25 X.2.1.2.2.2.2.1.2.1 (by decide +kernel) (by decide +kernel) rfl (fun _ _ _ _ h => (Cond.code.inj (List.cons.inj h).1).2.2.2.symm) rfl rfl (Nat.le_of_ble_eq_true rfl) ⟨Nat.le_of_ble_eq_true rfl, Nat.le_of_ble_eq_true rfl⟩ ⟨Nat.le_of_ble_eq_true rfl, Nat.le_of_ble_eq_true rfl⟩ dX5_init_31 rfl (fun v_ u_ hp_ => ?_)
  obtain ⟨pn, rfl, rfl, rfl⟩ := hp_
  show V E G A 1 [[(x, .inr (5, [.ref (ad_2 0), .ref (rn 0), .null, .null, .null]))], DW G ad_2 (S0 3), RN G rn Hn gn, PD G pn (fun _ => 0) 0] 14 186 Q 34 [(0, .ref x)] [.ref (pn 0), .ref x]
  refine V_putF (pc' := 37) 0 [[(x, .inr (5, [.ref (ad_2 0), .ref (rn 0), .ref (pn 0), .null, .null]))], DW G ad_2 (S0 3), RN G rn Hn gn, PD G pn (fun _ => 0) 0] X F26 rfl rfl hin rfl rfl rfl (Nat.le_of_ble_eq_true rfl) rfl dX5_init_34 rfl ?_
  refine V_aload_n (pc' := 38) 0 X dX5_init_37 rfl rfl rfl ?_
  refine V_new (pc' := 41) 2 [.null, .int 0] X (by decide) (by decide +kernel) (by decide +kernel) (by decide +kernel) (by decide +kernel) (fun j hj => by have hj : j < 2 := hj; rcases (show j = 0 ∨ j = 1 by omega) with rfl | rfl <;> rfl) (Nat.le_of_ble_eq_true rfl) (Nat.le_of_ble_eq_true rfl) dX5_init_38 rfl (fun q_5 => ?_)
  show V E G A 1 [[(x, .inr (5, [.ref (ad_2 0), .ref (rn 0), .ref (pn 0), .null, .null]))], DW G ad_2 (S0 3), RN G rn Hn gn, PD G pn (fun _ => 0) 0, [(q_5, .inr (2, [.null, .int 0]))]] 15 188 Q 41 [(0, .ref x)] [.ref q_5, .ref x]
  refine V_dup (pc' := 42) X dX5_init_41 rfl rfl ?_
  refine V_callI (pc' := 45) (As := []) (st := [.ref q_5, .ref x]) [4] [0, 1, 2, 3] (show (List.range 5).Perm ([4] ++ [0, 1, 2, 3]) by decide) X (c_X2_init l G q_5) rfl gX5_init_X2_init (by decide +kernel) (by decide +kernel) (by decide +kernel) rfl (fun _ _ _ _ h => (Cond.code.inj (List.cons.inj h).1).2.2.2.symm) rfl rfl (Nat.le_of_ble_eq_true rfl) ⟨Nat.le_of_ble_eq_true rfl, Nat.le_of_ble_eq_true rfl⟩ ⟨Nat.le_of_ble_eq_true rfl, Nat.le_of_ble_eq_true rfl⟩ dX5_init_42 rfl (fun v_ u_ hp_ => ?_)
  obtain ⟨hn, dn, rfl, rfl, rfl⟩ := hp_
  show V E G A 1 [[(x, .inr (5, [.ref (ad_2 0), .ref (rn 0), .ref (pn 0), .null, .null]))], DW G ad_2 (S0 3), RN G rn Hn gn, PD G pn (fun _ => 0) 0, HI G hn 0 dn, HD G dn (fun _ => S0 3)] 58 656 Q 45 [(0, .ref x)] [.ref (hn 0), .ref x]
  refine V_putF (pc' := 48) 0 [[(x, .inr (5, [.ref (ad_2 0), .ref (rn 0), .ref (pn 0), .ref (hn 0), .null]))], DW G ad_2 (S0 3), RN G rn Hn gn, PD G pn (fun _ => 0) 0, HI G hn 0 dn, HD G dn (fun _ => S0 3)] X F33 rfl rfl hin rfl rfl rfl (Nat.le_of_ble_eq_true rfl) rfl dX5_init_45 rfl ?_
  refine V_aload_n (pc' := 49) 0 X dX5_init_48 rfl rfl rfl ?_
  refine V_iconst (pc' := 50) (nI 2) X dX5_init_49 ki_2 rfl ?_
  refine V_newq (pc' := 53) (n := 2) X (by decide +kernel) (by decide) (Nat.le_of_ble_eq_true rfl) (Nat.le_of_ble_eq_true rfl) dX5_init_50 rfl (fun q_6 => ?_)
  show V E G A 1 [[(x, .inr (5, [.ref (ad_2 0), .ref (rn 0), .ref (pn 0), .ref (hn 0), .null]))], DW G ad_2 (S0 3), RN G rn Hn gn, PD G pn (fun _ => 0) 0, HI G hn 0 dn, HD G dn (fun _ => S0 3), [(q_6, .inl (G.2 3, 2, .inr (.inr (.inr (.inr (fun _ => none))))))]] 59 658 Q 53 [(0, .ref x)] [.ref q_6, .ref x]
  refine V_putF (pc' := 56) 0 [[(x, .inr (5, [.ref (ad_2 0), .ref (rn 0), .ref (pn 0), .ref (hn 0), .ref q_6]))], DW G ad_2 (S0 3), RN G rn Hn gn, PD G pn (fun _ => 0) 0, HI G hn 0 dn, HD G dn (fun _ => S0 3), [(q_6, .inl (G.2 3, 2, .inr (.inr (.inr (.inr (fun _ => none))))))]] X F37 rfl rfl hin rfl rfl rfl (Nat.le_of_ble_eq_true rfl) rfl dX5_init_53 rfl ?_
  refine V_wsq [XB x (ad_2 0) (rn 0) (pn 0) (hn 0) q_6, DW G ad_2 (S0 3), RN G rn Hn gn, PD G pn (fun _ => 0) 0, HI G hn 0 dn, HD G dn (fun _ => S0 3), SA G q_6 (fun _ => none)] (wsq.cons (weq.rf _) (wsq.app (wsq.rf _) (wsq.app (wsq.rf _) (wsq.app (wsq.rf _) (wsq.app (wsq.rf _) (wsq.app (wsq.rf _) (wsq.cons (weq.rf _) (wsq.rf _)))))))) ?_
  exact V_return [XB x (ad_2 0) (rn 0) (pn 0) (hn 0) q_6, DW G ad_2 (S0 3), RN G rn Hn gn, PD G pn (fun _ => 0) 0, HI G hn 0 dn, HD G dn (fun _ => S0 3), SA G q_6 (fun _ => none)] hQ X hrt dX5_init_56 (Nat.le_of_ble_eq_true rfl) (Nat.le_of_ble_eq_true rfl) (List.Perm.refl _) ⟨_, _, _, _, _, _, _, _, rfl, rfl⟩
/-! places -/
theorem perm_ok (n : Nat) (is : List Nat) (h1 : is.all (fun i => decide (i < n)) = true) (h2 : (List.range n).all (fun a => decide (is.count a = 1)) = true) : (List.range n).Perm is := by
  refine List.perm_iff_count.mpr (fun a => ?_)
  rw [List.count_range]
  by_cases ha : a < n
  · rw [if_pos ha]
    exact (of_decide_eq_true (List.all_eq_true.mp h2 a (List.mem_range.mpr ha))).symm
  · rw [if_neg ha]
    exact (List.count_eq_zero.mpr (fun hm => ha (of_decide_eq_true (List.all_eq_true.mp h1 a hm)))).symm
theorem pm_0 : (List.range 18).Perm ([0, 1, 4, 5, 15] ++ [2, 3, 6, 7, 8, 9, 10, 11, 12, 13, 14, 16, 17]) := perm_ok 18 ([0, 1, 4, 5, 15] ++ [2, 3, 6, 7, 8, 9, 10, 11, 12, 13, 14, 16, 17]) (by decide +kernel) (by decide +kernel)
theorem pm_1 : (List.range 18).Perm [13, 14, 0, 1, 15, 16, 2, 3, 4, 5, 6, 7, 8, 9, 10, 17, 11, 12] := perm_ok 18 [13, 14, 0, 1, 15, 16, 2, 3, 4, 5, 6, 7, 8, 9, 10, 17, 11, 12] (by decide +kernel) (by decide +kernel)
theorem pm_2 : (List.range 18).Perm ([7, 8, 11] ++ [0, 1, 2, 3, 4, 5, 6, 9, 10, 12, 13, 14, 15, 16, 17]) := perm_ok 18 ([7, 8, 11] ++ [0, 1, 2, 3, 4, 5, 6, 9, 10, 12, 13, 14, 15, 16, 17]) (by decide +kernel) (by decide +kernel)
theorem pm_3 : (List.range 18).Perm [0, 1, 2, 3, 4, 5, 6, 15, 16, 7, 8, 17, 9, 10, 11, 12, 13, 14] := perm_ok 18 [0, 1, 2, 3, 4, 5, 6, 15, 16, 7, 8, 17, 9, 10, 11, 12, 13, 14] (by decide +kernel) (by decide +kernel)
theorem pm_4 : (List.range 18).Perm ([7] ++ [0, 1, 2, 3, 4, 5, 6, 8, 9, 10, 11, 12, 13, 14, 15, 16, 17]) := perm_ok 18 ([7] ++ [0, 1, 2, 3, 4, 5, 6, 8, 9, 10, 11, 12, 13, 14, 15, 16, 17]) (by decide +kernel) (by decide +kernel)
theorem pm_5 : (List.range 18).Perm [0, 1, 2, 3, 4, 5, 6, 17, 7, 8, 9, 10, 11, 12, 13, 14, 15, 16] := perm_ok 18 [0, 1, 2, 3, 4, 5, 6, 17, 7, 8, 9, 10, 11, 12, 13, 14, 15, 16] (by decide +kernel) (by decide +kernel)
theorem pm_6 : (List.range 18).Perm ([7, 8, 11, 14] ++ [0, 1, 2, 3, 4, 5, 6, 9, 10, 12, 13, 15, 16, 17]) := perm_ok 18 ([7, 8, 11, 14] ++ [0, 1, 2, 3, 4, 5, 6, 9, 10, 12, 13, 15, 16, 17]) (by decide +kernel) (by decide +kernel)
theorem pm_7 : (List.range 18).Perm [0, 1, 2, 3, 4, 5, 6, 14, 15, 7, 8, 16, 9, 10, 17, 11, 12, 13] := perm_ok 18 [0, 1, 2, 3, 4, 5, 6, 14, 15, 7, 8, 16, 9, 10, 17, 11, 12, 13] (by decide +kernel) (by decide +kernel)
theorem pm_8 : (List.range 18).Perm ([0, 1, 3, 4, 5, 15] ++ [2, 6, 7, 8, 9, 10, 11, 12, 13, 14, 16, 17]) := perm_ok 18 ([0, 1, 3, 4, 5, 15] ++ [2, 6, 7, 8, 9, 10, 11, 12, 13, 14, 16, 17]) (by decide +kernel) (by decide +kernel)
theorem pm_9 : (List.range 18).Perm [12, 13, 0, 14, 15, 16, 1, 2, 3, 4, 5, 6, 7, 8, 9, 17, 10, 11] := perm_ok 18 [12, 13, 0, 14, 15, 16, 1, 2, 3, 4, 5, 6, 7, 8, 9, 17, 10, 11] (by decide +kernel) (by decide +kernel)
theorem pm_10 : (List.range 18).Perm ([7, 8, 11, 12] ++ [0, 1, 2, 3, 4, 5, 6, 9, 10, 13, 14, 15, 16, 17]) := perm_ok 18 ([7, 8, 11, 12] ++ [0, 1, 2, 3, 4, 5, 6, 9, 10, 13, 14, 15, 16, 17]) (by decide +kernel) (by decide +kernel)
theorem pm_11 : (List.range 18).Perm [0, 1, 2, 3, 4, 5, 6, 14, 15, 7, 8, 16, 17, 9, 10, 11, 12, 13] := perm_ok 18 [0, 1, 2, 3, 4, 5, 6, 14, 15, 7, 8, 16, 17, 9, 10, 11, 12, 13] (by decide +kernel) (by decide +kernel)
theorem pm_12 : (List.range 18).Perm ([0, 1, 15] ++ [2, 3, 4, 5, 6, 7, 8, 9, 10, 11, 12, 13, 14, 16, 17]) := perm_ok 18 ([0, 1, 15] ++ [2, 3, 4, 5, 6, 7, 8, 9, 10, 11, 12, 13, 14, 16, 17]) (by decide +kernel) (by decide +kernel)
theorem pm_13 : (List.range 18).Perm [15, 16, 0, 1, 2, 3, 4, 5, 6, 7, 8, 9, 10, 11, 12, 17, 13, 14] := perm_ok 18 [15, 16, 0, 1, 2, 3, 4, 5, 6, 7, 8, 9, 10, 11, 12, 17, 13, 14] (by decide +kernel) (by decide +kernel)
theorem pm_14 : (List.range 18).Perm ([7, 8] ++ [0, 1, 2, 3, 4, 5, 6, 9, 10, 11, 12, 13, 14, 15, 16, 17]) := perm_ok 18 ([7, 8] ++ [0, 1, 2, 3, 4, 5, 6, 9, 10, 11, 12, 13, 14, 15, 16, 17]) (by decide +kernel) (by decide +kernel)
theorem pm_15 : (List.range 18).Perm [0, 1, 2, 3, 4, 5, 6, 16, 17, 7, 8, 9, 10, 11, 12, 13, 14, 15] := perm_ok 18 [0, 1, 2, 3, 4, 5, 6, 16, 17, 7, 8, 9, 10, 11, 12, 13, 14, 15] (by decide +kernel) (by decide +kernel)
theorem pm_16 : (List.range 18).Perm ([0, 1, 2, 15] ++ [3, 4, 5, 6, 7, 8, 9, 10, 11, 12, 13, 14, 16, 17]) := perm_ok 18 ([0, 1, 2, 15] ++ [3, 4, 5, 6, 7, 8, 9, 10, 11, 12, 13, 14, 16, 17]) (by decide +kernel) (by decide +kernel)
theorem pm_17 : (List.range 18).Perm [14, 15, 16, 0, 1, 2, 3, 4, 5, 6, 7, 8, 9, 10, 11, 17, 12, 13] := perm_ok 18 [14, 15, 16, 0, 1, 2, 3, 4, 5, 6, 7, 8, 9, 10, 11, 17, 12, 13] (by decide +kernel) (by decide +kernel)
theorem pm_18 : (List.range 18).Perm ([7, 8, 13, 14] ++ [0, 1, 2, 3, 4, 5, 6, 9, 10, 11, 12, 15, 16, 17]) := perm_ok 18 ([7, 8, 13, 14] ++ [0, 1, 2, 3, 4, 5, 6, 9, 10, 11, 12, 15, 16, 17]) (by decide +kernel) (by decide +kernel)
theorem pm_19 : (List.range 18).Perm [0, 1, 2, 3, 4, 5, 6, 14, 15, 7, 8, 9, 10, 16, 17, 11, 12, 13] := perm_ok 18 [0, 1, 2, 3, 4, 5, 6, 14, 15, 7, 8, 9, 10, 16, 17, 11, 12, 13] (by decide +kernel) (by decide +kernel)
theorem pm_20 : (List.range 18).Perm ([0, 3, 15] ++ [1, 2, 4, 5, 6, 7, 8, 9, 10, 11, 12, 13, 14, 16, 17]) := perm_ok 18 ([0, 3, 15] ++ [1, 2, 4, 5, 6, 7, 8, 9, 10, 11, 12, 13, 14, 16, 17]) (by decide +kernel) (by decide +kernel)
theorem pm_21 : (List.range 18).Perm [15, 0, 1, 16, 2, 3, 4, 5, 6, 7, 8, 9, 10, 11, 12, 17, 13, 14] := perm_ok 18 [15, 0, 1, 16, 2, 3, 4, 5, 6, 7, 8, 9, 10, 11, 12, 17, 13, 14] (by decide +kernel) (by decide +kernel)
theorem pm_22 : (List.range 18).Perm ([7, 12] ++ [0, 1, 2, 3, 4, 5, 6, 8, 9, 10, 11, 13, 14, 15, 16, 17]) := perm_ok 18 ([7, 12] ++ [0, 1, 2, 3, 4, 5, 6, 8, 9, 10, 11, 13, 14, 15, 16, 17]) (by decide +kernel) (by decide +kernel)
theorem pm_23 : (List.range 18).Perm [0, 1, 2, 3, 4, 5, 6, 16, 7, 8, 9, 10, 17, 11, 12, 13, 14, 15] := perm_ok 18 [0, 1, 2, 3, 4, 5, 6, 16, 7, 8, 9, 10, 17, 11, 12, 13, 14, 15] (by decide +kernel) (by decide +kernel)
theorem pm_24 : (List.range 18).Perm ([0, 4, 15] ++ [1, 2, 3, 5, 6, 7, 8, 9, 10, 11, 12, 13, 14, 16, 17]) := perm_ok 18 ([0, 4, 15] ++ [1, 2, 3, 5, 6, 7, 8, 9, 10, 11, 12, 13, 14, 16, 17]) (by decide +kernel) (by decide +kernel)
theorem pm_25 : (List.range 18).Perm [15, 0, 1, 2, 16, 3, 4, 5, 6, 7, 8, 9, 10, 11, 12, 17, 13, 14] := perm_ok 18 [15, 0, 1, 2, 16, 3, 4, 5, 6, 7, 8, 9, 10, 11, 12, 17, 13, 14] (by decide +kernel) (by decide +kernel)
theorem pm_26 : (List.range 18).Perm ([0, 1, 6, 16, 15] ++ [2, 3, 4, 5, 7, 8, 9, 10, 11, 12, 13, 14, 17]) := perm_ok 18 ([0, 1, 6, 16, 15] ++ [2, 3, 4, 5, 7, 8, 9, 10, 11, 12, 13, 14, 17]) (by decide +kernel) (by decide +kernel)
theorem pm_27 : (List.range 18).Perm [13, 14, 0, 1, 2, 3, 15, 4, 5, 6, 7, 8, 9, 10, 11, 17, 16, 12] := perm_ok 18 [13, 14, 0, 1, 2, 3, 15, 4, 5, 6, 7, 8, 9, 10, 11, 17, 16, 12] (by decide +kernel) (by decide +kernel)
theorem pm_28 : (List.range 18).Perm ([7, 8, 9, 10] ++ [0, 1, 2, 3, 4, 5, 6, 11, 12, 13, 14, 15, 16, 17]) := perm_ok 18 ([7, 8, 9, 10] ++ [0, 1, 2, 3, 4, 5, 6, 11, 12, 13, 14, 15, 16, 17]) (by decide +kernel) (by decide +kernel)
theorem pm_29 : (List.range 18).Perm [0, 1, 2, 3, 4, 5, 6, 14, 15, 16, 17, 7, 8, 9, 10, 11, 12, 13] := perm_ok 18 [0, 1, 2, 3, 4, 5, 6, 14, 15, 16, 17, 7, 8, 9, 10, 11, 12, 13] (by decide +kernel) (by decide +kernel)
theorem pm_30 : (List.range 18).Perm ([0, 1, 6, 15] ++ [2, 3, 4, 5, 7, 8, 9, 10, 11, 12, 13, 14, 16, 17]) := perm_ok 18 ([0, 1, 6, 15] ++ [2, 3, 4, 5, 7, 8, 9, 10, 11, 12, 13, 14, 16, 17]) (by decide +kernel) (by decide +kernel)
theorem pm_31 : (List.range 19).Perm [0, 1, 2, 3, 4, 5, 6, 7, 8, 9, 10, 11, 14, 15, 16, 17, 18, 12, 13] := perm_ok 19 [0, 1, 2, 3, 4, 5, 6, 7, 8, 9, 10, 11, 14, 15, 16, 17, 18, 12, 13] (by decide +kernel) (by decide +kernel)
theorem pm_32 : (List.range 19).Perm ([4, 5, 6, 7] ++ [0, 1, 2, 3, 8, 9, 10, 11, 12, 13, 14, 15, 16, 17, 18]) := perm_ok 19 ([4, 5, 6, 7] ++ [0, 1, 2, 3, 8, 9, 10, 11, 12, 13, 14, 15, 16, 17, 18]) (by decide +kernel) (by decide +kernel)
theorem pm_33 : (List.range 19).Perm [0, 1, 2, 3, 15, 16, 17, 18, 4, 5, 6, 7, 8, 9, 10, 11, 12, 13, 14] := perm_ok 19 [0, 1, 2, 3, 15, 16, 17, 18, 4, 5, 6, 7, 8, 9, 10, 11, 12, 13, 14] (by decide +kernel) (by decide +kernel)
theorem pm_34 : (List.range 19).Perm ([4] ++ [0, 1, 2, 3, 5, 6, 7, 8, 9, 10, 11, 12, 13, 14, 15, 16, 17, 18]) := perm_ok 19 ([4] ++ [0, 1, 2, 3, 5, 6, 7, 8, 9, 10, 11, 12, 13, 14, 15, 16, 17, 18]) (by decide +kernel) (by decide +kernel)
theorem pm_35 : (List.range 19).Perm [0, 1, 2, 3, 18, 4, 5, 6, 7, 8, 9, 10, 11, 12, 13, 14, 15, 16, 17] := perm_ok 19 [0, 1, 2, 3, 18, 4, 5, 6, 7, 8, 9, 10, 11, 12, 13, 14, 15, 16, 17] (by decide +kernel) (by decide +kernel)
theorem pm_36 : (List.range 19).Perm [0, 1, 2, 3, 4, 5, 6, 7, 8, 9, 10, 11, 12, 13, 14, 16, 15, 17, 18] := perm_ok 19 [0, 1, 2, 3, 4, 5, 6, 7, 8, 9, 10, 11, 12, 13, 14, 16, 15, 17, 18] (by decide +kernel) (by decide +kernel)
theorem pm_37 : (List.range 18).Perm [12, 13, 0, 1, 2, 3, 14, 4, 5, 6, 7, 8, 9, 10, 11, 15, 16, 17] := perm_ok 18 [12, 13, 0, 1, 2, 3, 14, 4, 5, 6, 7, 8, 9, 10, 11, 15, 16, 17] (by decide +kernel) (by decide +kernel)
theorem pm_38 : (List.range 18).Perm ([0, 1, 4, 5, 6, 16, 15] ++ [2, 3, 7, 8, 9, 10, 11, 12, 13, 14, 17]) := perm_ok 18 ([0, 1, 4, 5, 6, 16, 15] ++ [2, 3, 7, 8, 9, 10, 11, 12, 13, 14, 17]) (by decide +kernel) (by decide +kernel)
theorem pm_39 : (List.range 18).Perm [11, 12, 0, 1, 13, 14, 15, 2, 3, 4, 5, 6, 7, 8, 9, 17, 16, 10] := perm_ok 18 [11, 12, 0, 1, 13, 14, 15, 2, 3, 4, 5, 6, 7, 8, 9, 17, 16, 10] (by decide +kernel) (by decide +kernel)
theorem pm_40 : (List.range 18).Perm ([7, 8, 11, 9, 10] ++ [0, 1, 2, 3, 4, 5, 6, 12, 13, 14, 15, 16, 17]) := perm_ok 18 ([7, 8, 11, 9, 10] ++ [0, 1, 2, 3, 4, 5, 6, 12, 13, 14, 15, 16, 17]) (by decide +kernel) (by decide +kernel)
theorem pm_41 : (List.range 18).Perm [0, 1, 2, 3, 4, 5, 6, 13, 14, 16, 17, 15, 7, 8, 9, 10, 11, 12] := perm_ok 18 [0, 1, 2, 3, 4, 5, 6, 13, 14, 16, 17, 15, 7, 8, 9, 10, 11, 12] (by decide +kernel) (by decide +kernel)
theorem pm_42 : (List.range 18).Perm ([0, 6, 15] ++ [1, 2, 3, 4, 5, 7, 8, 9, 10, 11, 12, 13, 14, 16, 17]) := perm_ok 18 ([0, 6, 15] ++ [1, 2, 3, 4, 5, 7, 8, 9, 10, 11, 12, 13, 14, 16, 17]) (by decide +kernel) (by decide +kernel)
theorem pm_43 : (List.range 18).Perm [15, 0, 1, 2, 3, 4, 16, 5, 6, 7, 8, 9, 10, 11, 12, 17, 13, 14] := perm_ok 18 [15, 0, 1, 2, 3, 4, 16, 5, 6, 7, 8, 9, 10, 11, 12, 17, 13, 14] (by decide +kernel) (by decide +kernel)
theorem pm_44 : (List.range 18).Perm ([7, 10] ++ [0, 1, 2, 3, 4, 5, 6, 8, 9, 11, 12, 13, 14, 15, 16, 17]) := perm_ok 18 ([7, 10] ++ [0, 1, 2, 3, 4, 5, 6, 8, 9, 11, 12, 13, 14, 15, 16, 17]) (by decide +kernel) (by decide +kernel)
theorem pm_45 : (List.range 18).Perm [0, 1, 2, 3, 4, 5, 6, 16, 7, 8, 17, 9, 10, 11, 12, 13, 14, 15] := perm_ok 18 [0, 1, 2, 3, 4, 5, 6, 16, 7, 8, 17, 9, 10, 11, 12, 13, 14, 15] (by decide +kernel) (by decide +kernel)
theorem pm_46 : (List.range 18).Perm ([0, 15] ++ [1, 2, 3, 4, 5, 6, 7, 8, 9, 10, 11, 12, 13, 14, 16, 17]) := perm_ok 18 ([0, 15] ++ [1, 2, 3, 4, 5, 6, 7, 8, 9, 10, 11, 12, 13, 14, 16, 17]) (by decide +kernel) (by decide +kernel)
theorem pm_47 : (List.range 18).Perm [16, 0, 1, 2, 3, 4, 5, 6, 7, 8, 9, 10, 11, 12, 13, 17, 14, 15] := perm_ok 18 [16, 0, 1, 2, 3, 4, 5, 6, 7, 8, 9, 10, 11, 12, 13, 17, 14, 15] (by decide +kernel) (by decide +kernel)
theorem pm_48 : (List.range 18).Perm ([0, 1, 4, 5] ++ [2, 3, 6, 7, 8, 9, 10, 11, 12, 13, 14, 15, 16, 17]) := perm_ok 18 ([0, 1, 4, 5] ++ [2, 3, 6, 7, 8, 9, 10, 11, 12, 13, 14, 15, 16, 17]) (by decide +kernel) (by decide +kernel)
theorem pm_49 : (List.range 18).Perm [14, 15, 0, 1, 16, 17, 2, 3, 4, 5, 6, 7, 8, 9, 10, 11, 12, 13] := perm_ok 18 [14, 15, 0, 1, 16, 17, 2, 3, 4, 5, 6, 7, 8, 9, 10, 11, 12, 13] (by decide +kernel) (by decide +kernel)
theorem pm_50 : (List.range 18).Perm ([0, 1] ++ [2, 3, 4, 5, 6, 7, 8, 9, 10, 11, 12, 13, 14, 15, 16, 17]) := perm_ok 18 ([0, 1] ++ [2, 3, 4, 5, 6, 7, 8, 9, 10, 11, 12, 13, 14, 15, 16, 17]) (by decide +kernel) (by decide +kernel)
theorem pm_51 : (List.range 18).Perm [16, 17, 0, 1, 2, 3, 4, 5, 6, 7, 8, 9, 10, 11, 12, 13, 14, 15] := perm_ok 18 [16, 17, 0, 1, 2, 3, 4, 5, 6, 7, 8, 9, 10, 11, 12, 13, 14, 15] (by decide +kernel) (by decide +kernel)
theorem pm_52 : (List.range 18).Perm ([0, 1, 2] ++ [3, 4, 5, 6, 7, 8, 9, 10, 11, 12, 13, 14, 15, 16, 17]) := perm_ok 18 ([0, 1, 2] ++ [3, 4, 5, 6, 7, 8, 9, 10, 11, 12, 13, 14, 15, 16, 17]) (by decide +kernel) (by decide +kernel)
theorem pm_53 : (List.range 18).Perm [15, 16, 17, 0, 1, 2, 3, 4, 5, 6, 7, 8, 9, 10, 11, 12, 13, 14] := perm_ok 18 [15, 16, 17, 0, 1, 2, 3, 4, 5, 6, 7, 8, 9, 10, 11, 12, 13, 14] (by decide +kernel) (by decide +kernel)
theorem pm_54 : (List.range 18).Perm ([0, 3] ++ [1, 2, 4, 5, 6, 7, 8, 9, 10, 11, 12, 13, 14, 15, 16, 17]) := perm_ok 18 ([0, 3] ++ [1, 2, 4, 5, 6, 7, 8, 9, 10, 11, 12, 13, 14, 15, 16, 17]) (by decide +kernel) (by decide +kernel)
theorem pm_55 : (List.range 18).Perm [16, 0, 1, 17, 2, 3, 4, 5, 6, 7, 8, 9, 10, 11, 12, 13, 14, 15] := perm_ok 18 [16, 0, 1, 17, 2, 3, 4, 5, 6, 7, 8, 9, 10, 11, 12, 13, 14, 15] (by decide +kernel) (by decide +kernel)
theorem pm_56 : (List.range 18).Perm ([0, 4] ++ [1, 2, 3, 5, 6, 7, 8, 9, 10, 11, 12, 13, 14, 15, 16, 17]) := perm_ok 18 ([0, 4] ++ [1, 2, 3, 5, 6, 7, 8, 9, 10, 11, 12, 13, 14, 15, 16, 17]) (by decide +kernel) (by decide +kernel)
theorem pm_57 : (List.range 18).Perm [16, 0, 1, 2, 17, 3, 4, 5, 6, 7, 8, 9, 10, 11, 12, 13, 14, 15] := perm_ok 18 [16, 0, 1, 2, 17, 3, 4, 5, 6, 7, 8, 9, 10, 11, 12, 13, 14, 15] (by decide +kernel) (by decide +kernel)
theorem pm_58 : (List.range 18).Perm [0, 1, 2, 3, 4, 5, 6, 7, 8, 9, 10, 11, 12, 13, 14, 15, 17, 16] := perm_ok 18 [0, 1, 2, 3, 4, 5, 6, 7, 8, 9, 10, 11, 12, 13, 14, 15, 17, 16] (by decide +kernel) (by decide +kernel)
