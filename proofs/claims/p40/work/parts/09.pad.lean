/-! the pad -/
def PD (G : gT) (p : Nat → Nat) (f : Nat → Nat) (n : Nat) : va_W := [(p 0, .inr (3, [.ref (p 1), .int (nI n)])), (p 1, .inl (G.2 1, 60, .inl (nf f)))]
/-- an index or -1 -/
def rN : Option Nat → Int32 | none => -1 | some k => nI k
set_option maxHeartbeats 4000000 in
set_option maxRecDepth 100000 in
theorem c_Y3_init (l : Launch) (G : gT) (d : Nat) : CM l G yX3_init wsX3_init 2 32 0 [.ref d] [[(d, .inr (3, [.null, .int 0]))]] 1 60 (fun v u => ∃ (p : Nat → Nat), p 0 = d ∧ v = none ∧ u = [PD G p (fun _ => 0) 0]) := by
  refine CM_of RX3 1 12 rfl rfl (by decide) (by decide +kernel) (Nat.le_of_ble_eq_true rfl) (fun E A X hrt hnm => ?_)
  have hin : (e_h E).name = "<init>" := hnm
  have F11 := Fld_of (idx := 11) 3 0 X (by decide) (by decide) (by decide +kernel) (by decide +kernel)
  have F15 := Fld_of (idx := 15) 3 1 X (by decide) (by decide) (by decide +kernel) (by decide +kernel)
  generalize hQ : QM E G A _ _ _ = Q
  show V E G A 1 [[(d, .inr (3, [.null, .int 0]))]] 0 0 Q 0 [(0, .ref d)] []
  refine V_aload_n (pc' := 1) 0 X dX3_init_0 rfl rfl rfl ?_
  refine V_obj (pc' := 4) X (by decide +kernel) (by decide +kernel) (by decide +kernel) dX3_init_1 (Nat.le_of_ble_eq_true rfl) (Nat.le_of_ble_eq_true rfl) rfl ?_
  refine V_aload_n (pc' := 5) 0 X dX3_init_4 rfl rfl rfl ?_
  refine V_bipush (pc' := 7) (nI 60) X dX3_init_5 kb_60 rfl ?_
  refine V_newc (pc' := 9) (n := 60) X (by decide +kernel) (by decide) (Nat.le_of_ble_eq_true rfl) (Nat.le_of_ble_eq_true rfl) dX3_init_7 rfl (fun q_1 => ?_)
  show V E G A 1 [[(d, .inr (3, [.null, .int 0]))], [(q_1, .inl (G.2 1, 60, .inl (fun _ => 0)))]] 1 60 Q 9 [(0, .ref d)] [.ref q_1, .ref d]
  refine V_putF (pc' := 12) 0 [[(d, .inr (3, [.ref q_1, .int 0]))], [(q_1, .inl (G.2 1, 60, .inl (fun _ => 0)))]] X F11 rfl rfl hin rfl rfl rfl (Nat.le_of_ble_eq_true rfl) rfl dX3_init_9 rfl ?_
  refine V_aload_n (pc' := 13) 0 X dX3_init_12 rfl rfl rfl ?_
  refine V_iconst (pc' := 14) (nI 0) X dX3_init_13 ki_0 rfl ?_
  refine V_put (pc' := 17) 0 [[(d, .inr (3, [.ref q_1, .int (nI 0)]))], [(q_1, .inl (G.2 1, 60, .inl (fun _ => 0)))]] X F15 rfl rfl rfl rfl (Nat.le_of_ble_eq_true rfl) rfl dX3_init_14 rfl ?_
  refine V_ws [[(d, .inr (3, [.ref q_1, .int (nI 0)])), (q_1, .inl (G.2 1, 60, .inl (fun _ => 0)))]] rfl ?_
  refine V_wsq [PD G (fun k => ([d, q_1].getD k 0)) (fun _ => 0) 0] (wsq.cons (weq.rf _) (wsq.cons (weq.row (fun k hk => nI_0.symm)) (wsq.rf _))) ?_
  exact V_return [PD G (fun k => ([d, q_1].getD k 0)) (fun _ => 0) 0] hQ X hrt dX3_init_17 (Nat.le_of_ble_eq_true rfl) (Nat.le_of_ble_eq_true rfl) (List.Perm.refl _) ⟨_, rfl, rfl, rfl⟩
