/-! the history: its object and row h, n states, the drums d k told by T k -/
def rot {α : Type} (f : Nat → α) : Nat → α | 0 => f 1 | 1 => f 2 | 2 => f 3 | 3 => f 4 | 4 => f 5 | _ => f 0
def HI (G : gT) (h : Nat → Nat) (n : Nat) (d : Nat → Nat → Nat) : va_W := [(h 0, .inr (2, [.ref (h 1), .int (nI n)])), (h 1, .inl (G.2 3, 6, .inr (.inr (.inr (.inr (fun k => some (d k 0)))))))]
def HD (G : gT) (d T : Nat → Nat → Nat) : va_W := DW G (d 0) (T 0) ++ (DW G (d 1) (T 1) ++ (DW G (d 2) (T 2) ++ (DW G (d 3) (T 3) ++ (DW G (d 4) (T 4) ++ DW G (d 5) (T 5)))))
/-- the drums of a history but one -/
def HR (G : gT) (d T : Nat → Nat → Nat) : Nat → va_W
  | 0 => DW G (d 1) (T 1) ++ (DW G (d 2) (T 2) ++ (DW G (d 3) (T 3) ++ (DW G (d 4) (T 4) ++ DW G (d 5) (T 5))))
  | 1 => DW G (d 0) (T 0) ++ (DW G (d 2) (T 2) ++ (DW G (d 3) (T 3) ++ (DW G (d 4) (T 4) ++ DW G (d 5) (T 5))))
  | 2 => DW G (d 0) (T 0) ++ (DW G (d 1) (T 1) ++ (DW G (d 3) (T 3) ++ (DW G (d 4) (T 4) ++ DW G (d 5) (T 5))))
  | 3 => DW G (d 0) (T 0) ++ (DW G (d 1) (T 1) ++ (DW G (d 2) (T 2) ++ (DW G (d 4) (T 4) ++ DW G (d 5) (T 5))))
  | 4 => DW G (d 0) (T 0) ++ (DW G (d 1) (T 1) ++ (DW G (d 2) (T 2) ++ (DW G (d 3) (T 3) ++ DW G (d 5) (T 5))))
  | _ => DW G (d 0) (T 0) ++ (DW G (d 1) (T 1) ++ (DW G (d 2) (T 2) ++ (DW G (d 3) (T 3) ++ DW G (d 4) (T 4))))
theorem perm_mid {a b c : va_W} : (a ++ (b ++ c)).Perm (b ++ (a ++ c)) := by
  rw [← List.append_assoc, ← List.append_assoc]
  exact List.Perm.append_right _ List.perm_append_comm
theorem HD_perm (G : gT) (d T : Nat → Nat → Nat) : ∀ m, m < 6 → (HD G d T).Perm (DW G (d m) (T m) ++ HR G d T m)
  | 0, _ => List.Perm.refl _
  | 1, _ => perm_mid
  | 2, _ => (List.Perm.append_left _ perm_mid).trans perm_mid
  | 3, _ => (List.Perm.append_left _ ((List.Perm.append_left _ perm_mid).trans perm_mid)).trans perm_mid
  | 4, _ => (List.Perm.append_left _ ((List.Perm.append_left _ ((List.Perm.append_left _ perm_mid).trans perm_mid)).trans perm_mid)).trans perm_mid
  | 5, _ => (List.Perm.append_left _ ((List.Perm.append_left _ ((List.Perm.append_left _ ((List.Perm.append_left _ List.perm_append_comm).trans perm_mid)).trans perm_mid)).trans perm_mid)).trans perm_mid
  | _ + 6, h => absurd h (by omega)
theorem HR_congr {G : gT} {d T T' : Nat → Nat → Nat} : ∀ m, m < 6 → (∀ k, k < 6 → k ≠ m → T k = T' k) → HR G d T m = HR G d T' m
  | 0, _, h => by simp only [HR]; rw [h 1 (by decide) (by decide), h 2 (by decide) (by decide), h 3 (by decide) (by decide), h 4 (by decide) (by decide), h 5 (by decide) (by decide)]
  | 1, _, h => by simp only [HR]; rw [h 0 (by decide) (by decide), h 2 (by decide) (by decide), h 3 (by decide) (by decide), h 4 (by decide) (by decide), h 5 (by decide) (by decide)]
  | 2, _, h => by simp only [HR]; rw [h 0 (by decide) (by decide), h 1 (by decide) (by decide), h 3 (by decide) (by decide), h 4 (by decide) (by decide), h 5 (by decide) (by decide)]
  | 3, _, h => by simp only [HR]; rw [h 0 (by decide) (by decide), h 1 (by decide) (by decide), h 2 (by decide) (by decide), h 4 (by decide) (by decide), h 5 (by decide) (by decide)]
  | 4, _, h => by simp only [HR]; rw [h 0 (by decide) (by decide), h 1 (by decide) (by decide), h 2 (by decide) (by decide), h 3 (by decide) (by decide), h 5 (by decide) (by decide)]
  | 5, _, h => by simp only [HR]; rw [h 0 (by decide) (by decide), h 1 (by decide) (by decide), h 2 (by decide) (by decide), h 3 (by decide) (by decide), h 4 (by decide) (by decide)]
  | _ + 6, h, _ => absurd h (by omega)
/-- drum m told anew -/
theorem HD_perm' (G : gT) (d T : Nat → Nat → Nat) (S : Nat → Nat) {m : Nat} (hm : m < 6) : (DW G (d m) S ++ HR G d T m).Perm (HD G d (fun k => if k = m then S else T k)) := by
  have h := (HD_perm G d (fun k => if k = m then S else T k) m hm).symm
  rw [HR_congr (T' := T) m hm (fun k _ hk => if_neg hk)] at h
  simp only [if_true] at h
  exact h
theorem fl_split {L : List va_W} {X Y Z : va_W} (i : Nat) (hx : L[i]? = some X) (h : X.Perm (Y ++ Z)) : L.flatten.Perm (L.take i ++ Y :: Z :: L.drop (i + 1)).flatten := by
  obtain ⟨hi, e⟩ := List.getElem?_eq_some_iff.mp hx
  have h1 : L = L.take i ++ X :: L.drop (i + 1) := by rw [← e, ← List.drop_eq_getElem_cons hi, List.take_append_drop]
  have h2 : L.flatten = (L.take i).flatten ++ (X ++ (L.drop (i + 1)).flatten) := by rw [congrArg List.flatten h1]; simp
  rw [h2, List.flatten_append, List.flatten_cons, List.flatten_cons, ← List.append_assoc Y]
  exact List.Perm.append_left _ (List.Perm.append_right _ h)
section
variable {E : EE} {G : gT} {A : Nat → Prop} {nL : Nat} {bs bs' : List va_W} {kc ks : Nat} {Q : State → Prop} {pc pc' : Nat} {lv lv' : List (Nat × Value)} {st : List Value} {cc : ByteArray} {own : String} {Ts : List Cond} {rm : Room} {l : Launch}
theorem V_split {X Y Z : va_W} (i : Nat) (hx : bs[i]? = some X) (h : X.Perm (Y ++ Z)) (hb : bs.take i ++ Y :: Z :: bs.drop (i + 1) = bs') (kk : V E G A nL bs' kc ks Q pc lv st) : V E G A nL bs kc ks Q pc lv st :=
  V_perm bs' (by subst hb; exact fl_split i hx h) kk
/-- the blocks i and i + 1 are one -/
theorem V_join {X Y Z : va_W} (i : Nat) (hx : bs'[i]? = some X) (h : (Y ++ Z).Perm X) (hb : bs'.take i ++ Y :: Z :: bs'.drop (i + 1) = bs) (kk : V E G A nL bs' kc ks Q pc lv st) : V E G A nL bs kc ks Q pc lv st :=
  V_perm bs' (by subst hb; exact (fl_split i hx h.symm).symm) kk
end
theorem nI_sub1 (n : Nat) : nI (n + 1) - nI 1 = nI n := by rw [pk_sub (Nat.le_add_left 1 n), Nat.add_sub_cancel]

set_option maxHeartbeats 4000000 in
set_option maxRecDepth 100000 in
theorem c_X2_init (l : Launch) (G : gT) (q : Nat) : CM l G yX2_init wsX2_init 4 85 0 [.ref q] [[(q, .inr (2, [.null, .int 0]))]] 43 468 (fun v u => ∃ (h : Nat → Nat) (d : Nat → Nat → Nat), h 0 = q ∧ v = none ∧ u = [HI G h 0 d, HD G d (fun _ => S0 3)]) := by
  refine CM_of RX2 3 64 rfl rfl (by decide) (by decide +kernel) (Nat.le_of_ble_eq_true rfl) (fun E A X hrt hnm => ?_)
  have hin : (e_h E).name = "<init>" := hnm
  have F11 := Fld_of (idx := 11) 2 0 X (by decide) (by decide) (by decide +kernel) (by decide +kernel)
  have F17 := Fld_of (idx := 17) 2 1 X (by decide) (by decide) (by decide +kernel) (by decide +kernel)
  generalize hQ : QM E G A _ _ _ = Q
  show V E G A 2 [[(q, .inr (2, [.null, .int 0]))]] 0 0 Q 0 [(0, .ref q)] []
  refine V_aload_n (pc' := 1) 0 X dX2_init_0 rfl rfl rfl ?_
  refine V_obj (pc' := 4) X (by decide +kernel) (by decide +kernel) (by decide +kernel) dX2_init_1 (Nat.le_of_ble_eq_true rfl) (Nat.le_of_ble_eq_true rfl) rfl ?_
  refine V_aload_n (pc' := 5) 0 X dX2_init_4 rfl rfl rfl ?_
  refine V_bipush (pc' := 7) (nI 6) X dX2_init_5 kb_6 rfl ?_
  refine V_newq (pc' := 10) (n := 6) X (by decide +kernel) (by decide) (Nat.le_of_ble_eq_true rfl) (Nat.le_of_ble_eq_true rfl) dX2_init_7 rfl (fun q_1 => ?_)
  show V E G A 2 [[(q, .inr (2, [.null, .int 0]))], [(q_1, .inl (G.2 3, 6, .inr (.inr (.inr (.inr (fun _ => none))))))]] 1 6 Q 10 [(0, .ref q)] [.ref q_1, .ref q]
  refine V_putF (pc' := 13) 0 [[(q, .inr (2, [.ref q_1, .int 0]))], [(q_1, .inl (G.2 3, 6, .inr (.inr (.inr (.inr (fun _ => none))))))]] X F11 rfl rfl hin rfl rfl rfl (Nat.le_of_ble_eq_true rfl) rfl dX2_init_10 rfl ?_
  refine V_aload_n (pc' := 14) 0 X dX2_init_13 rfl rfl rfl ?_
  refine V_iconst (pc' := 15) (nI 0) X dX2_init_14 ki_0 rfl ?_
  refine V_put (pc' := 18) 0 [[(q, .inr (2, [.ref q_1, .int (nI 0)]))], [(q_1, .inl (G.2 3, 6, .inr (.inr (.inr (.inr (fun _ => none))))))]] X F17 rfl rfl rfl rfl (Nat.le_of_ble_eq_true rfl) rfl dX2_init_15 rfl ?_
  refine V_iconst (pc' := 19) (nI 0) X dX2_init_18 ki_0 rfl ?_
  refine V_istore_n (pc' := 20) [(0, .ref q), (1, .int (nI 0))] [1, 0] X dX2_init_19 rfl (Nat.le_of_ble_eq_true rfl) rfl rfl ?_
  refine V_iload_n (pc' := 21) 1 X dX2_init_20 rfl rfl rfl ?_
  refine V_bipush (pc' := 23) (nI 6) X dX2_init_21 kb_6 rfl ?_
  refine V_icmp_ge (pc' := 26) (C := 6 ≤ 0) 45 X dX2_init_23 (by decide) rfl (nI_leI (by omega) (by omega)) (fun hz => absurd hz (by decide)) (fun _ => ?_)
  refine V_aload_n (pc' := 27) 0 X dX2_init_26 rfl rfl rfl ?_
  refine V_get (pc' := 30) 0 X F11 rfl rfl dX2_init_27 rfl ?_
  refine V_iload_n (pc' := 31) 1 X dX2_init_30 rfl rfl rfl ?_
  refine V_new (pc' := 34) 0 [.null, .null, .null, .null, .null, .int 0, .int 0, .int 0, .int 0, .int 0] X (by decide) (by decide +kernel) (by decide +kernel) (by decide +kernel) (by decide +kernel) (fun j hj => by have hj : j < 10 := hj; rcases (show j = 0 ∨ j = 1 ∨ j = 2 ∨ j = 3 ∨ j = 4 ∨ j = 5 ∨ j = 6 ∨ j = 7 ∨ j = 8 ∨ j = 9 by omega) with rfl | rfl | rfl | rfl | rfl | rfl | rfl | rfl | rfl | rfl <;> rfl) (Nat.le_of_ble_eq_true rfl) (Nat.le_of_ble_eq_true rfl) dX2_init_31 rfl (fun q_2 => ?_)
  show V E G A 2 [[(q, .inr (2, [.ref q_1, .int (nI 0)]))], [(q_1, .inl (G.2 3, 6, .inr (.inr (.inr (.inr (fun _ => none))))))], [(q_2, .inr (0, [.null, .null, .null, .null, .null, .int 0, .int 0, .int 0, .int 0, .int 0]))]] 2 16 Q 34 [(0, .ref q), (1, .int (nI 0))] [.ref q_2, .int (nI 0), .ref q_1]
  refine V_dup (pc' := 35) X dX2_init_34 rfl rfl ?_
  refine V_callI (pc' := 38) (As := []) (st := [.ref q_2, .int (nI 0), .ref q_1]) [2] [0, 1] (show (List.range 3).Perm ([2] ++ [0, 1]) by decide) X (c_X0_init l G q_2) rfl gX2_init_X0_init (by decide +kernel) (by decide +kernel) (by decide +kernel) rfl (fun _ _ _ _ h => (Cond.code.inj (List.cons.inj h).1).2.2.2.symm) rfl rfl (Nat.le_of_ble_eq_true rfl) ⟨Nat.le_of_ble_eq_true rfl, Nat.le_of_ble_eq_true rfl⟩ ⟨Nat.le_of_ble_eq_true rfl, Nat.le_of_ble_eq_true rfl⟩ dX2_init_35 rfl (fun v_ u_ hp_ => ?_)
  obtain ⟨ad_3, rfl, rfl, rfl⟩ := hp_
  show V E G A 2 [[(q, .inr (2, [.ref q_1, .int (nI 0)]))], [(q_1, .inl (G.2 3, 6, .inr (.inr (.inr (.inr (fun _ => none))))))], DW G ad_3 (S0 3)] 8 83 Q 38 [(0, .ref q), (1, .int (nI 0))] [.ref (ad_3 0), .int (nI 0), .ref q_1]
  refine V_aast (pc' := 39) 1 2 0 [[(q, .inr (2, [.ref q_1, .int (nI 0)]))], [(q_1, .inl (G.2 3, 6, .inr (.inr (.inr (.inr (va_up (fun _ => none) 0 (some (ad_3 0))))))))], DW G ad_3 (S0 3)] X rfl rfl (by omega) (by decide) rfl dX2_init_38 rfl ?_
  refine V_iinc (pc' := 42) [(0, .ref q), (1, .int (nI 1))] 1 [1, 0] X dX2_init_39 rfl (nI_i1 _) (Nat.le_of_ble_eq_true rfl) rfl rfl ?_
  refine V_goto (pc' := 20) X dX2_init_42 (by decide) ?_
  refine V_iload_n (pc' := 21) 1 X dX2_init_20 rfl rfl rfl ?_
  refine V_bipush (pc' := 23) (nI 6) X dX2_init_21 kb_6 rfl ?_
  refine V_icmp_ge (pc' := 26) (C := 6 ≤ 1) 45 X dX2_init_23 (by decide) rfl (nI_leI (by omega) (by omega)) (fun hz => absurd hz (by decide)) (fun _ => ?_)
  refine V_aload_n (pc' := 27) 0 X dX2_init_26 rfl rfl rfl ?_
  refine V_get (pc' := 30) 0 X F11 rfl rfl dX2_init_27 rfl ?_
  refine V_iload_n (pc' := 31) 1 X dX2_init_30 rfl rfl rfl ?_
  refine V_new (pc' := 34) 0 [.null, .null, .null, .null, .null, .int 0, .int 0, .int 0, .int 0, .int 0] X (by decide) (by decide +kernel) (by decide +kernel) (by decide +kernel) (by decide +kernel) (fun j hj => by have hj : j < 10 := hj; rcases (show j = 0 ∨ j = 1 ∨ j = 2 ∨ j = 3 ∨ j = 4 ∨ j = 5 ∨ j = 6 ∨ j = 7 ∨ j = 8 ∨ j = 9 by omega) with rfl | rfl | rfl | rfl | rfl | rfl | rfl | rfl | rfl | rfl <;> rfl) (Nat.le_of_ble_eq_true rfl) (Nat.le_of_ble_eq_true rfl) dX2_init_31 rfl (fun q_4 => ?_)
  show V E G A 2 [[(q, .inr (2, [.ref q_1, .int (nI 0)]))], [(q_1, .inl (G.2 3, 6, .inr (.inr (.inr (.inr (va_up (fun _ => none) 0 (some (ad_3 0))))))))], DW G ad_3 (S0 3), [(q_4, .inr (0, [.null, .null, .null, .null, .null, .int 0, .int 0, .int 0, .int 0, .int 0]))]] 9 93 Q 34 [(0, .ref q), (1, .int (nI 1))] [.ref q_4, .int (nI 1), .ref q_1]
  refine V_dup (pc' := 35) X dX2_init_34 rfl rfl ?_
  refine V_callI (pc' := 38) (As := []) (st := [.ref q_4, .int (nI 1), .ref q_1]) [3] [0, 1, 2] (show (List.range 4).Perm ([3] ++ [0, 1, 2]) by decide) X (c_X0_init l G q_4) rfl gX2_init_X0_init (by decide +kernel) (by decide +kernel) (by decide +kernel) rfl (fun _ _ _ _ h => (Cond.code.inj (List.cons.inj h).1).2.2.2.symm) rfl rfl (Nat.le_of_ble_eq_true rfl) ⟨Nat.le_of_ble_eq_true rfl, Nat.le_of_ble_eq_true rfl⟩ ⟨Nat.le_of_ble_eq_true rfl, Nat.le_of_ble_eq_true rfl⟩ dX2_init_35 rfl (fun v_ u_ hp_ => ?_)
  obtain ⟨ad_5, rfl, rfl, rfl⟩ := hp_
  show V E G A 2 [[(q, .inr (2, [.ref q_1, .int (nI 0)]))], [(q_1, .inl (G.2 3, 6, .inr (.inr (.inr (.inr (va_up (fun _ => none) 0 (some (ad_3 0))))))))], DW G ad_3 (S0 3), DW G ad_5 (S0 3)] 15 160 Q 38 [(0, .ref q), (1, .int (nI 1))] [.ref (ad_5 0), .int (nI 1), .ref q_1]
  refine V_aast (pc' := 39) 1 9 1 [[(q, .inr (2, [.ref q_1, .int (nI 0)]))], [(q_1, .inl (G.2 3, 6, .inr (.inr (.inr (.inr (va_up (va_up (fun _ => none) 0 (some (ad_3 0))) 1 (some (ad_5 0))))))))], DW G ad_3 (S0 3), DW G ad_5 (S0 3)] X rfl rfl (by omega) (by decide) rfl dX2_init_38 rfl ?_
  refine V_iinc (pc' := 42) [(0, .ref q), (1, .int (nI 2))] 1 [1, 0] X dX2_init_39 rfl (nI_i1 _) (Nat.le_of_ble_eq_true rfl) rfl rfl ?_
  refine V_goto (pc' := 20) X dX2_init_42 (by decide) ?_
  refine V_iload_n (pc' := 21) 1 X dX2_init_20 rfl rfl rfl ?_
  refine V_bipush (pc' := 23) (nI 6) X dX2_init_21 kb_6 rfl ?_
  refine V_icmp_ge (pc' := 26) (C := 6 ≤ 2) 45 X dX2_init_23 (by decide) rfl (nI_leI (by omega) (by omega)) (fun hz => absurd hz (by decide)) (fun _ => ?_)
  refine V_aload_n (pc' := 27) 0 X dX2_init_26 rfl rfl rfl ?_
  refine V_get (pc' := 30) 0 X F11 rfl rfl dX2_init_27 rfl ?_
  refine V_iload_n (pc' := 31) 1 X dX2_init_30 rfl rfl rfl ?_
  refine V_new (pc' := 34) 0 [.null, .null, .null, .null, .null, .int 0, .int 0, .int 0, .int 0, .int 0] X (by decide) (by decide +kernel) (by decide +kernel) (by decide +kernel) (by decide +kernel) (fun j hj => by have hj : j < 10 := hj; rcases (show j = 0 ∨ j = 1 ∨ j = 2 ∨ j = 3 ∨ j = 4 ∨ j = 5 ∨ j = 6 ∨ j = 7 ∨ j = 8 ∨ j = 9 by omega) with rfl | rfl | rfl | rfl | rfl | rfl | rfl | rfl | rfl | rfl <;> rfl) (Nat.le_of_ble_eq_true rfl) (Nat.le_of_ble_eq_true rfl) dX2_init_31 rfl (fun q_6 => ?_)
  show V E G A 2 [[(q, .inr (2, [.ref q_1, .int (nI 0)]))], [(q_1, .inl (G.2 3, 6, .inr (.inr (.inr (.inr (va_up (va_up (fun _ => none) 0 (some (ad_3 0))) 1 (some (ad_5 0))))))))], DW G ad_3 (S0 3), DW G ad_5 (S0 3), [(q_6, .inr (0, [.null, .null, .null, .null, .null, .int 0, .int 0, .int 0, .int 0, .int 0]))]] 16 170 Q 34 [(0, .ref q), (1, .int (nI 2))] [.ref q_6, .int (nI 2), .ref q_1]
  refine V_dup (pc' := 35) X dX2_init_34 rfl rfl ?_
  refine V_callI (pc' := 38) (As := []) (st := [.ref q_6, .int (nI 2), .ref q_1]) [4] [0, 1, 2, 3] (show (List.range 5).Perm ([4] ++ [0, 1, 2, 3]) by decide) X (c_X0_init l G q_6) rfl gX2_init_X0_init (by decide +kernel) (by decide +kernel) (by decide +kernel) rfl (fun _ _ _ _ h => (Cond.code.inj (List.cons.inj h).1).2.2.2.symm) rfl rfl (Nat.le_of_ble_eq_true rfl) ⟨Nat.le_of_ble_eq_true rfl, Nat.le_of_ble_eq_true rfl⟩ ⟨Nat.le_of_ble_eq_true rfl, Nat.le_of_ble_eq_true rfl⟩ dX2_init_35 rfl (fun v_ u_ hp_ => ?_)
  obtain ⟨ad_7, rfl, rfl, rfl⟩ := hp_
  show V E G A 2 [[(q, .inr (2, [.ref q_1, .int (nI 0)]))], [(q_1, .inl (G.2 3, 6, .inr (.inr (.inr (.inr (va_up (va_up (fun _ => none) 0 (some (ad_3 0))) 1 (some (ad_5 0))))))))], DW G ad_3 (S0 3), DW G ad_5 (S0 3), DW G ad_7 (S0 3)] 22 237 Q 38 [(0, .ref q), (1, .int (nI 2))] [.ref (ad_7 0), .int (nI 2), .ref q_1]
  refine V_aast (pc' := 39) 1 16 2 [[(q, .inr (2, [.ref q_1, .int (nI 0)]))], [(q_1, .inl (G.2 3, 6, .inr (.inr (.inr (.inr (va_up (va_up (va_up (fun _ => none) 0 (some (ad_3 0))) 1 (some (ad_5 0))) 2 (some (ad_7 0))))))))], DW G ad_3 (S0 3), DW G ad_5 (S0 3), DW G ad_7 (S0 3)] X rfl rfl (by omega) (by decide) rfl dX2_init_38 rfl ?_
  refine V_iinc (pc' := 42) [(0, .ref q), (1, .int (nI 3))] 1 [1, 0] X dX2_init_39 rfl (nI_i1 _) (Nat.le_of_ble_eq_true rfl) rfl rfl ?_
  refine V_goto (pc' := 20) X dX2_init_42 (by decide) ?_
  refine V_iload_n (pc' := 21) 1 X dX2_init_20 rfl rfl rfl ?_
  refine V_bipush (pc' := 23) (nI 6) X dX2_init_21 kb_6 rfl ?_
  refine V_icmp_ge (pc' := 26) (C := 6 ≤ 3) 45 X dX2_init_23 (by decide) rfl (nI_leI (by omega) (by omega)) (fun hz => absurd hz (by decide)) (fun _ => ?_)
  refine V_aload_n (pc' := 27) 0 X dX2_init_26 rfl rfl rfl ?_
  refine V_get (pc' := 30) 0 X F11 rfl rfl dX2_init_27 rfl ?_
  refine V_iload_n (pc' := 31) 1 X dX2_init_30 rfl rfl rfl ?_
  refine V_new (pc' := 34) 0 [.null, .null, .null, .null, .null, .int 0, .int 0, .int 0, .int 0, .int 0] X (by decide) (by decide +kernel) (by decide +kernel) (by decide +kernel) (by decide +kernel) (fun j hj => by have hj : j < 10 := hj; rcases (show j = 0 ∨ j = 1 ∨ j = 2 ∨ j = 3 ∨ j = 4 ∨ j = 5 ∨ j = 6 ∨ j = 7 ∨ j = 8 ∨ j = 9 by omega) with rfl | rfl | rfl | rfl | rfl | rfl | rfl | rfl | rfl | rfl <;> rfl) (Nat.le_of_ble_eq_true rfl) (Nat.le_of_ble_eq_true rfl) dX2_init_31 rfl (fun q_8 => ?_)
  show V E G A 2 [[(q, .inr (2, [.ref q_1, .int (nI 0)]))], [(q_1, .inl (G.2 3, 6, .inr (.inr (.inr (.inr (va_up (va_up (va_up (fun _ => none) 0 (some (ad_3 0))) 1 (some (ad_5 0))) 2 (some (ad_7 0))))))))], DW G ad_3 (S0 3), DW G ad_5 (S0 3), DW G ad_7 (S0 3), [(q_8, .inr (0, [.null, .null, .null, .null, .null, .int 0, .int 0, .int 0, .int 0, .int 0]))]] 23 247 Q 34 [(0, .ref q), (1, .int (nI 3))] [.ref q_8, .int (nI 3), .ref q_1]
  refine V_dup (pc' := 35) X dX2_init_34 rfl rfl ?_
  refine V_callI (pc' := 38) (As := []) (st := [.ref q_8, .int (nI 3), .ref q_1]) [5] [0, 1, 2, 3, 4] (show (List.range 6).Perm ([5] ++ [0, 1, 2, 3, 4]) by decide) X (c_X0_init l G q_8) rfl gX2_init_X0_init (by decide +kernel) (by decide +kernel) (by decide +kernel) rfl (fun _ _ _ _ h => (Cond.code.inj (List.cons.inj h).1).2.2.2.symm) rfl rfl (Nat.le_of_ble_eq_true rfl) ⟨Nat.le_of_ble_eq_true rfl, Nat.le_of_ble_eq_true rfl⟩ ⟨Nat.le_of_ble_eq_true rfl, Nat.le_of_ble_eq_true rfl⟩ dX2_init_35 rfl (fun v_ u_ hp_ => ?_)
  obtain ⟨ad_9, rfl, rfl, rfl⟩ := hp_
  show V E G A 2 [[(q, .inr (2, [.ref q_1, .int (nI 0)]))], [(q_1, .inl (G.2 3, 6, .inr (.inr (.inr (.inr (va_up (va_up (va_up (fun _ => none) 0 (some (ad_3 0))) 1 (some (ad_5 0))) 2 (some (ad_7 0))))))))], DW G ad_3 (S0 3), DW G ad_5 (S0 3), DW G ad_7 (S0 3), DW G ad_9 (S0 3)] 29 314 Q 38 [(0, .ref q), (1, .int (nI 3))] [.ref (ad_9 0), .int (nI 3), .ref q_1]
  refine V_aast (pc' := 39) 1 23 3 [[(q, .inr (2, [.ref q_1, .int (nI 0)]))], [(q_1, .inl (G.2 3, 6, .inr (.inr (.inr (.inr (va_up (va_up (va_up (va_up (fun _ => none) 0 (some (ad_3 0))) 1 (some (ad_5 0))) 2 (some (ad_7 0))) 3 (some (ad_9 0))))))))], DW G ad_3 (S0 3), DW G ad_5 (S0 3), DW G ad_7 (S0 3), DW G ad_9 (S0 3)] X rfl rfl (by omega) (by decide) rfl dX2_init_38 rfl ?_
  refine V_iinc (pc' := 42) [(0, .ref q), (1, .int (nI 4))] 1 [1, 0] X dX2_init_39 rfl (nI_i1 _) (Nat.le_of_ble_eq_true rfl) rfl rfl ?_
  refine V_goto (pc' := 20) X dX2_init_42 (by decide) ?_
  refine V_iload_n (pc' := 21) 1 X dX2_init_20 rfl rfl rfl ?_
  refine V_bipush (pc' := 23) (nI 6) X dX2_init_21 kb_6 rfl ?_
  refine V_icmp_ge (pc' := 26) (C := 6 ≤ 4) 45 X dX2_init_23 (by decide) rfl (nI_leI (by omega) (by omega)) (fun hz => absurd hz (by decide)) (fun _ => ?_)
  refine V_aload_n (pc' := 27) 0 X dX2_init_26 rfl rfl rfl ?_
  refine V_get (pc' := 30) 0 X F11 rfl rfl dX2_init_27 rfl ?_
  refine V_iload_n (pc' := 31) 1 X dX2_init_30 rfl rfl rfl ?_
  refine V_new (pc' := 34) 0 [.null, .null, .null, .null, .null, .int 0, .int 0, .int 0, .int 0, .int 0] X (by decide) (by decide +kernel) (by decide +kernel) (by decide +kernel) (by decide +kernel) (fun j hj => by have hj : j < 10 := hj; rcases (show j = 0 ∨ j = 1 ∨ j = 2 ∨ j = 3 ∨ j = 4 ∨ j = 5 ∨ j = 6 ∨ j = 7 ∨ j = 8 ∨ j = 9 by omega) with rfl | rfl | rfl | rfl | rfl | rfl | rfl | rfl | rfl | rfl <;> rfl) (Nat.le_of_ble_eq_true rfl) (Nat.le_of_ble_eq_true rfl) dX2_init_31 rfl (fun q_10 => ?_)
  show V E G A 2 [[(q, .inr (2, [.ref q_1, .int (nI 0)]))], [(q_1, .inl (G.2 3, 6, .inr (.inr (.inr (.inr (va_up (va_up (va_up (va_up (fun _ => none) 0 (some (ad_3 0))) 1 (some (ad_5 0))) 2 (some (ad_7 0))) 3 (some (ad_9 0))))))))], DW G ad_3 (S0 3), DW G ad_5 (S0 3), DW G ad_7 (S0 3), DW G ad_9 (S0 3), [(q_10, .inr (0, [.null, .null, .null, .null, .null, .int 0, .int 0, .int 0, .int 0, .int 0]))]] 30 324 Q 34 [(0, .ref q), (1, .int (nI 4))] [.ref q_10, .int (nI 4), .ref q_1]
  refine V_dup (pc' := 35) X dX2_init_34 rfl rfl ?_
  refine V_callI (pc' := 38) (As := []) (st := [.ref q_10, .int (nI 4), .ref q_1]) [6] [0, 1, 2, 3, 4, 5] (show (List.range 7).Perm ([6] ++ [0, 1, 2, 3, 4, 5]) by decide) X (c_X0_init l G q_10) rfl gX2_init_X0_init (by decide +kernel) (by decide +kernel) (by decide +kernel) rfl (fun _ _ _ _ h => (Cond.code.inj (List.cons.inj h).1).2.2.2.symm) rfl rfl (Nat.le_of_ble_eq_true rfl) ⟨Nat.le_of_ble_eq_true rfl, Nat.le_of_ble_eq_true rfl⟩ ⟨Nat.le_of_ble_eq_true rfl, Nat.le_of_ble_eq_true rfl⟩ dX2_init_35 rfl (fun v_ u_ hp_ => ?_)
  obtain ⟨ad_11, rfl, rfl, rfl⟩ := hp_
  show V E G A 2 [[(q, .inr (2, [.ref q_1, .int (nI 0)]))], [(q_1, .inl (G.2 3, 6, .inr (.inr (.inr (.inr (va_up (va_up (va_up (va_up (fun _ => none) 0 (some (ad_3 0))) 1 (some (ad_5 0))) 2 (some (ad_7 0))) 3 (some (ad_9 0))))))))], DW G ad_3 (S0 3), DW G ad_5 (S0 3), DW G ad_7 (S0 3), DW G ad_9 (S0 3), DW G ad_11 (S0 3)] 36 391 Q 38 [(0, .ref q), (1, .int (nI 4))] [.ref (ad_11 0), .int (nI 4), .ref q_1]
  refine V_aast (pc' := 39) 1 30 4 [[(q, .inr (2, [.ref q_1, .int (nI 0)]))], [(q_1, .inl (G.2 3, 6, .inr (.inr (.inr (.inr (va_up (va_up (va_up (va_up (va_up (fun _ => none) 0 (some (ad_3 0))) 1 (some (ad_5 0))) 2 (some (ad_7 0))) 3 (some (ad_9 0))) 4 (some (ad_11 0))))))))], DW G ad_3 (S0 3), DW G ad_5 (S0 3), DW G ad_7 (S0 3), DW G ad_9 (S0 3), DW G ad_11 (S0 3)] X rfl rfl (by omega) (by decide) rfl dX2_init_38 rfl ?_
  refine V_iinc (pc' := 42) [(0, .ref q), (1, .int (nI 5))] 1 [1, 0] X dX2_init_39 rfl (nI_i1 _) (Nat.le_of_ble_eq_true rfl) rfl rfl ?_
  refine V_goto (pc' := 20) X dX2_init_42 (by decide) ?_
  refine V_iload_n (pc' := 21) 1 X dX2_init_20 rfl rfl rfl ?_
  refine V_bipush (pc' := 23) (nI 6) X dX2_init_21 kb_6 rfl ?_
  refine V_icmp_ge (pc' := 26) (C := 6 ≤ 5) 45 X dX2_init_23 (by decide) rfl (nI_leI (by omega) (by omega)) (fun hz => absurd hz (by decide)) (fun _ => ?_)
  refine V_aload_n (pc' := 27) 0 X dX2_init_26 rfl rfl rfl ?_
  refine V_get (pc' := 30) 0 X F11 rfl rfl dX2_init_27 rfl ?_
  refine V_iload_n (pc' := 31) 1 X dX2_init_30 rfl rfl rfl ?_
  refine V_new (pc' := 34) 0 [.null, .null, .null, .null, .null, .int 0, .int 0, .int 0, .int 0, .int 0] X (by decide) (by decide +kernel) (by decide +kernel) (by decide +kernel) (by decide +kernel) (fun j hj => by have hj : j < 10 := hj; rcases (show j = 0 ∨ j = 1 ∨ j = 2 ∨ j = 3 ∨ j = 4 ∨ j = 5 ∨ j = 6 ∨ j = 7 ∨ j = 8 ∨ j = 9 by omega) with rfl | rfl | rfl | rfl | rfl | rfl | rfl | rfl | rfl | rfl <;> rfl) (Nat.le_of_ble_eq_true rfl) (Nat.le_of_ble_eq_true rfl) dX2_init_31 rfl (fun q_12 => ?_)
  show V E G A 2 [[(q, .inr (2, [.ref q_1, .int (nI 0)]))], [(q_1, .inl (G.2 3, 6, .inr (.inr (.inr (.inr (va_up (va_up (va_up (va_up (va_up (fun _ => none) 0 (some (ad_3 0))) 1 (some (ad_5 0))) 2 (some (ad_7 0))) 3 (some (ad_9 0))) 4 (some (ad_11 0))))))))], DW G ad_3 (S0 3), DW G ad_5 (S0 3), DW G ad_7 (S0 3), DW G ad_9 (S0 3), DW G ad_11 (S0 3), [(q_12, .inr (0, [.null, .null, .null, .null, .null, .int 0, .int 0, .int 0, .int 0, .int 0]))]] 37 401 Q 34 [(0, .ref q), (1, .int (nI 5))] [.ref q_12, .int (nI 5), .ref q_1]
  refine V_dup (pc' := 35) X dX2_init_34 rfl rfl ?_
  refine V_callI (pc' := 38) (As := []) (st := [.ref q_12, .int (nI 5), .ref q_1]) [7] [0, 1, 2, 3, 4, 5, 6] (show (List.range 8).Perm ([7] ++ [0, 1, 2, 3, 4, 5, 6]) by decide) X (c_X0_init l G q_12) rfl gX2_init_X0_init (by decide +kernel) (by decide +kernel) (by decide +kernel) rfl (fun _ _ _ _ h => (Cond.code.inj (List.cons.inj h).1).2.2.2.symm) rfl rfl (Nat.le_of_ble_eq_true rfl) ⟨Nat.le_of_ble_eq_true rfl, Nat.le_of_ble_eq_true rfl⟩ ⟨Nat.le_of_ble_eq_true rfl, Nat.le_of_ble_eq_true rfl⟩ dX2_init_35 rfl (fun v_ u_ hp_ => ?_)
  obtain ⟨ad_13, rfl, rfl, rfl⟩ := hp_
  show V E G A 2 [[(q, .inr (2, [.ref q_1, .int (nI 0)]))], [(q_1, .inl (G.2 3, 6, .inr (.inr (.inr (.inr (va_up (va_up (va_up (va_up (va_up (fun _ => none) 0 (some (ad_3 0))) 1 (some (ad_5 0))) 2 (some (ad_7 0))) 3 (some (ad_9 0))) 4 (some (ad_11 0))))))))], DW G ad_3 (S0 3), DW G ad_5 (S0 3), DW G ad_7 (S0 3), DW G ad_9 (S0 3), DW G ad_11 (S0 3), DW G ad_13 (S0 3)] 43 468 Q 38 [(0, .ref q), (1, .int (nI 5))] [.ref (ad_13 0), .int (nI 5), .ref q_1]
  refine V_aast (pc' := 39) 1 37 5 [[(q, .inr (2, [.ref q_1, .int (nI 0)]))], [(q_1, .inl (G.2 3, 6, .inr (.inr (.inr (.inr (va_up (va_up (va_up (va_up (va_up (va_up (fun _ => none) 0 (some (ad_3 0))) 1 (some (ad_5 0))) 2 (some (ad_7 0))) 3 (some (ad_9 0))) 4 (some (ad_11 0))) 5 (some (ad_13 0))))))))], DW G ad_3 (S0 3), DW G ad_5 (S0 3), DW G ad_7 (S0 3), DW G ad_9 (S0 3), DW G ad_11 (S0 3), DW G ad_13 (S0 3)] X rfl rfl (by omega) (by decide) rfl dX2_init_38 rfl ?_
  refine V_iinc (pc' := 42) [(0, .ref q), (1, .int (nI 6))] 1 [1, 0] X dX2_init_39 rfl (nI_i1 _) (Nat.le_of_ble_eq_true rfl) rfl rfl ?_
  refine V_goto (pc' := 20) X dX2_init_42 (by decide) ?_
  refine V_iload_n (pc' := 21) 1 X dX2_init_20 rfl rfl rfl ?_
  refine V_bipush (pc' := 23) (nI 6) X dX2_init_21 kb_6 rfl ?_
  refine V_icmp_ge (pc' := 26) (C := 6 ≤ 6) 45 X dX2_init_23 (by decide) rfl (nI_leI (by omega) (by omega)) (fun _ => ?_) (fun hz => absurd (by decide) hz)
  refine V_ws [[(q, .inr (2, [.ref q_1, .int (nI 0)]))], [(q_1, .inl (G.2 3, 6, .inr (.inr (.inr (.inr (va_up (va_up (va_up (va_up (va_up (va_up (fun _ => none) 0 (some (ad_3 0))) 1 (some (ad_5 0))) 2 (some (ad_7 0))) 3 (some (ad_9 0))) 4 (some (ad_11 0))) 5 (some (ad_13 0))))))))], DW G ad_3 (S0 3), DW G ad_5 (S0 3), DW G ad_7 (S0 3), DW G ad_9 (S0 3), DW G ad_11 (S0 3), DW G ad_13 (S0 3)] rfl ?_
  refine V_ws [[(q, .inr (2, [.ref q_1, .int (nI 0)])), (q_1, .inl (G.2 3, 6, .inr (.inr (.inr (.inr (va_up (va_up (va_up (va_up (va_up (va_up (fun _ => none) 0 (some (ad_3 0))) 1 (some (ad_5 0))) 2 (some (ad_7 0))) 3 (some (ad_9 0))) 4 (some (ad_11 0))) 5 (some (ad_13 0))))))))], DW G ad_3 (S0 3), DW G ad_5 (S0 3), DW G ad_7 (S0 3), DW G ad_9 (S0 3), DW G ad_11 (S0 3), DW G ad_13 (S0 3)] rfl ?_
  refine V_wsq [HI G (fun k => ([q, q_1].getD k 0)) 0 (fun k => ([ad_3, ad_5, ad_7, ad_9, ad_11, ad_13].getD k (fun _ => 0))), HD G (fun k => ([ad_3, ad_5, ad_7, ad_9, ad_11, ad_13].getD k (fun _ => 0))) (fun _ => S0 3)] (wsq.cons (weq.rf _) (wsq.cons (weq.rowq (fun k hk => by rcases (show k = 0 ∨ k = 1 ∨ k = 2 ∨ k = 3 ∨ k = 4 ∨ k = 5 by omega) with rfl | rfl | rfl | rfl | rfl | rfl <;> rfl)) (wsq.rf _))) ?_
  exact V_return [HI G (fun k => ([q, q_1].getD k 0)) 0 (fun k => ([ad_3, ad_5, ad_7, ad_9, ad_11, ad_13].getD k (fun _ => 0))), HD G (fun k => ([ad_3, ad_5, ad_7, ad_9, ad_11, ad_13].getD k (fun _ => 0))) (fun _ => S0 3)] hQ X hrt dX2_init_45 (Nat.le_of_ble_eq_true rfl) (Nat.le_of_ble_eq_true rfl) (List.Perm.refl _) ⟨_, _, rfl, rfl, rfl⟩

set_option maxHeartbeats 4000000 in
set_option maxRecDepth 100000 in
theorem c_X2_dropOldest (l : Launch) (G : gT) (h : Nat → Nat) (d T : Nat → Nat → Nat) : CM l G yX2_dropOldest wsX2_dropOldest 1 22 0 [.ref (h 0)] [HI G h 6 d, HD G d T] 0 0 (fun v u => v = none ∧ u = [HI G h 5 (rot d), HD G (rot d) (rot T)]) := by
  refine CM_of RX2 0 0 rfl rfl (by decide) (by decide +kernel) (Nat.le_of_ble_eq_true rfl) (fun E A X hrt hnm => ?_)
  have F11 := Fld_of (idx := 11) 2 0 X (by decide) (by decide) (by decide +kernel) (by decide +kernel)
  have F17 := Fld_of (idx := 17) 2 1 X (by decide) (by decide) (by decide +kernel) (by decide +kernel)
  generalize hQ : QM E G A _ _ _ = Q
  refine V_ws [[((h 0), .inr (2, [.ref (h 1), .int (nI 6)])), ((h 1), .inl (G.2 3, 6, .inr (.inr (.inr (.inr (fun k => some ((d k) 0)))))))], DW G (d 0) (T 0), DW G (d 1) (T 1), DW G (d 2) (T 2), DW G (d 3) (T 3), DW G (d 4) (T 4), DW G (d 5) (T 5)] rfl ?_
  refine V_aload_n (pc' := 1) 0 X dX2_dropOldest_0 rfl rfl rfl ?_
  refine V_get (pc' := 4) 0 X F11 rfl rfl dX2_dropOldest_1 rfl ?_
  refine V_iconst (pc' := 5) (nI 0) X dX2_dropOldest_4 ki_0 rfl ?_
  refine V_aald (pc' := 6) (v := .ref ((d 0) 0)) 1 0 X rfl (by omega) (by decide) rfl dX2_dropOldest_5 rfl ?_
  refine V_astore_n (pc' := 7) [(0, .ref (h 0)), (1, .ref ((d 0) 0))] [1, 0] X dX2_dropOldest_6 rfl (Nat.le_of_ble_eq_true rfl) rfl rfl ?_
  refine V_iconst (pc' := 8) (nI 1) X dX2_dropOldest_7 ki_1 rfl ?_
  refine V_istore_n (pc' := 9) [(0, .ref (h 0)), (1, .ref ((d 0) 0)), (2, .int (nI 1))] [1, 2, 0] X dX2_dropOldest_8 rfl (Nat.le_of_ble_eq_true rfl) rfl rfl ?_
  refine V_iload_n (pc' := 10) 2 X dX2_dropOldest_9 rfl rfl rfl ?_
  refine V_bipush (pc' := 12) (nI 6) X dX2_dropOldest_10 kb_6 rfl ?_
  refine V_icmp_ge (pc' := 15) (C := 6 ≤ 1) 35 X dX2_dropOldest_12 (by decide) rfl (nI_leI (by omega) (by omega)) (fun hz => absurd hz (by decide)) (fun _ => ?_)
  refine V_aload_n (pc' := 16) 0 X dX2_dropOldest_15 rfl rfl rfl ?_
  refine V_get (pc' := 19) 0 X F11 rfl rfl dX2_dropOldest_16 rfl ?_
  refine V_iload_n (pc' := 20) 2 X dX2_dropOldest_19 rfl rfl rfl ?_
  refine V_iconst (pc' := 21) (nI 1) X dX2_dropOldest_20 ki_1 rfl ?_
  refine V_isub (pc' := 22) (nI 0) X dX2_dropOldest_21 (pk_sub (a := 1) (b := 1) (by decide)) rfl ?_
  refine V_aload_n (pc' := 23) 0 X dX2_dropOldest_22 rfl rfl rfl ?_
  refine V_get (pc' := 26) 0 X F11 rfl rfl dX2_dropOldest_23 rfl ?_
  refine V_iload_n (pc' := 27) 2 X dX2_dropOldest_26 rfl rfl rfl ?_
  refine V_aald (pc' := 28) (v := .ref ((d 1) 0)) 1 1 X rfl (by omega) (by decide) rfl dX2_dropOldest_27 rfl ?_
  refine V_aast (pc' := 29) 1 9 0 [[((h 0), .inr (2, [.ref (h 1), .int (nI 6)])), ((h 1), .inl (G.2 3, 6, .inr (.inr (.inr (.inr (va_up (fun k => some ((d k) 0)) 0 (some ((d 1) 0))))))))], DW G (d 0) (T 0), DW G (d 1) (T 1), DW G (d 2) (T 2), DW G (d 3) (T 3), DW G (d 4) (T 4), DW G (d 5) (T 5)] X rfl rfl (by omega) (by decide) rfl dX2_dropOldest_28 rfl ?_
  refine V_iinc (pc' := 32) [(0, .ref (h 0)), (1, .ref ((d 0) 0)), (2, .int (nI 2))] 2 [1, 2, 0] X dX2_dropOldest_29 rfl (nI_i1 _) (Nat.le_of_ble_eq_true rfl) rfl rfl ?_
  refine V_goto (pc' := 9) X dX2_dropOldest_32 (by decide) ?_
  refine V_iload_n (pc' := 10) 2 X dX2_dropOldest_9 rfl rfl rfl ?_
  refine V_bipush (pc' := 12) (nI 6) X dX2_dropOldest_10 kb_6 rfl ?_
  refine V_icmp_ge (pc' := 15) (C := 6 ≤ 2) 35 X dX2_dropOldest_12 (by decide) rfl (nI_leI (by omega) (by omega)) (fun hz => absurd hz (by decide)) (fun _ => ?_)
  refine V_aload_n (pc' := 16) 0 X dX2_dropOldest_15 rfl rfl rfl ?_
  refine V_get (pc' := 19) 0 X F11 rfl rfl dX2_dropOldest_16 rfl ?_
  refine V_iload_n (pc' := 20) 2 X dX2_dropOldest_19 rfl rfl rfl ?_
  refine V_iconst (pc' := 21) (nI 1) X dX2_dropOldest_20 ki_1 rfl ?_
  refine V_isub (pc' := 22) (nI 1) X dX2_dropOldest_21 (pk_sub (a := 2) (b := 1) (by decide)) rfl ?_
  refine V_aload_n (pc' := 23) 0 X dX2_dropOldest_22 rfl rfl rfl ?_
  refine V_get (pc' := 26) 0 X F11 rfl rfl dX2_dropOldest_23 rfl ?_
  refine V_iload_n (pc' := 27) 2 X dX2_dropOldest_26 rfl rfl rfl ?_
  refine V_aald (pc' := 28) (v := .ref ((d 2) 0)) 1 2 X rfl (by omega) (by decide) rfl dX2_dropOldest_27 rfl ?_
  refine V_aast (pc' := 29) 1 16 1 [[((h 0), .inr (2, [.ref (h 1), .int (nI 6)])), ((h 1), .inl (G.2 3, 6, .inr (.inr (.inr (.inr (va_up (va_up (fun k => some ((d k) 0)) 0 (some ((d 1) 0))) 1 (some ((d 2) 0))))))))], DW G (d 0) (T 0), DW G (d 1) (T 1), DW G (d 2) (T 2), DW G (d 3) (T 3), DW G (d 4) (T 4), DW G (d 5) (T 5)] X rfl rfl (by omega) (by decide) rfl dX2_dropOldest_28 rfl ?_
  refine V_iinc (pc' := 32) [(0, .ref (h 0)), (1, .ref ((d 0) 0)), (2, .int (nI 3))] 2 [1, 2, 0] X dX2_dropOldest_29 rfl (nI_i1 _) (Nat.le_of_ble_eq_true rfl) rfl rfl ?_
  refine V_goto (pc' := 9) X dX2_dropOldest_32 (by decide) ?_
  refine V_iload_n (pc' := 10) 2 X dX2_dropOldest_9 rfl rfl rfl ?_
  refine V_bipush (pc' := 12) (nI 6) X dX2_dropOldest_10 kb_6 rfl ?_
  refine V_icmp_ge (pc' := 15) (C := 6 ≤ 3) 35 X dX2_dropOldest_12 (by decide) rfl (nI_leI (by omega) (by omega)) (fun hz => absurd hz (by decide)) (fun _ => ?_)
  refine V_aload_n (pc' := 16) 0 X dX2_dropOldest_15 rfl rfl rfl ?_
  refine V_get (pc' := 19) 0 X F11 rfl rfl dX2_dropOldest_16 rfl ?_
  refine V_iload_n (pc' := 20) 2 X dX2_dropOldest_19 rfl rfl rfl ?_
  refine V_iconst (pc' := 21) (nI 1) X dX2_dropOldest_20 ki_1 rfl ?_
  refine V_isub (pc' := 22) (nI 2) X dX2_dropOldest_21 (pk_sub (a := 3) (b := 1) (by decide)) rfl ?_
  refine V_aload_n (pc' := 23) 0 X dX2_dropOldest_22 rfl rfl rfl ?_
  refine V_get (pc' := 26) 0 X F11 rfl rfl dX2_dropOldest_23 rfl ?_
  refine V_iload_n (pc' := 27) 2 X dX2_dropOldest_26 rfl rfl rfl ?_
  refine V_aald (pc' := 28) (v := .ref ((d 3) 0)) 1 3 X rfl (by omega) (by decide) rfl dX2_dropOldest_27 rfl ?_
  refine V_aast (pc' := 29) 1 23 2 [[((h 0), .inr (2, [.ref (h 1), .int (nI 6)])), ((h 1), .inl (G.2 3, 6, .inr (.inr (.inr (.inr (va_up (va_up (va_up (fun k => some ((d k) 0)) 0 (some ((d 1) 0))) 1 (some ((d 2) 0))) 2 (some ((d 3) 0))))))))], DW G (d 0) (T 0), DW G (d 1) (T 1), DW G (d 2) (T 2), DW G (d 3) (T 3), DW G (d 4) (T 4), DW G (d 5) (T 5)] X rfl rfl (by omega) (by decide) rfl dX2_dropOldest_28 rfl ?_
  refine V_iinc (pc' := 32) [(0, .ref (h 0)), (1, .ref ((d 0) 0)), (2, .int (nI 4))] 2 [1, 2, 0] X dX2_dropOldest_29 rfl (nI_i1 _) (Nat.le_of_ble_eq_true rfl) rfl rfl ?_
  refine V_goto (pc' := 9) X dX2_dropOldest_32 (by decide) ?_
  refine V_iload_n (pc' := 10) 2 X dX2_dropOldest_9 rfl rfl rfl ?_
  refine V_bipush (pc' := 12) (nI 6) X dX2_dropOldest_10 kb_6 rfl ?_
  refine V_icmp_ge (pc' := 15) (C := 6 ≤ 4) 35 X dX2_dropOldest_12 (by decide) rfl (nI_leI (by omega) (by omega)) (fun hz => absurd hz (by decide)) (fun _ => ?_)
  refine V_aload_n (pc' := 16) 0 X dX2_dropOldest_15 rfl rfl rfl ?_
  refine V_get (pc' := 19) 0 X F11 rfl rfl dX2_dropOldest_16 rfl ?_
  refine V_iload_n (pc' := 20) 2 X dX2_dropOldest_19 rfl rfl rfl ?_
  refine V_iconst (pc' := 21) (nI 1) X dX2_dropOldest_20 ki_1 rfl ?_
  refine V_isub (pc' := 22) (nI 3) X dX2_dropOldest_21 (pk_sub (a := 4) (b := 1) (by decide)) rfl ?_
  refine V_aload_n (pc' := 23) 0 X dX2_dropOldest_22 rfl rfl rfl ?_
  refine V_get (pc' := 26) 0 X F11 rfl rfl dX2_dropOldest_23 rfl ?_
  refine V_iload_n (pc' := 27) 2 X dX2_dropOldest_26 rfl rfl rfl ?_
  refine V_aald (pc' := 28) (v := .ref ((d 4) 0)) 1 4 X rfl (by omega) (by decide) rfl dX2_dropOldest_27 rfl ?_
  refine V_aast (pc' := 29) 1 30 3 [[((h 0), .inr (2, [.ref (h 1), .int (nI 6)])), ((h 1), .inl (G.2 3, 6, .inr (.inr (.inr (.inr (va_up (va_up (va_up (va_up (fun k => some ((d k) 0)) 0 (some ((d 1) 0))) 1 (some ((d 2) 0))) 2 (some ((d 3) 0))) 3 (some ((d 4) 0))))))))], DW G (d 0) (T 0), DW G (d 1) (T 1), DW G (d 2) (T 2), DW G (d 3) (T 3), DW G (d 4) (T 4), DW G (d 5) (T 5)] X rfl rfl (by omega) (by decide) rfl dX2_dropOldest_28 rfl ?_
  refine V_iinc (pc' := 32) [(0, .ref (h 0)), (1, .ref ((d 0) 0)), (2, .int (nI 5))] 2 [1, 2, 0] X dX2_dropOldest_29 rfl (nI_i1 _) (Nat.le_of_ble_eq_true rfl) rfl rfl ?_
  refine V_goto (pc' := 9) X dX2_dropOldest_32 (by decide) ?_
  refine V_iload_n (pc' := 10) 2 X dX2_dropOldest_9 rfl rfl rfl ?_
  refine V_bipush (pc' := 12) (nI 6) X dX2_dropOldest_10 kb_6 rfl ?_
  refine V_icmp_ge (pc' := 15) (C := 6 ≤ 5) 35 X dX2_dropOldest_12 (by decide) rfl (nI_leI (by omega) (by omega)) (fun hz => absurd hz (by decide)) (fun _ => ?_)
  refine V_aload_n (pc' := 16) 0 X dX2_dropOldest_15 rfl rfl rfl ?_
  refine V_get (pc' := 19) 0 X F11 rfl rfl dX2_dropOldest_16 rfl ?_
  refine V_iload_n (pc' := 20) 2 X dX2_dropOldest_19 rfl rfl rfl ?_
  refine V_iconst (pc' := 21) (nI 1) X dX2_dropOldest_20 ki_1 rfl ?_
  refine V_isub (pc' := 22) (nI 4) X dX2_dropOldest_21 (pk_sub (a := 5) (b := 1) (by decide)) rfl ?_
  refine V_aload_n (pc' := 23) 0 X dX2_dropOldest_22 rfl rfl rfl ?_
  refine V_get (pc' := 26) 0 X F11 rfl rfl dX2_dropOldest_23 rfl ?_
  refine V_iload_n (pc' := 27) 2 X dX2_dropOldest_26 rfl rfl rfl ?_
  refine V_aald (pc' := 28) (v := .ref ((d 5) 0)) 1 5 X rfl (by omega) (by decide) rfl dX2_dropOldest_27 rfl ?_
  refine V_aast (pc' := 29) 1 37 4 [[((h 0), .inr (2, [.ref (h 1), .int (nI 6)])), ((h 1), .inl (G.2 3, 6, .inr (.inr (.inr (.inr (va_up (va_up (va_up (va_up (va_up (fun k => some ((d k) 0)) 0 (some ((d 1) 0))) 1 (some ((d 2) 0))) 2 (some ((d 3) 0))) 3 (some ((d 4) 0))) 4 (some ((d 5) 0))))))))], DW G (d 0) (T 0), DW G (d 1) (T 1), DW G (d 2) (T 2), DW G (d 3) (T 3), DW G (d 4) (T 4), DW G (d 5) (T 5)] X rfl rfl (by omega) (by decide) rfl dX2_dropOldest_28 rfl ?_
  refine V_iinc (pc' := 32) [(0, .ref (h 0)), (1, .ref ((d 0) 0)), (2, .int (nI 6))] 2 [1, 2, 0] X dX2_dropOldest_29 rfl (nI_i1 _) (Nat.le_of_ble_eq_true rfl) rfl rfl ?_
  refine V_goto (pc' := 9) X dX2_dropOldest_32 (by decide) ?_
  refine V_iload_n (pc' := 10) 2 X dX2_dropOldest_9 rfl rfl rfl ?_
  refine V_bipush (pc' := 12) (nI 6) X dX2_dropOldest_10 kb_6 rfl ?_
  refine V_icmp_ge (pc' := 15) (C := 6 ≤ 6) 35 X dX2_dropOldest_12 (by decide) rfl (nI_leI (by omega) (by omega)) (fun _ => ?_) (fun hz => absurd (by decide) hz)
  refine V_aload_n (pc' := 36) 0 X dX2_dropOldest_35 rfl rfl rfl ?_
  refine V_get (pc' := 39) 0 X F11 rfl rfl dX2_dropOldest_36 rfl ?_
  refine V_iconst (pc' := 40) (nI 5) X dX2_dropOldest_39 ki_5 rfl ?_
  refine V_aload_n (pc' := 41) 1 X dX2_dropOldest_40 rfl rfl rfl ?_
  refine V_aast (pc' := 42) 1 2 5 [[((h 0), .inr (2, [.ref (h 1), .int (nI 6)])), ((h 1), .inl (G.2 3, 6, .inr (.inr (.inr (.inr (va_up (va_up (va_up (va_up (va_up (va_up (fun k => some ((d k) 0)) 0 (some ((d 1) 0))) 1 (some ((d 2) 0))) 2 (some ((d 3) 0))) 3 (some ((d 4) 0))) 4 (some ((d 5) 0))) 5 (some ((d 0) 0))))))))], DW G (d 0) (T 0), DW G (d 1) (T 1), DW G (d 2) (T 2), DW G (d 3) (T 3), DW G (d 4) (T 4), DW G (d 5) (T 5)] X rfl rfl (by omega) (by decide) rfl dX2_dropOldest_41 rfl ?_
  refine V_aload_n (pc' := 43) 0 X dX2_dropOldest_42 rfl rfl rfl ?_
  refine V_dup (pc' := 44) X dX2_dropOldest_43 rfl rfl ?_
  refine V_get (pc' := 47) 0 X F17 rfl rfl dX2_dropOldest_44 rfl ?_
  refine V_iconst (pc' := 48) (nI 1) X dX2_dropOldest_47 ki_1 rfl ?_
  refine V_isub (pc' := 49) (nI 5) X dX2_dropOldest_48 (pk_sub (a := 6) (b := 1) (by decide)) rfl ?_
  refine V_put (pc' := 52) 0 [[((h 0), .inr (2, [.ref (h 1), .int (nI 5)])), ((h 1), .inl (G.2 3, 6, .inr (.inr (.inr (.inr (va_up (va_up (va_up (va_up (va_up (va_up (fun k => some ((d k) 0)) 0 (some ((d 1) 0))) 1 (some ((d 2) 0))) 2 (some ((d 3) 0))) 3 (some ((d 4) 0))) 4 (some ((d 5) 0))) 5 (some ((d 0) 0))))))))], DW G (d 0) (T 0), DW G (d 1) (T 1), DW G (d 2) (T 2), DW G (d 3) (T 3), DW G (d 4) (T 4), DW G (d 5) (T 5)] X F17 rfl rfl rfl rfl (Nat.le_of_ble_eq_true rfl) rfl dX2_dropOldest_49 rfl ?_
  refine V_ord [0, 2, 3, 4, 5, 6, 1] [[((h 0), .inr (2, [.ref (h 1), .int (nI 5)])), ((h 1), .inl (G.2 3, 6, .inr (.inr (.inr (.inr (va_up (va_up (va_up (va_up (va_up (va_up (fun k => some ((d k) 0)) 0 (some ((d 1) 0))) 1 (some ((d 2) 0))) 2 (some ((d 3) 0))) 3 (some ((d 4) 0))) 4 (some ((d 5) 0))) 5 (some ((d 0) 0))))))))], DW G (d 1) (T 1), DW G (d 2) (T 2), DW G (d 3) (T 3), DW G (d 4) (T 4), DW G (d 5) (T 5), DW G (d 0) (T 0)] (show (List.range 7).Perm [0, 2, 3, 4, 5, 6, 1] by decide) rfl ?_
  refine V_wsq [HI G h 5 (rot d), HD G (rot d) (rot T)] (wsq.cons (weq.rf _) (wsq.cons (weq.rowq (fun k hk => by rcases (show k = 0 ∨ k = 1 ∨ k = 2 ∨ k = 3 ∨ k = 4 ∨ k = 5 by omega) with rfl | rfl | rfl | rfl | rfl | rfl <;> rfl)) (wsq.rf _))) ?_
  exact V_return [HI G h 5 (rot d), HD G (rot d) (rot T)] hQ X hrt dX2_dropOldest_52 (Nat.le_of_ble_eq_true rfl) (Nat.le_of_ble_eq_true rfl) (List.Perm.refl _) ⟨rfl, rfl⟩

set_option maxHeartbeats 4000000 in
set_option maxRecDepth 100000 in
theorem c_X2_add6 (l : Launch) (G : gT) (h : Nat → Nat) (d T : Nat → Nat → Nat) (a S : Nat → Nat) : CM l G yX2_add wsX2_add 4 104 1 [.ref (h 0), .ref (a 0)] [HI G h 6 d, HD G d T, DW G a S] 0 0 (fun v u => v = some (.ref ((rot d) 5 0)) ∧ u = [HI G h (5 + 1) (rot d), DW G ((rot d) 5) S, DW G a S, HR G (rot d) (rot T) 5]) := by
  refine CM_of RX2 3 82 rfl rfl (by decide) (by decide +kernel) (Nat.le_of_ble_eq_true rfl) (fun E A X hrt hnm => ?_)
  have F11 := Fld_of (idx := 11) 2 0 X (by decide) (by decide) (by decide +kernel) (by decide +kernel)
  have F17 := Fld_of (idx := 17) 2 1 X (by decide) (by decide) (by decide +kernel) (by decide +kernel)
  generalize hQ : QM E G A _ _ _ = Q
  show V E G A 3 [HI G h 6 d, HD G d T, DW G a S] 0 0 Q 0 [(0, .ref (h 0)), (1, .ref (a 0))] []
  refine V_aload_n (pc' := 1) 0 X dX2_add_0 rfl rfl rfl ?_
  refine V_get (pc' := 4) 0 X F17 rfl rfl dX2_add_1 rfl ?_
  refine V_bipush (pc' := 6) (nI 6) X dX2_add_4 kb_6 rfl ?_
  refine V_icmp_ne (pc' := 9) (C := 6 = 6) 13 X dX2_add_6 (by decide) rfl (nI_eq (by omega) (by omega)) (fun hz => absurd (by decide) hz) (fun _ => ?_)
  refine V_aload_n (pc' := 10) 0 X dX2_add_9 rfl rfl rfl ?_
  refine V_callV (pc' := 13) (As := []) (st := []) 2 0 [0, 1] [2] (show (List.range 3).Perm ([0, 1] ++ [2]) by decide) X (c_X2_dropOldest l G h d T) rfl gX2_add_X2_dropOldest rfl (by decide) rfl rfl rfl (Nat.le_of_ble_eq_true rfl) ⟨Nat.le_of_ble_eq_true rfl, Nat.le_of_ble_eq_true rfl⟩ ⟨Nat.le_of_ble_eq_true rfl, Nat.le_of_ble_eq_true rfl⟩ dX2_add_10 rfl (fun v_ u_ hp_ => ?_)
  obtain ⟨rfl, rfl⟩ := hp_
  show V E G A 3 [DW G a S, HI G h 5 (rot d), HD G (rot d) (rot T)] 0 0 Q 13 [(0, .ref (h 0)), (1, .ref (a 0))] []
  refine V_ord [1, 2, 0] [HI G h 5 (rot d), HD G (rot d) (rot T), DW G a S] (show (List.range 3).Perm [1, 2, 0] by decide) rfl ?_
  refine V_aload_n (pc' := 14) 0 X dX2_add_13 rfl rfl rfl ?_
  refine V_get (pc' := 17) 0 X F11 rfl rfl dX2_add_14 rfl ?_
  refine V_aload_n (pc' := 18) 0 X dX2_add_17 rfl rfl rfl ?_
  refine V_get (pc' := 21) 0 X F17 rfl rfl dX2_add_18 rfl ?_
  refine V_split 1 rfl (HD_perm G (rot d) (rot T) 5 (by decide)) rfl ?_
  show V E G A 3 [HI G h 5 (rot d), DW G ((rot d) 5) ((rot T) 5), HR G (rot d) (rot T) 5, DW G a S] 0 0 Q 21 [(0, .ref (h 0)), (1, .ref (a 0))] [.int (nI 5), .ref (h 1)]
  refine V_ord [0, 1, 3, 2] [HI G h 5 (rot d), DW G ((rot d) 5) ((rot T) 5), DW G a S, HR G (rot d) (rot T) 5] (show (List.range 4).Perm [0, 1, 3, 2] by decide) rfl ?_
  refine V_aald (pc' := 22) (v := .ref (((rot d) 5) 0)) 1 5 X rfl (by decide) (by decide) rfl dX2_add_21 rfl ?_
  refine V_astore_n (pc' := 23) [(0, .ref (h 0)), (1, .ref (a 0)), (2, .ref (((rot d) 5) 0))] [1, 2, 0] X dX2_add_22 rfl (Nat.le_of_ble_eq_true rfl) rfl rfl ?_
  refine V_aload_n (pc' := 24) 2 X dX2_add_23 rfl rfl rfl ?_
  refine V_aload_n (pc' := 25) 1 X dX2_add_24 rfl rfl rfl ?_
  refine V_callV (pc' := 28) (As := [.ref (a 0)]) (st := []) 0 2 [1, 2] [0, 3] (show (List.range 4).Perm ([1, 2] ++ [0, 3]) by decide) X (c_X0_copyFrom l G ((rot d) 5) ((rot T) 5) a S) rfl gX2_add_X0_copyFrom rfl (by decide) rfl rfl rfl (Nat.le_of_ble_eq_true rfl) ⟨Nat.le_of_ble_eq_true rfl, Nat.le_of_ble_eq_true rfl⟩ ⟨Nat.le_of_ble_eq_true rfl, Nat.le_of_ble_eq_true rfl⟩ dX2_add_25 rfl (fun v_ u_ hp_ => ?_)
  obtain ⟨rfl, rfl⟩ := hp_
  show V E G A 3 [HI G h 5 (rot d), HR G (rot d) (rot T) 5, DW G ((rot d) 5) S, DW G a S] 0 0 Q 28 [(0, .ref (h 0)), (1, .ref (a 0)), (2, .ref (((rot d) 5) 0))] []
  refine V_ord [0, 2, 3, 1] [HI G h 5 (rot d), DW G ((rot d) 5) S, DW G a S, HR G (rot d) (rot T) 5] (show (List.range 4).Perm [0, 2, 3, 1] by decide) rfl ?_
  refine V_aload_n (pc' := 29) 0 X dX2_add_28 rfl rfl rfl ?_
  refine V_dup (pc' := 30) X dX2_add_29 rfl rfl ?_
  refine V_get (pc' := 33) 0 X F17 rfl rfl dX2_add_30 rfl ?_
  refine V_iconst (pc' := 34) (nI 1) X dX2_add_33 ki_1 rfl ?_
  refine V_iadd (pc' := 35) (nI 6) X dX2_add_34 (nI_add 5 1) rfl ?_
  refine V_ws [[((h 0), .inr (2, [.ref (h 1), .int (nI 5)])), ((h 1), .inl (G.2 3, 6, .inr (.inr (.inr (.inr (fun k => some (((rot d) k) 0)))))))], DW G ((rot d) 5) S, DW G a S, HR G (rot d) (rot T) 5] rfl ?_
  refine V_put (pc' := 38) 0 [[((h 0), .inr (2, [.ref (h 1), .int (nI 6)])), ((h 1), .inl (G.2 3, 6, .inr (.inr (.inr (.inr (fun k => some (((rot d) k) 0)))))))], DW G ((rot d) 5) S, DW G a S, HR G (rot d) (rot T) 5] X F17 rfl rfl rfl rfl (Nat.le_of_ble_eq_true rfl) rfl dX2_add_35 rfl ?_
  refine V_aload_n (pc' := 39) 2 X dX2_add_38 rfl rfl rfl ?_
  refine V_ws [HI G h (5 + 1) (rot d), DW G ((rot d) 5) S, DW G a S, HR G (rot d) (rot T) 5] rfl ?_
  exact V_areturn (a := (((rot d) 5) 0)) [HI G h (5 + 1) (rot d), DW G ((rot d) 5) S, DW G a S, HR G (rot d) (rot T) 5] hQ X hrt dX2_add_39 (Nat.le_of_ble_eq_true rfl) (Nat.le_of_ble_eq_true rfl) (List.Perm.refl _) ⟨rfl, rfl⟩

set_option maxHeartbeats 4000000 in
set_option maxRecDepth 100000 in
theorem c_X2_add5 (l : Launch) (G : gT) (h : Nat → Nat) (d T : Nat → Nat → Nat) (a S : Nat → Nat) (n : Nat) (hn : n < 6) : CM l G yX2_add wsX2_add 4 104 1 [.ref (h 0), .ref (a 0)] [HI G h n d, HD G d T, DW G a S] 0 0 (fun v u => v = some (.ref (d n 0)) ∧ u = [HI G h (n + 1) d, DW G (d n) S, DW G a S, HR G d T n]) := by
  refine CM_of RX2 3 82 rfl rfl (by decide) (by decide +kernel) (Nat.le_of_ble_eq_true rfl) (fun E A X hrt hnm => ?_)
  have F11 := Fld_of (idx := 11) 2 0 X (by decide) (by decide) (by decide +kernel) (by decide +kernel)
  have F17 := Fld_of (idx := 17) 2 1 X (by decide) (by decide) (by decide +kernel) (by decide +kernel)
  generalize hQ : QM E G A _ _ _ = Q
  show V E G A 3 [HI G h n d, HD G d T, DW G a S] 0 0 Q 0 [(0, .ref (h 0)), (1, .ref (a 0))] []
  refine V_aload_n (pc' := 1) 0 X dX2_add_0 rfl rfl rfl ?_
  refine V_get (pc' := 4) 0 X F17 rfl rfl dX2_add_1 rfl ?_
  refine V_bipush (pc' := 6) (nI 6) X dX2_add_4 kb_6 rfl ?_
  refine V_icmp_ne (pc' := 9) (C := n = 6) 13 X dX2_add_6 (by decide) rfl (nI_eq (by omega) (by omega)) (fun _ => ?_) (fun hz => absurd hz (by omega))
  refine V_aload_n (pc' := 14) 0 X dX2_add_13 rfl rfl rfl ?_
  refine V_get (pc' := 17) 0 X F11 rfl rfl dX2_add_14 rfl ?_
  refine V_aload_n (pc' := 18) 0 X dX2_add_17 rfl rfl rfl ?_
  refine V_get (pc' := 21) 0 X F17 rfl rfl dX2_add_18 rfl ?_
  refine V_split 1 rfl (HD_perm G d T n hn) rfl ?_
  show V E G A 3 [HI G h n d, DW G (d n) (T n), HR G d T n, DW G a S] 0 0 Q 21 [(0, .ref (h 0)), (1, .ref (a 0))] [.int (nI n), .ref (h 1)]
  refine V_ord [0, 1, 3, 2] [HI G h n d, DW G (d n) (T n), DW G a S, HR G d T n] (show (List.range 4).Perm [0, 1, 3, 2] by decide) rfl ?_
  refine V_aald (pc' := 22) (v := .ref ((d n) 0)) 1 n X rfl hn (by decide) rfl dX2_add_21 rfl ?_
  refine V_astore_n (pc' := 23) [(0, .ref (h 0)), (1, .ref (a 0)), (2, .ref ((d n) 0))] [1, 2, 0] X dX2_add_22 rfl (Nat.le_of_ble_eq_true rfl) rfl rfl ?_
  refine V_aload_n (pc' := 24) 2 X dX2_add_23 rfl rfl rfl ?_
  refine V_aload_n (pc' := 25) 1 X dX2_add_24 rfl rfl rfl ?_
  refine V_callV (pc' := 28) (As := [.ref (a 0)]) (st := []) 0 2 [1, 2] [0, 3] (show (List.range 4).Perm ([1, 2] ++ [0, 3]) by decide) X (c_X0_copyFrom l G (d n) (T n) a S) rfl gX2_add_X0_copyFrom rfl (by decide) rfl rfl rfl (Nat.le_of_ble_eq_true rfl) ⟨Nat.le_of_ble_eq_true rfl, Nat.le_of_ble_eq_true rfl⟩ ⟨Nat.le_of_ble_eq_true rfl, Nat.le_of_ble_eq_true rfl⟩ dX2_add_25 rfl (fun v_ u_ hp_ => ?_)
  obtain ⟨rfl, rfl⟩ := hp_
  show V E G A 3 [HI G h n d, HR G d T n, DW G (d n) S, DW G a S] 0 0 Q 28 [(0, .ref (h 0)), (1, .ref (a 0)), (2, .ref ((d n) 0))] []
  refine V_ord [0, 2, 3, 1] [HI G h n d, DW G (d n) S, DW G a S, HR G d T n] (show (List.range 4).Perm [0, 2, 3, 1] by decide) rfl ?_
  refine V_aload_n (pc' := 29) 0 X dX2_add_28 rfl rfl rfl ?_
  refine V_dup (pc' := 30) X dX2_add_29 rfl rfl ?_
  refine V_get (pc' := 33) 0 X F17 rfl rfl dX2_add_30 rfl ?_
  refine V_iconst (pc' := 34) (nI 1) X dX2_add_33 ki_1 rfl ?_
  refine V_iadd (pc' := 35) (nI (n + 1)) X dX2_add_34 (nI_add _ _) rfl ?_
  refine V_ws [[((h 0), .inr (2, [.ref (h 1), .int (nI n)])), ((h 1), .inl (G.2 3, 6, .inr (.inr (.inr (.inr (fun k => some ((d k) 0)))))))], DW G (d n) S, DW G a S, HR G d T n] rfl ?_
  refine V_put (pc' := 38) 0 [[((h 0), .inr (2, [.ref (h 1), .int (nI (n + 1))])), ((h 1), .inl (G.2 3, 6, .inr (.inr (.inr (.inr (fun k => some ((d k) 0)))))))], DW G (d n) S, DW G a S, HR G d T n] X F17 rfl rfl rfl rfl (Nat.le_of_ble_eq_true rfl) rfl dX2_add_35 rfl ?_
  refine V_aload_n (pc' := 39) 2 X dX2_add_38 rfl rfl rfl ?_
  refine V_ws [HI G h (n + 1) d, DW G (d n) S, DW G a S, HR G d T n] rfl ?_
  exact V_areturn (a := ((d n) 0)) [HI G h (n + 1) d, DW G (d n) S, DW G a S, HR G d T n] hQ X hrt dX2_add_39 (Nat.le_of_ble_eq_true rfl) (Nat.le_of_ble_eq_true rfl) (List.Perm.refl _) ⟨rfl, rfl⟩

/-- a state is recorded: n states before -/
def aM (n : Nat) : Nat := if n = 6 then 5 else n
def aD {α : Type} (n : Nat) (f : Nat → α) : Nat → α := if n = 6 then rot f else f
theorem aM_lt {n : Nat} (h : n ≤ 6) : aM n < 6 := by unfold aM; split <;> omega
theorem c_X2_add (l : Launch) (G : gT) (h : Nat → Nat) (d T : Nat → Nat → Nat) (a S : Nat → Nat) (n : Nat) (hn : n ≤ 6) : CM l G yX2_add wsX2_add 4 104 1 [.ref (h 0), .ref (a 0)] [HI G h n d, HD G d T, DW G a S] 0 0 (fun v u => v = some (.ref (aD n d (aM n) 0)) ∧ u = [HI G h (aM n + 1) (aD n d), DW G (aD n d (aM n)) S, DW G a S, HR G (aD n d) (aD n T) (aM n)]) := by
  by_cases e : n = 6
  · subst e; exact c_X2_add6 l G h d T a S
  · rw [show aM n = n from if_neg e, show aD n d = d from if_neg e, show aD n T = T from if_neg e]
    exact c_X2_add5 l G h d T a S n (by omega)
set_option maxHeartbeats 4000000 in
set_option maxRecDepth 100000 in
theorem c_X2_takeLatest (l : Launch) (G : gT) (h : Nat → Nat) (d : Nat → Nat → Nat) (n : Nat) (hn : n < 6) : CM l G yX2_takeLatest wsX2_takeLatest 1 20 0 [.ref (h 0)] [HI G h (n + 1) d] 0 0 (fun v u => v = some (.ref (d n 0)) ∧ u = [HI G h n d]) := by
  refine CM_of RX2 0 0 rfl rfl (by decide) (by decide +kernel) (Nat.le_of_ble_eq_true rfl) (fun E A X hrt hnm => ?_)
  have F11 := Fld_of (idx := 11) 2 0 X (by decide) (by decide) (by decide +kernel) (by decide +kernel)
  have F17 := Fld_of (idx := 17) 2 1 X (by decide) (by decide) (by decide +kernel) (by decide +kernel)
  generalize hQ : QM E G A _ _ _ = Q
  show V E G A 1 [HI G h (n + 1) d] 0 0 Q 0 [(0, .ref (h 0))] []
  refine V_aload_n (pc' := 1) 0 X dX2_takeLatest_0 rfl rfl rfl ?_
  refine V_get (pc' := 4) 0 X F17 rfl rfl dX2_takeLatest_1 rfl ?_
  refine V_if_ne (pc' := 7) (C := (n + 1) = 0) 17 X dX2_takeLatest_4 (by decide) rfl (z_eq0 (by omega)) (fun _ => ?_) (fun hz => absurd hz (by omega))
  refine V_aload_n (pc' := 18) 0 X dX2_takeLatest_17 rfl rfl rfl ?_
  refine V_dup (pc' := 19) X dX2_takeLatest_18 rfl rfl ?_
  refine V_get (pc' := 22) 0 X F17 rfl rfl dX2_takeLatest_19 rfl ?_
  refine V_iconst (pc' := 23) (nI 1) X dX2_takeLatest_22 ki_1 rfl ?_
  refine V_isub (pc' := 24) (nI n) X dX2_takeLatest_23 (nI_sub1 n) rfl ?_
  refine V_ws [[((h 0), .inr (2, [.ref (h 1), .int (nI (n + 1))])), ((h 1), .inl (G.2 3, 6, .inr (.inr (.inr (.inr (fun k => some ((d k) 0)))))))]] rfl ?_
  refine V_put (pc' := 27) 0 [[((h 0), .inr (2, [.ref (h 1), .int (nI n)])), ((h 1), .inl (G.2 3, 6, .inr (.inr (.inr (.inr (fun k => some ((d k) 0)))))))]] X F17 rfl rfl rfl rfl (Nat.le_of_ble_eq_true rfl) rfl dX2_takeLatest_24 rfl ?_
  refine V_aload_n (pc' := 28) 0 X dX2_takeLatest_27 rfl rfl rfl ?_
  refine V_get (pc' := 31) 0 X F11 rfl rfl dX2_takeLatest_28 rfl ?_
  refine V_aload_n (pc' := 32) 0 X dX2_takeLatest_31 rfl rfl rfl ?_
  refine V_get (pc' := 35) 0 X F17 rfl rfl dX2_takeLatest_32 rfl ?_
  refine V_aald (pc' := 36) (v := .ref ((d n) 0)) 1 n X rfl hn (by decide) rfl dX2_takeLatest_35 rfl ?_
  refine V_ws [HI G h n d] rfl ?_
  exact V_areturn (a := ((d n) 0)) [HI G h n d] hQ X hrt dX2_takeLatest_36 (Nat.le_of_ble_eq_true rfl) (Nat.le_of_ble_eq_true rfl) (List.Perm.refl _) ⟨rfl, rfl⟩
