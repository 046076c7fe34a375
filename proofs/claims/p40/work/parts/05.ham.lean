/-! Arrays.fill; the hammers -/
def fl (f : Nat → Int32) (v : Int32) : Nat → (Nat → Int32) | 0 => f | i + 1 => upd (fl f v i) i v
theorem fl_in {f : Nat → Int32} {v : Int32} {k : Nat} : ∀ {n : Nat}, k < n → fl f v n k = v
  | 0, h => absurd h (Nat.not_lt_zero _)
  | n + 1, h => by
    show upd (fl f v n) n v k = v
    unfold upd
    by_cases e : k = n
    · rw [if_pos e]
    · rw [if_neg e]; exact fl_in (by omega)
/-- the hammers h, their row r, the columns since .. g -/
def HM (G : gT) (h r : Nat) (g : Nat → Nat) : va_W := [(h, .inr (1, [.ref r])), (r, .inl (G.2 0, 10, .inl (nf g)))]
/-- the bells 0 .. k-1 of the set p, looked at by rising numbers: which are heard, and their weights together -/
def hr (p : Nat) (g w : Nat → Nat) (B : Nat) : Nat → Nat × Nat
  | 0 => (0, 0)
  | k + 1 => if bq p k = 1 ∧ w k / 20 ≤ g k ∧ (hr p g w B k).2 + w k ≤ B then ((hr p g w B k).1 + 2 ^ k, (hr p g w B k).2 + w k) else hr p g w B k
theorem hr_lt (p : Nat) (g w : Nat → Nat) (B : Nat) : ∀ k, (hr p g w B k).1 < 2 ^ k
  | 0 => by simp [hr]
  | k + 1 => by
    have h := hr_lt p g w B k
    rw [hr]
    split
    · show _ + 2 ^ k < 2 ^ (k + 1); rw [Nat.pow_succ]; omega
    · rw [Nat.pow_succ]; omega
theorem hr_le (p : Nat) (g w : Nat → Nat) (B : Nat) : ∀ k, (hr p g w B k).2 ≤ B
  | 0 => by simp [hr]
  | k + 1 => by
    rw [hr]
    split
    · next h => exact h.2.2
    · exact hr_le p g w B k
theorem or_pow {a k : Nat} (h : a < 2 ^ k) : a ||| 2 ^ k = a + 2 ^ k := by
  have e := Nat.two_pow_add_eq_or_of_lt h 1
  rw [Nat.mul_one] at e
  rw [Nat.or_comm, ← e, Nat.add_comm]
/-- the hammers when the bells p are heard: 0, or one more, up to c -/
def swg (c : Nat) (g : Nat → Nat) (p : Nat) : Nat → Nat := fun k => if bq p k = 1 then 0 else min (g k + 1) c
theorem bc_eq : ∀ a, a < 1024 → (((((((((nI a) - ((nI (a / 2 ^ 1)) &&& (1431655765))) &&& (858993459)) + (((((nI a) - ((nI (a / 2 ^ 1)) &&& (1431655765))).toUInt32 >>> ((nI 2).toUInt32 &&& Int32.toUInt32 31)).toInt32) &&& (858993459))) + ((((((nI a) - ((nI (a / 2 ^ 1)) &&& (1431655765))) &&& (858993459)) + (((((nI a) - ((nI (a / 2 ^ 1)) &&& (1431655765))).toUInt32 >>> ((nI 2).toUInt32 &&& Int32.toUInt32 31)).toInt32) &&& (858993459))).toUInt32 >>> ((nI 4).toUInt32 &&& Int32.toUInt32 31)).toInt32)) &&& (252645135)) + ((((((((nI a) - ((nI (a / 2 ^ 1)) &&& (1431655765))) &&& (858993459)) + (((((nI a) - ((nI (a / 2 ^ 1)) &&& (1431655765))).toUInt32 >>> ((nI 2).toUInt32 &&& Int32.toUInt32 31)).toInt32) &&& (858993459))) + ((((((nI a) - ((nI (a / 2 ^ 1)) &&& (1431655765))) &&& (858993459)) + (((((nI a) - ((nI (a / 2 ^ 1)) &&& (1431655765))).toUInt32 >>> ((nI 2).toUInt32 &&& Int32.toUInt32 31)).toInt32) &&& (858993459))).toUInt32 >>> ((nI 4).toUInt32 &&& Int32.toUInt32 31)).toInt32)) &&& (252645135)).toUInt32 >>> ((nI 8).toUInt32 &&& Int32.toUInt32 31)).toInt32)) + (((((((((nI a) - ((nI (a / 2 ^ 1)) &&& (1431655765))) &&& (858993459)) + (((((nI a) - ((nI (a / 2 ^ 1)) &&& (1431655765))).toUInt32 >>> ((nI 2).toUInt32 &&& Int32.toUInt32 31)).toInt32) &&& (858993459))) + ((((((nI a) - ((nI (a / 2 ^ 1)) &&& (1431655765))) &&& (858993459)) + (((((nI a) - ((nI (a / 2 ^ 1)) &&& (1431655765))).toUInt32 >>> ((nI 2).toUInt32 &&& Int32.toUInt32 31)).toInt32) &&& (858993459))).toUInt32 >>> ((nI 4).toUInt32 &&& Int32.toUInt32 31)).toInt32)) &&& (252645135)) + ((((((((nI a) - ((nI (a / 2 ^ 1)) &&& (1431655765))) &&& (858993459)) + (((((nI a) - ((nI (a / 2 ^ 1)) &&& (1431655765))).toUInt32 >>> ((nI 2).toUInt32 &&& Int32.toUInt32 31)).toInt32) &&& (858993459))) + ((((((nI a) - ((nI (a / 2 ^ 1)) &&& (1431655765))) &&& (858993459)) + (((((nI a) - ((nI (a / 2 ^ 1)) &&& (1431655765))).toUInt32 >>> ((nI 2).toUInt32 &&& Int32.toUInt32 31)).toInt32) &&& (858993459))).toUInt32 >>> ((nI 4).toUInt32 &&& Int32.toUInt32 31)).toInt32)) &&& (252645135)).toUInt32 >>> ((nI 8).toUInt32 &&& Int32.toUInt32 31)).toInt32)).toUInt32 >>> ((nI 16).toUInt32 &&& Int32.toUInt32 31)).toInt32)) &&& (nI 63)) = nI (cnt a) := by decide +kernel
set_option maxHeartbeats 4000000 in
set_option maxRecDepth 100000 in
theorem c_J7_fill_53178 (l : Launch) (G : gT) (a n : Nat) (hn : n < 2 ^ 20) (v0 : Int32) (f : Nat → Int32) : CM l G yJ7_fill_53178 wsJ7_fill_53178 1 23 2 [.ref a, .int v0] [[(a, .inl (G.2 0, n, .inl f))]] 0 0 (fun v u => v = none ∧ u = [[(a, .inl (G.2 0, n, .inl (fl f v0 n)))]]) := by
  refine CM_of RJ7 0 0 rfl rfl (by decide) (by decide +kernel) (Nat.le_of_ble_eq_true rfl) (fun E A X hrt hnm => ?_)
  generalize hQ : QM E G A _ _ _ = Q
  show V E G A 4 [[(a, .inl (G.2 0, n, .inl f))]] 0 0 Q 0 [(0, .ref a), (1, .int v0)] []
  refine V_iconst (pc' := 1) (nI 0) X dJ7_fill_53178_0 ki_0 rfl ?_
  refine V_istore_n (pc' := 2) [(0, .ref a), (1, .int v0), (2, .int (nI 0))] [1, 2, 0] X dJ7_fill_53178_1 rfl (Nat.le_of_ble_eq_true rfl) rfl rfl ?_
  refine V_aload_n (pc' := 3) 0 X dJ7_fill_53178_2 rfl rfl rfl ?_
  refine V_alen (pc' := 4) (v := nI n) (ty := .int) 0 0 X rfl rfl rfl dJ7_fill_53178_3 rfl ?_
  refine V_istore_n (pc' := 5) [(0, .ref a), (1, .int v0), (2, .int (nI 0)), (3, .int (nI n))] [1, 2, 3, 0] X dJ7_fill_53178_4 rfl (Nat.le_of_ble_eq_true rfl) rfl rfl ?_
  have lp_1 : ∀ i, i ≤ n → V E G A 4 [[(a, .inl (G.2 0, n, .inl (fl f v0 i)))]] 0 0 Q 5 [(0, .ref a), (1, .int v0), (2, .int (nI i)), (3, .int (nI n))] [] := by
    refine loopD n ?_ ?_
    · show V E G A 4 [[(a, .inl (G.2 0, n, .inl (fl f v0 n)))]] 0 0 Q 5 [(0, .ref a), (1, .int v0), (2, .int (nI n)), (3, .int (nI n))] []
      refine V_iload_n (pc' := 6) 2 X dJ7_fill_53178_5 rfl rfl rfl ?_
      refine V_iload_n (pc' := 7) 3 X dJ7_fill_53178_6 rfl rfl rfl ?_
      refine V_icmp_ge (pc' := 10) (C := n ≤ n) 20 X dJ7_fill_53178_7 (by decide) rfl (nI_leI (by omega) (by omega)) (fun _ => ?_) (fun hz => absurd (by omega) hz)
      exact V_return [[(a, .inl (G.2 0, n, .inl (fl f v0 n)))]] hQ X hrt dJ7_fill_53178_20 (Nat.le_of_ble_eq_true rfl) (Nat.le_of_ble_eq_true rfl) (List.Perm.refl _) ⟨rfl, rfl⟩
    · intro i hi_i ih
      show V E G A 4 [[(a, .inl (G.2 0, n, .inl (fl f v0 i)))]] 0 0 Q 5 [(0, .ref a), (1, .int v0), (2, .int (nI i)), (3, .int (nI n))] []
      refine V_iload_n (pc' := 6) 2 X dJ7_fill_53178_5 rfl rfl rfl ?_
      refine V_iload_n (pc' := 7) 3 X dJ7_fill_53178_6 rfl rfl rfl ?_
      refine V_icmp_ge (pc' := 10) (C := n ≤ i) 20 X dJ7_fill_53178_7 (by decide) rfl (nI_leI (by omega) (by omega)) (fun hz => absurd hz (by omega)) (fun _ => ?_)
      refine V_aload_n (pc' := 11) 0 X dJ7_fill_53178_10 rfl rfl rfl ?_
      refine V_iload_n (pc' := 12) 2 X dJ7_fill_53178_11 rfl rfl rfl ?_
      refine V_iload_n (pc' := 13) 1 X dJ7_fill_53178_12 rfl rfl rfl ?_
      refine V_iast (pc' := 14) 0 i [[(a, .inl (G.2 0, n, .inl (upd (fl f v0 i) i v0)))]] X rfl (by omega) (by omega) rfl dJ7_fill_53178_13 rfl ?_
      refine V_iinc (pc' := 17) [(0, .ref a), (1, .int v0), (2, .int (nI (i + 1))), (3, .int (nI n))] 2 [1, 2, 0, 3] X dJ7_fill_53178_14 rfl (nI_i1 _) (Nat.le_of_ble_eq_true rfl) rfl rfl ?_
      refine V_goto (pc' := 5) X dJ7_fill_53178_17 (by decide) ?_
      exact ih
  exact lp_1 0 (Nat.zero_le _)

set_option maxHeartbeats 4000000 in
set_option maxRecDepth 100000 in
theorem c_X1_init (l : Launch) (G : gT) (h : Nat) : CM l G yX1_init wsX1_init 2 43 0 [.ref h] [[(h, .inr (1, [.null]))]] 1 10 (fun v u => ∃ r, v = none ∧ u = [HM G h r (fun _ => 3)]) := by
  refine CM_of RX1 1 23 rfl rfl (by decide) (by decide +kernel) (Nat.le_of_ble_eq_true rfl) (fun E A X hrt hnm => ?_)
  have hin : (e_h E).name = "<init>" := hnm
  have F9 := Fld_of (idx := 9) 1 0 X (by decide) (by decide) (by decide +kernel) (by decide +kernel)
  generalize hQ : QM E G A _ _ _ = Q
  show V E G A 1 [[(h, .inr (1, [.null]))]] 0 0 Q 0 [(0, .ref h)] []
  refine V_aload_n (pc' := 1) 0 X dX1_init_0 rfl rfl rfl ?_
  refine V_obj (pc' := 4) X (by decide +kernel) (by decide +kernel) (by decide +kernel) dX1_init_1 (Nat.le_of_ble_eq_true rfl) (Nat.le_of_ble_eq_true rfl) rfl ?_
  refine V_aload_n (pc' := 5) 0 X dX1_init_4 rfl rfl rfl ?_
  refine V_bipush (pc' := 7) (nI 10) X dX1_init_5 kb_10 rfl ?_
  refine V_newi (pc' := 9) (n := 10) X (by decide +kernel) (by decide) (Nat.le_of_ble_eq_true rfl) (Nat.le_of_ble_eq_true rfl) dX1_init_7 rfl (fun q_1 => ?_)
  show V E G A 1 [[(h, .inr (1, [.null]))], [(q_1, .inl (G.2 0, 10, .inl (fun _ => 0)))]] 1 10 Q 9 [(0, .ref h)] [.ref q_1, .ref h]
  refine V_putF (pc' := 12) 0 [[(h, .inr (1, [.ref q_1]))], [(q_1, .inl (G.2 0, 10, .inl (fun _ => 0)))]] X F9 rfl rfl hin rfl rfl rfl (by decide) rfl dX1_init_9 rfl ?_
  refine V_aload_n (pc' := 13) 0 X dX1_init_12 rfl rfl rfl ?_
  refine V_get (pc' := 16) 0 X F9 rfl rfl dX1_init_13 rfl ?_
  refine V_iconst (pc' := 17) (nI 3) X dX1_init_16 ki_3 rfl ?_
  refine V_callS (pc' := 20) (As := [.ref q_1, .int (nI 3)]) (st := []) [1] [0] (show (List.range 2).Perm ([1] ++ [0]) by decide) X (c_J7_fill_53178 l G q_1 10 (by decide) (nI 3) (fun _ => 0)) rfl gX1_init_J7_fill_53178 rfl rfl (Nat.le_of_ble_eq_true rfl) ⟨Nat.le_of_ble_eq_true rfl, Nat.le_of_ble_eq_true rfl⟩ ⟨Nat.le_of_ble_eq_true rfl, Nat.le_of_ble_eq_true rfl⟩ dX1_init_17 rfl (fun v_ u_ hp_ => ?_)
  obtain ⟨rfl, rfl⟩ := hp_
  show V E G A 1 [[(h, .inr (1, [.ref q_1]))], [(q_1, .inl (G.2 0, 10, .inl (fl (fun _ => 0) (nI 3) 10)))]] 1 10 Q 20 [(0, .ref h)] []
  refine V_wsq [[(h, .inr (1, [.ref q_1]))], [(q_1, .inl (G.2 0, 10, .inl (nf (fun _ => 3))))]] (wsq.cons (weq.rf _) (wsq.cons (weq.row (fun k hk => fl_in hk)) (wsq.rf _))) ?_
  refine V_ws [HM G h q_1 (fun _ => 3)] rfl ?_
  exact V_return [HM G h q_1 (fun _ => 3)] hQ X hrt dX1_init_20 (Nat.le_of_ble_eq_true rfl) (Nat.le_of_ble_eq_true rfl) (List.Perm.refl _) ⟨q_1, rfl, rfl⟩

set_option maxHeartbeats 4000000 in
set_option maxRecDepth 100000 in
theorem c_X1_copyFrom (l : Launch) (G : gT) (h r h2 r2 : Nat) (g g2 : Nat → Nat) : CM l G yX1_copyFrom wsX1_copyFrom 2 61 1 [.ref h, .ref h2] [HM G h r g, HM G h2 r2 g2] 0 0 (fun v u => v = none ∧ u = [HM G h r g2, HM G h2 r2 g2]) := by
  refine CM_of RX1 1 40 rfl rfl (by decide) (by decide +kernel) (Nat.le_of_ble_eq_true rfl) (fun E A X hrt hnm => ?_)
  have F9 := Fld_of (idx := 9) 1 0 X (by decide) (by decide) (by decide +kernel) (by decide +kernel)
  generalize hQ : QM E G A _ _ _ = Q
  refine V_ws [[(h, .inr (1, [.ref r])), (r, .inl (G.2 0, 10, .inl (nf g)))], [(h2, .inr (1, [.ref r2])), (r2, .inl (G.2 0, 10, .inl (nf g2)))]] rfl ?_
  refine V_aload_n (pc' := 1) 1 X dX1_copyFrom_0 rfl rfl rfl ?_
  refine V_get (pc' := 4) 2 X F9 rfl rfl dX1_copyFrom_1 rfl ?_
  refine V_iconst (pc' := 5) (nI 0) X dX1_copyFrom_4 ki_0 rfl ?_
  refine V_aload_n (pc' := 6) 0 X dX1_copyFrom_5 rfl rfl rfl ?_
  refine V_get (pc' := 9) 0 X F9 rfl rfl dX1_copyFrom_6 rfl ?_
  refine V_iconst (pc' := 10) (nI 0) X dX1_copyFrom_9 ki_0 rfl ?_
  refine V_bipush (pc' := 12) (nI 10) X dX1_copyFrom_10 kb_10 rfl ?_
  refine V_copy (pc' := 15) 3 1 [[(h, .inr (1, [.ref r])), (r, .inl (G.2 0, 10, .inl (va_cpy (nf g2) (nf g) 0 0 10)))], [(h2, .inr (1, [.ref r2])), (r2, .inl (G.2 0, 10, .inl (nf g2)))]] X (by decide +kernel) (by decide +kernel) (by decide +kernel) (by decide +kernel) rfl rfl (by decide) (by decide) (by decide) (by decide) (Nat.le_of_ble_eq_true rfl) (by decide +kernel) rfl dX1_copyFrom_12 rfl ?_
  refine V_wsq [[(h, .inr (1, [.ref r])), (r, .inl (G.2 0, 10, .inl (nf g2)))], [(h2, .inr (1, [.ref r2])), (r2, .inl (G.2 0, 10, .inl (nf g2)))]] (wsq.cons (weq.rf _) (wsq.cons (weq.row (fun k hk => pk_cpy_in (Nat.zero_le _) (by omega) |>.trans (by simp))) (wsq.rf _))) ?_
  refine V_ws [HM G h r g2, HM G h2 r2 g2] rfl ?_
  exact V_return [HM G h r g2, HM G h2 r2 g2] hQ X hrt dX1_copyFrom_15 (Nat.le_of_ble_eq_true rfl) (Nat.le_of_ble_eq_true rfl) (List.Perm.refl _) ⟨rfl, rfl⟩

set_option maxHeartbeats 4000000 in
set_option maxRecDepth 100000 in
theorem c_X1_allBack (l : Launch) (G : gT) (h r : Nat) (g : Nat → Nat) : CM l G yX1_allBack wsX1_allBack 2 43 0 [.ref h] [HM G h r g] 0 0 (fun v u => v = none ∧ u = [HM G h r (fun _ => 3)]) := by
  refine CM_of RX1 1 23 rfl rfl (by decide) (by decide +kernel) (Nat.le_of_ble_eq_true rfl) (fun E A X hrt hnm => ?_)
  have F9 := Fld_of (idx := 9) 1 0 X (by decide) (by decide) (by decide +kernel) (by decide +kernel)
  generalize hQ : QM E G A _ _ _ = Q
  refine V_ws [[(h, .inr (1, [.ref r]))], [(r, .inl (G.2 0, 10, .inl (nf g)))]] rfl ?_
  refine V_aload_n (pc' := 1) 0 X dX1_allBack_0 rfl rfl rfl ?_
  refine V_get (pc' := 4) 0 X F9 rfl rfl dX1_allBack_1 rfl ?_
  refine V_iconst (pc' := 5) (nI 3) X dX1_allBack_4 ki_3 rfl ?_
  refine V_callS (pc' := 8) (As := [.ref r, .int (nI 3)]) (st := []) [1] [0] (show (List.range 2).Perm ([1] ++ [0]) by decide) X (c_J7_fill_53178 l G r 10 (by decide) (nI 3) (nf g)) rfl gX1_allBack_J7_fill_53178 rfl rfl (Nat.le_of_ble_eq_true rfl) ⟨Nat.le_of_ble_eq_true rfl, Nat.le_of_ble_eq_true rfl⟩ ⟨Nat.le_of_ble_eq_true rfl, Nat.le_of_ble_eq_true rfl⟩ dX1_allBack_5 rfl (fun v_ u_ hp_ => ?_)
  obtain ⟨rfl, rfl⟩ := hp_
  show V E G A 1 [[(h, .inr (1, [.ref r]))], [(r, .inl (G.2 0, 10, .inl (fl (nf g) (nI 3) 10)))]] 0 0 Q 8 [(0, .ref h)] []
  refine V_wsq [[(h, .inr (1, [.ref r]))], [(r, .inl (G.2 0, 10, .inl (nf (fun _ => 3))))]] (wsq.cons (weq.rf _) (wsq.cons (weq.row (fun k hk => fl_in hk)) (wsq.rf _))) ?_
  refine V_ws [HM G h r (fun _ => 3)] rfl ?_
  exact V_return [HM G h r (fun _ => 3)] hQ X hrt dX1_allBack_8 (Nat.le_of_ble_eq_true rfl) (Nat.le_of_ble_eq_true rfl) (List.Perm.refl _) ⟨rfl, rfl⟩

set_option maxHeartbeats 4000000 in
set_option maxRecDepth 100000 in
theorem c_X1_isBack (l : Launch) (G : gT) (h r b w : Nat) (g : Nat → Nat) (hb : b < 10) (hw : w < 2 ^ 20) (hg : ∀ k, k < 10 → g k < 2 ^ 20) : CM l G yX1_isBack wsX1_isBack 1 22 2 [.ref h, .int (nI b), .int (nI w)] [HM G h r g] 0 0 (fun v u => v = some (.int (nI (if w / 20 ≤ g b then 1 else 0))) ∧ u = [HM G h r g]) := by
  refine CM_of RX1 0 0 rfl rfl (by decide) (by decide +kernel) (Nat.le_of_ble_eq_true rfl) (fun E A X hrt hnm => ?_)
  have F9 := Fld_of (idx := 9) 1 0 X (by decide) (by decide) (by decide +kernel) (by decide +kernel)
  generalize hQ : QM E G A _ _ _ = Q
  have hgb := hg b hb
  refine V_ws [[(h, .inr (1, [.ref r])), (r, .inl (G.2 0, 10, .inl (nf g)))]] rfl ?_
  refine V_aload_n (pc' := 1) 0 X dX1_isBack_0 rfl rfl rfl ?_
  refine V_get (pc' := 4) 0 X F9 rfl rfl dX1_isBack_1 rfl ?_
  refine V_iload_n (pc' := 5) 1 X dX1_isBack_4 rfl rfl rfl ?_
  refine V_iald (pc' := 6) (v := nI (g b)) 1 b X rfl (by omega) (by decide) rfl dX1_isBack_5 rfl ?_
  refine V_iload_n (pc' := 7) 2 X dX1_isBack_6 rfl rfl rfl ?_
  refine V_bipush (pc' := 9) (nI 20) X dX1_isBack_7 kb_20 rfl ?_
  refine V_idiv (pc' := 10) (nI (w / 20)) X dX1_isBack_9 (z_ne0 (by omega) (by omega)) (pk_div (by omega) (by omega) (by omega)) rfl ?_
  refine V_icmp_lt (pc' := 13) (C := (g b) < (w / 20)) 17 X dX1_isBack_10 (by decide) rfl (nI_ltI (by omega) (by omega)) (fun h10 => ?_) (fun h10 => ?_)
  · refine V_iconst (pc' := 18) (nI 0) X dX1_isBack_17 ki_0 rfl ?_
    refine V_ws [HM G h r g] rfl ?_
    exact V_ireturn (v := nI 0) [HM G h r g] hQ X hrt rfl dX1_isBack_18 (Nat.le_of_ble_eq_true rfl) (Nat.le_of_ble_eq_true rfl) (List.Perm.refl _) ⟨by rw [if_neg (by omega)], rfl⟩
  · refine V_iconst (pc' := 14) (nI 1) X dX1_isBack_13 ki_1 rfl ?_
    refine V_goto (pc' := 18) X dX1_isBack_14 (by decide) ?_
    refine V_ws [HM G h r g] rfl ?_
    exact V_ireturn (v := nI 1) [HM G h r g] hQ X hrt rfl dX1_isBack_18 (Nat.le_of_ble_eq_true rfl) (Nat.le_of_ble_eq_true rfl) (List.Perm.refl _) ⟨by rw [if_pos (by omega)], rfl⟩

set_option maxHeartbeats 4000000 in
set_option maxRecDepth 100000 in
theorem c_X5_holds (l : Launch) (G : gT) (p b : Nat) (hp : p < 2 ^ 20) (hb : b < 20) : CM l G yX5_holds wsX5_holds 1 21 2 [.int (nI p), .int (nI b)] [] 0 0 (fun v u => v = some (.int (nI (bq p b))) ∧ u = []) := by
  refine CM_of RX5 0 0 rfl rfl (by decide) (by decide +kernel) (Nat.le_of_ble_eq_true rfl) (fun E A X hrt hnm => ?_)
  generalize hQ : QM E G A _ _ _ = Q
  show V E G A 2 [] 0 0 Q 0 [(0, .int (nI p)), (1, .int (nI b))] []
  refine V_iload_n (pc' := 1) 0 X dX5_holds_0 rfl rfl rfl ?_
  refine V_iload_n (pc' := 2) 1 X dX5_holds_1 rfl rfl rfl ?_
  refine V_ishr (pc' := 3) (nI (p / 2 ^ b)) X dX5_holds_2 (z_shr (by omega) (by omega)) rfl ?_
  refine V_iconst (pc' := 4) (nI 1) X dX5_holds_3 ki_1 rfl ?_
  refine V_iand (pc' := 5) (nI (bq p b)) X dX5_holds_4 (z_and1 _) rfl ?_
  refine V_iconst (pc' := 6) (nI 1) X dX5_holds_5 ki_1 rfl ?_
  refine V_icmp_ne (pc' := 9) (C := (bq p b) = 1) 13 X dX5_holds_6 (by decide) rfl (nI_eq (Nat.lt_trans (bq_lt _ _) (by decide)) (by decide)) (fun h6 => ?_) (fun h6 => ?_)
  · refine V_iconst (pc' := 14) (nI 0) X dX5_holds_13 ki_0 rfl ?_
    exact V_ireturn (v := nI 0) [] hQ X hrt rfl dX5_holds_14 (Nat.le_of_ble_eq_true rfl) (Nat.le_of_ble_eq_true rfl) (List.Perm.refl _) ⟨by rw [show bq p b = 0 by have := bq_lt p b; omega], rfl⟩
  · refine V_iconst (pc' := 10) (nI 1) X dX5_holds_9 ki_1 rfl ?_
    refine V_goto (pc' := 14) X dX5_holds_10 (by decide) ?_
    exact V_ireturn (v := nI 1) [] hQ X hrt rfl dX5_holds_14 (Nat.le_of_ble_eq_true rfl) (Nat.le_of_ble_eq_true rfl) (List.Perm.refl _) ⟨by rw [h6], rfl⟩

set_option maxHeartbeats 4000000 in
set_option maxRecDepth 100000 in
theorem c_X1_heardOutOf (l : Launch) (G : gT) (h r p wa B : Nat) (g w : Nat → Nat) (hp : p < 1024) (hg : ∀ k, k < 10 → g k ≤ 9) (hw : ∀ k, k < 10 → w k ≤ 60) (hB : B ≤ 601) : CM l G yX1_heardOutOf wsX1_heardOutOf 2 49 3 [.ref h, .int (nI p), .ref wa, .int (nI B)] [HM G h r g, [(wa, .inl (G.2 0, 10, .inl (nf w)))]] 0 0 (fun v u => v = some (.int (nI (hr p g w B 10).1)) ∧ u = [HM G h r g, [(wa, .inl (G.2 0, 10, .inl (nf w)))]]) := by
  refine CM_of RX1 1 22 rfl rfl (by decide) (by decide +kernel) (Nat.le_of_ble_eq_true rfl) (fun E A X hrt hnm => ?_)
  generalize hQ : QM E G A _ _ _ = Q
  show V E G A 8 [HM G h r g, [(wa, .inl (G.2 0, 10, .inl (nf w)))]] 0 0 Q 0 [(0, .ref h), (1, .int (nI p)), (2, .ref wa), (3, .int (nI B))] []
  refine V_iconst (pc' := 1) (nI 0) X dX1_heardOutOf_0 ki_0 rfl ?_
  refine V_istore (pc' := 3) [(0, .ref h), (1, .int (nI p)), (2, .ref wa), (3, .int (nI B)), (4, .int (nI 0))] [1, 2, 3, 4, 0] X dX1_heardOutOf_1 (Nat.le_of_ble_eq_true rfl) rfl rfl ?_
  refine V_iconst (pc' := 4) (nI 0) X dX1_heardOutOf_3 ki_0 rfl ?_
  refine V_istore (pc' := 6) [(0, .ref h), (1, .int (nI p)), (2, .ref wa), (3, .int (nI B)), (4, .int (nI 0)), (5, .int (nI 0))] [1, 2, 3, 4, 5, 0] X dX1_heardOutOf_4 (Nat.le_of_ble_eq_true rfl) rfl rfl ?_
  refine V_iconst (pc' := 7) (nI 0) X dX1_heardOutOf_6 ki_0 rfl ?_
  refine V_istore (pc' := 9) [(0, .ref h), (1, .int (nI p)), (2, .ref wa), (3, .int (nI B)), (4, .int (nI 0)), (5, .int (nI 0)), (6, .int (nI 0))] [1, 2, 3, 4, 5, 6, 0] X dX1_heardOutOf_7 (Nat.le_of_ble_eq_true rfl) rfl rfl ?_
  have lp_1 : ∀ i, i ≤ 10 → V E G A 8 [HM G h r g, [(wa, .inl (G.2 0, 10, .inl (nf w)))]] 0 0 Q 9 [(0, .ref h), (1, .int (nI p)), (2, .ref wa), (3, .int (nI B)), (4, .int (nI ((hr p g w B i).1))), (5, .int (nI ((hr p g w B i).2))), (6, .int (nI i))] [] := by
    refine loopD 10 ?_ ?_
    · show V E G A 8 [HM G h r g, [(wa, .inl (G.2 0, 10, .inl (nf w)))]] 0 0 Q 9 [(0, .ref h), (1, .int (nI p)), (2, .ref wa), (3, .int (nI B)), (4, .int (nI ((hr p g w B 10).1))), (5, .int (nI ((hr p g w B 10).2))), (6, .int (nI 10))] []
      refine V_iload (pc' := 11) 6 X dX1_heardOutOf_9 rfl rfl ?_
      refine V_bipush (pc' := 13) (nI 10) X dX1_heardOutOf_11 kb_10 rfl ?_
      refine V_icmp_ge (pc' := 16) (C := 10 ≤ 10) 73 X dX1_heardOutOf_13 (by decide) rfl (nI_leI (by omega) (by omega)) (fun _ => ?_) (fun hz => absurd (by omega) hz)
      refine V_iload (pc' := 75) 4 X dX1_heardOutOf_73 rfl rfl ?_
      exact V_ireturn (v := nI ((hr p g w B 10).1)) [HM G h r g, [(wa, .inl (G.2 0, 10, .inl (nf w)))]] hQ X hrt rfl dX1_heardOutOf_75 (Nat.le_of_ble_eq_true rfl) (Nat.le_of_ble_eq_true rfl) (List.Perm.refl _) ⟨rfl, rfl⟩
    · intro i hi_i ih
      show V E G A 8 [HM G h r g, [(wa, .inl (G.2 0, 10, .inl (nf w)))]] 0 0 Q 9 [(0, .ref h), (1, .int (nI p)), (2, .ref wa), (3, .int (nI B)), (4, .int (nI ((hr p g w B i).1))), (5, .int (nI ((hr p g w B i).2))), (6, .int (nI i))] []
      have hgi := hg i hi_i
      have hwi := hw i hi_i
      have hle := hr_le p g w B i
      refine V_iload (pc' := 11) 6 X dX1_heardOutOf_9 rfl rfl ?_
      refine V_bipush (pc' := 13) (nI 10) X dX1_heardOutOf_11 kb_10 rfl ?_
      refine V_icmp_ge (pc' := 16) (C := 10 ≤ i) 73 X dX1_heardOutOf_13 (by decide) rfl (nI_leI (by omega) (by omega)) (fun hz => absurd hz (by omega)) (fun _ => ?_)
      refine V_aload_n (pc' := 17) 2 X dX1_heardOutOf_16 rfl rfl rfl ?_
      refine V_iload (pc' := 19) 6 X dX1_heardOutOf_17 rfl rfl ?_
      refine V_iald (pc' := 20) (v := nI (w i)) 2 i X rfl (by omega) (by decide) rfl dX1_heardOutOf_19 rfl ?_
      refine V_istore (pc' := 22) [(0, .ref h), (1, .int (nI p)), (2, .ref wa), (3, .int (nI B)), (4, .int (nI ((hr p g w B i).1))), (5, .int (nI ((hr p g w B i).2))), (6, .int (nI i)), (7, .int (nI (w i)))] [1, 2, 3, 4, 5, 6, 7, 0] X dX1_heardOutOf_20 (Nat.le_of_ble_eq_true rfl) rfl rfl ?_
      refine V_iload_n (pc' := 23) 1 X dX1_heardOutOf_22 rfl rfl rfl ?_
      refine V_iload (pc' := 25) 6 X dX1_heardOutOf_23 rfl rfl ?_
      refine V_callSN (host := RX5) (pc' := 28) (As := [.int (nI p), .int (nI i)]) (st := []) [] [0, 1] (show (List.range 2).Perm ([] ++ [0, 1]) by decide) X (c_X5_holds l G p i (by omega) (by omega)) rfl gX1_heardOutOf_X5_holds_n27 X.2.1.2.2.2.2.1.2.2.2.1 (by decide +kernel) (by decide +kernel) rfl rfl (Nat.le_of_ble_eq_true rfl) ⟨Nat.le_of_ble_eq_true rfl, Nat.le_of_ble_eq_true rfl⟩ ⟨Nat.le_of_ble_eq_true rfl, Nat.le_of_ble_eq_true rfl⟩ dX1_heardOutOf_25 rfl (fun v_ u_ hp_ => ?_)
      obtain ⟨rfl, rfl⟩ := hp_
      show V E G A 8 [HM G h r g, [(wa, .inl (G.2 0, 10, .inl (nf w)))]] 0 0 Q 28 [(0, .ref h), (1, .int (nI p)), (2, .ref wa), (3, .int (nI B)), (4, .int (nI ((hr p g w B i).1))), (5, .int (nI ((hr p g w B i).2))), (6, .int (nI i)), (7, .int (nI (w i)))] [.int (nI (bq p i))]
      refine V_if_eq (pc' := 31) (C := (bq p i) = 0) 67 X dX1_heardOutOf_28 (by decide) rfl (z_eq0 (Nat.lt_trans (bq_lt _ _) (by decide))) (fun h28 => ?_) (fun h28 => ?_)
      · refine V_iinc (pc' := 70) [(0, .ref h), (1, .int (nI p)), (2, .ref wa), (3, .int (nI B)), (4, .int (nI ((hr p g w B i).1))), (5, .int (nI ((hr p g w B i).2))), (6, .int (nI (i + 1))), (7, .int (nI (w i)))] 6 [1, 2, 3, 4, 5, 6, 0, 7] X dX1_heardOutOf_67 rfl (nI_i1 _) (Nat.le_of_ble_eq_true rfl) rfl rfl ?_
        refine V_goto (pc' := 9) X dX1_heardOutOf_70 (by decide) ?_
        refine V_lv [0, 1, 2, 3, 4, 5, 6] [(0, .ref h), (1, .int (nI p)), (2, .ref wa), (3, .int (nI B)), (4, .int (nI ((hr p g w B i).1))), (5, .int (nI ((hr p g w B i).2))), (6, .int (nI (i + 1)))] rfl ?_
        rw [show hr p g w B (i + 1) = hr p g w B i by rw [hr]; exact if_neg (by omega)] at ih
        exact ih
      · refine V_aload_n (pc' := 32) 0 X dX1_heardOutOf_31 rfl rfl rfl ?_
        refine V_iload (pc' := 34) 6 X dX1_heardOutOf_32 rfl rfl ?_
        refine V_iload (pc' := 36) 7 X dX1_heardOutOf_34 rfl rfl ?_
        refine V_callV (pc' := 39) (As := [.int (nI i), .int (nI (w i))]) (st := []) 1 0 [0] [1] (show (List.range 2).Perm ([0] ++ [1]) by decide) X (c_X1_isBack l G h r i (w i) g (by omega) (by omega) (fun k hk => Nat.lt_of_le_of_lt (hg k hk) (by decide))) rfl gX1_heardOutOf_X1_isBack rfl (by decide) rfl rfl rfl (Nat.le_of_ble_eq_true rfl) ⟨Nat.le_of_ble_eq_true rfl, Nat.le_of_ble_eq_true rfl⟩ ⟨Nat.le_of_ble_eq_true rfl, Nat.le_of_ble_eq_true rfl⟩ dX1_heardOutOf_36 rfl (fun v_ u_ hp_ => ?_)
        obtain ⟨rfl, rfl⟩ := hp_
        show V E G A 8 [[(wa, .inl (G.2 0, 10, .inl (nf w)))], HM G h r g] 0 0 Q 39 [(0, .ref h), (1, .int (nI p)), (2, .ref wa), (3, .int (nI B)), (4, .int (nI ((hr p g w B i).1))), (5, .int (nI ((hr p g w B i).2))), (6, .int (nI i)), (7, .int (nI (w i)))] [.int (nI (if (w i) / 20 ≤ g i then 1 else 0))]
        refine V_ord [1, 0] [HM G h r g, [(wa, .inl (G.2 0, 10, .inl (nf w)))]] (show (List.range 2).Perm [1, 0] by decide) rfl ?_
        refine V_if_eq (pc' := 42) (C := ¬ ((w i) / 20 ≤ g i)) 67 X dX1_heardOutOf_39 (by decide) rfl z_ite0 (fun h39 => ?_) (fun h39 => ?_)
        · refine V_iinc (pc' := 70) [(0, .ref h), (1, .int (nI p)), (2, .ref wa), (3, .int (nI B)), (4, .int (nI ((hr p g w B i).1))), (5, .int (nI ((hr p g w B i).2))), (6, .int (nI (i + 1))), (7, .int (nI (w i)))] 6 [1, 2, 3, 4, 5, 6, 0, 7] X dX1_heardOutOf_67 rfl (nI_i1 _) (Nat.le_of_ble_eq_true rfl) rfl rfl ?_
          refine V_goto (pc' := 9) X dX1_heardOutOf_70 (by decide) ?_
          refine V_lv [0, 1, 2, 3, 4, 5, 6] [(0, .ref h), (1, .int (nI p)), (2, .ref wa), (3, .int (nI B)), (4, .int (nI ((hr p g w B i).1))), (5, .int (nI ((hr p g w B i).2))), (6, .int (nI (i + 1)))] rfl ?_
          rw [show hr p g w B (i + 1) = hr p g w B i by rw [hr]; exact if_neg (by omega)] at ih
          exact ih
        · have h39 := Classical.not_not.mp h39
          refine V_iload (pc' := 44) 5 X dX1_heardOutOf_42 rfl rfl ?_
          refine V_iload (pc' := 46) 7 X dX1_heardOutOf_44 rfl rfl ?_
          refine V_iadd (pc' := 47) (nI (((hr p g w B i).2) + (w i))) X dX1_heardOutOf_46 (nI_add _ _) rfl ?_
          refine V_iload_n (pc' := 48) 3 X dX1_heardOutOf_47 rfl rfl rfl ?_
          refine V_icmp_gt (pc' := 51) (C := B < (((hr p g w B i).2) + (w i))) 67 X dX1_heardOutOf_48 (by decide) rfl (nI_ltI (by omega) (by omega)) (fun h48 => ?_) (fun h48 => ?_)
          · refine V_iinc (pc' := 70) [(0, .ref h), (1, .int (nI p)), (2, .ref wa), (3, .int (nI B)), (4, .int (nI ((hr p g w B i).1))), (5, .int (nI ((hr p g w B i).2))), (6, .int (nI (i + 1))), (7, .int (nI (w i)))] 6 [1, 2, 3, 4, 5, 6, 0, 7] X dX1_heardOutOf_67 rfl (nI_i1 _) (Nat.le_of_ble_eq_true rfl) rfl rfl ?_
            refine V_goto (pc' := 9) X dX1_heardOutOf_70 (by decide) ?_
            refine V_lv [0, 1, 2, 3, 4, 5, 6] [(0, .ref h), (1, .int (nI p)), (2, .ref wa), (3, .int (nI B)), (4, .int (nI ((hr p g w B i).1))), (5, .int (nI ((hr p g w B i).2))), (6, .int (nI (i + 1)))] rfl ?_
            rw [show hr p g w B (i + 1) = hr p g w B i by rw [hr]; exact if_neg (by omega)] at ih
            exact ih
          · refine V_iload (pc' := 53) 4 X dX1_heardOutOf_51 rfl rfl ?_
            refine V_iconst (pc' := 54) (nI 1) X dX1_heardOutOf_53 ki_1 rfl ?_
            refine V_iload (pc' := 56) 6 X dX1_heardOutOf_54 rfl rfl ?_
            refine V_ishl (pc' := 57) (nI (2 ^ i)) X dX1_heardOutOf_56 (z_shl1 (by omega)) rfl ?_
            refine V_ior (pc' := 58) (nI ((hr p g w B i).1 + 2 ^ i)) X dX1_heardOutOf_57 (by rw [z_or, or_pow (hr_lt _ _ _ _ _)]) rfl ?_
            refine V_istore (pc' := 60) [(0, .ref h), (1, .int (nI p)), (2, .ref wa), (3, .int (nI B)), (4, .int (nI ((hr p g w B i).1 + 2 ^ i))), (5, .int (nI ((hr p g w B i).2))), (6, .int (nI i)), (7, .int (nI (w i)))] [1, 2, 3, 4, 0, 5, 6, 7] X dX1_heardOutOf_58 (Nat.le_of_ble_eq_true rfl) rfl rfl ?_
            refine V_iload (pc' := 62) 5 X dX1_heardOutOf_60 rfl rfl ?_
            refine V_iload (pc' := 64) 7 X dX1_heardOutOf_62 rfl rfl ?_
            refine V_iadd (pc' := 65) (nI (((hr p g w B i).2) + (w i))) X dX1_heardOutOf_64 (nI_add _ _) rfl ?_
            refine V_istore (pc' := 67) [(0, .ref h), (1, .int (nI p)), (2, .ref wa), (3, .int (nI B)), (4, .int (nI ((hr p g w B i).1 + 2 ^ i))), (5, .int (nI (((hr p g w B i).2) + (w i)))), (6, .int (nI i)), (7, .int (nI (w i)))] [1, 2, 3, 4, 5, 0, 6, 7] X dX1_heardOutOf_65 (Nat.le_of_ble_eq_true rfl) rfl rfl ?_
            refine V_iinc (pc' := 70) [(0, .ref h), (1, .int (nI p)), (2, .ref wa), (3, .int (nI B)), (4, .int (nI ((hr p g w B i).1 + 2 ^ i))), (5, .int (nI (((hr p g w B i).2) + (w i)))), (6, .int (nI (i + 1))), (7, .int (nI (w i)))] 6 [1, 2, 3, 4, 5, 6, 0, 7] X dX1_heardOutOf_67 rfl (nI_i1 _) (Nat.le_of_ble_eq_true rfl) rfl rfl ?_
            refine V_goto (pc' := 9) X dX1_heardOutOf_70 (by decide) ?_
            refine V_lv [0, 1, 2, 3, 4, 5, 6] [(0, .ref h), (1, .int (nI p)), (2, .ref wa), (3, .int (nI B)), (4, .int (nI ((hr p g w B i).1 + 2 ^ i))), (5, .int (nI (((hr p g w B i).2) + (w i)))), (6, .int (nI (i + 1)))] rfl ?_
            rw [show hr p g w B (i + 1) = ((hr p g w B i).1 + 2 ^ i, (hr p g w B i).2 + w i) by have := bq_lt p i; rw [hr]; exact if_pos (by omega)] at ih
            exact ih
  exact lp_1 0 (Nat.zero_le _)

set_option maxHeartbeats 4000000 in
set_option maxRecDepth 100000 in
theorem c_X1_swing (l : Launch) (G : gT) (h r p : Nat) (g : Nat → Nat) (hp : p < 1024) (hg : ∀ k, k < 10 → g k ≤ 9) : CM l G yX1_swing wsX1_swing 2 43 1 [.ref h, .int (nI p)] [HM G h r g] 0 0 (fun v u => v = none ∧ u = [HM G h r (swg 3 g p)]) := by
  refine CM_of RX1 1 21 rfl rfl (by decide) (by decide +kernel) (Nat.le_of_ble_eq_true rfl) (fun E A X hrt hnm => ?_)
  have F9 := Fld_of (idx := 9) 1 0 X (by decide) (by decide) (by decide +kernel) (by decide +kernel)
  generalize hQ : QM E G A _ _ _ = Q
  refine V_ws [[(h, .inr (1, [.ref r])), (r, .inl (G.2 0, 10, .inl (nf g)))]] rfl ?_
  refine V_iconst (pc' := 1) (nI 0) X dX1_swing_0 ki_0 rfl ?_
  refine V_istore_n (pc' := 2) [(0, .ref h), (1, .int (nI p)), (2, .int (nI 0))] [1, 2, 0] X dX1_swing_1 rfl (Nat.le_of_ble_eq_true rfl) rfl rfl ?_
  have lp_1 : ∀ i, i ≤ 10 → V E G A 3 [[(h, .inr (1, [.ref r])), (r, .inl (G.2 0, 10, .inl (nf (upN g (swg 3 g p) i))))]] 0 0 Q 2 [(0, .ref h), (1, .int (nI p)), (2, .int (nI i))] [] := by
    refine loopD 10 ?_ ?_
    · show V E G A 3 [[(h, .inr (1, [.ref r])), (r, .inl (G.2 0, 10, .inl (nf (upN g (swg 3 g p) 10))))]] 0 0 Q 2 [(0, .ref h), (1, .int (nI p)), (2, .int (nI 10))] []
      refine V_iload_n (pc' := 3) 2 X dX1_swing_2 rfl rfl rfl ?_
      refine V_bipush (pc' := 5) (nI 10) X dX1_swing_3 kb_10 rfl ?_
      refine V_icmp_ge (pc' := 8) (C := 10 ≤ 10) 44 X dX1_swing_5 (by decide) rfl (nI_leI (by omega) (by omega)) (fun _ => ?_) (fun hz => absurd (by omega) hz)
      refine V_wsq [[(h, .inr (1, [.ref r])), (r, .inl (G.2 0, 10, .inl (nf (swg 3 g p))))]] (wsq.cons (weq.rf _) (wsq.cons (weq.row (fun k hk => by show nI _ = nI _; rw [upN_in hk])) (wsq.rf _))) ?_
      refine V_ws [HM G h r (swg 3 g p)] rfl ?_
      exact V_return [HM G h r (swg 3 g p)] hQ X hrt dX1_swing_44 (Nat.le_of_ble_eq_true rfl) (Nat.le_of_ble_eq_true rfl) (List.Perm.refl _) ⟨rfl, rfl⟩
    · intro i hi_i ih
      show V E G A 3 [[(h, .inr (1, [.ref r])), (r, .inl (G.2 0, 10, .inl (nf (upN g (swg 3 g p) i))))]] 0 0 Q 2 [(0, .ref h), (1, .int (nI p)), (2, .int (nI i))] []
      have hgi := hg i hi_i
      refine V_iload_n (pc' := 3) 2 X dX1_swing_2 rfl rfl rfl ?_
      refine V_bipush (pc' := 5) (nI 10) X dX1_swing_3 kb_10 rfl ?_
      refine V_icmp_ge (pc' := 8) (C := 10 ≤ i) 44 X dX1_swing_5 (by decide) rfl (nI_leI (by omega) (by omega)) (fun hz => absurd hz (by omega)) (fun _ => ?_)
      refine V_aload_n (pc' := 9) 0 X dX1_swing_8 rfl rfl rfl ?_
      refine V_get (pc' := 12) 0 X F9 rfl rfl dX1_swing_9 rfl ?_
      refine V_iload_n (pc' := 13) 2 X dX1_swing_12 rfl rfl rfl ?_
      refine V_iload_n (pc' := 14) 1 X dX1_swing_13 rfl rfl rfl ?_
      refine V_iload_n (pc' := 15) 2 X dX1_swing_14 rfl rfl rfl ?_
      refine V_callSN (host := RX5) (pc' := 18) (As := [.int (nI p), .int (nI i)]) (st := [.int (nI i), .ref r]) [] [0] (show (List.range 1).Perm ([] ++ [0]) by decide) X (c_X5_holds l G p i (by omega) (by omega)) rfl gX1_swing_X5_holds_n27 X.2.1.2.2.2.2.1.2.2.2.1 (by decide +kernel) (by decide +kernel) rfl rfl (Nat.le_of_ble_eq_true rfl) ⟨Nat.le_of_ble_eq_true rfl, Nat.le_of_ble_eq_true rfl⟩ ⟨Nat.le_of_ble_eq_true rfl, Nat.le_of_ble_eq_true rfl⟩ dX1_swing_15 rfl (fun v_ u_ hp_ => ?_)
      obtain ⟨rfl, rfl⟩ := hp_
      show V E G A 3 [[(h, .inr (1, [.ref r])), (r, .inl (G.2 0, 10, .inl (nf (upN g (swg 3 g p) i))))]] 0 0 Q 18 [(0, .ref h), (1, .int (nI p)), (2, .int (nI i))] [.int (nI (bq p i)), .int (nI i), .ref r]
      refine V_if_eq (pc' := 21) (C := (bq p i) = 0) 25 X dX1_swing_18 (by decide) rfl (z_eq0 (Nat.lt_trans (bq_lt _ _) (by decide))) (fun h18 => ?_) (fun h18 => ?_)
      · refine V_aload_n (pc' := 26) 0 X dX1_swing_25 rfl rfl rfl ?_
        refine V_get (pc' := 29) 0 X F9 rfl rfl dX1_swing_26 rfl ?_
        refine V_iload_n (pc' := 30) 2 X dX1_swing_29 rfl rfl rfl ?_
        refine V_iald (pc' := 31) (v := nI (g i)) 1 i X rfl (by omega) (by decide) (by show nI (upN g (swg 3 g p) i i) = nI (g i); rw [upN_out (Nat.le_refl _)]) dX1_swing_30 rfl ?_
        refine V_iconst (pc' := 32) (nI 1) X dX1_swing_31 ki_1 rfl ?_
        refine V_iadd (pc' := 33) (nI ((g i) + 1)) X dX1_swing_32 (nI_add _ _) rfl ?_
        refine V_iconst (pc' := 34) (nI 3) X dX1_swing_33 ki_3 rfl ?_
        refine V_min (pc' := 37) (nI (min ((g i) + 1) 3)) X (by decide +kernel) (by decide +kernel) (by decide +kernel) (by decide +kernel) (Nat.le_of_ble_eq_true rfl) (Nat.le_of_ble_eq_true rfl) (Nat.le_of_ble_eq_true rfl) (Nat.le_of_ble_eq_true rfl) dX1_swing_34 (z_min (by omega) (by omega)) rfl ?_
        refine V_iast (pc' := 38) 1 i [[(h, .inr (1, [.ref r])), (r, .inl (G.2 0, 10, .inl (upd (nf (upN g (swg 3 g p) i)) i (nI (min ((g i) + 1) 3)))))]] X rfl (by omega) (by decide) rfl dX1_swing_37 rfl ?_
        refine V_ws [[(h, .inr (1, [.ref r])), (r, .inl (G.2 0, 10, .inl (nf (va_up (upN g (swg 3 g p) i) i (min ((g i) + 1) 3)))))]] (by simp only [nf_upd]) ?_
        refine V_iinc (pc' := 41) [(0, .ref h), (1, .int (nI p)), (2, .int (nI (i + 1)))] 2 [1, 2, 0] X dX1_swing_38 rfl (nI_i1 _) (Nat.le_of_ble_eq_true rfl) rfl rfl ?_
        refine V_goto (pc' := 2) X dX1_swing_41 (by decide) ?_
        rw [upN_succ, show swg 3 g p i = min (g i + 1) 3 by unfold swg; exact if_neg (by omega)] at ih
        exact ih
      · refine V_iconst (pc' := 22) (nI 0) X dX1_swing_21 ki_0 rfl ?_
        refine V_goto (pc' := 37) X dX1_swing_22 (by decide) ?_
        refine V_iast (pc' := 38) 1 i [[(h, .inr (1, [.ref r])), (r, .inl (G.2 0, 10, .inl (upd (nf (upN g (swg 3 g p) i)) i (nI 0))))]] X rfl (by omega) (by decide) rfl dX1_swing_37 rfl ?_
        refine V_ws [[(h, .inr (1, [.ref r])), (r, .inl (G.2 0, 10, .inl (nf (va_up (upN g (swg 3 g p) i) i 0))))]] (by simp only [nf_upd]) ?_
        refine V_iinc (pc' := 41) [(0, .ref h), (1, .int (nI p)), (2, .int (nI (i + 1)))] 2 [1, 2, 0] X dX1_swing_38 rfl (nI_i1 _) (Nat.le_of_ble_eq_true rfl) rfl rfl ?_
        refine V_goto (pc' := 2) X dX1_swing_41 (by decide) ?_
        rw [upN_succ, show swg 3 g p i = 0 by have := bq_lt p i; unfold swg; exact if_pos (by omega)] at ih
        exact ih
  exact lp_1 0 (Nat.zero_le _)

set_option maxHeartbeats 4000000 in
set_option maxRecDepth 100000 in
theorem c_J6_bitCount_0f7a4 (l : Launch) (G : gT) (a : Nat) (ha : a < 1024) : CM l G yJ6_bitCount_0f7a4 wsJ6_bitCount_0f7a4 1 20 1 [.int (nI a)] [] 0 0 (fun v u => v = some (.int (nI (cnt a))) ∧ u = []) := by
  refine CM_of RJ6 0 0 rfl rfl (by decide) (by decide +kernel) (Nat.le_of_ble_eq_true rfl) (fun E A X hrt hnm => ?_)
  generalize hQ : QM E G A _ _ _ = Q
  show V E G A 1 [] 0 0 Q 0 [(0, .int (nI a))] []
  refine V_iload_n (pc' := 1) 0 X dJ6_bitCount_0f7a4_0 rfl rfl rfl ?_
  refine V_iload_n (pc' := 2) 0 X dJ6_bitCount_0f7a4_1 rfl rfl rfl ?_
  refine V_iconst (pc' := 3) (nI 1) X dJ6_bitCount_0f7a4_2 ki_1 rfl ?_
  refine V_iushr (pc' := 4) (nI (a / 2 ^ 1)) X dJ6_bitCount_0f7a4_3 (z_ushr (by omega) (by omega)) rfl ?_
  refine V_ldcw (pc' := 7) (v := 1431655765) X (by decide +kernel) dJ6_bitCount_0f7a4_4 rfl ?_
  refine V_iand (pc' := 8) (((nI (a / 2 ^ 1)) &&& (1431655765))) X dJ6_bitCount_0f7a4_7 rfl rfl ?_
  refine V_isub (pc' := 9) (((nI a) - ((nI (a / 2 ^ 1)) &&& (1431655765)))) X dJ6_bitCount_0f7a4_8 rfl rfl ?_
  refine V_istore_n (pc' := 10) [(0, .int ((nI a) - ((nI (a / 2 ^ 1)) &&& (1431655765))))] [0] X dJ6_bitCount_0f7a4_9 rfl (Nat.le_of_ble_eq_true rfl) rfl rfl ?_
  refine V_iload_n (pc' := 11) 0 X dJ6_bitCount_0f7a4_10 rfl rfl rfl ?_
  refine V_ldcw (pc' := 14) (v := 858993459) X (by decide +kernel) dJ6_bitCount_0f7a4_11 rfl ?_
  refine V_iand (pc' := 15) ((((nI a) - ((nI (a / 2 ^ 1)) &&& (1431655765))) &&& (858993459))) X dJ6_bitCount_0f7a4_14 rfl rfl ?_
  refine V_iload_n (pc' := 16) 0 X dJ6_bitCount_0f7a4_15 rfl rfl rfl ?_
  refine V_iconst (pc' := 17) (nI 2) X dJ6_bitCount_0f7a4_16 ki_2 rfl ?_
  refine V_iushr (pc' := 18) ((((nI a) - ((nI (a / 2 ^ 1)) &&& (1431655765))).toUInt32 >>> ((nI 2).toUInt32 &&& Int32.toUInt32 31)).toInt32) X dJ6_bitCount_0f7a4_17 rfl rfl ?_
  refine V_ldcw (pc' := 21) (v := 858993459) X (by decide +kernel) dJ6_bitCount_0f7a4_18 rfl ?_
  refine V_iand (pc' := 22) ((((((nI a) - ((nI (a / 2 ^ 1)) &&& (1431655765))).toUInt32 >>> ((nI 2).toUInt32 &&& Int32.toUInt32 31)).toInt32) &&& (858993459))) X dJ6_bitCount_0f7a4_21 rfl rfl ?_
  refine V_iadd (pc' := 23) (((((nI a) - ((nI (a / 2 ^ 1)) &&& (1431655765))) &&& (858993459)) + (((((nI a) - ((nI (a / 2 ^ 1)) &&& (1431655765))).toUInt32 >>> ((nI 2).toUInt32 &&& Int32.toUInt32 31)).toInt32) &&& (858993459)))) X dJ6_bitCount_0f7a4_22 rfl rfl ?_
  refine V_istore_n (pc' := 24) [(0, .int ((((nI a) - ((nI (a / 2 ^ 1)) &&& (1431655765))) &&& (858993459)) + (((((nI a) - ((nI (a / 2 ^ 1)) &&& (1431655765))).toUInt32 >>> ((nI 2).toUInt32 &&& Int32.toUInt32 31)).toInt32) &&& (858993459))))] [0] X dJ6_bitCount_0f7a4_23 rfl (Nat.le_of_ble_eq_true rfl) rfl rfl ?_
  refine V_iload_n (pc' := 25) 0 X dJ6_bitCount_0f7a4_24 rfl rfl rfl ?_
  refine V_iload_n (pc' := 26) 0 X dJ6_bitCount_0f7a4_25 rfl rfl rfl ?_
  refine V_iconst (pc' := 27) (nI 4) X dJ6_bitCount_0f7a4_26 ki_4 rfl ?_
  refine V_iushr (pc' := 28) ((((((nI a) - ((nI (a / 2 ^ 1)) &&& (1431655765))) &&& (858993459)) + (((((nI a) - ((nI (a / 2 ^ 1)) &&& (1431655765))).toUInt32 >>> ((nI 2).toUInt32 &&& Int32.toUInt32 31)).toInt32) &&& (858993459))).toUInt32 >>> ((nI 4).toUInt32 &&& Int32.toUInt32 31)).toInt32) X dJ6_bitCount_0f7a4_27 rfl rfl ?_
  refine V_iadd (pc' := 29) ((((((nI a) - ((nI (a / 2 ^ 1)) &&& (1431655765))) &&& (858993459)) + (((((nI a) - ((nI (a / 2 ^ 1)) &&& (1431655765))).toUInt32 >>> ((nI 2).toUInt32 &&& Int32.toUInt32 31)).toInt32) &&& (858993459))) + ((((((nI a) - ((nI (a / 2 ^ 1)) &&& (1431655765))) &&& (858993459)) + (((((nI a) - ((nI (a / 2 ^ 1)) &&& (1431655765))).toUInt32 >>> ((nI 2).toUInt32 &&& Int32.toUInt32 31)).toInt32) &&& (858993459))).toUInt32 >>> ((nI 4).toUInt32 &&& Int32.toUInt32 31)).toInt32))) X dJ6_bitCount_0f7a4_28 rfl rfl ?_
  refine V_ldcw (pc' := 32) (v := 252645135) X (by decide +kernel) dJ6_bitCount_0f7a4_29 rfl ?_
  refine V_iand (pc' := 33) (((((((nI a) - ((nI (a / 2 ^ 1)) &&& (1431655765))) &&& (858993459)) + (((((nI a) - ((nI (a / 2 ^ 1)) &&& (1431655765))).toUInt32 >>> ((nI 2).toUInt32 &&& Int32.toUInt32 31)).toInt32) &&& (858993459))) + ((((((nI a) - ((nI (a / 2 ^ 1)) &&& (1431655765))) &&& (858993459)) + (((((nI a) - ((nI (a / 2 ^ 1)) &&& (1431655765))).toUInt32 >>> ((nI 2).toUInt32 &&& Int32.toUInt32 31)).toInt32) &&& (858993459))).toUInt32 >>> ((nI 4).toUInt32 &&& Int32.toUInt32 31)).toInt32)) &&& (252645135))) X dJ6_bitCount_0f7a4_32 rfl rfl ?_
  refine V_istore_n (pc' := 34) [(0, .int ((((((nI a) - ((nI (a / 2 ^ 1)) &&& (1431655765))) &&& (858993459)) + (((((nI a) - ((nI (a / 2 ^ 1)) &&& (1431655765))).toUInt32 >>> ((nI 2).toUInt32 &&& Int32.toUInt32 31)).toInt32) &&& (858993459))) + ((((((nI a) - ((nI (a / 2 ^ 1)) &&& (1431655765))) &&& (858993459)) + (((((nI a) - ((nI (a / 2 ^ 1)) &&& (1431655765))).toUInt32 >>> ((nI 2).toUInt32 &&& Int32.toUInt32 31)).toInt32) &&& (858993459))).toUInt32 >>> ((nI 4).toUInt32 &&& Int32.toUInt32 31)).toInt32)) &&& (252645135)))] [0] X dJ6_bitCount_0f7a4_33 rfl (Nat.le_of_ble_eq_true rfl) rfl rfl ?_
  refine V_iload_n (pc' := 35) 0 X dJ6_bitCount_0f7a4_34 rfl rfl rfl ?_
  refine V_iload_n (pc' := 36) 0 X dJ6_bitCount_0f7a4_35 rfl rfl rfl ?_
  refine V_bipush (pc' := 38) (nI 8) X dJ6_bitCount_0f7a4_36 kb_8 rfl ?_
  refine V_iushr (pc' := 39) ((((((((nI a) - ((nI (a / 2 ^ 1)) &&& (1431655765))) &&& (858993459)) + (((((nI a) - ((nI (a / 2 ^ 1)) &&& (1431655765))).toUInt32 >>> ((nI 2).toUInt32 &&& Int32.toUInt32 31)).toInt32) &&& (858993459))) + ((((((nI a) - ((nI (a / 2 ^ 1)) &&& (1431655765))) &&& (858993459)) + (((((nI a) - ((nI (a / 2 ^ 1)) &&& (1431655765))).toUInt32 >>> ((nI 2).toUInt32 &&& Int32.toUInt32 31)).toInt32) &&& (858993459))).toUInt32 >>> ((nI 4).toUInt32 &&& Int32.toUInt32 31)).toInt32)) &&& (252645135)).toUInt32 >>> ((nI 8).toUInt32 &&& Int32.toUInt32 31)).toInt32) X dJ6_bitCount_0f7a4_38 rfl rfl ?_
  refine V_iadd (pc' := 40) ((((((((nI a) - ((nI (a / 2 ^ 1)) &&& (1431655765))) &&& (858993459)) + (((((nI a) - ((nI (a / 2 ^ 1)) &&& (1431655765))).toUInt32 >>> ((nI 2).toUInt32 &&& Int32.toUInt32 31)).toInt32) &&& (858993459))) + ((((((nI a) - ((nI (a / 2 ^ 1)) &&& (1431655765))) &&& (858993459)) + (((((nI a) - ((nI (a / 2 ^ 1)) &&& (1431655765))).toUInt32 >>> ((nI 2).toUInt32 &&& Int32.toUInt32 31)).toInt32) &&& (858993459))).toUInt32 >>> ((nI 4).toUInt32 &&& Int32.toUInt32 31)).toInt32)) &&& (252645135)) + ((((((((nI a) - ((nI (a / 2 ^ 1)) &&& (1431655765))) &&& (858993459)) + (((((nI a) - ((nI (a / 2 ^ 1)) &&& (1431655765))).toUInt32 >>> ((nI 2).toUInt32 &&& Int32.toUInt32 31)).toInt32) &&& (858993459))) + ((((((nI a) - ((nI (a / 2 ^ 1)) &&& (1431655765))) &&& (858993459)) + (((((nI a) - ((nI (a / 2 ^ 1)) &&& (1431655765))).toUInt32 >>> ((nI 2).toUInt32 &&& Int32.toUInt32 31)).toInt32) &&& (858993459))).toUInt32 >>> ((nI 4).toUInt32 &&& Int32.toUInt32 31)).toInt32)) &&& (252645135)).toUInt32 >>> ((nI 8).toUInt32 &&& Int32.toUInt32 31)).toInt32))) X dJ6_bitCount_0f7a4_39 rfl rfl ?_
  refine V_istore_n (pc' := 41) [(0, .int (((((((nI a) - ((nI (a / 2 ^ 1)) &&& (1431655765))) &&& (858993459)) + (((((nI a) - ((nI (a / 2 ^ 1)) &&& (1431655765))).toUInt32 >>> ((nI 2).toUInt32 &&& Int32.toUInt32 31)).toInt32) &&& (858993459))) + ((((((nI a) - ((nI (a / 2 ^ 1)) &&& (1431655765))) &&& (858993459)) + (((((nI a) - ((nI (a / 2 ^ 1)) &&& (1431655765))).toUInt32 >>> ((nI 2).toUInt32 &&& Int32.toUInt32 31)).toInt32) &&& (858993459))).toUInt32 >>> ((nI 4).toUInt32 &&& Int32.toUInt32 31)).toInt32)) &&& (252645135)) + ((((((((nI a) - ((nI (a / 2 ^ 1)) &&& (1431655765))) &&& (858993459)) + (((((nI a) - ((nI (a / 2 ^ 1)) &&& (1431655765))).toUInt32 >>> ((nI 2).toUInt32 &&& Int32.toUInt32 31)).toInt32) &&& (858993459))) + ((((((nI a) - ((nI (a / 2 ^ 1)) &&& (1431655765))) &&& (858993459)) + (((((nI a) - ((nI (a / 2 ^ 1)) &&& (1431655765))).toUInt32 >>> ((nI 2).toUInt32 &&& Int32.toUInt32 31)).toInt32) &&& (858993459))).toUInt32 >>> ((nI 4).toUInt32 &&& Int32.toUInt32 31)).toInt32)) &&& (252645135)).toUInt32 >>> ((nI 8).toUInt32 &&& Int32.toUInt32 31)).toInt32)))] [0] X dJ6_bitCount_0f7a4_40 rfl (Nat.le_of_ble_eq_true rfl) rfl rfl ?_
  refine V_iload_n (pc' := 42) 0 X dJ6_bitCount_0f7a4_41 rfl rfl rfl ?_
  refine V_iload_n (pc' := 43) 0 X dJ6_bitCount_0f7a4_42 rfl rfl rfl ?_
  refine V_bipush (pc' := 45) (nI 16) X dJ6_bitCount_0f7a4_43 kb_16 rfl ?_
  refine V_iushr (pc' := 46) (((((((((nI a) - ((nI (a / 2 ^ 1)) &&& (1431655765))) &&& (858993459)) + (((((nI a) - ((nI (a / 2 ^ 1)) &&& (1431655765))).toUInt32 >>> ((nI 2).toUInt32 &&& Int32.toUInt32 31)).toInt32) &&& (858993459))) + ((((((nI a) - ((nI (a / 2 ^ 1)) &&& (1431655765))) &&& (858993459)) + (((((nI a) - ((nI (a / 2 ^ 1)) &&& (1431655765))).toUInt32 >>> ((nI 2).toUInt32 &&& Int32.toUInt32 31)).toInt32) &&& (858993459))).toUInt32 >>> ((nI 4).toUInt32 &&& Int32.toUInt32 31)).toInt32)) &&& (252645135)) + ((((((((nI a) - ((nI (a / 2 ^ 1)) &&& (1431655765))) &&& (858993459)) + (((((nI a) - ((nI (a / 2 ^ 1)) &&& (1431655765))).toUInt32 >>> ((nI 2).toUInt32 &&& Int32.toUInt32 31)).toInt32) &&& (858993459))) + ((((((nI a) - ((nI (a / 2 ^ 1)) &&& (1431655765))) &&& (858993459)) + (((((nI a) - ((nI (a / 2 ^ 1)) &&& (1431655765))).toUInt32 >>> ((nI 2).toUInt32 &&& Int32.toUInt32 31)).toInt32) &&& (858993459))).toUInt32 >>> ((nI 4).toUInt32 &&& Int32.toUInt32 31)).toInt32)) &&& (252645135)).toUInt32 >>> ((nI 8).toUInt32 &&& Int32.toUInt32 31)).toInt32)).toUInt32 >>> ((nI 16).toUInt32 &&& Int32.toUInt32 31)).toInt32) X dJ6_bitCount_0f7a4_45 rfl rfl ?_
  refine V_iadd (pc' := 47) (((((((((nI a) - ((nI (a / 2 ^ 1)) &&& (1431655765))) &&& (858993459)) + (((((nI a) - ((nI (a / 2 ^ 1)) &&& (1431655765))).toUInt32 >>> ((nI 2).toUInt32 &&& Int32.toUInt32 31)).toInt32) &&& (858993459))) + ((((((nI a) - ((nI (a / 2 ^ 1)) &&& (1431655765))) &&& (858993459)) + (((((nI a) - ((nI (a / 2 ^ 1)) &&& (1431655765))).toUInt32 >>> ((nI 2).toUInt32 &&& Int32.toUInt32 31)).toInt32) &&& (858993459))).toUInt32 >>> ((nI 4).toUInt32 &&& Int32.toUInt32 31)).toInt32)) &&& (252645135)) + ((((((((nI a) - ((nI (a / 2 ^ 1)) &&& (1431655765))) &&& (858993459)) + (((((nI a) - ((nI (a / 2 ^ 1)) &&& (1431655765))).toUInt32 >>> ((nI 2).toUInt32 &&& Int32.toUInt32 31)).toInt32) &&& (858993459))) + ((((((nI a) - ((nI (a / 2 ^ 1)) &&& (1431655765))) &&& (858993459)) + (((((nI a) - ((nI (a / 2 ^ 1)) &&& (1431655765))).toUInt32 >>> ((nI 2).toUInt32 &&& Int32.toUInt32 31)).toInt32) &&& (858993459))).toUInt32 >>> ((nI 4).toUInt32 &&& Int32.toUInt32 31)).toInt32)) &&& (252645135)).toUInt32 >>> ((nI 8).toUInt32 &&& Int32.toUInt32 31)).toInt32)) + (((((((((nI a) - ((nI (a / 2 ^ 1)) &&& (1431655765))) &&& (858993459)) + (((((nI a) - ((nI (a / 2 ^ 1)) &&& (1431655765))).toUInt32 >>> ((nI 2).toUInt32 &&& Int32.toUInt32 31)).toInt32) &&& (858993459))) + ((((((nI a) - ((nI (a / 2 ^ 1)) &&& (1431655765))) &&& (858993459)) + (((((nI a) - ((nI (a / 2 ^ 1)) &&& (1431655765))).toUInt32 >>> ((nI 2).toUInt32 &&& Int32.toUInt32 31)).toInt32) &&& (858993459))).toUInt32 >>> ((nI 4).toUInt32 &&& Int32.toUInt32 31)).toInt32)) &&& (252645135)) + ((((((((nI a) - ((nI (a / 2 ^ 1)) &&& (1431655765))) &&& (858993459)) + (((((nI a) - ((nI (a / 2 ^ 1)) &&& (1431655765))).toUInt32 >>> ((nI 2).toUInt32 &&& Int32.toUInt32 31)).toInt32) &&& (858993459))) + ((((((nI a) - ((nI (a / 2 ^ 1)) &&& (1431655765))) &&& (858993459)) + (((((nI a) - ((nI (a / 2 ^ 1)) &&& (1431655765))).toUInt32 >>> ((nI 2).toUInt32 &&& Int32.toUInt32 31)).toInt32) &&& (858993459))).toUInt32 >>> ((nI 4).toUInt32 &&& Int32.toUInt32 31)).toInt32)) &&& (252645135)).toUInt32 >>> ((nI 8).toUInt32 &&& Int32.toUInt32 31)).toInt32)).toUInt32 >>> ((nI 16).toUInt32 &&& Int32.toUInt32 31)).toInt32))) X dJ6_bitCount_0f7a4_46 rfl rfl ?_
  refine V_istore_n (pc' := 48) [(0, .int ((((((((nI a) - ((nI (a / 2 ^ 1)) &&& (1431655765))) &&& (858993459)) + (((((nI a) - ((nI (a / 2 ^ 1)) &&& (1431655765))).toUInt32 >>> ((nI 2).toUInt32 &&& Int32.toUInt32 31)).toInt32) &&& (858993459))) + ((((((nI a) - ((nI (a / 2 ^ 1)) &&& (1431655765))) &&& (858993459)) + (((((nI a) - ((nI (a / 2 ^ 1)) &&& (1431655765))).toUInt32 >>> ((nI 2).toUInt32 &&& Int32.toUInt32 31)).toInt32) &&& (858993459))).toUInt32 >>> ((nI 4).toUInt32 &&& Int32.toUInt32 31)).toInt32)) &&& (252645135)) + ((((((((nI a) - ((nI (a / 2 ^ 1)) &&& (1431655765))) &&& (858993459)) + (((((nI a) - ((nI (a / 2 ^ 1)) &&& (1431655765))).toUInt32 >>> ((nI 2).toUInt32 &&& Int32.toUInt32 31)).toInt32) &&& (858993459))) + ((((((nI a) - ((nI (a / 2 ^ 1)) &&& (1431655765))) &&& (858993459)) + (((((nI a) - ((nI (a / 2 ^ 1)) &&& (1431655765))).toUInt32 >>> ((nI 2).toUInt32 &&& Int32.toUInt32 31)).toInt32) &&& (858993459))).toUInt32 >>> ((nI 4).toUInt32 &&& Int32.toUInt32 31)).toInt32)) &&& (252645135)).toUInt32 >>> ((nI 8).toUInt32 &&& Int32.toUInt32 31)).toInt32)) + (((((((((nI a) - ((nI (a / 2 ^ 1)) &&& (1431655765))) &&& (858993459)) + (((((nI a) - ((nI (a / 2 ^ 1)) &&& (1431655765))).toUInt32 >>> ((nI 2).toUInt32 &&& Int32.toUInt32 31)).toInt32) &&& (858993459))) + ((((((nI a) - ((nI (a / 2 ^ 1)) &&& (1431655765))) &&& (858993459)) + (((((nI a) - ((nI (a / 2 ^ 1)) &&& (1431655765))).toUInt32 >>> ((nI 2).toUInt32 &&& Int32.toUInt32 31)).toInt32) &&& (858993459))).toUInt32 >>> ((nI 4).toUInt32 &&& Int32.toUInt32 31)).toInt32)) &&& (252645135)) + ((((((((nI a) - ((nI (a / 2 ^ 1)) &&& (1431655765))) &&& (858993459)) + (((((nI a) - ((nI (a / 2 ^ 1)) &&& (1431655765))).toUInt32 >>> ((nI 2).toUInt32 &&& Int32.toUInt32 31)).toInt32) &&& (858993459))) + ((((((nI a) - ((nI (a / 2 ^ 1)) &&& (1431655765))) &&& (858993459)) + (((((nI a) - ((nI (a / 2 ^ 1)) &&& (1431655765))).toUInt32 >>> ((nI 2).toUInt32 &&& Int32.toUInt32 31)).toInt32) &&& (858993459))).toUInt32 >>> ((nI 4).toUInt32 &&& Int32.toUInt32 31)).toInt32)) &&& (252645135)).toUInt32 >>> ((nI 8).toUInt32 &&& Int32.toUInt32 31)).toInt32)).toUInt32 >>> ((nI 16).toUInt32 &&& Int32.toUInt32 31)).toInt32)))] [0] X dJ6_bitCount_0f7a4_47 rfl (Nat.le_of_ble_eq_true rfl) rfl rfl ?_
  refine V_iload_n (pc' := 49) 0 X dJ6_bitCount_0f7a4_48 rfl rfl rfl ?_
  refine V_bipush (pc' := 51) (nI 63) X dJ6_bitCount_0f7a4_49 kb_63 rfl ?_
  refine V_iand (pc' := 52) ((((((((((nI a) - ((nI (a / 2 ^ 1)) &&& (1431655765))) &&& (858993459)) + (((((nI a) - ((nI (a / 2 ^ 1)) &&& (1431655765))).toUInt32 >>> ((nI 2).toUInt32 &&& Int32.toUInt32 31)).toInt32) &&& (858993459))) + ((((((nI a) - ((nI (a / 2 ^ 1)) &&& (1431655765))) &&& (858993459)) + (((((nI a) - ((nI (a / 2 ^ 1)) &&& (1431655765))).toUInt32 >>> ((nI 2).toUInt32 &&& Int32.toUInt32 31)).toInt32) &&& (858993459))).toUInt32 >>> ((nI 4).toUInt32 &&& Int32.toUInt32 31)).toInt32)) &&& (252645135)) + ((((((((nI a) - ((nI (a / 2 ^ 1)) &&& (1431655765))) &&& (858993459)) + (((((nI a) - ((nI (a / 2 ^ 1)) &&& (1431655765))).toUInt32 >>> ((nI 2).toUInt32 &&& Int32.toUInt32 31)).toInt32) &&& (858993459))) + ((((((nI a) - ((nI (a / 2 ^ 1)) &&& (1431655765))) &&& (858993459)) + (((((nI a) - ((nI (a / 2 ^ 1)) &&& (1431655765))).toUInt32 >>> ((nI 2).toUInt32 &&& Int32.toUInt32 31)).toInt32) &&& (858993459))).toUInt32 >>> ((nI 4).toUInt32 &&& Int32.toUInt32 31)).toInt32)) &&& (252645135)).toUInt32 >>> ((nI 8).toUInt32 &&& Int32.toUInt32 31)).toInt32)) + (((((((((nI a) - ((nI (a / 2 ^ 1)) &&& (1431655765))) &&& (858993459)) + (((((nI a) - ((nI (a / 2 ^ 1)) &&& (1431655765))).toUInt32 >>> ((nI 2).toUInt32 &&& Int32.toUInt32 31)).toInt32) &&& (858993459))) + ((((((nI a) - ((nI (a / 2 ^ 1)) &&& (1431655765))) &&& (858993459)) + (((((nI a) - ((nI (a / 2 ^ 1)) &&& (1431655765))).toUInt32 >>> ((nI 2).toUInt32 &&& Int32.toUInt32 31)).toInt32) &&& (858993459))).toUInt32 >>> ((nI 4).toUInt32 &&& Int32.toUInt32 31)).toInt32)) &&& (252645135)) + ((((((((nI a) - ((nI (a / 2 ^ 1)) &&& (1431655765))) &&& (858993459)) + (((((nI a) - ((nI (a / 2 ^ 1)) &&& (1431655765))).toUInt32 >>> ((nI 2).toUInt32 &&& Int32.toUInt32 31)).toInt32) &&& (858993459))) + ((((((nI a) - ((nI (a / 2 ^ 1)) &&& (1431655765))) &&& (858993459)) + (((((nI a) - ((nI (a / 2 ^ 1)) &&& (1431655765))).toUInt32 >>> ((nI 2).toUInt32 &&& Int32.toUInt32 31)).toInt32) &&& (858993459))).toUInt32 >>> ((nI 4).toUInt32 &&& Int32.toUInt32 31)).toInt32)) &&& (252645135)).toUInt32 >>> ((nI 8).toUInt32 &&& Int32.toUInt32 31)).toInt32)).toUInt32 >>> ((nI 16).toUInt32 &&& Int32.toUInt32 31)).toInt32)) &&& (nI 63))) X dJ6_bitCount_0f7a4_51 rfl rfl ?_
  exact V_ireturn (v := (((((((((nI a) - ((nI (a / 2 ^ 1)) &&& (1431655765))) &&& (858993459)) + (((((nI a) - ((nI (a / 2 ^ 1)) &&& (1431655765))).toUInt32 >>> ((nI 2).toUInt32 &&& Int32.toUInt32 31)).toInt32) &&& (858993459))) + ((((((nI a) - ((nI (a / 2 ^ 1)) &&& (1431655765))) &&& (858993459)) + (((((nI a) - ((nI (a / 2 ^ 1)) &&& (1431655765))).toUInt32 >>> ((nI 2).toUInt32 &&& Int32.toUInt32 31)).toInt32) &&& (858993459))).toUInt32 >>> ((nI 4).toUInt32 &&& Int32.toUInt32 31)).toInt32)) &&& (252645135)) + ((((((((nI a) - ((nI (a / 2 ^ 1)) &&& (1431655765))) &&& (858993459)) + (((((nI a) - ((nI (a / 2 ^ 1)) &&& (1431655765))).toUInt32 >>> ((nI 2).toUInt32 &&& Int32.toUInt32 31)).toInt32) &&& (858993459))) + ((((((nI a) - ((nI (a / 2 ^ 1)) &&& (1431655765))) &&& (858993459)) + (((((nI a) - ((nI (a / 2 ^ 1)) &&& (1431655765))).toUInt32 >>> ((nI 2).toUInt32 &&& Int32.toUInt32 31)).toInt32) &&& (858993459))).toUInt32 >>> ((nI 4).toUInt32 &&& Int32.toUInt32 31)).toInt32)) &&& (252645135)).toUInt32 >>> ((nI 8).toUInt32 &&& Int32.toUInt32 31)).toInt32)) + (((((((((nI a) - ((nI (a / 2 ^ 1)) &&& (1431655765))) &&& (858993459)) + (((((nI a) - ((nI (a / 2 ^ 1)) &&& (1431655765))).toUInt32 >>> ((nI 2).toUInt32 &&& Int32.toUInt32 31)).toInt32) &&& (858993459))) + ((((((nI a) - ((nI (a / 2 ^ 1)) &&& (1431655765))) &&& (858993459)) + (((((nI a) - ((nI (a / 2 ^ 1)) &&& (1431655765))).toUInt32 >>> ((nI 2).toUInt32 &&& Int32.toUInt32 31)).toInt32) &&& (858993459))).toUInt32 >>> ((nI 4).toUInt32 &&& Int32.toUInt32 31)).toInt32)) &&& (252645135)) + ((((((((nI a) - ((nI (a / 2 ^ 1)) &&& (1431655765))) &&& (858993459)) + (((((nI a) - ((nI (a / 2 ^ 1)) &&& (1431655765))).toUInt32 >>> ((nI 2).toUInt32 &&& Int32.toUInt32 31)).toInt32) &&& (858993459))) + ((((((nI a) - ((nI (a / 2 ^ 1)) &&& (1431655765))) &&& (858993459)) + (((((nI a) - ((nI (a / 2 ^ 1)) &&& (1431655765))).toUInt32 >>> ((nI 2).toUInt32 &&& Int32.toUInt32 31)).toInt32) &&& (858993459))).toUInt32 >>> ((nI 4).toUInt32 &&& Int32.toUInt32 31)).toInt32)) &&& (252645135)).toUInt32 >>> ((nI 8).toUInt32 &&& Int32.toUInt32 31)).toInt32)).toUInt32 >>> ((nI 16).toUInt32 &&& Int32.toUInt32 31)).toInt32)) &&& (nI 63))) [] hQ X hrt rfl dJ6_bitCount_0f7a4_52 (Nat.le_of_ble_eq_true rfl) (Nat.le_of_ble_eq_true rfl) (List.Perm.refl _) ⟨by rw [bc_eq a ha], rfl⟩
