/-! reading the pad -/
def pgN (S : Nat → Nat) (c : Nat) (t : Nat → Nat) : Nat → (Nat → Nat) | 0 => S | i + 1 => va_up (pgN S c t i) c (pgN S c t i c ^^^ 2 ^ t i)
/-- the part from s to e is done -/
def doP (c : Nat) (f : Nat → Nat) (n s e : Nat) (S : Nat → Nat) : (Nat → Nat) × Nat :=
  if f s = 46 then (stkN c S (if s + 1 = e then 1 else f (s + 1) - 48), stkN c S (if s + 1 = e then 1 else f (s + 1) - 48) 70 - S 70)
  else if f s = 116 then (va_up S (32 + (f (s + 1) - 48)) (f (s + 2) - 48), 0)
  else (pgN S (num f s (bc f n s - s)) (fun j => f (bc f n s + 1 + j) - 48) (e - (bc f n s + 1)), 0)
/-- what is read ahead of i: the numbers, where the part at hand starts, how many were heard -/
def rdS (c : Nat) (f : Nat → Nat) (n : Nat) (S : Nat → Nat) : Nat → (Nat → Nat) × Nat × Nat
  | 0 => (S, 0, 0)
  | i + 1 => if i = n ∨ f i = 59 then ((doP c f n (rdS c f n S i).2.1 i (rdS c f n S i).1).1, i + 1, (rdS c f n S i).2.2 + (doP c f n (rdS c f n S i).2.1 i (rdS c f n S i).1).2) else rdS c f n S i
theorem sameB_pgN (S : Nat → Nat) {c : Nat} (t : Nat → Nat) (hc : c < 32) : ∀ i, sameB 0 32 S (pgN S c t i)
  | 0 => fun _ _ => rfl
  | i + 1 => fun k hk => (va_up_ne _ _ (by omega)).trans (sameB_pgN S t hc i k hk)
theorem pgN_lt {S : Nat → Nat} {c : Nat} {t : Nat → Nat} (hS : ∀ k, k < 32 → S k < 1024) (hc : c < 32) {m : Nat} (ht : ∀ j, j < m → t j < 10) : ∀ i, i ≤ m → ∀ k, k < 32 → pgN S c t i k < 1024
  | 0, _, k, hk => hS k hk
  | i + 1, hi, k, hk => by
    show va_up (pgN S c t i) c _ k < 1024
    unfold va_up
    split
    · exact Nat.xor_lt_two_pow (n := 10) (pgN_lt hS hc ht i (by omega) c hc) (Nat.pow_lt_pow_right (by decide) (ht i (by omega)))
    · exact pgN_lt hS hc ht i (by omega) k hk
theorem IV_tempo {S : Nat → Nat} {b t : Nat} (hb : b < 4) (ht : t ≤ 9) (hI : IV S) : IV (va_up S (32 + b) t) := by
  obtain ⟨i1, i2, i3, i4, i5, i6⟩ := hI
  refine ⟨fun k hk => by rw [va_up_ne _ _ (by omega)]; exact i1 k hk, fun k hk => ?_, fun k hk => by rw [va_up_ne _ _ (by omega)]; exact i3 k hk, by rw [va_up_ne _ _ (by omega)]; exact i4, by rw [va_up_ne _ _ (by omega)]; exact i5, fun k hk => by rw [va_up_ne _ _ (by omega)]; exact i6 k hk⟩
  unfold va_up
  split
  · exact ht
  · exact i2 k hk
theorem IV_doP {c : Nat} (hc : c ≤ 9) {f : Nat → Nat} {n s e : Nat} {S : Nat → Nat} (hp : Pt f n s e) (hI : IV S) : IV (doP c f n s e S).1 := by
  obtain ⟨p1, p2, p3⟩ := hp
  unfold doP
  by_cases h46 : f s = 46
  · rw [if_pos h46]; exact IV_stkN hc hI _
  · rw [if_neg h46]
    by_cases h116 : f s = 116
    · rw [if_pos h116]
      rcases p3 with p | p | p
      · exact absurd p.1 h46
      · exact IV_tempo (by omega) (by omega) hI
      · exact absurd h116 p.2.1
    · rw [if_neg h116]
      rcases p3 with p | p | p
      · exact absurd p.1 h46
      · exact absurd p.1 h116
      · obtain ⟨_, _, g, g1, g2, g3, g4, g5, g6, g7⟩ := p
        rw [← g7]
        exact IV_pegs (sameB_pgN S _ g5 _) (pgN_lt hI.1 g5 (m := e - (g + 1)) (fun j hj => by have := g6 (g + 1 + j) (by omega) (by omega); omega) _ (Nat.le_refl _)) hI
theorem rd_pt {f : Nat → Nat} {n s i : Nat} (hv : ff f n = none) (h1 : pl f s = 1) (hsi : s ≤ i) (hi : i ≤ n) (h0 : ∀ j, j ≤ s → ¬ pl f j = 0) (h59 : ∀ k, s ≤ k → k < i → ¬ f k = 59) (hb : i = n ∨ f i = 59) :
    bp f n s = (true, i) ∧ Pt f n s i ∧ (∀ j, j ≤ i → ¬ pl f j = 0) ∧ (i < n → pl f (i + 1) = 1) := by
  obtain ⟨e, e1, e2, e3, e4, e5⟩ := pt_of hv h1 (by omega) h0
  have hie : i = e := by
    by_cases q : i < e
    · rcases hb with hb | hb
      · have := e2.2.1; omega
      · exact absurd hb (e3 i hsi q)
    · by_cases q2 : e < i
      · rcases e5 with e5 | e5
        · omega
        · exact absurd e5.2.1 (h59 e (by have := e2.1; omega) q2)
      · omega
  subst hie
  refine ⟨e1, e2, e4, fun q => ?_⟩
  rcases e5 with e5 | e5
  · omega
  · exact e5.2.2
theorem rd_inv {c : Nat} (hc : c ≤ 9) {f : Nat → Nat} {n : Nat} {S : Nat → Nat} (hv : ff f n = none) (hI : IV S) : ∀ i, i ≤ n + 1 → IV (rdS c f n S i).1 ∧ (i ≤ n → pl f (rdS c f n S i).2.1 = 1 ∧ (rdS c f n S i).2.1 ≤ i ∧ (∀ j, j ≤ (rdS c f n S i).2.1 → ¬ pl f j = 0) ∧ ∀ k, (rdS c f n S i).2.1 ≤ k → k < i → ¬ f k = 59)
  | 0, _ => ⟨hI, fun _ => ⟨rfl, Nat.le_refl _, fun j hj => by rw [Nat.le_zero.mp hj]; show ¬ 1 = 0; decide, fun k _ hk => absurd hk (Nat.not_lt_zero _)⟩⟩
  | i + 1, hi => by
    obtain ⟨a1, a2⟩ := rd_inv hc hv hI i (by omega)
    obtain ⟨b1, b2, b3, b4⟩ := a2 (by omega)
    by_cases hb : i = n ∨ f i = 59
    · obtain ⟨c1, c2, c3, c4⟩ := rd_pt hv b1 b2 (by omega) b3 b4 hb
      rw [show rdS c f n S (i + 1) = ((doP c f n (rdS c f n S i).2.1 i (rdS c f n S i).1).1, i + 1, (rdS c f n S i).2.2 + (doP c f n (rdS c f n S i).2.1 i (rdS c f n S i).1).2) from if_pos hb]
      refine ⟨IV_doP hc c2 a1, fun hin => ⟨c4 (by omega), Nat.le_refl _, fun j hj => ?_, fun k k1 k2 => absurd k2 (by show ¬ k < i + 1; have : i + 1 ≤ k := k1; omega)⟩⟩
      by_cases q : j ≤ i
      · exact c3 j q
      · have hj : j ≤ i + 1 := hj
        rw [show j = i + 1 by omega, c4 (by omega)]; decide
    · rw [show rdS c f n S (i + 1) = rdS c f n S i from if_neg hb]
      refine ⟨a1, fun hin => ⟨b1, by omega, b3, fun k k1 k2 => ?_⟩⟩
      by_cases q : k < i
      · exact b4 k k1 q
      · rw [show k = i by omega]; exact fun q2 => hb (Or.inr q2)
theorem rd_at {c : Nat} (hc : c ≤ 9) {f : Nat → Nat} {n i : Nat} {S : Nat → Nat} (hv : ff f n = none) (hI : IV S) (hi : i ≤ n) (hb : i = n ∨ f i = 59) : Pt f n (rdS c f n S i).2.1 i := by
  obtain ⟨_, a2⟩ := rd_inv hc hv hI i (by omega)
  obtain ⟨b1, b2, b3, b4⟩ := a2 hi
  exact (rd_pt hv b1 b2 hi b3 b4 hb).2.1

set_option maxHeartbeats 4000000 in
set_option maxRecDepth 100000 in
theorem c_X5_changeTempo (l : Launch) (G : gT) (x r p h q : Nat) (a S : Nat → Nat) (b t : Nat) (hb : b < 4) (ht : t ≤ 9) : CM l G yX5_changeTempo wsX5_changeTempo 2 42 2 [.ref x, .int (nI b), .int (nI t)] [XB x (a 0) r p h q, DW G a S] 0 0 (fun v u => v = none ∧ u = [XB x (a 0) r p h q, DW G a (va_up S (32 + b) t)]) := by
  refine CM_of RX5 1 20 rfl rfl (by decide) (by decide +kernel) (Nat.le_of_ble_eq_true rfl) (fun E A X hrt hnm => ?_)
  have F10 := Fld_of (idx := 10) 5 0 X (by decide) (by decide) (by decide +kernel) (by decide +kernel)
  have F85 := Fld_of (idx := 85) 0 1 X (by decide) (by decide) (by decide +kernel) (by decide +kernel)
  generalize hQ : QM E G A _ _ _ = Q
  show V E G A 3 [XB x (a 0) r p h q, DW G a S] 0 0 Q 0 [(0, .ref x), (1, .int (nI b)), (2, .int (nI t))] []
  refine V_iload_n (pc' := 1) 1 X dX5_changeTempo_0 rfl rfl rfl ?_
  refine V_callS (pc' := 4) (As := [.int (nI b)]) (st := []) [] [0, 1] (show (List.range 2).Perm ([] ++ [0, 1]) by decide) X (c_X5_isBar1 l G b (by omega)) rfl gX5_changeTempo_X5_isBar rfl rfl (Nat.le_of_ble_eq_true rfl) ⟨Nat.le_of_ble_eq_true rfl, Nat.le_of_ble_eq_true rfl⟩ ⟨Nat.le_of_ble_eq_true rfl, Nat.le_of_ble_eq_true rfl⟩ dX5_changeTempo_1 rfl (fun v_ u_ hp_ => ?_)
  obtain ⟨rfl, rfl⟩ := hp_
  show V E G A 3 [XB x (a 0) r p h q, DW G a S] 0 0 Q 4 [(0, .ref x), (1, .int (nI b)), (2, .int (nI t))] [.int (nI 1)]
  refine V_if_eq (pc' := 7) (C := 1 = 0) 17 X dX5_changeTempo_4 (by decide) rfl (z_eq0 (by omega)) (fun hz => absurd hz (by decide)) (fun _ => ?_)
  refine V_aload_n (pc' := 8) 0 X dX5_changeTempo_7 rfl rfl rfl ?_
  refine V_get (pc' := 11) 0 X F10 rfl rfl dX5_changeTempo_8 rfl ?_
  refine V_get (pc' := 14) 1 X F85 rfl rfl dX5_changeTempo_11 rfl ?_
  refine V_iload_n (pc' := 15) 1 X dX5_changeTempo_14 rfl rfl rfl ?_
  refine V_iload_n (pc' := 16) 2 X dX5_changeTempo_15 rfl rfl rfl ?_
  refine V_ws [XB x (a 0) r p h q, [((a 0), .inr (0, [.ref (a 1), .ref (a 2), .ref (a 3), .ref (a 4), .ref (a 5), .int (nI (S 46)), .int (nI (S 47)), .int (nI (S 48)), .int (nI (S 70)), .int (nI (S 59))])), ((a 1), .inl (G.2 0, 32, .inl (nf S))), ((a 2), .inl (G.2 0, 4, .inl (nf (fun k => S (32 + k))))), ((a 3), .inl (G.2 0, 10, .inl (nf (fun k => S (36 + k))))), ((a 4), .inl (G.2 0, 10, .inl (nf (fun k => S (49 + k))))), ((a 5), .inr (1, [.ref (a 6)])), ((a 6), .inl (G.2 0, 10, .inl (nf (fun k => S (60 + k)))))]] rfl ?_
  refine V_iast (pc' := 17) 3 b [XB x (a 0) r p h q, [((a 0), .inr (0, [.ref (a 1), .ref (a 2), .ref (a 3), .ref (a 4), .ref (a 5), .int (nI (S 46)), .int (nI (S 47)), .int (nI (S 48)), .int (nI (S 70)), .int (nI (S 59))])), ((a 1), .inl (G.2 0, 32, .inl (nf S))), ((a 2), .inl (G.2 0, 4, .inl (upd (nf (fun k => S (32 + k))) b (nI t)))), ((a 3), .inl (G.2 0, 10, .inl (nf (fun k => S (36 + k))))), ((a 4), .inl (G.2 0, 10, .inl (nf (fun k => S (49 + k))))), ((a 5), .inr (1, [.ref (a 6)])), ((a 6), .inl (G.2 0, 10, .inl (nf (fun k => S (60 + k)))))]] X rfl (by omega) (by decide) rfl dX5_changeTempo_16 rfl ?_
  refine V_ws [XB x (a 0) r p h q, [((a 0), .inr (0, [.ref (a 1), .ref (a 2), .ref (a 3), .ref (a 4), .ref (a 5), .int (nI (S 46)), .int (nI (S 47)), .int (nI (S 48)), .int (nI (S 70)), .int (nI (S 59))])), ((a 1), .inl (G.2 0, 32, .inl (nf S))), ((a 2), .inl (G.2 0, 4, .inl (nf (va_up (fun k => S (32 + k)) b t)))), ((a 3), .inl (G.2 0, 10, .inl (nf (fun k => S (36 + k))))), ((a 4), .inl (G.2 0, 10, .inl (nf (fun k => S (49 + k))))), ((a 5), .inr (1, [.ref (a 6)])), ((a 6), .inl (G.2 0, 10, .inl (nf (fun k => S (60 + k)))))]] (by simp only [nf_upd]) ?_
  refine V_wsq [XB x (a 0) r p h q, DW G a (va_up S (32 + b) t)] (wsq.app (wsq.rf _) (wsq.app (DW_tempos (sameB_up (by omega) (by omega)) (fun k _ => congrArg nI up_row)) (wsq.rf _))) ?_
  exact V_return [XB x (a 0) r p h q, DW G a (va_up S (32 + b) t)] hQ X hrt dX5_changeTempo_17 (Nat.le_of_ble_eq_true rfl) (Nat.le_of_ble_eq_true rfl) (List.Perm.refl _) ⟨rfl, rfl⟩

set_option maxHeartbeats 4000000 in
set_option maxRecDepth 100000 in
theorem c_X5_turnPegs (l : Launch) (G : gT) (x r h q : Nat) (a S p f : Nat → Nat) (n : Nat) (hn : n ≤ 60) (hf : ∀ k, k < n → f k < 128) (hI : IV S) (s c m : Nat) (hc1 : 1 ≤ c) (hc2 : c ≤ 2) (he : s + c + 1 + m ≤ n) (h58 : f (s + c) = 58) (hd : ∀ k, s ≤ k → k < s + c → dg (f k)) (hC : num f s c < 32) (hd2 : ∀ k, s + c < k → k < s + c + 1 + m → dg (f k)) : CM l G yX5_turnPegs wsX5_turnPegs 4 91 2 [.ref x, .int (nI s), .int (nI (s + c + 1 + m))] [XB x (a 0) r (p 0) h q, DW G a S, PD G p f n] 0 0 (fun v u => v = none ∧ u = [XB x (a 0) r (p 0) h q, DW G a (pgN S (num f s c) (fun j => f (s + c + 1 + j) - 48) m), PD G p f n]) := by
  refine CM_of RX5 3 66 rfl rfl (by decide) (by decide +kernel) (Nat.le_of_ble_eq_true rfl) (fun E A X hrt hnm => ?_)
  have F10 := Fld_of (idx := 10) 5 0 X (by decide) (by decide) (by decide +kernel) (by decide +kernel)
  have F26 := Fld_of (idx := 26) 5 2 X (by decide) (by decide) (by decide +kernel) (by decide +kernel)
  have F59 := Fld_of (idx := 59) 0 0 X (by decide) (by decide) (by decide +kernel) (by decide +kernel)
  generalize hQ : QM E G A _ _ _ = Q
  show V E G A 6 [XB x (a 0) r (p 0) h q, DW G a S, PD G p f n] 0 0 Q 0 [(0, .ref x), (1, .int (nI s)), (2, .int (nI (s + c + 1 + m)))] []
  refine V_aload_n (pc' := 1) 0 X dX5_turnPegs_0 rfl rfl rfl ?_
  refine V_get (pc' := 4) 0 X F26 rfl rfl dX5_turnPegs_1 rfl ?_
  refine V_iload_n (pc' := 5) 1 X dX5_turnPegs_4 rfl rfl rfl ?_
  refine V_callV (pc' := 8) (As := [.int (nI s)]) (st := []) 3 8 [2] [0, 1] (show (List.range 3).Perm ([2] ++ [0, 1]) by decide) X (c_X3_colonFrom l G p f n s (s + c) hn (by omega) (by omega) hf h58 (fun k k1 k2 => by have := hd k k1 k2; omega)) rfl gX5_turnPegs_X3_colonFrom rfl (by decide) rfl rfl rfl (Nat.le_of_ble_eq_true rfl) ⟨Nat.le_of_ble_eq_true rfl, Nat.le_of_ble_eq_true rfl⟩ ⟨Nat.le_of_ble_eq_true rfl, Nat.le_of_ble_eq_true rfl⟩ dX5_turnPegs_5 rfl (fun v_ u_ hp_ => ?_)
  obtain ⟨rfl, rfl⟩ := hp_
  show V E G A 6 [XB x (a 0) r (p 0) h q, DW G a S, PD G p f n] 0 0 Q 8 [(0, .ref x), (1, .int (nI s)), (2, .int (nI (s + c + 1 + m)))] [.int (nI (s + c))]
  refine V_istore_n (pc' := 9) [(0, .ref x), (1, .int (nI s)), (2, .int (nI (s + c + 1 + m))), (3, .int (nI (s + c)))] [1, 2, 3, 0] X dX5_turnPegs_8 rfl (Nat.le_of_ble_eq_true rfl) rfl rfl ?_
  refine V_aload_n (pc' := 10) 0 X dX5_turnPegs_9 rfl rfl rfl ?_
  refine V_get (pc' := 13) 0 X F26 rfl rfl dX5_turnPegs_10 rfl ?_
  refine V_iload_n (pc' := 14) 1 X dX5_turnPegs_13 rfl rfl rfl ?_
  refine V_iload_n (pc' := 15) 3 X dX5_turnPegs_14 rfl rfl rfl ?_
  refine V_callV (pc' := 18) (As := [.int (nI s), .int (nI (s + c))]) (st := []) 3 8 [2] [0, 1] (show (List.range 3).Perm ([2] ++ [0, 1]) by decide) X (c_X3_numberIn l G p f n s c hn (by omega) hc2 hd) rfl gX5_turnPegs_X3_numberIn rfl (by decide) rfl rfl rfl (Nat.le_of_ble_eq_true rfl) ⟨Nat.le_of_ble_eq_true rfl, Nat.le_of_ble_eq_true rfl⟩ ⟨Nat.le_of_ble_eq_true rfl, Nat.le_of_ble_eq_true rfl⟩ dX5_turnPegs_15 rfl (fun v_ u_ hp_ => ?_)
  obtain ⟨rfl, rfl⟩ := hp_
  show V E G A 6 [XB x (a 0) r (p 0) h q, DW G a S, PD G p f n] 0 0 Q 18 [(0, .ref x), (1, .int (nI s)), (2, .int (nI (s + c + 1 + m))), (3, .int (nI (s + c)))] [.int (nI (num f s c))]
  refine V_istore (pc' := 20) [(0, .ref x), (1, .int (nI s)), (2, .int (nI (s + c + 1 + m))), (3, .int (nI (s + c))), (4, .int (nI (num f s c)))] [1, 2, 3, 4, 0] X dX5_turnPegs_18 (Nat.le_of_ble_eq_true rfl) rfl rfl ?_
  refine V_iload (pc' := 22) 4 X dX5_turnPegs_20 rfl rfl ?_
  refine V_callS (pc' := 25) (As := [.int (nI (num f s c))]) (st := []) [] [0, 1, 2] (show (List.range 3).Perm ([] ++ [0, 1, 2]) by decide) X (c_X5_isColumn1 l G (num f s c) (by omega)) rfl gX5_turnPegs_X5_isColumn rfl rfl (Nat.le_of_ble_eq_true rfl) ⟨Nat.le_of_ble_eq_true rfl, Nat.le_of_ble_eq_true rfl⟩ ⟨Nat.le_of_ble_eq_true rfl, Nat.le_of_ble_eq_true rfl⟩ dX5_turnPegs_22 rfl (fun v_ u_ hp_ => ?_)
  obtain ⟨rfl, rfl⟩ := hp_
  show V E G A 6 [XB x (a 0) r (p 0) h q, DW G a S, PD G p f n] 0 0 Q 25 [(0, .ref x), (1, .int (nI s)), (2, .int (nI (s + c + 1 + m))), (3, .int (nI (s + c))), (4, .int (nI (num f s c)))] [.int (nI 1)]
  refine V_if_eq (pc' := 28) (C := 1 = 0) 69 X dX5_turnPegs_25 (by decide) rfl (z_eq0 (by omega)) (fun hz => absurd hz (by decide)) (fun _ => ?_)
  refine V_iload_n (pc' := 29) 3 X dX5_turnPegs_28 rfl rfl rfl ?_
  refine V_iconst (pc' := 30) (nI 1) X dX5_turnPegs_29 ki_1 rfl ?_
  refine V_iadd (pc' := 31) (nI ((s + c) + 1)) X dX5_turnPegs_30 (nI_add _ _) rfl ?_
  refine V_istore (pc' := 33) [(0, .ref x), (1, .int (nI s)), (2, .int (nI (s + c + 1 + m))), (3, .int (nI (s + c))), (4, .int (nI (num f s c))), (5, .int (nI ((s + c) + 1)))] [1, 2, 3, 4, 5, 0] X dX5_turnPegs_31 (Nat.le_of_ble_eq_true rfl) rfl rfl ?_
  refine V_ws [XB x (a 0) r (p 0) h q, [((a 0), .inr (0, [.ref (a 1), .ref (a 2), .ref (a 3), .ref (a 4), .ref (a 5), .int (nI (S 46)), .int (nI (S 47)), .int (nI (S 48)), .int (nI (S 70)), .int (nI (S 59))])), ((a 1), .inl (G.2 0, 32, .inl (nf S))), ((a 2), .inl (G.2 0, 4, .inl (nf (fun k => S (32 + k))))), ((a 3), .inl (G.2 0, 10, .inl (nf (fun k => S (36 + k))))), ((a 4), .inl (G.2 0, 10, .inl (nf (fun k => S (49 + k))))), ((a 5), .inr (1, [.ref (a 6)])), ((a 6), .inl (G.2 0, 10, .inl (nf (fun k => S (60 + k)))))], PD G p f n] rfl ?_
  refine V_wsq [XB x (a 0) r (p 0) h q, [((a 0), .inr (0, [.ref (a 1), .ref (a 2), .ref (a 3), .ref (a 4), .ref (a 5), .int (nI (S 46)), .int (nI (S 47)), .int (nI (S 48)), .int (nI (S 70)), .int (nI (S 59))])), ((a 1), .inl (G.2 0, 32, .inl (nf (pgN S (num f s c) (fun j => f (s + c + 1 + j) - 48) 0)))), ((a 2), .inl (G.2 0, 4, .inl (nf (fun k => S (32 + k))))), ((a 3), .inl (G.2 0, 10, .inl (nf (fun k => S (36 + k))))), ((a 4), .inl (G.2 0, 10, .inl (nf (fun k => S (49 + k))))), ((a 5), .inr (1, [.ref (a 6)])), ((a 6), .inl (G.2 0, 10, .inl (nf (fun k => S (60 + k)))))], PD G p f n] (wsq.app (wsq.rf _) (wsq.cons (weq.rf _) (wsq.cons (weq.row (fun k hk => rfl)) (wsq.cons (weq.rf _) (wsq.cons (weq.rf _) (wsq.cons (weq.rf _) (wsq.cons (weq.rf _) (wsq.cons (weq.rf _) (wsq.rf _))))))))) ?_
  have lp_1 : ∀ i, i ≤ m → V E G A 6 [XB x (a 0) r (p 0) h q, [((a 0), .inr (0, [.ref (a 1), .ref (a 2), .ref (a 3), .ref (a 4), .ref (a 5), .int (nI (S 46)), .int (nI (S 47)), .int (nI (S 48)), .int (nI (S 70)), .int (nI (S 59))])), ((a 1), .inl (G.2 0, 32, .inl (nf (pgN S (num f s c) (fun j => f (s + c + 1 + j) - 48) i)))), ((a 2), .inl (G.2 0, 4, .inl (nf (fun k => S (32 + k))))), ((a 3), .inl (G.2 0, 10, .inl (nf (fun k => S (36 + k))))), ((a 4), .inl (G.2 0, 10, .inl (nf (fun k => S (49 + k))))), ((a 5), .inr (1, [.ref (a 6)])), ((a 6), .inl (G.2 0, 10, .inl (nf (fun k => S (60 + k)))))], PD G p f n] 0 0 Q 33 [(0, .ref x), (1, .int (nI s)), (2, .int (nI (s + c + 1 + m))), (3, .int (nI (s + c))), (4, .int (nI (num f s c))), (5, .int (nI (s + c + 1 + i)))] [] := by
    refine loopD m ?_ ?_
    · show V E G A 6 [XB x (a 0) r (p 0) h q, [((a 0), .inr (0, [.ref (a 1), .ref (a 2), .ref (a 3), .ref (a 4), .ref (a 5), .int (nI (S 46)), .int (nI (S 47)), .int (nI (S 48)), .int (nI (S 70)), .int (nI (S 59))])), ((a 1), .inl (G.2 0, 32, .inl (nf (pgN S (num f s c) (fun j => f (s + c + 1 + j) - 48) m)))), ((a 2), .inl (G.2 0, 4, .inl (nf (fun k => S (32 + k))))), ((a 3), .inl (G.2 0, 10, .inl (nf (fun k => S (36 + k))))), ((a 4), .inl (G.2 0, 10, .inl (nf (fun k => S (49 + k))))), ((a 5), .inr (1, [.ref (a 6)])), ((a 6), .inl (G.2 0, 10, .inl (nf (fun k => S (60 + k)))))], PD G p f n] 0 0 Q 33 [(0, .ref x), (1, .int (nI s)), (2, .int (nI (s + c + 1 + m))), (3, .int (nI (s + c))), (4, .int (nI (num f s c))), (5, .int (nI (s + c + 1 + m)))] []
      refine V_iload (pc' := 35) 5 X dX5_turnPegs_33 rfl rfl ?_
      refine V_iload_n (pc' := 36) 2 X dX5_turnPegs_35 rfl rfl rfl ?_
      refine V_icmp_ge (pc' := 39) (C := (s + c + 1 + m) ≤ (s + c + 1 + m)) 69 X dX5_turnPegs_36 (by decide) rfl (nI_leI (by omega) (by omega)) (fun _ => ?_) (fun hz => absurd (by omega) hz)
      refine V_wsq [XB x (a 0) r (p 0) h q, DW G a (pgN S (num f s c) (fun j => f (s + c + 1 + j) - 48) m), PD G p f n] (wsq.app (wsq.rf _) (wsq.app (DW_pegs (sameB_pgN S _ hC m) (fun _ _ => rfl)) (wsq.rf _))) ?_
      exact V_return [XB x (a 0) r (p 0) h q, DW G a (pgN S (num f s c) (fun j => f (s + c + 1 + j) - 48) m), PD G p f n] hQ X hrt dX5_turnPegs_69 (Nat.le_of_ble_eq_true rfl) (Nat.le_of_ble_eq_true rfl) (List.Perm.refl _) ⟨rfl, rfl⟩
    · intro i hi_i ih
      show V E G A 6 [XB x (a 0) r (p 0) h q, [((a 0), .inr (0, [.ref (a 1), .ref (a 2), .ref (a 3), .ref (a 4), .ref (a 5), .int (nI (S 46)), .int (nI (S 47)), .int (nI (S 48)), .int (nI (S 70)), .int (nI (S 59))])), ((a 1), .inl (G.2 0, 32, .inl (nf (pgN S (num f s c) (fun j => f (s + c + 1 + j) - 48) i)))), ((a 2), .inl (G.2 0, 4, .inl (nf (fun k => S (32 + k))))), ((a 3), .inl (G.2 0, 10, .inl (nf (fun k => S (36 + k))))), ((a 4), .inl (G.2 0, 10, .inl (nf (fun k => S (49 + k))))), ((a 5), .inr (1, [.ref (a 6)])), ((a 6), .inl (G.2 0, 10, .inl (nf (fun k => S (60 + k)))))], PD G p f n] 0 0 Q 33 [(0, .ref x), (1, .int (nI s)), (2, .int (nI (s + c + 1 + m))), (3, .int (nI (s + c))), (4, .int (nI (num f s c))), (5, .int (nI (s + c + 1 + i)))] []
      have hdi := hd2 (s + c + 1 + i) (by omega) (by omega)
      refine V_iload (pc' := 35) 5 X dX5_turnPegs_33 rfl rfl ?_
      refine V_iload_n (pc' := 36) 2 X dX5_turnPegs_35 rfl rfl rfl ?_
      refine V_icmp_ge (pc' := 39) (C := (s + c + 1 + m) ≤ (s + c + 1 + i)) 69 X dX5_turnPegs_36 (by decide) rfl (nI_leI (by omega) (by omega)) (fun hz => absurd hz (by omega)) (fun _ => ?_)
      refine V_aload_n (pc' := 40) 0 X dX5_turnPegs_39 rfl rfl rfl ?_
      refine V_get (pc' := 43) 0 X F10 rfl rfl dX5_turnPegs_40 rfl ?_
      refine V_get (pc' := 46) 1 X F59 rfl rfl dX5_turnPegs_43 rfl ?_
      refine V_iload (pc' := 48) 4 X dX5_turnPegs_46 rfl rfl ?_
      refine V_dup2 (pc' := 49) X dX5_turnPegs_48 rfl rfl rfl ?_
      refine V_iald (pc' := 50) (v := nI ((pgN S (num f s c) (fun j => f (s + c + 1 + j) - 48) i) (num f s c))) 2 (num f s c) X rfl hC (by decide) rfl dX5_turnPegs_49 rfl ?_
      refine V_iconst (pc' := 51) (nI 1) X dX5_turnPegs_50 ki_1 rfl ?_
      refine V_aload_n (pc' := 52) 0 X dX5_turnPegs_51 rfl rfl rfl ?_
      refine V_get (pc' := 55) 0 X F26 rfl rfl dX5_turnPegs_52 rfl ?_
      refine V_iload (pc' := 57) 5 X dX5_turnPegs_55 rfl rfl ?_
      refine V_callV (pc' := 60) (As := [.int (nI (s + c + 1 + i))]) (st := [.int (nI 1), .int (nI ((pgN S (num f s c) (fun j => f (s + c + 1 + j) - 48) i) (num f s c))), .int (nI (num f s c)), .ref (a 1)]) 3 8 [2] [0, 1] (show (List.range 3).Perm ([2] ++ [0, 1]) by decide) X (c_X3_digitAt l G p f n (s + c + 1 + i) hn (by omega) (by omega) (by omega)) rfl gX5_turnPegs_X3_digitAt rfl (by decide) rfl rfl rfl (Nat.le_of_ble_eq_true rfl) ⟨Nat.le_of_ble_eq_true rfl, Nat.le_of_ble_eq_true rfl⟩ ⟨Nat.le_of_ble_eq_true rfl, Nat.le_of_ble_eq_true rfl⟩ dX5_turnPegs_57 rfl (fun v_ u_ hp_ => ?_)
      obtain ⟨rfl, rfl⟩ := hp_
      show V E G A 6 [XB x (a 0) r (p 0) h q, [((a 0), .inr (0, [.ref (a 1), .ref (a 2), .ref (a 3), .ref (a 4), .ref (a 5), .int (nI (S 46)), .int (nI (S 47)), .int (nI (S 48)), .int (nI (S 70)), .int (nI (S 59))])), ((a 1), .inl (G.2 0, 32, .inl (nf (pgN S (num f s c) (fun j => f (s + c + 1 + j) - 48) i)))), ((a 2), .inl (G.2 0, 4, .inl (nf (fun k => S (32 + k))))), ((a 3), .inl (G.2 0, 10, .inl (nf (fun k => S (36 + k))))), ((a 4), .inl (G.2 0, 10, .inl (nf (fun k => S (49 + k))))), ((a 5), .inr (1, [.ref (a 6)])), ((a 6), .inl (G.2 0, 10, .inl (nf (fun k => S (60 + k)))))], PD G p f n] 0 0 Q 60 [(0, .ref x), (1, .int (nI s)), (2, .int (nI (s + c + 1 + m))), (3, .int (nI (s + c))), (4, .int (nI (num f s c))), (5, .int (nI (s + c + 1 + i)))] [.int (nI (f (s + c + 1 + i) - 48)), .int (nI 1), .int (nI ((pgN S (num f s c) (fun j => f (s + c + 1 + j) - 48) i) (num f s c))), .int (nI (num f s c)), .ref (a 1)]
      refine V_ishl (pc' := 61) (nI (2 ^ (f (s + c + 1 + i) - 48))) X dX5_turnPegs_60 (z_shl1 (by omega)) rfl ?_
      refine V_ixor (pc' := 62) (nI (((pgN S (num f s c) (fun j => f (s + c + 1 + j) - 48) i) (num f s c)) ^^^ (2 ^ (f (s + c + 1 + i) - 48)))) X dX5_turnPegs_61 (z_xor _ _) rfl ?_
      refine V_iast (pc' := 63) 2 (num f s c) [XB x (a 0) r (p 0) h q, [((a 0), .inr (0, [.ref (a 1), .ref (a 2), .ref (a 3), .ref (a 4), .ref (a 5), .int (nI (S 46)), .int (nI (S 47)), .int (nI (S 48)), .int (nI (S 70)), .int (nI (S 59))])), ((a 1), .inl (G.2 0, 32, .inl (upd (nf (pgN S (num f s c) (fun j => f (s + c + 1 + j) - 48) i)) (num f s c) (nI (((pgN S (num f s c) (fun j => f (s + c + 1 + j) - 48) i) (num f s c)) ^^^ (2 ^ (f (s + c + 1 + i) - 48))))))), ((a 2), .inl (G.2 0, 4, .inl (nf (fun k => S (32 + k))))), ((a 3), .inl (G.2 0, 10, .inl (nf (fun k => S (36 + k))))), ((a 4), .inl (G.2 0, 10, .inl (nf (fun k => S (49 + k))))), ((a 5), .inr (1, [.ref (a 6)])), ((a 6), .inl (G.2 0, 10, .inl (nf (fun k => S (60 + k)))))], PD G p f n] X rfl hC (by decide) rfl dX5_turnPegs_62 rfl ?_
      refine V_ws [XB x (a 0) r (p 0) h q, [((a 0), .inr (0, [.ref (a 1), .ref (a 2), .ref (a 3), .ref (a 4), .ref (a 5), .int (nI (S 46)), .int (nI (S 47)), .int (nI (S 48)), .int (nI (S 70)), .int (nI (S 59))])), ((a 1), .inl (G.2 0, 32, .inl (nf (va_up (pgN S (num f s c) (fun j => f (s + c + 1 + j) - 48) i) (num f s c) (((pgN S (num f s c) (fun j => f (s + c + 1 + j) - 48) i) (num f s c)) ^^^ (2 ^ (f (s + c + 1 + i) - 48))))))), ((a 2), .inl (G.2 0, 4, .inl (nf (fun k => S (32 + k))))), ((a 3), .inl (G.2 0, 10, .inl (nf (fun k => S (36 + k))))), ((a 4), .inl (G.2 0, 10, .inl (nf (fun k => S (49 + k))))), ((a 5), .inr (1, [.ref (a 6)])), ((a 6), .inl (G.2 0, 10, .inl (nf (fun k => S (60 + k)))))], PD G p f n] (by simp only [nf_upd]) ?_
      refine V_iinc (pc' := 66) [(0, .ref x), (1, .int (nI s)), (2, .int (nI (s + c + 1 + m))), (3, .int (nI (s + c))), (4, .int (nI (num f s c))), (5, .int (nI (s + c + 1 + i + 1)))] 5 [1, 2, 3, 4, 5, 0] X dX5_turnPegs_63 rfl (nI_i1 _) (Nat.le_of_ble_eq_true rfl) rfl rfl ?_
      refine V_goto (pc' := 33) X dX5_turnPegs_66 (by decide) ?_
      exact ih
  have e0 := lp_1 0 (Nat.zero_le _)
  rw [Nat.add_zero] at e0
  exact e0

set_option maxHeartbeats 4000000 in
set_option maxRecDepth 100000 in
theorem c_X5_doPart_1 (l : Launch) (G : gT) (x r h q : Nat) (a S p f : Nat → Nat) (n : Nat) (hn : n ≤ 60) (hf : ∀ k, k < n → f k < 128) (hI : IV S) (s : Nat) (he : s + 1 ≤ n) (h46 : f s = 46) : CM l G yX5_doPart wsX5_doPart 6 137 2 [.ref x, .int (nI s), .int (nI (s + 1))] [XB x (a 0) r (p 0) h q, DW G a S, PD G p f n] 0 0 (fun v u => v = some (.int (nI (stkN 3 S 1 70 - S 70))) ∧ u = [XB x (a 0) r (p 0) h q, DW G a (stkN 3 S 1), PD G p f n]) := by
  refine CM_of RX5 5 113 rfl rfl (by decide) (by decide +kernel) (Nat.le_of_ble_eq_true rfl) (fun E A X hrt hnm => ?_)
  have F10 := Fld_of (idx := 10) 5 0 X (by decide) (by decide) (by decide +kernel) (by decide +kernel)
  have F26 := Fld_of (idx := 26) 5 2 X (by decide) (by decide) (by decide +kernel) (by decide +kernel)
  generalize hQ : QM E G A _ _ _ = Q
  have hfs := hf s (by omega)
  show V E G A 5 [XB x (a 0) r (p 0) h q, DW G a S, PD G p f n] 0 0 Q 0 [(0, .ref x), (1, .int (nI s)), (2, .int (nI (s + 1)))] []
  refine V_aload_n (pc' := 1) 0 X dX5_doPart_0 rfl rfl rfl ?_
  refine V_get (pc' := 4) 0 X F26 rfl rfl dX5_doPart_1 rfl ?_
  refine V_iload_n (pc' := 5) 1 X dX5_doPart_4 rfl rfl rfl ?_
  refine V_callV (pc' := 8) (As := [.int (nI s)]) (st := []) 3 8 [2] [0, 1] (show (List.range 3).Perm ([2] ++ [0, 1]) by decide) X (c_X3_at l G p f n s hn (by omega) (by omega)) rfl gX5_doPart_X3_at rfl (by decide) rfl rfl rfl (Nat.le_of_ble_eq_true rfl) ⟨Nat.le_of_ble_eq_true rfl, Nat.le_of_ble_eq_true rfl⟩ ⟨Nat.le_of_ble_eq_true rfl, Nat.le_of_ble_eq_true rfl⟩ dX5_doPart_5 rfl (fun v_ u_ hp_ => ?_)
  obtain ⟨rfl, rfl⟩ := hp_
  show V E G A 5 [XB x (a 0) r (p 0) h q, DW G a S, PD G p f n] 0 0 Q 8 [(0, .ref x), (1, .int (nI s)), (2, .int (nI (s + 1)))] [.int (nI (f s))]
  refine V_istore_n (pc' := 9) [(0, .ref x), (1, .int (nI s)), (2, .int (nI (s + 1))), (3, .int (nI (f s)))] [1, 2, 3, 0] X dX5_doPart_8 rfl (Nat.le_of_ble_eq_true rfl) rfl rfl ?_
  refine V_iload_n (pc' := 10) 3 X dX5_doPart_9 rfl rfl rfl ?_
  refine V_bipush (pc' := 12) (nI 46) X dX5_doPart_10 kb_46 rfl ?_
  refine V_icmp_ne (pc' := 15) (C := (f s) = 46) 56 X dX5_doPart_12 (by decide) rfl (nI_eq (by omega) (by omega)) (fun hz => absurd (h46) hz) (fun _ => ?_)
  refine V_iload_n (pc' := 16) 1 X dX5_doPart_15 rfl rfl rfl ?_
  refine V_iconst (pc' := 17) (nI 1) X dX5_doPart_16 ki_1 rfl ?_
  refine V_iadd (pc' := 18) (nI (s + 1)) X dX5_doPart_17 (nI_add _ _) rfl ?_
  refine V_iload_n (pc' := 19) 2 X dX5_doPart_18 rfl rfl rfl ?_
  refine V_icmp_ne (pc' := 22) (C := (s + 1) = (s + 1)) 26 X dX5_doPart_19 (by decide) rfl (nI_eq (by omega) (by omega)) (fun hz => absurd (rfl) hz) (fun _ => ?_)
  refine V_iconst (pc' := 23) (nI 1) X dX5_doPart_22 ki_1 rfl ?_
  refine V_goto (pc' := 27) X dX5_doPart_23 (by decide) ?_
  refine V_istore (pc' := 29) [(0, .ref x), (1, .int (nI s)), (2, .int (nI (s + 1))), (3, .int (nI (f s))), (4, .int (nI 1))] [1, 2, 3, 4, 0] X dX5_doPart_27 (Nat.le_of_ble_eq_true rfl) rfl rfl ?_
  refine V_aload_n (pc' := 30) 0 X dX5_doPart_29 rfl rfl rfl ?_
  refine V_get (pc' := 33) 0 X F10 rfl rfl dX5_doPart_30 rfl ?_
  refine V_iload (pc' := 35) 4 X dX5_doPart_33 rfl rfl ?_
  refine V_if_eq (pc' := 38) (C := 1 = 0) 42 X dX5_doPart_35 (by decide) rfl (z_eq0 (by omega)) (fun hz => absurd hz (by decide)) (fun _ => ?_)
  refine V_iconst (pc' := 39) (nI 1) X dX5_doPart_38 ki_1 rfl ?_
  refine V_goto (pc' := 52) X dX5_doPart_39 (by decide) ?_
  refine V_callV (pc' := 55) (As := [.int (nI 1)]) (st := []) 0 1 [1] [0, 2] (show (List.range 3).Perm ([1] ++ [0, 2]) by decide) X (c_X0_strikeColumns l G a S 1 hI (by omega)) rfl gX5_doPart_X0_strikeColumns rfl (by decide) rfl rfl rfl (Nat.le_of_ble_eq_true rfl) ⟨Nat.le_of_ble_eq_true rfl, Nat.le_of_ble_eq_true rfl⟩ ⟨Nat.le_of_ble_eq_true rfl, Nat.le_of_ble_eq_true rfl⟩ dX5_doPart_52 rfl (fun v_ u_ hp_ => ?_)
  obtain ⟨rfl, rfl⟩ := hp_
  show V E G A 5 [XB x (a 0) r (p 0) h q, PD G p f n, DW G a (stkN 3 S 1)] 0 0 Q 55 [(0, .ref x), (1, .int (nI s)), (2, .int (nI (s + 1))), (3, .int (nI (f s))), (4, .int (nI 1))] [.int (nI (stkN 3 S 1 70 - S 70))]
  refine V_ord [0, 2, 1] [XB x (a 0) r (p 0) h q, DW G a (stkN 3 S 1), PD G p f n] (show (List.range 3).Perm [0, 2, 1] by decide) rfl ?_
  exact V_ireturn (v := nI (stkN 3 S 1 70 - S 70)) [XB x (a 0) r (p 0) h q, DW G a (stkN 3 S 1), PD G p f n] hQ X hrt rfl dX5_doPart_55 (Nat.le_of_ble_eq_true rfl) (Nat.le_of_ble_eq_true rfl) (List.Perm.refl _) ⟨rfl, rfl⟩

set_option maxHeartbeats 4000000 in
set_option maxRecDepth 100000 in
theorem c_X5_doPart_2 (l : Launch) (G : gT) (x r h q : Nat) (a S p f : Nat → Nat) (n : Nat) (hn : n ≤ 60) (hf : ∀ k, k < n → f k < 128) (hI : IV S) (s : Nat) (he : s + 2 ≤ n) (h46 : f s = 46) (h1 : 50 ≤ f (s + 1)) (h2 : f (s + 1) ≤ 57) : CM l G yX5_doPart wsX5_doPart 6 137 2 [.ref x, .int (nI s), .int (nI (s + 2))] [XB x (a 0) r (p 0) h q, DW G a S, PD G p f n] 0 0 (fun v u => v = some (.int (nI (stkN 3 S (f (s + 1) - 48) 70 - S 70))) ∧ u = [XB x (a 0) r (p 0) h q, DW G a (stkN 3 S (f (s + 1) - 48)), PD G p f n]) := by
  refine CM_of RX5 5 113 rfl rfl (by decide) (by decide +kernel) (Nat.le_of_ble_eq_true rfl) (fun E A X hrt hnm => ?_)
  have F10 := Fld_of (idx := 10) 5 0 X (by decide) (by decide) (by decide +kernel) (by decide +kernel)
  have F26 := Fld_of (idx := 26) 5 2 X (by decide) (by decide) (by decide +kernel) (by decide +kernel)
  generalize hQ : QM E G A _ _ _ = Q
  have hfs := hf s (by omega)
  show V E G A 5 [XB x (a 0) r (p 0) h q, DW G a S, PD G p f n] 0 0 Q 0 [(0, .ref x), (1, .int (nI s)), (2, .int (nI (s + 2)))] []
  refine V_aload_n (pc' := 1) 0 X dX5_doPart_0 rfl rfl rfl ?_
  refine V_get (pc' := 4) 0 X F26 rfl rfl dX5_doPart_1 rfl ?_
  refine V_iload_n (pc' := 5) 1 X dX5_doPart_4 rfl rfl rfl ?_
  refine V_callV (pc' := 8) (As := [.int (nI s)]) (st := []) 3 8 [2] [0, 1] (show (List.range 3).Perm ([2] ++ [0, 1]) by decide) X (c_X3_at l G p f n s hn (by omega) (by omega)) rfl gX5_doPart_X3_at rfl (by decide) rfl rfl rfl (Nat.le_of_ble_eq_true rfl) ⟨Nat.le_of_ble_eq_true rfl, Nat.le_of_ble_eq_true rfl⟩ ⟨Nat.le_of_ble_eq_true rfl, Nat.le_of_ble_eq_true rfl⟩ dX5_doPart_5 rfl (fun v_ u_ hp_ => ?_)
  obtain ⟨rfl, rfl⟩ := hp_
  show V E G A 5 [XB x (a 0) r (p 0) h q, DW G a S, PD G p f n] 0 0 Q 8 [(0, .ref x), (1, .int (nI s)), (2, .int (nI (s + 2)))] [.int (nI (f s))]
  refine V_istore_n (pc' := 9) [(0, .ref x), (1, .int (nI s)), (2, .int (nI (s + 2))), (3, .int (nI (f s)))] [1, 2, 3, 0] X dX5_doPart_8 rfl (Nat.le_of_ble_eq_true rfl) rfl rfl ?_
  refine V_iload_n (pc' := 10) 3 X dX5_doPart_9 rfl rfl rfl ?_
  refine V_bipush (pc' := 12) (nI 46) X dX5_doPart_10 kb_46 rfl ?_
  refine V_icmp_ne (pc' := 15) (C := (f s) = 46) 56 X dX5_doPart_12 (by decide) rfl (nI_eq (by omega) (by omega)) (fun hz => absurd (h46) hz) (fun _ => ?_)
  refine V_iload_n (pc' := 16) 1 X dX5_doPart_15 rfl rfl rfl ?_
  refine V_iconst (pc' := 17) (nI 1) X dX5_doPart_16 ki_1 rfl ?_
  refine V_iadd (pc' := 18) (nI (s + 1)) X dX5_doPart_17 (nI_add _ _) rfl ?_
  refine V_iload_n (pc' := 19) 2 X dX5_doPart_18 rfl rfl rfl ?_
  refine V_icmp_ne (pc' := 22) (C := (s + 1) = (s + 2)) 26 X dX5_doPart_19 (by decide) rfl (nI_eq (by omega) (by omega)) (fun _ => ?_) (fun hz => absurd hz (by omega))
  refine V_iconst (pc' := 27) (nI 0) X dX5_doPart_26 ki_0 rfl ?_
  refine V_istore (pc' := 29) [(0, .ref x), (1, .int (nI s)), (2, .int (nI (s + 2))), (3, .int (nI (f s))), (4, .int (nI 0))] [1, 2, 3, 4, 0] X dX5_doPart_27 (Nat.le_of_ble_eq_true rfl) rfl rfl ?_
  refine V_aload_n (pc' := 30) 0 X dX5_doPart_29 rfl rfl rfl ?_
  refine V_get (pc' := 33) 0 X F10 rfl rfl dX5_doPart_30 rfl ?_
  refine V_iload (pc' := 35) 4 X dX5_doPart_33 rfl rfl ?_
  refine V_if_eq (pc' := 38) (C := 0 = 0) 42 X dX5_doPart_35 (by decide) rfl (z_eq0 (by omega)) (fun _ => ?_) (fun hz => absurd (by decide) hz)
  refine V_aload_n (pc' := 43) 0 X dX5_doPart_42 rfl rfl rfl ?_
  refine V_get (pc' := 46) 0 X F26 rfl rfl dX5_doPart_43 rfl ?_
  refine V_iload_n (pc' := 47) 1 X dX5_doPart_46 rfl rfl rfl ?_
  refine V_iconst (pc' := 48) (nI 1) X dX5_doPart_47 ki_1 rfl ?_
  refine V_iadd (pc' := 49) (nI (s + 1)) X dX5_doPart_48 (nI_add _ _) rfl ?_
  refine V_callV (pc' := 52) (As := [.int (nI (s + 1))]) (st := [.ref (a 0)]) 3 8 [2] [0, 1] (show (List.range 3).Perm ([2] ++ [0, 1]) by decide) X (c_X3_digitAt l G p f n (s + 1) hn (by omega) (by omega) (by omega)) rfl gX5_doPart_X3_digitAt rfl (by decide) rfl rfl rfl (Nat.le_of_ble_eq_true rfl) ⟨Nat.le_of_ble_eq_true rfl, Nat.le_of_ble_eq_true rfl⟩ ⟨Nat.le_of_ble_eq_true rfl, Nat.le_of_ble_eq_true rfl⟩ dX5_doPart_49 rfl (fun v_ u_ hp_ => ?_)
  obtain ⟨rfl, rfl⟩ := hp_
  show V E G A 5 [XB x (a 0) r (p 0) h q, DW G a S, PD G p f n] 0 0 Q 52 [(0, .ref x), (1, .int (nI s)), (2, .int (nI (s + 2))), (3, .int (nI (f s))), (4, .int (nI 0))] [.int (nI (f (s + 1) - 48)), .ref (a 0)]
  refine V_callV (pc' := 55) (As := [.int (nI (f (s + 1) - 48))]) (st := []) 0 1 [1] [0, 2] (show (List.range 3).Perm ([1] ++ [0, 2]) by decide) X (c_X0_strikeColumns l G a S (f (s + 1) - 48) hI (by omega)) rfl gX5_doPart_X0_strikeColumns rfl (by decide) rfl rfl rfl (Nat.le_of_ble_eq_true rfl) ⟨Nat.le_of_ble_eq_true rfl, Nat.le_of_ble_eq_true rfl⟩ ⟨Nat.le_of_ble_eq_true rfl, Nat.le_of_ble_eq_true rfl⟩ dX5_doPart_52 rfl (fun v_ u_ hp_ => ?_)
  obtain ⟨rfl, rfl⟩ := hp_
  show V E G A 5 [XB x (a 0) r (p 0) h q, PD G p f n, DW G a (stkN 3 S (f (s + 1) - 48))] 0 0 Q 55 [(0, .ref x), (1, .int (nI s)), (2, .int (nI (s + 2))), (3, .int (nI (f s))), (4, .int (nI 0))] [.int (nI (stkN 3 S (f (s + 1) - 48) 70 - S 70))]
  refine V_ord [0, 2, 1] [XB x (a 0) r (p 0) h q, DW G a (stkN 3 S (f (s + 1) - 48)), PD G p f n] (show (List.range 3).Perm [0, 2, 1] by decide) rfl ?_
  exact V_ireturn (v := nI (stkN 3 S (f (s + 1) - 48) 70 - S 70)) [XB x (a 0) r (p 0) h q, DW G a (stkN 3 S (f (s + 1) - 48)), PD G p f n] hQ X hrt rfl dX5_doPart_55 (Nat.le_of_ble_eq_true rfl) (Nat.le_of_ble_eq_true rfl) (List.Perm.refl _) ⟨rfl, rfl⟩

set_option maxHeartbeats 4000000 in
set_option maxRecDepth 100000 in
theorem c_X5_doPart_3 (l : Launch) (G : gT) (x r h q : Nat) (a S p f : Nat → Nat) (n : Nat) (hn : n ≤ 60) (hf : ∀ k, k < n → f k < 128) (hI : IV S) (s : Nat) (he : s + 3 ≤ n) (h116 : f s = 116) (h1 : 48 ≤ f (s + 1) ∧ f (s + 1) ≤ 51) (h2 : 49 ≤ f (s + 2) ∧ f (s + 2) ≤ 57) : CM l G yX5_doPart wsX5_doPart 6 137 2 [.ref x, .int (nI s), .int (nI (s + 3))] [XB x (a 0) r (p 0) h q, DW G a S, PD G p f n] 0 0 (fun v u => v = some (.int (nI 0)) ∧ u = [XB x (a 0) r (p 0) h q, DW G a (va_up S (32 + (f (s + 1) - 48)) (f (s + 2) - 48)), PD G p f n]) := by
  refine CM_of RX5 5 113 rfl rfl (by decide) (by decide +kernel) (Nat.le_of_ble_eq_true rfl) (fun E A X hrt hnm => ?_)
  have F26 := Fld_of (idx := 26) 5 2 X (by decide) (by decide) (by decide +kernel) (by decide +kernel)
  generalize hQ : QM E G A _ _ _ = Q
  have hfs := hf s (by omega)
  show V E G A 5 [XB x (a 0) r (p 0) h q, DW G a S, PD G p f n] 0 0 Q 0 [(0, .ref x), (1, .int (nI s)), (2, .int (nI (s + 3)))] []
  refine V_aload_n (pc' := 1) 0 X dX5_doPart_0 rfl rfl rfl ?_
  refine V_get (pc' := 4) 0 X F26 rfl rfl dX5_doPart_1 rfl ?_
  refine V_iload_n (pc' := 5) 1 X dX5_doPart_4 rfl rfl rfl ?_
  refine V_callV (pc' := 8) (As := [.int (nI s)]) (st := []) 3 8 [2] [0, 1] (show (List.range 3).Perm ([2] ++ [0, 1]) by decide) X (c_X3_at l G p f n s hn (by omega) (by omega)) rfl gX5_doPart_X3_at rfl (by decide) rfl rfl rfl (Nat.le_of_ble_eq_true rfl) ⟨Nat.le_of_ble_eq_true rfl, Nat.le_of_ble_eq_true rfl⟩ ⟨Nat.le_of_ble_eq_true rfl, Nat.le_of_ble_eq_true rfl⟩ dX5_doPart_5 rfl (fun v_ u_ hp_ => ?_)
  obtain ⟨rfl, rfl⟩ := hp_
  show V E G A 5 [XB x (a 0) r (p 0) h q, DW G a S, PD G p f n] 0 0 Q 8 [(0, .ref x), (1, .int (nI s)), (2, .int (nI (s + 3)))] [.int (nI (f s))]
  refine V_istore_n (pc' := 9) [(0, .ref x), (1, .int (nI s)), (2, .int (nI (s + 3))), (3, .int (nI (f s)))] [1, 2, 3, 0] X dX5_doPart_8 rfl (Nat.le_of_ble_eq_true rfl) rfl rfl ?_
  refine V_iload_n (pc' := 10) 3 X dX5_doPart_9 rfl rfl rfl ?_
  refine V_bipush (pc' := 12) (nI 46) X dX5_doPart_10 kb_46 rfl ?_
  refine V_icmp_ne (pc' := 15) (C := (f s) = 46) 56 X dX5_doPart_12 (by decide) rfl (nI_eq (by omega) (by omega)) (fun _ => ?_) (fun hz => absurd hz (by omega))
  refine V_iload_n (pc' := 57) 3 X dX5_doPart_56 rfl rfl rfl ?_
  refine V_bipush (pc' := 59) (nI 116) X dX5_doPart_57 kb_116 rfl ?_
  refine V_icmp_ne (pc' := 62) (C := (f s) = 116) 89 X dX5_doPart_59 (by decide) rfl (nI_eq (by omega) (by omega)) (fun hz => absurd (h116) hz) (fun _ => ?_)
  refine V_aload_n (pc' := 63) 0 X dX5_doPart_62 rfl rfl rfl ?_
  refine V_aload_n (pc' := 64) 0 X dX5_doPart_63 rfl rfl rfl ?_
  refine V_get (pc' := 67) 0 X F26 rfl rfl dX5_doPart_64 rfl ?_
  refine V_iload_n (pc' := 68) 1 X dX5_doPart_67 rfl rfl rfl ?_
  refine V_iconst (pc' := 69) (nI 1) X dX5_doPart_68 ki_1 rfl ?_
  refine V_iadd (pc' := 70) (nI (s + 1)) X dX5_doPart_69 (nI_add _ _) rfl ?_
  refine V_callV (pc' := 73) (As := [.int (nI (s + 1))]) (st := [.ref x]) 3 8 [2] [0, 1] (show (List.range 3).Perm ([2] ++ [0, 1]) by decide) X (c_X3_digitAt l G p f n (s + 1) hn (by omega) (by omega) (by omega)) rfl gX5_doPart_X3_digitAt rfl (by decide) rfl rfl rfl (Nat.le_of_ble_eq_true rfl) ⟨Nat.le_of_ble_eq_true rfl, Nat.le_of_ble_eq_true rfl⟩ ⟨Nat.le_of_ble_eq_true rfl, Nat.le_of_ble_eq_true rfl⟩ dX5_doPart_70 rfl (fun v_ u_ hp_ => ?_)
  obtain ⟨rfl, rfl⟩ := hp_
  show V E G A 5 [XB x (a 0) r (p 0) h q, DW G a S, PD G p f n] 0 0 Q 73 [(0, .ref x), (1, .int (nI s)), (2, .int (nI (s + 3))), (3, .int (nI (f s)))] [.int (nI (f (s + 1) - 48)), .ref x]
  refine V_aload_n (pc' := 74) 0 X dX5_doPart_73 rfl rfl rfl ?_
  refine V_get (pc' := 77) 0 X F26 rfl rfl dX5_doPart_74 rfl ?_
  refine V_iload_n (pc' := 78) 1 X dX5_doPart_77 rfl rfl rfl ?_
  refine V_iconst (pc' := 79) (nI 2) X dX5_doPart_78 ki_2 rfl ?_
  refine V_iadd (pc' := 80) (nI (s + 2)) X dX5_doPart_79 (nI_add _ _) rfl ?_
  refine V_callV (pc' := 83) (As := [.int (nI (s + 2))]) (st := [.int (nI (f (s + 1) - 48)), .ref x]) 3 8 [2] [0, 1] (show (List.range 3).Perm ([2] ++ [0, 1]) by decide) X (c_X3_digitAt l G p f n (s + 2) hn (by omega) (by omega) (by omega)) rfl gX5_doPart_X3_digitAt rfl (by decide) rfl rfl rfl (Nat.le_of_ble_eq_true rfl) ⟨Nat.le_of_ble_eq_true rfl, Nat.le_of_ble_eq_true rfl⟩ ⟨Nat.le_of_ble_eq_true rfl, Nat.le_of_ble_eq_true rfl⟩ dX5_doPart_80 rfl (fun v_ u_ hp_ => ?_)
  obtain ⟨rfl, rfl⟩ := hp_
  show V E G A 5 [XB x (a 0) r (p 0) h q, DW G a S, PD G p f n] 0 0 Q 83 [(0, .ref x), (1, .int (nI s)), (2, .int (nI (s + 3))), (3, .int (nI (f s)))] [.int (nI (f (s + 2) - 48)), .int (nI (f (s + 1) - 48)), .ref x]
  refine V_callV (pc' := 86) (As := [.int (nI (f (s + 1) - 48)), .int (nI (f (s + 2) - 48))]) (st := []) 5 0 [0, 1] [2] (show (List.range 3).Perm ([0, 1] ++ [2]) by decide) X (c_X5_changeTempo l G x r (p 0) h q a S (f (s + 1) - 48) (f (s + 2) - 48) (by omega) (by omega)) rfl gX5_doPart_X5_changeTempo rfl (by decide) rfl rfl rfl (Nat.le_of_ble_eq_true rfl) ⟨Nat.le_of_ble_eq_true rfl, Nat.le_of_ble_eq_true rfl⟩ ⟨Nat.le_of_ble_eq_true rfl, Nat.le_of_ble_eq_true rfl⟩ dX5_doPart_83 rfl (fun v_ u_ hp_ => ?_)
  obtain ⟨rfl, rfl⟩ := hp_
  show V E G A 5 [PD G p f n, XB x (a 0) r (p 0) h q, DW G a (va_up S (32 + (f (s + 1) - 48)) (f (s + 2) - 48))] 0 0 Q 86 [(0, .ref x), (1, .int (nI s)), (2, .int (nI (s + 3))), (3, .int (nI (f s)))] []
  refine V_ord [1, 2, 0] [XB x (a 0) r (p 0) h q, DW G a (va_up S (32 + (f (s + 1) - 48)) (f (s + 2) - 48)), PD G p f n] (show (List.range 3).Perm [1, 2, 0] by decide) rfl ?_
  refine V_goto (pc' := 95) X dX5_doPart_86 (by decide) ?_
  refine V_iconst (pc' := 96) (nI 0) X dX5_doPart_95 ki_0 rfl ?_
  exact V_ireturn (v := nI 0) [XB x (a 0) r (p 0) h q, DW G a (va_up S (32 + (f (s + 1) - 48)) (f (s + 2) - 48)), PD G p f n] hQ X hrt rfl dX5_doPart_96 (Nat.le_of_ble_eq_true rfl) (Nat.le_of_ble_eq_true rfl) (List.Perm.refl _) ⟨rfl, rfl⟩

set_option maxHeartbeats 4000000 in
set_option maxRecDepth 100000 in
theorem c_X5_doPart_4 (l : Launch) (G : gT) (x r h q : Nat) (a S p f : Nat → Nat) (n : Nat) (hn : n ≤ 60) (hf : ∀ k, k < n → f k < 128) (hI : IV S) (s : Nat) (c m : Nat) (hc1 : 1 ≤ c) (hc2 : c ≤ 2) (he : s + c + 1 + m ≤ n) (h46 : ¬ f s = 46) (h116 : ¬ f s = 116) (h58 : f (s + c) = 58) (hd : ∀ k, s ≤ k → k < s + c → dg (f k)) (hC : num f s c < 32) (hd2 : ∀ k, s + c < k → k < s + c + 1 + m → dg (f k)) : CM l G yX5_doPart wsX5_doPart 6 137 2 [.ref x, .int (nI s), .int (nI (s + c + 1 + m))] [XB x (a 0) r (p 0) h q, DW G a S, PD G p f n] 0 0 (fun v u => v = some (.int (nI 0)) ∧ u = [XB x (a 0) r (p 0) h q, DW G a (pgN S (num f s c) (fun j => f (s + c + 1 + j) - 48) m), PD G p f n]) := by
  refine CM_of RX5 5 113 rfl rfl (by decide) (by decide +kernel) (Nat.le_of_ble_eq_true rfl) (fun E A X hrt hnm => ?_)
  have F26 := Fld_of (idx := 26) 5 2 X (by decide) (by decide) (by decide +kernel) (by decide +kernel)
  generalize hQ : QM E G A _ _ _ = Q
  have hfs := hf s (by omega)
  show V E G A 5 [XB x (a 0) r (p 0) h q, DW G a S, PD G p f n] 0 0 Q 0 [(0, .ref x), (1, .int (nI s)), (2, .int (nI (s + c + 1 + m)))] []
  refine V_aload_n (pc' := 1) 0 X dX5_doPart_0 rfl rfl rfl ?_
  refine V_get (pc' := 4) 0 X F26 rfl rfl dX5_doPart_1 rfl ?_
  refine V_iload_n (pc' := 5) 1 X dX5_doPart_4 rfl rfl rfl ?_
  refine V_callV (pc' := 8) (As := [.int (nI s)]) (st := []) 3 8 [2] [0, 1] (show (List.range 3).Perm ([2] ++ [0, 1]) by decide) X (c_X3_at l G p f n s hn (by omega) (by omega)) rfl gX5_doPart_X3_at rfl (by decide) rfl rfl rfl (Nat.le_of_ble_eq_true rfl) ⟨Nat.le_of_ble_eq_true rfl, Nat.le_of_ble_eq_true rfl⟩ ⟨Nat.le_of_ble_eq_true rfl, Nat.le_of_ble_eq_true rfl⟩ dX5_doPart_5 rfl (fun v_ u_ hp_ => ?_)
  obtain ⟨rfl, rfl⟩ := hp_
  show V E G A 5 [XB x (a 0) r (p 0) h q, DW G a S, PD G p f n] 0 0 Q 8 [(0, .ref x), (1, .int (nI s)), (2, .int (nI (s + c + 1 + m)))] [.int (nI (f s))]
  refine V_istore_n (pc' := 9) [(0, .ref x), (1, .int (nI s)), (2, .int (nI (s + c + 1 + m))), (3, .int (nI (f s)))] [1, 2, 3, 0] X dX5_doPart_8 rfl (Nat.le_of_ble_eq_true rfl) rfl rfl ?_
  refine V_iload_n (pc' := 10) 3 X dX5_doPart_9 rfl rfl rfl ?_
  refine V_bipush (pc' := 12) (nI 46) X dX5_doPart_10 kb_46 rfl ?_
  refine V_icmp_ne (pc' := 15) (C := (f s) = 46) 56 X dX5_doPart_12 (by decide) rfl (nI_eq (by omega) (by omega)) (fun _ => ?_) (fun hz => absurd hz (h46))
  refine V_iload_n (pc' := 57) 3 X dX5_doPart_56 rfl rfl rfl ?_
  refine V_bipush (pc' := 59) (nI 116) X dX5_doPart_57 kb_116 rfl ?_
  refine V_icmp_ne (pc' := 62) (C := (f s) = 116) 89 X dX5_doPart_59 (by decide) rfl (nI_eq (by omega) (by omega)) (fun _ => ?_) (fun hz => absurd hz (h116))
  refine V_aload_n (pc' := 90) 0 X dX5_doPart_89 rfl rfl rfl ?_
  refine V_iload_n (pc' := 91) 1 X dX5_doPart_90 rfl rfl rfl ?_
  refine V_iload_n (pc' := 92) 2 X dX5_doPart_91 rfl rfl rfl ?_
  refine V_callV (pc' := 95) (As := [.int (nI s), .int (nI (s + c + 1 + m))]) (st := []) 5 0 [0, 1, 2] [] (show (List.range 3).Perm ([0, 1, 2] ++ []) by decide) X (c_X5_turnPegs l G x r h q a S p f n hn hf hI s c m hc1 hc2 he h58 hd hC hd2) rfl gX5_doPart_X5_turnPegs rfl (by decide) rfl rfl rfl (Nat.le_of_ble_eq_true rfl) ⟨Nat.le_of_ble_eq_true rfl, Nat.le_of_ble_eq_true rfl⟩ ⟨Nat.le_of_ble_eq_true rfl, Nat.le_of_ble_eq_true rfl⟩ dX5_doPart_92 rfl (fun v_ u_ hp_ => ?_)
  obtain ⟨rfl, rfl⟩ := hp_
  show V E G A 5 [XB x (a 0) r (p 0) h q, DW G a (pgN S (num f s c) (fun j => f (s + c + 1 + j) - 48) m), PD G p f n] 0 0 Q 95 [(0, .ref x), (1, .int (nI s)), (2, .int (nI (s + c + 1 + m))), (3, .int (nI (f s)))] []
  refine V_iconst (pc' := 96) (nI 0) X dX5_doPart_95 ki_0 rfl ?_
  exact V_ireturn (v := nI 0) [XB x (a 0) r (p 0) h q, DW G a (pgN S (num f s c) (fun j => f (s + c + 1 + j) - 48) m), PD G p f n] hQ X hrt rfl dX5_doPart_96 (Nat.le_of_ble_eq_true rfl) (Nat.le_of_ble_eq_true rfl) (List.Perm.refl _) ⟨rfl, rfl⟩

theorem c_X5_doPart (l : Launch) (G : gT) (x r h q : Nat) (a S p f : Nat → Nat) (n : Nat) (hn : n ≤ 60) (hf : ∀ k, k < n → f k < 128) (hI : IV S) (s e : Nat) (hp : Pt f n s e) : CM l G yX5_doPart wsX5_doPart 6 137 2 [.ref x, .int (nI s), .int (nI e)] [XB x (a 0) r (p 0) h q, DW G a S, PD G p f n] 0 0 (fun v u => v = some (.int (nI (doP 3 f n s e S).2)) ∧ u = [XB x (a 0) r (p 0) h q, DW G a (doP 3 f n s e S).1, PD G p f n]) := by
  obtain ⟨p1, p2, p3⟩ := hp
  rcases p3 with ⟨h46, p | p⟩ | ⟨h116, p, h1, h2⟩ | ⟨h46, h116, g, g1, g2, g3, g4, g5, g6, g7⟩
  · subst p
    have e1 : doP 3 f n s (s + 1) S = (stkN 3 S 1, stkN 3 S 1 70 - S 70) := by unfold doP; rw [if_pos h46, if_pos rfl]
    rw [e1]
    exact c_X5_doPart_1 l G x r h q a S p f n hn hf hI s p2 h46
  · obtain ⟨rfl, h1, h2⟩ := p
    have e1 : doP 3 f n s (s + 2) S = (stkN 3 S (f (s + 1) - 48), stkN 3 S (f (s + 1) - 48) 70 - S 70) := by unfold doP; rw [if_pos h46, if_neg (by omega)]
    rw [e1]
    exact c_X5_doPart_2 l G x r h q a S p f n hn hf hI s p2 h46 h1 h2
  · subst p
    have e1 : doP 3 f n s (s + 3) S = (va_up S (32 + (f (s + 1) - 48)) (f (s + 2) - 48), 0) := by unfold doP; rw [if_neg (by omega), if_pos h116]
    rw [e1]
    exact c_X5_doPart_3 l G x r h q a S p f n hn hf hI s p2 h116 h1 h2
  · obtain ⟨c, rfl⟩ : ∃ c, g = s + c := ⟨g - s, by omega⟩
    obtain ⟨m, rfl⟩ : ∃ m, e = s + c + 1 + m := ⟨e - (s + c + 1), by omega⟩
    rw [Nat.add_sub_cancel_left] at g5
    have e1 : doP 3 f n s (s + c + 1 + m) S = (pgN S (num f s c) (fun j => f (s + c + 1 + j) - 48) m, 0) := by unfold doP; rw [if_neg h46, if_neg h116, ← g7, Nat.add_sub_cancel_left, Nat.add_sub_cancel_left]
    rw [e1]
    exact c_X5_doPart_4 l G x r h q a S p f n hn hf hI s c m (by omega) (by omega) p2 h46 h116 g3 g4 g5 g6
set_option maxHeartbeats 4000000 in
set_option maxRecDepth 100000 in
theorem c_X5_read (l : Launch) (G : gT) (x r q : Nat) (a S p f h : Nat → Nat) (m : Nat) (hm : m ≤ 60) (hf : ∀ k, k < m → f k < 128) (n : Nat) (d T : Nat → Nat → Nat) (hn : n ≤ 6) (hI : IV S) (hv : ff f m = none) : CM l G yX5_read wsX5_read 7 160 0 [.ref x] [XB x (a 0) r (p 0) (h 0) q, DW G a S, PD G p f m, HI G h n d, HD G d T] 0 0 (fun v u => v = some (.int (nI (rdS 3 f m S (m + 1)).2.2)) ∧ u = [XB x (a 0) r (p 0) (h 0) q, DW G a (rdS 3 f m S (m + 1)).1, HI G h (aM n + 1) (aD n d), HD G (aD n d) (hT n S T), PD G p f 0]) := by
  refine CM_of RX5 6 137 rfl rfl (by decide) (by decide +kernel) (Nat.le_of_ble_eq_true rfl) (fun E A X hrt hnm => ?_)
  have F10 := Fld_of (idx := 10) 5 0 X (by decide) (by decide) (by decide +kernel) (by decide +kernel)
  have F26 := Fld_of (idx := 26) 5 2 X (by decide) (by decide) (by decide +kernel) (by decide +kernel)
  have F33 := Fld_of (idx := 33) 5 3 X (by decide) (by decide) (by decide +kernel) (by decide +kernel)
  have F127 := Fld_of (idx := 127) 3 1 X (by decide) (by decide) (by decide +kernel) (by decide +kernel)
  generalize hQ : QM E G A _ _ _ = Q
  show V E G A 4 [XB x (a 0) r (p 0) (h 0) q, DW G a S, PD G p f m, HI G h n d, HD G d T] 0 0 Q 0 [(0, .ref x)] []
  refine V_aload_n (pc' := 1) 0 X dX5_read_0 rfl rfl rfl ?_
  refine V_get (pc' := 4) 0 X F26 rfl rfl dX5_read_1 rfl ?_
  refine V_callV (pc' := 7) (As := []) (st := []) 3 8 [2] [0, 1, 3, 4] (show (List.range 5).Perm ([2] ++ [0, 1, 3, 4]) by decide) X (c_X3_firstFault l G p f m hm hf) rfl gX5_read_X3_firstFault rfl (by decide) rfl rfl rfl (Nat.le_of_ble_eq_true rfl) ⟨Nat.le_of_ble_eq_true rfl, Nat.le_of_ble_eq_true rfl⟩ ⟨Nat.le_of_ble_eq_true rfl, Nat.le_of_ble_eq_true rfl⟩ dX5_read_4 rfl (fun v_ u_ hp_ => ?_)
  obtain ⟨rfl, rfl⟩ := hp_
  show V E G A 4 [XB x (a 0) r (p 0) (h 0) q, DW G a S, HI G h n d, HD G d T, PD G p f m] 0 0 Q 7 [(0, .ref x)] [.int (rN (ff f m))]
  refine V_ord [0, 1, 4, 2, 3] [XB x (a 0) r (p 0) (h 0) q, DW G a S, PD G p f m, HI G h n d, HD G d T] (show (List.range 5).Perm [0, 1, 4, 2, 3] by decide) rfl ?_
  refine V_iconst (pc' := 8) (-1) X dX5_read_7 rfl rfl ?_
  refine V_icmp_eq (pc' := 11) (C := (rN (ff f m)) = (-1)) 21 X dX5_read_8 (by decide) rfl Iff.rfl (fun _ => ?_) (fun hz => absurd (by rw [hv]; rfl) hz)
  refine V_aload_n (pc' := 22) 0 X dX5_read_21 rfl rfl rfl ?_
  refine V_get (pc' := 25) 0 X F33 rfl rfl dX5_read_22 rfl ?_
  refine V_aload_n (pc' := 26) 0 X dX5_read_25 rfl rfl rfl ?_
  refine V_get (pc' := 29) 0 X F10 rfl rfl dX5_read_26 rfl ?_
  refine V_callV (pc' := 32) (As := [.ref (a 0)]) (st := []) 2 10 [3, 4, 1] [0, 2] (show (List.range 5).Perm ([3, 4, 1] ++ [0, 2]) by decide) X (c_X2_add l G h d T a S n hn) rfl gX5_read_X2_add rfl (by decide) rfl rfl rfl (Nat.le_of_ble_eq_true rfl) ⟨Nat.le_of_ble_eq_true rfl, Nat.le_of_ble_eq_true rfl⟩ ⟨Nat.le_of_ble_eq_true rfl, Nat.le_of_ble_eq_true rfl⟩ dX5_read_29 rfl (fun v_ u_ hp_ => ?_)
  obtain ⟨rfl, rfl⟩ := hp_
  show V E G A 4 [XB x (a 0) r (p 0) (h 0) q, PD G p f m, HI G h (aM n + 1) (aD n d), DW G ((aD n d) (aM n)) S, DW G a S, HR G (aD n d) (aD n T) (aM n)] 0 0 Q 32 [(0, .ref x)] [.ref (((aD n d) (aM n)) 0)]
  refine V_pop (pc' := 33) X dX5_read_32 rfl rfl ?_
  refine V_iconst (pc' := 34) (nI 0) X dX5_read_33 ki_0 rfl ?_
  refine V_istore_n (pc' := 35) [(0, .ref x), (1, .int (nI 0))] [1, 0] X dX5_read_34 rfl (Nat.le_of_ble_eq_true rfl) rfl rfl ?_
  refine V_iconst (pc' := 36) (nI 0) X dX5_read_35 ki_0 rfl ?_
  refine V_istore_n (pc' := 37) [(0, .ref x), (1, .int (nI 0)), (2, .int (nI 0))] [1, 2, 0] X dX5_read_36 rfl (Nat.le_of_ble_eq_true rfl) rfl rfl ?_
  refine V_iconst (pc' := 38) (nI 0) X dX5_read_37 ki_0 rfl ?_
  refine V_istore_n (pc' := 39) [(0, .ref x), (1, .int (nI 0)), (2, .int (nI 0)), (3, .int (nI 0))] [1, 2, 3, 0] X dX5_read_38 rfl (Nat.le_of_ble_eq_true rfl) rfl rfl ?_
  have lp_1 : ∀ i, i ≤ (m + 1) → V E G A 4 [XB x (a 0) r (p 0) (h 0) q, PD G p f m, HI G h (aM n + 1) (aD n d), DW G ((aD n d) (aM n)) S, DW G a ((rdS 3 f m S i).1), HR G (aD n d) (aD n T) (aM n)] 0 0 Q 39 [(0, .ref x), (1, .int (nI ((rdS 3 f m S i).2.2))), (2, .int (nI ((rdS 3 f m S i).2.1))), (3, .int (nI i))] [] := by
    refine loopD (m + 1) ?_ ?_
    · show V E G A 4 [XB x (a 0) r (p 0) (h 0) q, PD G p f m, HI G h (aM n + 1) (aD n d), DW G ((aD n d) (aM n)) S, DW G a ((rdS 3 f m S (m + 1)).1), HR G (aD n d) (aD n T) (aM n)] 0 0 Q 39 [(0, .ref x), (1, .int (nI ((rdS 3 f m S (m + 1)).2.2))), (2, .int (nI ((rdS 3 f m S (m + 1)).2.1))), (3, .int (nI (m + 1)))] []
      refine V_iload_n (pc' := 40) 3 X dX5_read_39 rfl rfl rfl ?_
      refine V_aload_n (pc' := 41) 0 X dX5_read_40 rfl rfl rfl ?_
      refine V_get (pc' := 44) 0 X F26 rfl rfl dX5_read_41 rfl ?_
      refine V_get (pc' := 47) 1 X F127 rfl rfl dX5_read_44 rfl ?_
      refine V_icmp_gt (pc' := 50) (C := m < (m + 1)) 93 X dX5_read_47 (by decide) rfl (nI_ltI (by omega) (by omega)) (fun _ => ?_) (fun hz => absurd (by omega) hz)
      refine V_aload_n (pc' := 94) 0 X dX5_read_93 rfl rfl rfl ?_
      refine V_get (pc' := 97) 0 X F26 rfl rfl dX5_read_94 rfl ?_
      refine V_callV (pc' := 100) (As := []) (st := []) 3 1 [1] [0, 2, 3, 4, 5] (show (List.range 6).Perm ([1] ++ [0, 2, 3, 4, 5]) by decide) X (c_X3_clear l G p f m) rfl gX5_read_X3_clear rfl (by decide) rfl rfl rfl (Nat.le_of_ble_eq_true rfl) ⟨Nat.le_of_ble_eq_true rfl, Nat.le_of_ble_eq_true rfl⟩ ⟨Nat.le_of_ble_eq_true rfl, Nat.le_of_ble_eq_true rfl⟩ dX5_read_97 rfl (fun v_ u_ hp_ => ?_)
      obtain ⟨rfl, rfl⟩ := hp_
      show V E G A 4 [XB x (a 0) r (p 0) (h 0) q, HI G h (aM n + 1) (aD n d), DW G ((aD n d) (aM n)) S, DW G a ((rdS 3 f m S (m + 1)).1), HR G (aD n d) (aD n T) (aM n), PD G p f 0] 0 0 Q 100 [(0, .ref x), (1, .int (nI ((rdS 3 f m S (m + 1)).2.2))), (2, .int (nI ((rdS 3 f m S (m + 1)).2.1))), (3, .int (nI (m + 1)))] []
      refine V_ord [0, 5, 1, 2, 3, 4] [XB x (a 0) r (p 0) (h 0) q, PD G p f 0, HI G h (aM n + 1) (aD n d), DW G ((aD n d) (aM n)) S, DW G a ((rdS 3 f m S (m + 1)).1), HR G (aD n d) (aD n T) (aM n)] (show (List.range 6).Perm [0, 5, 1, 2, 3, 4] by decide) rfl ?_
      refine V_iload_n (pc' := 101) 1 X dX5_read_100 rfl rfl rfl ?_
      refine V_ord [0, 4, 2, 3, 5, 1] [XB x (a 0) r (p 0) (h 0) q, DW G a ((rdS 3 f m S (m + 1)).1), HI G h (aM n + 1) (aD n d), DW G ((aD n d) (aM n)) S, HR G (aD n d) (aD n T) (aM n), PD G p f 0] (show (List.range 6).Perm [0, 4, 2, 3, 5, 1] by decide) rfl ?_
      refine V_join (bs' := [XB x (a 0) r (p 0) (h 0) q, DW G a ((rdS 3 f m S (m + 1)).1), HI G h (aM n + 1) (aD n d), HD G (aD n d) (hT n S T), PD G p f 0]) 3 rfl (HD_perm' G (aD n d) (aD n T) S (aM_lt hn)) rfl ?_
      exact V_ireturn (v := nI ((rdS 3 f m S (m + 1)).2.2)) [XB x (a 0) r (p 0) (h 0) q, DW G a ((rdS 3 f m S (m + 1)).1), HI G h (aM n + 1) (aD n d), HD G (aD n d) (hT n S T), PD G p f 0] hQ X hrt rfl dX5_read_101 (Nat.le_of_ble_eq_true rfl) (Nat.le_of_ble_eq_true rfl) (List.Perm.refl _) ⟨rfl, rfl⟩
    · intro i hi_i ih
      show V E G A 4 [XB x (a 0) r (p 0) (h 0) q, PD G p f m, HI G h (aM n + 1) (aD n d), DW G ((aD n d) (aM n)) S, DW G a ((rdS 3 f m S i).1), HR G (aD n d) (aD n T) (aM n)] 0 0 Q 39 [(0, .ref x), (1, .int (nI ((rdS 3 f m S i).2.2))), (2, .int (nI ((rdS 3 f m S i).2.1))), (3, .int (nI i))] []
      obtain ⟨hIi, hri⟩ := rd_inv (c := 3) (by decide) hv hI i (by omega)
      obtain ⟨_, hsi, _, _⟩ := hri (by omega)
      refine V_iload_n (pc' := 40) 3 X dX5_read_39 rfl rfl rfl ?_
      refine V_aload_n (pc' := 41) 0 X dX5_read_40 rfl rfl rfl ?_
      refine V_get (pc' := 44) 0 X F26 rfl rfl dX5_read_41 rfl ?_
      refine V_get (pc' := 47) 1 X F127 rfl rfl dX5_read_44 rfl ?_
      refine V_icmp_gt (pc' := 50) (C := m < i) 93 X dX5_read_47 (by decide) rfl (nI_ltI (by omega) (by omega)) (fun hz => absurd hz (by omega)) (fun _ => ?_)
      refine V_iload_n (pc' := 51) 3 X dX5_read_50 rfl rfl rfl ?_
      refine V_aload_n (pc' := 52) 0 X dX5_read_51 rfl rfl rfl ?_
      refine V_get (pc' := 55) 0 X F26 rfl rfl dX5_read_52 rfl ?_
      refine V_get (pc' := 58) 1 X F127 rfl rfl dX5_read_55 rfl ?_
      refine V_icmp_eq (pc' := 61) (C := i = m) 74 X dX5_read_58 (by decide) rfl (nI_eq (by omega) (by omega)) (fun h58 => ?_) (fun h58 => ?_)
      · refine V_iload_n (pc' := 75) 1 X dX5_read_74 rfl rfl rfl ?_
        refine V_aload_n (pc' := 76) 0 X dX5_read_75 rfl rfl rfl ?_
        refine V_iload_n (pc' := 77) 2 X dX5_read_76 rfl rfl rfl ?_
        refine V_iload_n (pc' := 78) 3 X dX5_read_77 rfl rfl rfl ?_
        refine V_callV (pc' := 81) (As := [.int (nI ((rdS 3 f m S i).2.1)), .int (nI i)]) (st := [.int (nI ((rdS 3 f m S i).2.2))]) 5 0 [0, 4, 1] [2, 3, 5] (show (List.range 6).Perm ([0, 4, 1] ++ [2, 3, 5]) by decide) X (c_X5_doPart l G x r (h 0) q a (rdS 3 f m S i).1 p f m hm hf hIi (rdS 3 f m S i).2.1 i (rd_at (c := 3) (by decide) hv hI (by omega) (Or.inl h58))) rfl gX5_read_X5_doPart rfl (by decide) rfl rfl rfl (Nat.le_of_ble_eq_true rfl) ⟨Nat.le_of_ble_eq_true rfl, Nat.le_of_ble_eq_true rfl⟩ ⟨Nat.le_of_ble_eq_true rfl, Nat.le_of_ble_eq_true rfl⟩ dX5_read_78 rfl (fun v_ u_ hp_ => ?_)
        obtain ⟨rfl, rfl⟩ := hp_
        show V E G A 4 [HI G h (aM n + 1) (aD n d), DW G ((aD n d) (aM n)) S, HR G (aD n d) (aD n T) (aM n), XB x (a 0) r (p 0) (h 0) q, DW G a ((doP 3 f m (rdS 3 f m S i).2.1 i (rdS 3 f m S i).1).1), PD G p f m] 0 0 Q 81 [(0, .ref x), (1, .int (nI ((rdS 3 f m S i).2.2))), (2, .int (nI ((rdS 3 f m S i).2.1))), (3, .int (nI i))] [.int (nI ((doP 3 f m (rdS 3 f m S i).2.1 i (rdS 3 f m S i).1).2)), .int (nI ((rdS 3 f m S i).2.2))]
        refine V_ord [3, 5, 0, 1, 4, 2] [XB x (a 0) r (p 0) (h 0) q, PD G p f m, HI G h (aM n + 1) (aD n d), DW G ((aD n d) (aM n)) S, DW G a ((doP 3 f m (rdS 3 f m S i).2.1 i (rdS 3 f m S i).1).1), HR G (aD n d) (aD n T) (aM n)] (show (List.range 6).Perm [3, 5, 0, 1, 4, 2] by decide) rfl ?_
        refine V_iadd (pc' := 82) (nI (((rdS 3 f m S i).2.2) + ((doP 3 f m (rdS 3 f m S i).2.1 i (rdS 3 f m S i).1).2))) X dX5_read_81 (nI_add _ _) rfl ?_
        refine V_istore_n (pc' := 83) [(0, .ref x), (1, .int (nI (((rdS 3 f m S i).2.2) + ((doP 3 f m (rdS 3 f m S i).2.1 i (rdS 3 f m S i).1).2)))), (2, .int (nI ((rdS 3 f m S i).2.1))), (3, .int (nI i))] [1, 0, 2, 3] X dX5_read_82 rfl (Nat.le_of_ble_eq_true rfl) rfl rfl ?_
        refine V_iload_n (pc' := 84) 3 X dX5_read_83 rfl rfl rfl ?_
        refine V_iconst (pc' := 85) (nI 1) X dX5_read_84 ki_1 rfl ?_
        refine V_iadd (pc' := 86) (nI (i + 1)) X dX5_read_85 (nI_add _ _) rfl ?_
        refine V_istore_n (pc' := 87) [(0, .ref x), (1, .int (nI (((rdS 3 f m S i).2.2) + ((doP 3 f m (rdS 3 f m S i).2.1 i (rdS 3 f m S i).1).2)))), (2, .int (nI (i + 1))), (3, .int (nI i))] [1, 2, 0, 3] X dX5_read_86 rfl (Nat.le_of_ble_eq_true rfl) rfl rfl ?_
        refine V_iinc (pc' := 90) [(0, .ref x), (1, .int (nI (((rdS 3 f m S i).2.2) + ((doP 3 f m (rdS 3 f m S i).2.1 i (rdS 3 f m S i).1).2)))), (2, .int (nI (i + 1))), (3, .int (nI (i + 1)))] 3 [1, 2, 3, 0] X dX5_read_87 rfl (nI_i1 _) (Nat.le_of_ble_eq_true rfl) rfl rfl ?_
        refine V_goto (pc' := 39) X dX5_read_90 (by decide) ?_
        rw [show rdS 3 f m S (i + 1) = ((doP 3 f m (rdS 3 f m S i).2.1 i (rdS 3 f m S i).1).1, i + 1, (rdS 3 f m S i).2.2 + (doP 3 f m (rdS 3 f m S i).2.1 i (rdS 3 f m S i).1).2) from if_pos (Or.inl h58)] at ih
        exact ih
      · refine V_aload_n (pc' := 62) 0 X dX5_read_61 rfl rfl rfl ?_
        refine V_get (pc' := 65) 0 X F26 rfl rfl dX5_read_62 rfl ?_
        refine V_iload_n (pc' := 66) 3 X dX5_read_65 rfl rfl rfl ?_
        refine V_callV (pc' := 69) (As := [.int (nI i)]) (st := []) 3 1 [1] [0, 2, 3, 4, 5] (show (List.range 6).Perm ([1] ++ [0, 2, 3, 4, 5]) by decide) X (c_X3_at l G p f m i hm (by omega) (hf i (by omega))) rfl gX5_read_X3_at rfl (by decide) rfl rfl rfl (Nat.le_of_ble_eq_true rfl) ⟨Nat.le_of_ble_eq_true rfl, Nat.le_of_ble_eq_true rfl⟩ ⟨Nat.le_of_ble_eq_true rfl, Nat.le_of_ble_eq_true rfl⟩ dX5_read_66 rfl (fun v_ u_ hp_ => ?_)
        obtain ⟨rfl, rfl⟩ := hp_
        show V E G A 4 [XB x (a 0) r (p 0) (h 0) q, HI G h (aM n + 1) (aD n d), DW G ((aD n d) (aM n)) S, DW G a ((rdS 3 f m S i).1), HR G (aD n d) (aD n T) (aM n), PD G p f m] 0 0 Q 69 [(0, .ref x), (1, .int (nI ((rdS 3 f m S i).2.2))), (2, .int (nI ((rdS 3 f m S i).2.1))), (3, .int (nI i))] [.int (nI (f i))]
        refine V_ord [0, 5, 1, 2, 3, 4] [XB x (a 0) r (p 0) (h 0) q, PD G p f m, HI G h (aM n + 1) (aD n d), DW G ((aD n d) (aM n)) S, DW G a ((rdS 3 f m S i).1), HR G (aD n d) (aD n T) (aM n)] (show (List.range 6).Perm [0, 5, 1, 2, 3, 4] by decide) rfl ?_
        refine V_bipush (pc' := 71) (nI 59) X dX5_read_69 kb_59 rfl ?_
        refine V_icmp_ne (pc' := 74) (C := (f i) = 59) 87 X dX5_read_71 (by decide) rfl (nI_eq (Nat.lt_trans (hf i (by omega)) (by decide)) (by decide)) (fun h71 => ?_) (fun h71 => ?_)
        · refine V_iinc (pc' := 90) [(0, .ref x), (1, .int (nI ((rdS 3 f m S i).2.2))), (2, .int (nI ((rdS 3 f m S i).2.1))), (3, .int (nI (i + 1)))] 3 [1, 2, 3, 0] X dX5_read_87 rfl (nI_i1 _) (Nat.le_of_ble_eq_true rfl) rfl rfl ?_
          refine V_goto (pc' := 39) X dX5_read_90 (by decide) ?_
          rw [show rdS 3 f m S (i + 1) = rdS 3 f m S i from if_neg (fun q => q.elim h58 h71)] at ih
          exact ih
        · refine V_iload_n (pc' := 75) 1 X dX5_read_74 rfl rfl rfl ?_
          refine V_aload_n (pc' := 76) 0 X dX5_read_75 rfl rfl rfl ?_
          refine V_iload_n (pc' := 77) 2 X dX5_read_76 rfl rfl rfl ?_
          refine V_iload_n (pc' := 78) 3 X dX5_read_77 rfl rfl rfl ?_
          refine V_callV (pc' := 81) (As := [.int (nI ((rdS 3 f m S i).2.1)), .int (nI i)]) (st := [.int (nI ((rdS 3 f m S i).2.2))]) 5 0 [0, 4, 1] [2, 3, 5] (show (List.range 6).Perm ([0, 4, 1] ++ [2, 3, 5]) by decide) X (c_X5_doPart l G x r (h 0) q a (rdS 3 f m S i).1 p f m hm hf hIi (rdS 3 f m S i).2.1 i (rd_at (c := 3) (by decide) hv hI (by omega) (Or.inr h71))) rfl gX5_read_X5_doPart rfl (by decide) rfl rfl rfl (Nat.le_of_ble_eq_true rfl) ⟨Nat.le_of_ble_eq_true rfl, Nat.le_of_ble_eq_true rfl⟩ ⟨Nat.le_of_ble_eq_true rfl, Nat.le_of_ble_eq_true rfl⟩ dX5_read_78 rfl (fun v_ u_ hp_ => ?_)
          obtain ⟨rfl, rfl⟩ := hp_
          show V E G A 4 [HI G h (aM n + 1) (aD n d), DW G ((aD n d) (aM n)) S, HR G (aD n d) (aD n T) (aM n), XB x (a 0) r (p 0) (h 0) q, DW G a ((doP 3 f m (rdS 3 f m S i).2.1 i (rdS 3 f m S i).1).1), PD G p f m] 0 0 Q 81 [(0, .ref x), (1, .int (nI ((rdS 3 f m S i).2.2))), (2, .int (nI ((rdS 3 f m S i).2.1))), (3, .int (nI i))] [.int (nI ((doP 3 f m (rdS 3 f m S i).2.1 i (rdS 3 f m S i).1).2)), .int (nI ((rdS 3 f m S i).2.2))]
          refine V_ord [3, 5, 0, 1, 4, 2] [XB x (a 0) r (p 0) (h 0) q, PD G p f m, HI G h (aM n + 1) (aD n d), DW G ((aD n d) (aM n)) S, DW G a ((doP 3 f m (rdS 3 f m S i).2.1 i (rdS 3 f m S i).1).1), HR G (aD n d) (aD n T) (aM n)] (show (List.range 6).Perm [3, 5, 0, 1, 4, 2] by decide) rfl ?_
          refine V_iadd (pc' := 82) (nI (((rdS 3 f m S i).2.2) + ((doP 3 f m (rdS 3 f m S i).2.1 i (rdS 3 f m S i).1).2))) X dX5_read_81 (nI_add _ _) rfl ?_
          refine V_istore_n (pc' := 83) [(0, .ref x), (1, .int (nI (((rdS 3 f m S i).2.2) + ((doP 3 f m (rdS 3 f m S i).2.1 i (rdS 3 f m S i).1).2)))), (2, .int (nI ((rdS 3 f m S i).2.1))), (3, .int (nI i))] [1, 0, 2, 3] X dX5_read_82 rfl (Nat.le_of_ble_eq_true rfl) rfl rfl ?_
          refine V_iload_n (pc' := 84) 3 X dX5_read_83 rfl rfl rfl ?_
          refine V_iconst (pc' := 85) (nI 1) X dX5_read_84 ki_1 rfl ?_
          refine V_iadd (pc' := 86) (nI (i + 1)) X dX5_read_85 (nI_add _ _) rfl ?_
          refine V_istore_n (pc' := 87) [(0, .ref x), (1, .int (nI (((rdS 3 f m S i).2.2) + ((doP 3 f m (rdS 3 f m S i).2.1 i (rdS 3 f m S i).1).2)))), (2, .int (nI (i + 1))), (3, .int (nI i))] [1, 2, 0, 3] X dX5_read_86 rfl (Nat.le_of_ble_eq_true rfl) rfl rfl ?_
          refine V_iinc (pc' := 90) [(0, .ref x), (1, .int (nI (((rdS 3 f m S i).2.2) + ((doP 3 f m (rdS 3 f m S i).2.1 i (rdS 3 f m S i).1).2)))), (2, .int (nI (i + 1))), (3, .int (nI (i + 1)))] 3 [1, 2, 3, 0] X dX5_read_87 rfl (nI_i1 _) (Nat.le_of_ble_eq_true rfl) rfl rfl ?_
          refine V_goto (pc' := 39) X dX5_read_90 (by decide) ?_
          rw [show rdS 3 f m S (i + 1) = ((doP 3 f m (rdS 3 f m S i).2.1 i (rdS 3 f m S i).1).1, i + 1, (rdS 3 f m S i).2.2 + (doP 3 f m (rdS 3 f m S i).2.1 i (rdS 3 f m S i).1).2) from if_pos (Or.inr h71)] at ih
          exact ih
  exact lp_1 0 (Nat.zero_le _)
