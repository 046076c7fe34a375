/-! the drum: S tells its 71 numbers: 0..31 pegs, 32..35 tempos, 36..45 weights, 46 bound, 47 at hand, 48 ticks, 49..58 times heard, 59 missed, 60..69 columns since, 70 heard -/
def DW (G : gT) (a S : Nat → Nat) : va_W := [(a 0, .inr (0, [.ref (a 1), .ref (a 2), .ref (a 3), .ref (a 4), .ref (a 5), .int (nI (S 46)), .int (nI (S 47)), .int (nI (S 48)), .int (nI (S 70)), .int (nI (S 59))])), (a 1, .inl (G.2 0, 32, .inl (nf S))), (a 2, .inl (G.2 0, 4, .inl (nf (fun k => S (32 + k))))), (a 3, .inl (G.2 0, 10, .inl (nf (fun k => S (36 + k))))), (a 4, .inl (G.2 0, 10, .inl (nf (fun k => S (49 + k))))), (a 5, .inr (1, [.ref (a 6)])), (a 6, .inl (G.2 0, 10, .inl (nf (fun k => S (60 + k)))))]
def hs (S : Nat → Nat) : Nat := (hr (S (S 47)) (fun k => S (60 + k)) (fun k => S (36 + k)) (S 46) 10).1
/-- the numbers are in their ranges -/
def IV (S : Nat → Nat) : Prop := (∀ k, k < 32 → S k < 1024) ∧ (∀ k, k < 4 → S (32 + k) ≤ 9) ∧ (∀ k, k < 10 → S (36 + k) ≤ 60) ∧ S 46 ≤ 300 ∧ S 47 < 32 ∧ (∀ k, k < 10 → S (60 + k) ≤ 9)
theorem bq_tb (n k : Nat) : bq n k = (n.testBit k).toNat := (Nat.toNat_testBit n k).symm
theorem bq_add {a k : Nat} (h : a < 2 ^ k) (i : Nat) : bq (a + 2 ^ k) i = if i = k then 1 else bq a i := by
  rw [bq_tb, ← or_pow h, Nat.testBit_or, Nat.testBit_two_pow, bq_tb]
  by_cases e : i = k
  · subst e
    rw [if_pos rfl, Nat.testBit_lt_two_pow h]; simp
  · rw [if_neg e]
    have e2 : ¬ k = i := fun q => e q.symm
    simp [e2]
theorem hr_bq (p : Nat) (g w : Nat → Nat) (B : Nat) : ∀ k i, bq (hr p g w B k).1 i ≤ bq p i
  | 0, i => by
    show bq 0 i ≤ _
    have : bq 0 i = 0 := by unfold bq; rw [Nat.zero_div]
    omega
  | k + 1, i => by
    rw [hr]
    split
    · next h =>
      show bq (_ + 2 ^ k) i ≤ _
      rw [bq_add (hr_lt p g w B k)]
      by_cases e : i = k
      · rw [if_pos e, e, h.1]; exact Nat.le_refl _
      · rw [if_neg e]; exact hr_bq p g w B k i
    · exact hr_bq p g w B k i
theorem hs_lt (S : Nat → Nat) : hs S < 1024 := hr_lt _ _ _ _ 10
theorem hs_bq (S : Nat → Nat) (i : Nat) : bq (hs S) i ≤ bq (S (S 47)) i := hr_bq _ _ _ _ 10 i
theorem bq_xor {p h i : Nat} (hb : bq h i ≤ bq p i) : bq (p ^^^ h) i = bq p i - bq h i := by
  rw [bq_tb, bq_tb, bq_tb] at *
  rw [Nat.testBit_xor]
  revert hb
  cases p.testBit i <;> cases h.testBit i <;> simp
theorem z_andn {p h : Nat} (hb : ∀ i, bq h i ≤ bq p i) : nI p &&& (nI h ^^^ (-1)) = nI (p ^^^ h) := by
  apply Int32.toBitVec_inj.1
  show BitVec.ofNat 32 p &&& (BitVec.ofNat 32 h ^^^ BitVec.allOnes 32) = BitVec.ofNat 32 (p ^^^ h)
  apply BitVec.eq_of_getLsbD_eq
  intro i hi
  have h1 := hb i
  rw [bq_tb, bq_tb] at h1
  rw [BitVec.getLsbD_and, BitVec.getLsbD_xor, BitVec.getLsbD_allOnes, BitVec.getLsbD_ofNat, BitVec.getLsbD_ofNat, BitVec.getLsbD_ofNat, Nat.testBit_xor]
  revert h1
  cases p.testBit i <;> cases h.testBit i <;> simp [hi]
theorem sm_split {f g e : Nat → Nat} : ∀ {n : Nat}, (∀ k, k < n → f k = g k + e k) → sm f n = sm g n + sm e n
  | 0, _ => rfl
  | n + 1, h => by rw [sm_succ, sm_succ, sm_succ, sm_split (fun k hk => h k (by omega)), h n (by omega)]; omega
theorem cnt_xor {p h : Nat} (hb : ∀ i, bq h i ≤ bq p i) : cnt (p ^^^ h) = cnt p - cnt h := by
  have e : cnt p = cnt (p ^^^ h) + cnt h := sm_split (fun k _ => by have h1 := hb k; rw [bq_xor h1]; omega)
  omega
/-- the column at hand is struck; c: how far the columns since are counted -/
def stk (c : Nat) (S : Nat → Nat) : Nat → Nat := fun k =>
  if k < 47 then S k else if k = 47 then (S 47 + 1) % 32 else if k = 48 then S 48 + S (32 + S 47 / 8) else if k < 59 then S k + bq (hs S) (k - 49)
  else if k = 59 then S 59 + (cnt (S (S 47)) - cnt (hs S)) else if k < 70 then swg c (fun k => S (60 + k)) (hs S) (k - 60) else if k = 70 then S 70 + cnt (hs S) else S k
theorem stk_lo {c k : Nat} {S : Nat → Nat} (h : k < 47) : stk c S k = S k := if_pos h
theorem stk_th {c k : Nat} {S : Nat → Nat} (h : k < 10) : stk c S (49 + k) = S (49 + k) + bq (hs S) k := by
  unfold stk
  rw [if_neg (by omega), if_neg (by omega), if_neg (by omega), if_pos (by omega), Nat.add_sub_cancel_left]
theorem stk_rs {c k : Nat} {S : Nat → Nat} (h : k < 10) : stk c S (60 + k) = swg c (fun k => S (60 + k)) (hs S) k := by
  unfold stk
  rw [if_neg (by omega), if_neg (by omega), if_neg (by omega), if_neg (by omega), if_neg (by omega), if_pos (by omega), Nat.add_sub_cancel_left]
theorem swg_le {c p k : Nat} {g : Nat → Nat} : swg c g p k ≤ c := by
  unfold swg
  split
  · exact Nat.zero_le _
  · exact Nat.min_le_right _ _
theorem IV_stk {c : Nat} {S : Nat → Nat} (hc : c ≤ 9) (h : IV S) : IV (stk c S) := by
  obtain ⟨h1, h2, h3, h4, h5, h6⟩ := h
  refine ⟨fun k hk => by rw [stk_lo (by omega)]; exact h1 k hk, fun k hk => by rw [stk_lo (by omega)]; exact h2 k hk, fun k hk => by rw [stk_lo (by omega)]; exact h3 k hk, by rw [stk_lo (by omega)]; exact h4, Nat.mod_lt _ (by decide), fun k hk => by rw [stk_rs hk]; exact Nat.le_trans swg_le hc⟩
def stkN (c : Nat) (S : Nat → Nat) : Nat → (Nat → Nat) | 0 => S | i + 1 => stk c (stkN c S i)
theorem IV_stkN {c : Nat} {S : Nat → Nat} (hc : c ≤ 9) (h : IV S) : ∀ i, IV (stkN c S i)
  | 0 => h
  | i + 1 => IV_stk hc (IV_stkN hc h i)
theorem stkN_70 (c : Nat) (S : Nat → Nat) : ∀ i, S 70 ≤ stkN c S i 70
  | 0 => Nat.le_refl _
  | i + 1 => Nat.le_trans (stkN_70 c S i) (Nat.le_add_right _ _)
theorem va_up_id {f : Nat → Nat} {j v : Nat} (h : f j = v) : va_up f j v = f := by
  funext k
  unfold va_up
  split
  · next e => rw [e, h]
  · rfl
theorem weq.of {e e' : va_E} (h : e = e') : weq e e' := h ▸ weq.rf e
def wIn (w : Nat → Nat) (p : Nat) : Nat := sm (fun k => bq p k * w k) 10
/-- a new drum -/
def S0 (c : Nat) : Nat → Nat := fun k => if k < 32 then 0 else if k < 36 then 4 else if k < 46 then 60 - 6 * (k - 36) else if k = 46 then 120 else if k < 60 then 0 else if k < 70 then c else 0
theorem IV_S0 {c : Nat} (h : c ≤ 9) : IV (S0 c) := by
  refine ⟨fun k hk => ?_, fun k hk => ?_, fun k hk => ?_, (show 120 ≤ 300 by decide), (show 0 < 32 by decide), fun k hk => ?_⟩
  · unfold S0; rw [if_pos hk]; decide
  · unfold S0; rw [if_neg (by omega), if_pos (by omega)]; decide
  · unfold S0; rw [if_neg (by omega), if_neg (by omega), if_pos (by omega)]; omega
  · unfold S0; rw [if_neg (by omega), if_neg (by omega), if_neg (by omega), if_neg (by omega), if_neg (by omega), if_pos (by omega)]; exact h

set_option maxHeartbeats 4000000 in
set_option maxRecDepth 100000 in
theorem c_X0_countPegs (l : Launch) (G : gT) (a S : Nat → Nat) (hI : IV S) : CM l G yX0_countPegs wsX0_countPegs 2 42 0 [.ref (a 0)] [DW G a S] 0 0 (fun v u => v = some (.int (nI (sm (fun k => cnt (S k)) 32))) ∧ u = [DW G a S]) := by
  refine CM_of RX0 1 20 rfl rfl (by decide) (by decide +kernel) (Nat.le_of_ble_eq_true rfl) (fun E A X hrt hnm => ?_)
  have F9 := Fld_of (idx := 9) 0 0 X (by decide) (by decide) (by decide +kernel) (by decide +kernel)
  generalize hQ : QM E G A _ _ _ = Q
  obtain ⟨i1, i2, i3, i4, i5, i6⟩ := id hI
  show V E G A 3 [DW G a S] 0 0 Q 0 [(0, .ref (a 0))] []
  refine V_iconst (pc' := 1) (nI 0) X dX0_countPegs_0 ki_0 rfl ?_
  refine V_istore_n (pc' := 2) [(0, .ref (a 0)), (1, .int (nI 0))] [1, 0] X dX0_countPegs_1 rfl (Nat.le_of_ble_eq_true rfl) rfl rfl ?_
  refine V_iconst (pc' := 3) (nI 0) X dX0_countPegs_2 ki_0 rfl ?_
  refine V_istore_n (pc' := 4) [(0, .ref (a 0)), (1, .int (nI 0)), (2, .int (nI 0))] [1, 2, 0] X dX0_countPegs_3 rfl (Nat.le_of_ble_eq_true rfl) rfl rfl ?_
  have lp_1 : ∀ i, i ≤ 32 → V E G A 3 [DW G a S] 0 0 Q 4 [(0, .ref (a 0)), (1, .int (nI (sm (fun k => cnt (S k)) i))), (2, .int (nI i))] [] := by
    refine loopD 32 ?_ ?_
    · show V E G A 3 [DW G a S] 0 0 Q 4 [(0, .ref (a 0)), (1, .int (nI (sm (fun k => cnt (S k)) 32))), (2, .int (nI 32))] []
      refine V_iload_n (pc' := 5) 2 X dX0_countPegs_4 rfl rfl rfl ?_
      refine V_bipush (pc' := 7) (nI 32) X dX0_countPegs_5 kb_32 rfl ?_
      refine V_icmp_ge (pc' := 10) (C := 32 ≤ 32) 28 X dX0_countPegs_7 (by decide) rfl (nI_leI (by omega) (by omega)) (fun _ => ?_) (fun hz => absurd (by omega) hz)
      refine V_iload_n (pc' := 29) 1 X dX0_countPegs_28 rfl rfl rfl ?_
      exact V_ireturn (v := nI (sm (fun k => cnt (S k)) 32)) [DW G a S] hQ X hrt rfl dX0_countPegs_29 (Nat.le_of_ble_eq_true rfl) (Nat.le_of_ble_eq_true rfl) (List.Perm.refl _) ⟨rfl, rfl⟩
    · intro i hi_i ih
      show V E G A 3 [DW G a S] 0 0 Q 4 [(0, .ref (a 0)), (1, .int (nI (sm (fun k => cnt (S k)) i))), (2, .int (nI i))] []
      refine V_iload_n (pc' := 5) 2 X dX0_countPegs_4 rfl rfl rfl ?_
      refine V_bipush (pc' := 7) (nI 32) X dX0_countPegs_5 kb_32 rfl ?_
      refine V_icmp_ge (pc' := 10) (C := 32 ≤ i) 28 X dX0_countPegs_7 (by decide) rfl (nI_leI (by omega) (by omega)) (fun hz => absurd hz (by omega)) (fun _ => ?_)
      refine V_iload_n (pc' := 11) 1 X dX0_countPegs_10 rfl rfl rfl ?_
      refine V_aload_n (pc' := 12) 0 X dX0_countPegs_11 rfl rfl rfl ?_
      refine V_get (pc' := 15) 0 X F9 rfl rfl dX0_countPegs_12 rfl ?_
      refine V_iload_n (pc' := 16) 2 X dX0_countPegs_15 rfl rfl rfl ?_
      refine V_iald (pc' := 17) (v := nI (S i)) 1 i X rfl (by omega) (by decide) rfl dX0_countPegs_16 rfl ?_
      refine V_callS (pc' := 20) (As := [.int (nI (S i))]) (st := [.int (nI (sm (fun k => cnt (S k)) i))]) [] [0] (show (List.range 1).Perm ([] ++ [0]) by decide) X (c_J6_bitCount_0f7a4 l G (S i) (i1 _ hi_i)) rfl gX0_countPegs_J6_bitCount_0f7a4 rfl rfl (Nat.le_of_ble_eq_true rfl) ⟨Nat.le_of_ble_eq_true rfl, Nat.le_of_ble_eq_true rfl⟩ ⟨Nat.le_of_ble_eq_true rfl, Nat.le_of_ble_eq_true rfl⟩ dX0_countPegs_17 rfl (fun v_ u_ hp_ => ?_)
      obtain ⟨rfl, rfl⟩ := hp_
      show V E G A 3 [DW G a S] 0 0 Q 20 [(0, .ref (a 0)), (1, .int (nI (sm (fun k => cnt (S k)) i))), (2, .int (nI i))] [.int (nI (cnt (S i))), .int (nI (sm (fun k => cnt (S k)) i))]
      refine V_iadd (pc' := 21) (nI ((sm (fun k => cnt (S k)) i) + (cnt (S i)))) X dX0_countPegs_20 (nI_add _ _) rfl ?_
      refine V_istore_n (pc' := 22) [(0, .ref (a 0)), (1, .int (nI ((sm (fun k => cnt (S k)) i) + (cnt (S i))))), (2, .int (nI i))] [1, 0, 2] X dX0_countPegs_21 rfl (Nat.le_of_ble_eq_true rfl) rfl rfl ?_
      refine V_iinc (pc' := 25) [(0, .ref (a 0)), (1, .int (nI ((sm (fun k => cnt (S k)) i) + (cnt (S i))))), (2, .int (nI (i + 1)))] 2 [1, 2, 0] X dX0_countPegs_22 rfl (nI_i1 _) (Nat.le_of_ble_eq_true rfl) rfl rfl ?_
      refine V_goto (pc' := 4) X dX0_countPegs_25 (by decide) ?_
      exact ih
  exact lp_1 0 (Nat.zero_le _)

set_option maxHeartbeats 4000000 in
set_option maxRecDepth 100000 in
theorem c_X0_ticksByColumns (l : Launch) (G : gT) (a S : Nat → Nat) (hI : IV S) : CM l G yX0_ticksByColumns wsX0_ticksByColumns 1 22 0 [.ref (a 0)] [DW G a S] 0 0 (fun v u => v = some (.int (nI (sm (fun k => S (32 + k / 8)) 32))) ∧ u = [DW G a S]) := by
  refine CM_of RX0 0 0 rfl rfl (by decide) (by decide +kernel) (Nat.le_of_ble_eq_true rfl) (fun E A X hrt hnm => ?_)
  have F15 := Fld_of (idx := 15) 0 1 X (by decide) (by decide) (by decide +kernel) (by decide +kernel)
  generalize hQ : QM E G A _ _ _ = Q
  obtain ⟨i1, i2, i3, i4, i5, i6⟩ := id hI
  show V E G A 3 [DW G a S] 0 0 Q 0 [(0, .ref (a 0))] []
  refine V_iconst (pc' := 1) (nI 0) X dX0_ticksByColumns_0 ki_0 rfl ?_
  refine V_istore_n (pc' := 2) [(0, .ref (a 0)), (1, .int (nI 0))] [1, 0] X dX0_ticksByColumns_1 rfl (Nat.le_of_ble_eq_true rfl) rfl rfl ?_
  refine V_iconst (pc' := 3) (nI 0) X dX0_ticksByColumns_2 ki_0 rfl ?_
  refine V_istore_n (pc' := 4) [(0, .ref (a 0)), (1, .int (nI 0)), (2, .int (nI 0))] [1, 2, 0] X dX0_ticksByColumns_3 rfl (Nat.le_of_ble_eq_true rfl) rfl rfl ?_
  have lp_1 : ∀ i, i ≤ 32 → V E G A 3 [DW G a S] 0 0 Q 4 [(0, .ref (a 0)), (1, .int (nI (sm (fun k => S (32 + k / 8)) i))), (2, .int (nI i))] [] := by
    refine loopD 32 ?_ ?_
    · show V E G A 3 [DW G a S] 0 0 Q 4 [(0, .ref (a 0)), (1, .int (nI (sm (fun k => S (32 + k / 8)) 32))), (2, .int (nI 32))] []
      refine V_iload_n (pc' := 5) 2 X dX0_ticksByColumns_4 rfl rfl rfl ?_
      refine V_bipush (pc' := 7) (nI 32) X dX0_ticksByColumns_5 kb_32 rfl ?_
      refine V_icmp_ge (pc' := 10) (C := 32 ≤ 32) 28 X dX0_ticksByColumns_7 (by decide) rfl (nI_leI (by omega) (by omega)) (fun _ => ?_) (fun hz => absurd (by omega) hz)
      refine V_iload_n (pc' := 29) 1 X dX0_ticksByColumns_28 rfl rfl rfl ?_
      exact V_ireturn (v := nI (sm (fun k => S (32 + k / 8)) 32)) [DW G a S] hQ X hrt rfl dX0_ticksByColumns_29 (Nat.le_of_ble_eq_true rfl) (Nat.le_of_ble_eq_true rfl) (List.Perm.refl _) ⟨rfl, rfl⟩
    · intro i hi_i ih
      show V E G A 3 [DW G a S] 0 0 Q 4 [(0, .ref (a 0)), (1, .int (nI (sm (fun k => S (32 + k / 8)) i))), (2, .int (nI i))] []
      refine V_iload_n (pc' := 5) 2 X dX0_ticksByColumns_4 rfl rfl rfl ?_
      refine V_bipush (pc' := 7) (nI 32) X dX0_ticksByColumns_5 kb_32 rfl ?_
      refine V_icmp_ge (pc' := 10) (C := 32 ≤ i) 28 X dX0_ticksByColumns_7 (by decide) rfl (nI_leI (by omega) (by omega)) (fun hz => absurd hz (by omega)) (fun _ => ?_)
      refine V_iload_n (pc' := 11) 1 X dX0_ticksByColumns_10 rfl rfl rfl ?_
      refine V_aload_n (pc' := 12) 0 X dX0_ticksByColumns_11 rfl rfl rfl ?_
      refine V_get (pc' := 15) 0 X F15 rfl rfl dX0_ticksByColumns_12 rfl ?_
      refine V_iload_n (pc' := 16) 2 X dX0_ticksByColumns_15 rfl rfl rfl ?_
      refine V_bipush (pc' := 18) (nI 8) X dX0_ticksByColumns_16 kb_8 rfl ?_
      refine V_idiv (pc' := 19) (nI (i / 8)) X dX0_ticksByColumns_18 (z_ne0 (by omega) (by omega)) (pk_div (by omega) (by omega) (by omega)) rfl ?_
      refine V_iald (pc' := 20) (v := nI (S (32 + (i / 8)))) 2 (i / 8) X rfl (by omega) (by decide) rfl dX0_ticksByColumns_19 rfl ?_
      refine V_iadd (pc' := 21) (nI ((sm (fun k => S (32 + k / 8)) i) + (S (32 + (i / 8))))) X dX0_ticksByColumns_20 (nI_add _ _) rfl ?_
      refine V_istore_n (pc' := 22) [(0, .ref (a 0)), (1, .int (nI ((sm (fun k => S (32 + k / 8)) i) + (S (32 + (i / 8)))))), (2, .int (nI i))] [1, 0, 2] X dX0_ticksByColumns_21 rfl (Nat.le_of_ble_eq_true rfl) rfl rfl ?_
      refine V_iinc (pc' := 25) [(0, .ref (a 0)), (1, .int (nI ((sm (fun k => S (32 + k / 8)) i) + (S (32 + (i / 8)))))), (2, .int (nI (i + 1)))] 2 [1, 2, 0] X dX0_ticksByColumns_22 rfl (nI_i1 _) (Nat.le_of_ble_eq_true rfl) rfl rfl ?_
      refine V_goto (pc' := 4) X dX0_ticksByColumns_25 (by decide) ?_
      exact ih
  exact lp_1 0 (Nat.zero_le _)

set_option maxHeartbeats 4000000 in
set_option maxRecDepth 100000 in
theorem c_X0_ticksByBars (l : Launch) (G : gT) (a S : Nat → Nat) (hI : IV S) : CM l G yX0_ticksByBars wsX0_ticksByBars 1 22 0 [.ref (a 0)] [DW G a S] 0 0 (fun v u => v = some (.int (nI (sm (fun k => 8 * S (32 + k)) 4))) ∧ u = [DW G a S]) := by
  refine CM_of RX0 0 0 rfl rfl (by decide) (by decide +kernel) (Nat.le_of_ble_eq_true rfl) (fun E A X hrt hnm => ?_)
  have F15 := Fld_of (idx := 15) 0 1 X (by decide) (by decide) (by decide +kernel) (by decide +kernel)
  generalize hQ : QM E G A _ _ _ = Q
  obtain ⟨i1, i2, i3, i4, i5, i6⟩ := id hI
  show V E G A 3 [DW G a S] 0 0 Q 0 [(0, .ref (a 0))] []
  refine V_iconst (pc' := 1) (nI 0) X dX0_ticksByBars_0 ki_0 rfl ?_
  refine V_istore_n (pc' := 2) [(0, .ref (a 0)), (1, .int (nI 0))] [1, 0] X dX0_ticksByBars_1 rfl (Nat.le_of_ble_eq_true rfl) rfl rfl ?_
  refine V_iconst (pc' := 3) (nI 0) X dX0_ticksByBars_2 ki_0 rfl ?_
  refine V_istore_n (pc' := 4) [(0, .ref (a 0)), (1, .int (nI 0)), (2, .int (nI 0))] [1, 2, 0] X dX0_ticksByBars_3 rfl (Nat.le_of_ble_eq_true rfl) rfl rfl ?_
  have lp_1 : ∀ i, i ≤ 4 → V E G A 3 [DW G a S] 0 0 Q 4 [(0, .ref (a 0)), (1, .int (nI (sm (fun k => 8 * S (32 + k)) i))), (2, .int (nI i))] [] := by
    refine loopD 4 ?_ ?_
    · show V E G A 3 [DW G a S] 0 0 Q 4 [(0, .ref (a 0)), (1, .int (nI (sm (fun k => 8 * S (32 + k)) 4))), (2, .int (nI 4))] []
      refine V_iload_n (pc' := 5) 2 X dX0_ticksByBars_4 rfl rfl rfl ?_
      refine V_iconst (pc' := 6) (nI 4) X dX0_ticksByBars_5 ki_4 rfl ?_
      refine V_icmp_ge (pc' := 9) (C := 4 ≤ 4) 27 X dX0_ticksByBars_6 (by decide) rfl (nI_leI (by omega) (by omega)) (fun _ => ?_) (fun hz => absurd (by omega) hz)
      refine V_iload_n (pc' := 28) 1 X dX0_ticksByBars_27 rfl rfl rfl ?_
      exact V_ireturn (v := nI (sm (fun k => 8 * S (32 + k)) 4)) [DW G a S] hQ X hrt rfl dX0_ticksByBars_28 (Nat.le_of_ble_eq_true rfl) (Nat.le_of_ble_eq_true rfl) (List.Perm.refl _) ⟨rfl, rfl⟩
    · intro i hi_i ih
      show V E G A 3 [DW G a S] 0 0 Q 4 [(0, .ref (a 0)), (1, .int (nI (sm (fun k => 8 * S (32 + k)) i))), (2, .int (nI i))] []
      refine V_iload_n (pc' := 5) 2 X dX0_ticksByBars_4 rfl rfl rfl ?_
      refine V_iconst (pc' := 6) (nI 4) X dX0_ticksByBars_5 ki_4 rfl ?_
      refine V_icmp_ge (pc' := 9) (C := 4 ≤ i) 27 X dX0_ticksByBars_6 (by decide) rfl (nI_leI (by omega) (by omega)) (fun hz => absurd hz (by omega)) (fun _ => ?_)
      refine V_iload_n (pc' := 10) 1 X dX0_ticksByBars_9 rfl rfl rfl ?_
      refine V_bipush (pc' := 12) (nI 8) X dX0_ticksByBars_10 kb_8 rfl ?_
      refine V_aload_n (pc' := 13) 0 X dX0_ticksByBars_12 rfl rfl rfl ?_
      refine V_get (pc' := 16) 0 X F15 rfl rfl dX0_ticksByBars_13 rfl ?_
      refine V_iload_n (pc' := 17) 2 X dX0_ticksByBars_16 rfl rfl rfl ?_
      refine V_iald (pc' := 18) (v := nI (S (32 + i))) 2 i X rfl (by omega) (by decide) rfl dX0_ticksByBars_17 rfl ?_
      refine V_imul (pc' := 19) (nI (8 * (S (32 + i)))) X dX0_ticksByBars_18 (pk_mul _ _) rfl ?_
      refine V_iadd (pc' := 20) (nI ((sm (fun k => 8 * S (32 + k)) i) + (8 * (S (32 + i))))) X dX0_ticksByBars_19 (nI_add _ _) rfl ?_
      refine V_istore_n (pc' := 21) [(0, .ref (a 0)), (1, .int (nI ((sm (fun k => 8 * S (32 + k)) i) + (8 * (S (32 + i)))))), (2, .int (nI i))] [1, 0, 2] X dX0_ticksByBars_20 rfl (Nat.le_of_ble_eq_true rfl) rfl rfl ?_
      refine V_iinc (pc' := 24) [(0, .ref (a 0)), (1, .int (nI ((sm (fun k => 8 * S (32 + k)) i) + (8 * (S (32 + i)))))), (2, .int (nI (i + 1)))] 2 [1, 2, 0] X dX0_ticksByBars_21 rfl (nI_i1 _) (Nat.le_of_ble_eq_true rfl) rfl rfl ?_
      refine V_goto (pc' := 4) X dX0_ticksByBars_24 (by decide) ?_
      exact ih
  exact lp_1 0 (Nat.zero_le _)

set_option maxHeartbeats 4000000 in
set_option maxRecDepth 100000 in
theorem c_X0_sumOfTimesHeard (l : Launch) (G : gT) (a S : Nat → Nat) (hI : IV S) : CM l G yX0_sumOfTimesHeard wsX0_sumOfTimesHeard 1 22 0 [.ref (a 0)] [DW G a S] 0 0 (fun v u => v = some (.int (nI (sm (fun k => S (49 + k)) 10))) ∧ u = [DW G a S]) := by
  refine CM_of RX0 0 0 rfl rfl (by decide) (by decide +kernel) (Nat.le_of_ble_eq_true rfl) (fun E A X hrt hnm => ?_)
  have F21 := Fld_of (idx := 21) 0 3 X (by decide) (by decide) (by decide +kernel) (by decide +kernel)
  generalize hQ : QM E G A _ _ _ = Q
  show V E G A 3 [DW G a S] 0 0 Q 0 [(0, .ref (a 0))] []
  refine V_iconst (pc' := 1) (nI 0) X dX0_sumOfTimesHeard_0 ki_0 rfl ?_
  refine V_istore_n (pc' := 2) [(0, .ref (a 0)), (1, .int (nI 0))] [1, 0] X dX0_sumOfTimesHeard_1 rfl (Nat.le_of_ble_eq_true rfl) rfl rfl ?_
  refine V_iconst (pc' := 3) (nI 0) X dX0_sumOfTimesHeard_2 ki_0 rfl ?_
  refine V_istore_n (pc' := 4) [(0, .ref (a 0)), (1, .int (nI 0)), (2, .int (nI 0))] [1, 2, 0] X dX0_sumOfTimesHeard_3 rfl (Nat.le_of_ble_eq_true rfl) rfl rfl ?_
  have lp_1 : ∀ i, i ≤ 10 → V E G A 3 [DW G a S] 0 0 Q 4 [(0, .ref (a 0)), (1, .int (nI (sm (fun k => S (49 + k)) i))), (2, .int (nI i))] [] := by
    refine loopD 10 ?_ ?_
    · show V E G A 3 [DW G a S] 0 0 Q 4 [(0, .ref (a 0)), (1, .int (nI (sm (fun k => S (49 + k)) 10))), (2, .int (nI 10))] []
      refine V_iload_n (pc' := 5) 2 X dX0_sumOfTimesHeard_4 rfl rfl rfl ?_
      refine V_bipush (pc' := 7) (nI 10) X dX0_sumOfTimesHeard_5 kb_10 rfl ?_
      refine V_icmp_ge (pc' := 10) (C := 10 ≤ 10) 25 X dX0_sumOfTimesHeard_7 (by decide) rfl (nI_leI (by omega) (by omega)) (fun _ => ?_) (fun hz => absurd (by omega) hz)
      refine V_iload_n (pc' := 26) 1 X dX0_sumOfTimesHeard_25 rfl rfl rfl ?_
      exact V_ireturn (v := nI (sm (fun k => S (49 + k)) 10)) [DW G a S] hQ X hrt rfl dX0_sumOfTimesHeard_26 (Nat.le_of_ble_eq_true rfl) (Nat.le_of_ble_eq_true rfl) (List.Perm.refl _) ⟨rfl, rfl⟩
    · intro i hi_i ih
      show V E G A 3 [DW G a S] 0 0 Q 4 [(0, .ref (a 0)), (1, .int (nI (sm (fun k => S (49 + k)) i))), (2, .int (nI i))] []
      refine V_iload_n (pc' := 5) 2 X dX0_sumOfTimesHeard_4 rfl rfl rfl ?_
      refine V_bipush (pc' := 7) (nI 10) X dX0_sumOfTimesHeard_5 kb_10 rfl ?_
      refine V_icmp_ge (pc' := 10) (C := 10 ≤ i) 25 X dX0_sumOfTimesHeard_7 (by decide) rfl (nI_leI (by omega) (by omega)) (fun hz => absurd hz (by omega)) (fun _ => ?_)
      refine V_iload_n (pc' := 11) 1 X dX0_sumOfTimesHeard_10 rfl rfl rfl ?_
      refine V_aload_n (pc' := 12) 0 X dX0_sumOfTimesHeard_11 rfl rfl rfl ?_
      refine V_get (pc' := 15) 0 X F21 rfl rfl dX0_sumOfTimesHeard_12 rfl ?_
      refine V_iload_n (pc' := 16) 2 X dX0_sumOfTimesHeard_15 rfl rfl rfl ?_
      refine V_iald (pc' := 17) (v := nI (S (49 + i))) 4 i X rfl (by omega) (by decide) rfl dX0_sumOfTimesHeard_16 rfl ?_
      refine V_iadd (pc' := 18) (nI ((sm (fun k => S (49 + k)) i) + (S (49 + i)))) X dX0_sumOfTimesHeard_17 (nI_add _ _) rfl ?_
      refine V_istore_n (pc' := 19) [(0, .ref (a 0)), (1, .int (nI ((sm (fun k => S (49 + k)) i) + (S (49 + i))))), (2, .int (nI i))] [1, 0, 2] X dX0_sumOfTimesHeard_18 rfl (Nat.le_of_ble_eq_true rfl) rfl rfl ?_
      refine V_iinc (pc' := 22) [(0, .ref (a 0)), (1, .int (nI ((sm (fun k => S (49 + k)) i) + (S (49 + i))))), (2, .int (nI (i + 1)))] 2 [1, 2, 0] X dX0_sumOfTimesHeard_19 rfl (nI_i1 _) (Nat.le_of_ble_eq_true rfl) rfl rfl ?_
      refine V_goto (pc' := 4) X dX0_sumOfTimesHeard_22 (by decide) ?_
      exact ih
  exact lp_1 0 (Nat.zero_le _)

set_option maxHeartbeats 4000000 in
set_option maxRecDepth 100000 in
theorem c_X0_pegsOtherThan (l : Launch) (G : gT) (a S a2 S2 : Nat → Nat) (hI : IV S) (hI2 : IV S2) : CM l G yX0_pegsOtherThan wsX0_pegsOtherThan 2 43 1 [.ref (a 0), .ref (a2 0)] [DW G a S, DW G a2 S2] 0 0 (fun v u => v = some (.int (nI (sm (fun k => cnt (S k ^^^ S2 k)) 32))) ∧ u = [DW G a S, DW G a2 S2]) := by
  refine CM_of RX0 1 20 rfl rfl (by decide) (by decide +kernel) (Nat.le_of_ble_eq_true rfl) (fun E A X hrt hnm => ?_)
  have F9 := Fld_of (idx := 9) 0 0 X (by decide) (by decide) (by decide +kernel) (by decide +kernel)
  generalize hQ : QM E G A _ _ _ = Q
  show V E G A 4 [DW G a S, DW G a2 S2] 0 0 Q 0 [(0, .ref (a 0)), (1, .ref (a2 0))] []
  refine V_iconst (pc' := 1) (nI 0) X dX0_pegsOtherThan_0 ki_0 rfl ?_
  refine V_istore_n (pc' := 2) [(0, .ref (a 0)), (1, .ref (a2 0)), (2, .int (nI 0))] [1, 2, 0] X dX0_pegsOtherThan_1 rfl (Nat.le_of_ble_eq_true rfl) rfl rfl ?_
  refine V_iconst (pc' := 3) (nI 0) X dX0_pegsOtherThan_2 ki_0 rfl ?_
  refine V_istore_n (pc' := 4) [(0, .ref (a 0)), (1, .ref (a2 0)), (2, .int (nI 0)), (3, .int (nI 0))] [1, 2, 3, 0] X dX0_pegsOtherThan_3 rfl (Nat.le_of_ble_eq_true rfl) rfl rfl ?_
  have lp_1 : ∀ i, i ≤ 32 → V E G A 4 [DW G a S, DW G a2 S2] 0 0 Q 4 [(0, .ref (a 0)), (1, .ref (a2 0)), (2, .int (nI (sm (fun k => cnt (S k ^^^ S2 k)) i))), (3, .int (nI i))] [] := by
    refine loopD 32 ?_ ?_
    · show V E G A 4 [DW G a S, DW G a2 S2] 0 0 Q 4 [(0, .ref (a 0)), (1, .ref (a2 0)), (2, .int (nI (sm (fun k => cnt (S k ^^^ S2 k)) 32))), (3, .int (nI 32))] []
      refine V_iload_n (pc' := 5) 3 X dX0_pegsOtherThan_4 rfl rfl rfl ?_
      refine V_bipush (pc' := 7) (nI 32) X dX0_pegsOtherThan_5 kb_32 rfl ?_
      refine V_icmp_ge (pc' := 10) (C := 32 ≤ 32) 35 X dX0_pegsOtherThan_7 (by decide) rfl (nI_leI (by omega) (by omega)) (fun _ => ?_) (fun hz => absurd (by omega) hz)
      refine V_iload_n (pc' := 36) 2 X dX0_pegsOtherThan_35 rfl rfl rfl ?_
      exact V_ireturn (v := nI (sm (fun k => cnt (S k ^^^ S2 k)) 32)) [DW G a S, DW G a2 S2] hQ X hrt rfl dX0_pegsOtherThan_36 (Nat.le_of_ble_eq_true rfl) (Nat.le_of_ble_eq_true rfl) (List.Perm.refl _) ⟨rfl, rfl⟩
    · intro i hi_i ih
      show V E G A 4 [DW G a S, DW G a2 S2] 0 0 Q 4 [(0, .ref (a 0)), (1, .ref (a2 0)), (2, .int (nI (sm (fun k => cnt (S k ^^^ S2 k)) i))), (3, .int (nI i))] []
      refine V_iload_n (pc' := 5) 3 X dX0_pegsOtherThan_4 rfl rfl rfl ?_
      refine V_bipush (pc' := 7) (nI 32) X dX0_pegsOtherThan_5 kb_32 rfl ?_
      refine V_icmp_ge (pc' := 10) (C := 32 ≤ i) 35 X dX0_pegsOtherThan_7 (by decide) rfl (nI_leI (by omega) (by omega)) (fun hz => absurd hz (by omega)) (fun _ => ?_)
      refine V_iload_n (pc' := 11) 2 X dX0_pegsOtherThan_10 rfl rfl rfl ?_
      refine V_aload_n (pc' := 12) 0 X dX0_pegsOtherThan_11 rfl rfl rfl ?_
      refine V_get (pc' := 15) 0 X F9 rfl rfl dX0_pegsOtherThan_12 rfl ?_
      refine V_iload_n (pc' := 16) 3 X dX0_pegsOtherThan_15 rfl rfl rfl ?_
      refine V_iald (pc' := 17) (v := nI (S i)) 1 i X rfl (by omega) (by decide) rfl dX0_pegsOtherThan_16 rfl ?_
      refine V_aload_n (pc' := 18) 1 X dX0_pegsOtherThan_17 rfl rfl rfl ?_
      refine V_get (pc' := 21) 7 X F9 rfl rfl dX0_pegsOtherThan_18 rfl ?_
      refine V_iload_n (pc' := 22) 3 X dX0_pegsOtherThan_21 rfl rfl rfl ?_
      refine V_iald (pc' := 23) (v := nI (S2 i)) 8 i X rfl (by omega) (by decide) rfl dX0_pegsOtherThan_22 rfl ?_
      refine V_ixor (pc' := 24) (nI ((S i) ^^^ (S2 i))) X dX0_pegsOtherThan_23 (z_xor _ _) rfl ?_
      refine V_callS (pc' := 27) (As := [.int (nI ((S i) ^^^ (S2 i)))]) (st := [.int (nI (sm (fun k => cnt (S k ^^^ S2 k)) i))]) [] [0, 1] (show (List.range 2).Perm ([] ++ [0, 1]) by decide) X (c_J6_bitCount_0f7a4 l G ((S i) ^^^ (S2 i)) (Nat.xor_lt_two_pow (n := 10) (hI.1 _ hi_i) (hI2.1 _ hi_i))) rfl gX0_pegsOtherThan_J6_bitCount_0f7a4 rfl rfl (Nat.le_of_ble_eq_true rfl) ⟨Nat.le_of_ble_eq_true rfl, Nat.le_of_ble_eq_true rfl⟩ ⟨Nat.le_of_ble_eq_true rfl, Nat.le_of_ble_eq_true rfl⟩ dX0_pegsOtherThan_24 rfl (fun v_ u_ hp_ => ?_)
      obtain ⟨rfl, rfl⟩ := hp_
      show V E G A 4 [DW G a S, DW G a2 S2] 0 0 Q 27 [(0, .ref (a 0)), (1, .ref (a2 0)), (2, .int (nI (sm (fun k => cnt (S k ^^^ S2 k)) i))), (3, .int (nI i))] [.int (nI (cnt ((S i) ^^^ (S2 i)))), .int (nI (sm (fun k => cnt (S k ^^^ S2 k)) i))]
      refine V_iadd (pc' := 28) (nI ((sm (fun k => cnt (S k ^^^ S2 k)) i) + (cnt ((S i) ^^^ (S2 i))))) X dX0_pegsOtherThan_27 (nI_add _ _) rfl ?_
      refine V_istore_n (pc' := 29) [(0, .ref (a 0)), (1, .ref (a2 0)), (2, .int (nI ((sm (fun k => cnt (S k ^^^ S2 k)) i) + (cnt ((S i) ^^^ (S2 i)))))), (3, .int (nI i))] [1, 2, 0, 3] X dX0_pegsOtherThan_28 rfl (Nat.le_of_ble_eq_true rfl) rfl rfl ?_
      refine V_iinc (pc' := 32) [(0, .ref (a 0)), (1, .ref (a2 0)), (2, .int (nI ((sm (fun k => cnt (S k ^^^ S2 k)) i) + (cnt ((S i) ^^^ (S2 i)))))), (3, .int (nI (i + 1)))] 3 [1, 2, 3, 0] X dX0_pegsOtherThan_29 rfl (nI_i1 _) (Nat.le_of_ble_eq_true rfl) rfl rfl ?_
      refine V_goto (pc' := 4) X dX0_pegsOtherThan_32 (by decide) ?_
      exact ih
  exact lp_1 0 (Nat.zero_le _)

set_option maxHeartbeats 4000000 in
set_option maxRecDepth 100000 in
theorem c_X0_weightOfAll (l : Launch) (G : gT) (a S : Nat → Nat) (p : Nat) (hp : p < 1024) : CM l G yX0_weightOfAll wsX0_weightOfAll 2 44 1 [.ref (a 0), .int (nI p)] [DW G a S] 0 0 (fun v u => v = some (.int (nI (wIn (fun k => S (36 + k)) p))) ∧ u = [DW G a S]) := by
  refine CM_of RX0 1 21 rfl rfl (by decide) (by decide +kernel) (Nat.le_of_ble_eq_true rfl) (fun E A X hrt hnm => ?_)
  have F18 := Fld_of (idx := 18) 0 2 X (by decide) (by decide) (by decide +kernel) (by decide +kernel)
  generalize hQ : QM E G A _ _ _ = Q
  show V E G A 4 [DW G a S] 0 0 Q 0 [(0, .ref (a 0)), (1, .int (nI p))] []
  refine V_iconst (pc' := 1) (nI 0) X dX0_weightOfAll_0 ki_0 rfl ?_
  refine V_istore_n (pc' := 2) [(0, .ref (a 0)), (1, .int (nI p)), (2, .int (nI 0))] [1, 2, 0] X dX0_weightOfAll_1 rfl (Nat.le_of_ble_eq_true rfl) rfl rfl ?_
  refine V_iconst (pc' := 3) (nI 0) X dX0_weightOfAll_2 ki_0 rfl ?_
  refine V_istore_n (pc' := 4) [(0, .ref (a 0)), (1, .int (nI p)), (2, .int (nI 0)), (3, .int (nI 0))] [1, 2, 3, 0] X dX0_weightOfAll_3 rfl (Nat.le_of_ble_eq_true rfl) rfl rfl ?_
  have lp_1 : ∀ i, i ≤ 10 → V E G A 4 [DW G a S] 0 0 Q 4 [(0, .ref (a 0)), (1, .int (nI p)), (2, .int (nI (sm (fun k => bq p k * S (36 + k)) i))), (3, .int (nI i))] [] := by
    refine loopD 10 ?_ ?_
    · show V E G A 4 [DW G a S] 0 0 Q 4 [(0, .ref (a 0)), (1, .int (nI p)), (2, .int (nI (sm (fun k => bq p k * S (36 + k)) 10))), (3, .int (nI 10))] []
      refine V_iload_n (pc' := 5) 3 X dX0_weightOfAll_4 rfl rfl rfl ?_
      refine V_bipush (pc' := 7) (nI 10) X dX0_weightOfAll_5 kb_10 rfl ?_
      refine V_icmp_ge (pc' := 10) (C := 10 ≤ 10) 33 X dX0_weightOfAll_7 (by decide) rfl (nI_leI (by omega) (by omega)) (fun _ => ?_) (fun hz => absurd (by omega) hz)
      refine V_iload_n (pc' := 34) 2 X dX0_weightOfAll_33 rfl rfl rfl ?_
      exact V_ireturn (v := nI (sm (fun k => bq p k * S (36 + k)) 10)) [DW G a S] hQ X hrt rfl dX0_weightOfAll_34 (Nat.le_of_ble_eq_true rfl) (Nat.le_of_ble_eq_true rfl) (List.Perm.refl _) ⟨rfl, rfl⟩
    · intro i hi_i ih
      show V E G A 4 [DW G a S] 0 0 Q 4 [(0, .ref (a 0)), (1, .int (nI p)), (2, .int (nI (sm (fun k => bq p k * S (36 + k)) i))), (3, .int (nI i))] []
      refine V_iload_n (pc' := 5) 3 X dX0_weightOfAll_4 rfl rfl rfl ?_
      refine V_bipush (pc' := 7) (nI 10) X dX0_weightOfAll_5 kb_10 rfl ?_
      refine V_icmp_ge (pc' := 10) (C := 10 ≤ i) 33 X dX0_weightOfAll_7 (by decide) rfl (nI_leI (by omega) (by omega)) (fun hz => absurd hz (by omega)) (fun _ => ?_)
      refine V_iload_n (pc' := 11) 1 X dX0_weightOfAll_10 rfl rfl rfl ?_
      refine V_iload_n (pc' := 12) 3 X dX0_weightOfAll_11 rfl rfl rfl ?_
      refine V_callSN (host := RX5) (pc' := 15) (As := [.int (nI p), .int (nI i)]) (st := []) [] [0] (show (List.range 1).Perm ([] ++ [0]) by decide) X (c_X5_holds l G p i (by omega) (by omega)) rfl gX0_weightOfAll_X5_holds_n87 X.2.1.2.2.2.2.1.2.2.1 (by decide +kernel) (by decide +kernel) rfl rfl (Nat.le_of_ble_eq_true rfl) ⟨Nat.le_of_ble_eq_true rfl, Nat.le_of_ble_eq_true rfl⟩ ⟨Nat.le_of_ble_eq_true rfl, Nat.le_of_ble_eq_true rfl⟩ dX0_weightOfAll_12 rfl (fun v_ u_ hp_ => ?_)
      obtain ⟨rfl, rfl⟩ := hp_
      show V E G A 4 [DW G a S] 0 0 Q 15 [(0, .ref (a 0)), (1, .int (nI p)), (2, .int (nI (sm (fun k => bq p k * S (36 + k)) i))), (3, .int (nI i))] [.int (nI (bq p i))]
      refine V_if_eq (pc' := 18) (C := (bq p i) = 0) 27 X dX0_weightOfAll_15 (by decide) rfl (z_eq0 (Nat.lt_trans (bq_lt _ _) (by decide))) (fun h15 => ?_) (fun h15 => ?_)
      · refine V_iinc (pc' := 30) [(0, .ref (a 0)), (1, .int (nI p)), (2, .int (nI (sm (fun k => bq p k * S (36 + k)) i))), (3, .int (nI (i + 1)))] 3 [1, 2, 3, 0] X dX0_weightOfAll_27 rfl (nI_i1 _) (Nat.le_of_ble_eq_true rfl) rfl rfl ?_
        refine V_goto (pc' := 4) X dX0_weightOfAll_30 (by decide) ?_
        rw [sm_succ, show bq p i = 0 from h15, Nat.zero_mul] at ih
        exact ih
      · refine V_iload_n (pc' := 19) 2 X dX0_weightOfAll_18 rfl rfl rfl ?_
        refine V_aload_n (pc' := 20) 0 X dX0_weightOfAll_19 rfl rfl rfl ?_
        refine V_get (pc' := 23) 0 X F18 rfl rfl dX0_weightOfAll_20 rfl ?_
        refine V_iload_n (pc' := 24) 3 X dX0_weightOfAll_23 rfl rfl rfl ?_
        refine V_iald (pc' := 25) (v := nI (S (36 + i))) 3 i X rfl (by omega) (by decide) rfl dX0_weightOfAll_24 rfl ?_
        refine V_iadd (pc' := 26) (nI ((sm (fun k => bq p k * S (36 + k)) i) + (S (36 + i)))) X dX0_weightOfAll_25 (nI_add _ _) rfl ?_
        refine V_istore_n (pc' := 27) [(0, .ref (a 0)), (1, .int (nI p)), (2, .int (nI ((sm (fun k => bq p k * S (36 + k)) i) + (S (36 + i))))), (3, .int (nI i))] [1, 2, 0, 3] X dX0_weightOfAll_26 rfl (Nat.le_of_ble_eq_true rfl) rfl rfl ?_
        refine V_iinc (pc' := 30) [(0, .ref (a 0)), (1, .int (nI p)), (2, .int (nI ((sm (fun k => bq p k * S (36 + k)) i) + (S (36 + i))))), (3, .int (nI (i + 1)))] 3 [1, 2, 3, 0] X dX0_weightOfAll_27 rfl (nI_i1 _) (Nat.le_of_ble_eq_true rfl) rfl rfl ?_
        refine V_goto (pc' := 4) X dX0_weightOfAll_30 (by decide) ?_
        rw [sm_succ, show bq p i = 1 by have := bq_lt p i; omega, Nat.one_mul] at ih
        exact ih
  exact lp_1 0 (Nat.zero_le _)

set_option maxHeartbeats 4000000 in
set_option maxRecDepth 100000 in
theorem c_X0_heardAtHand (l : Launch) (G : gT) (a S : Nat → Nat) (hI : IV S) : CM l G yX0_heardAtHand wsX0_heardAtHand 3 69 0 [.ref (a 0)] [DW G a S] 0 0 (fun v u => v = some (.int (nI (hs S))) ∧ u = [DW G a S]) := by
  refine CM_of RX0 2 49 rfl rfl (by decide) (by decide +kernel) (Nat.le_of_ble_eq_true rfl) (fun E A X hrt hnm => ?_)
  have F9 := Fld_of (idx := 9) 0 0 X (by decide) (by decide) (by decide +kernel) (by decide +kernel)
  have F18 := Fld_of (idx := 18) 0 2 X (by decide) (by decide) (by decide +kernel) (by decide +kernel)
  have F27 := Fld_of (idx := 27) 0 4 X (by decide) (by decide) (by decide +kernel) (by decide +kernel)
  have F31 := Fld_of (idx := 31) 0 5 X (by decide) (by decide) (by decide +kernel) (by decide +kernel)
  have F35 := Fld_of (idx := 35) 0 6 X (by decide) (by decide) (by decide +kernel) (by decide +kernel)
  generalize hQ : QM E G A _ _ _ = Q
  obtain ⟨i1, i2, i3, i4, i5, i6⟩ := id hI
  show V E G A 1 [DW G a S] 0 0 Q 0 [(0, .ref (a 0))] []
  refine V_aload_n (pc' := 1) 0 X dX0_heardAtHand_0 rfl rfl rfl ?_
  refine V_get (pc' := 4) 0 X F27 rfl rfl dX0_heardAtHand_1 rfl ?_
  refine V_aload_n (pc' := 5) 0 X dX0_heardAtHand_4 rfl rfl rfl ?_
  refine V_get (pc' := 8) 0 X F9 rfl rfl dX0_heardAtHand_5 rfl ?_
  refine V_aload_n (pc' := 9) 0 X dX0_heardAtHand_8 rfl rfl rfl ?_
  refine V_get (pc' := 12) 0 X F35 rfl rfl dX0_heardAtHand_9 rfl ?_
  refine V_iald (pc' := 13) (v := nI (S (S 47))) 1 (S 47) X rfl (by omega) (by decide) rfl dX0_heardAtHand_12 rfl ?_
  refine V_aload_n (pc' := 14) 0 X dX0_heardAtHand_13 rfl rfl rfl ?_
  refine V_get (pc' := 17) 0 X F18 rfl rfl dX0_heardAtHand_14 rfl ?_
  refine V_aload_n (pc' := 18) 0 X dX0_heardAtHand_17 rfl rfl rfl ?_
  refine V_get (pc' := 21) 0 X F31 rfl rfl dX0_heardAtHand_18 rfl ?_
  refine V_ws [[((a 0), .inr (0, [.ref (a 1), .ref (a 2), .ref (a 3), .ref (a 4), .ref (a 5), .int (nI (S 46)), .int (nI (S 47)), .int (nI (S 48)), .int (nI (S 70)), .int (nI (S 59))]))], [((a 1), .inl (G.2 0, 32, .inl (nf S)))], [((a 2), .inl (G.2 0, 4, .inl (nf (fun k => S (32 + k)))))], [((a 3), .inl (G.2 0, 10, .inl (nf (fun k => S (36 + k)))))], [((a 4), .inl (G.2 0, 10, .inl (nf (fun k => S (49 + k)))))], HM G (a 5) (a 6) (fun k => S (60 + k))] rfl ?_
  refine V_callV (pc' := 24) (As := [.int (nI (S (S 47))), .ref (a 3), .int (nI (S 46))]) (st := []) 1 5 [5, 3] [0, 1, 2, 4] (show (List.range 6).Perm ([5, 3] ++ [0, 1, 2, 4]) by decide) X (c_X1_heardOutOf l G (a 5) (a 6) (S (S 47)) (a 3) (S 46) (fun k => S (60 + k)) (fun k => S (36 + k)) (i1 _ i5) i6 i3 (by omega)) rfl gX0_heardAtHand_X1_heardOutOf rfl (by decide) rfl rfl rfl (Nat.le_of_ble_eq_true rfl) ⟨Nat.le_of_ble_eq_true rfl, Nat.le_of_ble_eq_true rfl⟩ ⟨Nat.le_of_ble_eq_true rfl, Nat.le_of_ble_eq_true rfl⟩ dX0_heardAtHand_21 rfl (fun v_ u_ hp_ => ?_)
  obtain ⟨rfl, rfl⟩ := hp_
  show V E G A 1 [[((a 0), .inr (0, [.ref (a 1), .ref (a 2), .ref (a 3), .ref (a 4), .ref (a 5), .int (nI (S 46)), .int (nI (S 47)), .int (nI (S 48)), .int (nI (S 70)), .int (nI (S 59))]))], [((a 1), .inl (G.2 0, 32, .inl (nf S)))], [((a 2), .inl (G.2 0, 4, .inl (nf (fun k => S (32 + k)))))], [((a 4), .inl (G.2 0, 10, .inl (nf (fun k => S (49 + k)))))], HM G (a 5) (a 6) (fun k => S (60 + k)), [((a 3), .inl (G.2 0, 10, .inl (nf (fun k => S (36 + k)))))]] 0 0 Q 24 [(0, .ref (a 0))] [.int (nI (hs S))]
  refine V_ord [0, 1, 2, 5, 3, 4] [[((a 0), .inr (0, [.ref (a 1), .ref (a 2), .ref (a 3), .ref (a 4), .ref (a 5), .int (nI (S 46)), .int (nI (S 47)), .int (nI (S 48)), .int (nI (S 70)), .int (nI (S 59))]))], [((a 1), .inl (G.2 0, 32, .inl (nf S)))], [((a 2), .inl (G.2 0, 4, .inl (nf (fun k => S (32 + k)))))], [((a 3), .inl (G.2 0, 10, .inl (nf (fun k => S (36 + k)))))], [((a 4), .inl (G.2 0, 10, .inl (nf (fun k => S (49 + k)))))], HM G (a 5) (a 6) (fun k => S (60 + k))] (show (List.range 6).Perm [0, 1, 2, 5, 3, 4] by decide) rfl ?_
  refine V_ws [DW G a S] rfl ?_
  exact V_ireturn (v := nI (hs S)) [DW G a S] hQ X hrt rfl dX0_heardAtHand_24 (Nat.le_of_ble_eq_true rfl) (Nat.le_of_ble_eq_true rfl) (List.Perm.refl _) ⟨rfl, rfl⟩

set_option maxHeartbeats 4000000 in
set_option maxRecDepth 100000 in
theorem c_X0_countHeard (l : Launch) (G : gT) (d p1 t1 w1 th h1 b1 x1 k1 n m p : Nat) (f : Nat → Nat) (hp : p < 1024) : CM l G yX0_countHeard wsX0_countHeard 2 43 1 [.ref d, .int (nI p)] [[(d, .inr (0, [.ref p1, .ref t1, .ref w1, .ref th, .ref h1, .int (nI b1), .int (nI x1), .int (nI k1), .int (nI n), .int (nI m)]))], [(th, .inl (G.2 0, 10, .inl (nf f)))]] 0 0 (fun v u => v = none ∧ u = [[(d, .inr (0, [.ref p1, .ref t1, .ref w1, .ref th, .ref h1, .int (nI b1), .int (nI x1), .int (nI k1), .int (nI (n + cnt p)), .int (nI m)]))], [(th, .inl (G.2 0, 10, .inl (nf (fun k => f k + bq p k))))]]) := by
  refine CM_of RX0 1 21 rfl rfl (by decide) (by decide +kernel) (Nat.le_of_ble_eq_true rfl) (fun E A X hrt hnm => ?_)
  have F21 := Fld_of (idx := 21) 0 3 X (by decide) (by decide) (by decide +kernel) (by decide +kernel)
  have F41 := Fld_of (idx := 41) 0 8 X (by decide) (by decide) (by decide +kernel) (by decide +kernel)
  generalize hQ : QM E G A _ _ _ = Q
  show V E G A 3 [[(d, .inr (0, [.ref p1, .ref t1, .ref w1, .ref th, .ref h1, .int (nI b1), .int (nI x1), .int (nI k1), .int (nI n), .int (nI m)]))], [(th, .inl (G.2 0, 10, .inl (nf f)))]] 0 0 Q 0 [(0, .ref d), (1, .int (nI p))] []
  refine V_aload_n (pc' := 1) 0 X dX0_countHeard_0 rfl rfl rfl ?_
  refine V_dup (pc' := 2) X dX0_countHeard_1 rfl rfl ?_
  refine V_get (pc' := 5) 0 X F41 rfl rfl dX0_countHeard_2 rfl ?_
  refine V_iload_n (pc' := 6) 1 X dX0_countHeard_5 rfl rfl rfl ?_
  refine V_callS (pc' := 9) (As := [.int (nI p)]) (st := [.int (nI n), .ref d]) [] [0, 1] (show (List.range 2).Perm ([] ++ [0, 1]) by decide) X (c_J6_bitCount_0f7a4 l G p (by omega)) rfl gX0_countHeard_J6_bitCount_0f7a4 rfl rfl (Nat.le_of_ble_eq_true rfl) ⟨Nat.le_of_ble_eq_true rfl, Nat.le_of_ble_eq_true rfl⟩ ⟨Nat.le_of_ble_eq_true rfl, Nat.le_of_ble_eq_true rfl⟩ dX0_countHeard_6 rfl (fun v_ u_ hp_ => ?_)
  obtain ⟨rfl, rfl⟩ := hp_
  show V E G A 3 [[(d, .inr (0, [.ref p1, .ref t1, .ref w1, .ref th, .ref h1, .int (nI b1), .int (nI x1), .int (nI k1), .int (nI n), .int (nI m)]))], [(th, .inl (G.2 0, 10, .inl (nf f)))]] 0 0 Q 9 [(0, .ref d), (1, .int (nI p))] [.int (nI (cnt p)), .int (nI n), .ref d]
  refine V_iadd (pc' := 10) (nI (n + (cnt p))) X dX0_countHeard_9 (nI_add _ _) rfl ?_
  refine V_put (pc' := 13) 0 [[(d, .inr (0, [.ref p1, .ref t1, .ref w1, .ref th, .ref h1, .int (nI b1), .int (nI x1), .int (nI k1), .int (nI (n + (cnt p))), .int (nI m)]))], [(th, .inl (G.2 0, 10, .inl (nf f)))]] X F41 rfl rfl rfl rfl (Nat.le_of_ble_eq_true rfl) rfl dX0_countHeard_10 rfl ?_
  refine V_iconst (pc' := 14) (nI 0) X dX0_countHeard_13 ki_0 rfl ?_
  refine V_istore_n (pc' := 15) [(0, .ref d), (1, .int (nI p)), (2, .int (nI 0))] [1, 2, 0] X dX0_countHeard_14 rfl (Nat.le_of_ble_eq_true rfl) rfl rfl ?_
  have lp_1 : ∀ i, i ≤ 10 → V E G A 3 [[(d, .inr (0, [.ref p1, .ref t1, .ref w1, .ref th, .ref h1, .int (nI b1), .int (nI x1), .int (nI k1), .int (nI (n + (cnt p))), .int (nI m)]))], [(th, .inl (G.2 0, 10, .inl (nf (upN f (fun k => f k + bq p k) i))))]] 0 0 Q 15 [(0, .ref d), (1, .int (nI p)), (2, .int (nI i))] [] := by
    refine loopD 10 ?_ ?_
    · show V E G A 3 [[(d, .inr (0, [.ref p1, .ref t1, .ref w1, .ref th, .ref h1, .int (nI b1), .int (nI x1), .int (nI k1), .int (nI (n + (cnt p))), .int (nI m)]))], [(th, .inl (G.2 0, 10, .inl (nf (upN f (fun k => f k + bq p k) 10))))]] 0 0 Q 15 [(0, .ref d), (1, .int (nI p)), (2, .int (nI 10))] []
      refine V_iload_n (pc' := 16) 2 X dX0_countHeard_15 rfl rfl rfl ?_
      refine V_bipush (pc' := 18) (nI 10) X dX0_countHeard_16 kb_10 rfl ?_
      refine V_icmp_ge (pc' := 21) (C := 10 ≤ 10) 45 X dX0_countHeard_18 (by decide) rfl (nI_leI (by omega) (by omega)) (fun _ => ?_) (fun hz => absurd (by omega) hz)
      refine V_wsq [[(d, .inr (0, [.ref p1, .ref t1, .ref w1, .ref th, .ref h1, .int (nI b1), .int (nI x1), .int (nI k1), .int (nI (n + (cnt p))), .int (nI m)]))], [(th, .inl (G.2 0, 10, .inl (nf (fun k => f k + bq p k))))]] (wsq.cons (weq.rf _) (wsq.cons (weq.row (fun k hk => by show nI _ = nI _; rw [upN_in hk])) (wsq.rf _))) ?_
      exact V_return [[(d, .inr (0, [.ref p1, .ref t1, .ref w1, .ref th, .ref h1, .int (nI b1), .int (nI x1), .int (nI k1), .int (nI (n + (cnt p))), .int (nI m)]))], [(th, .inl (G.2 0, 10, .inl (nf (fun k => f k + bq p k))))]] hQ X hrt dX0_countHeard_45 (Nat.le_of_ble_eq_true rfl) (Nat.le_of_ble_eq_true rfl) (List.Perm.refl _) ⟨rfl, rfl⟩
    · intro i hi_i ih
      show V E G A 3 [[(d, .inr (0, [.ref p1, .ref t1, .ref w1, .ref th, .ref h1, .int (nI b1), .int (nI x1), .int (nI k1), .int (nI (n + (cnt p))), .int (nI m)]))], [(th, .inl (G.2 0, 10, .inl (nf (upN f (fun k => f k + bq p k) i))))]] 0 0 Q 15 [(0, .ref d), (1, .int (nI p)), (2, .int (nI i))] []
      refine V_iload_n (pc' := 16) 2 X dX0_countHeard_15 rfl rfl rfl ?_
      refine V_bipush (pc' := 18) (nI 10) X dX0_countHeard_16 kb_10 rfl ?_
      refine V_icmp_ge (pc' := 21) (C := 10 ≤ i) 45 X dX0_countHeard_18 (by decide) rfl (nI_leI (by omega) (by omega)) (fun hz => absurd hz (by omega)) (fun _ => ?_)
      refine V_iload_n (pc' := 22) 1 X dX0_countHeard_21 rfl rfl rfl ?_
      refine V_iload_n (pc' := 23) 2 X dX0_countHeard_22 rfl rfl rfl ?_
      refine V_callSN (host := RX5) (pc' := 26) (As := [.int (nI p), .int (nI i)]) (st := []) [] [0, 1] (show (List.range 2).Perm ([] ++ [0, 1]) by decide) X (c_X5_holds l G p i (by omega) (by omega)) rfl gX0_countHeard_X5_holds_n87 X.2.1.2.2.2.2.1.2.2.1 (by decide +kernel) (by decide +kernel) rfl rfl (Nat.le_of_ble_eq_true rfl) ⟨Nat.le_of_ble_eq_true rfl, Nat.le_of_ble_eq_true rfl⟩ ⟨Nat.le_of_ble_eq_true rfl, Nat.le_of_ble_eq_true rfl⟩ dX0_countHeard_23 rfl (fun v_ u_ hp_ => ?_)
      obtain ⟨rfl, rfl⟩ := hp_
      show V E G A 3 [[(d, .inr (0, [.ref p1, .ref t1, .ref w1, .ref th, .ref h1, .int (nI b1), .int (nI x1), .int (nI k1), .int (nI (n + (cnt p))), .int (nI m)]))], [(th, .inl (G.2 0, 10, .inl (nf (upN f (fun k => f k + bq p k) i))))]] 0 0 Q 26 [(0, .ref d), (1, .int (nI p)), (2, .int (nI i))] [.int (nI (bq p i))]
      refine V_if_eq (pc' := 29) (C := (bq p i) = 0) 39 X dX0_countHeard_26 (by decide) rfl (z_eq0 (Nat.lt_trans (bq_lt _ _) (by decide))) (fun h26 => ?_) (fun h26 => ?_)
      · refine V_iinc (pc' := 42) [(0, .ref d), (1, .int (nI p)), (2, .int (nI (i + 1)))] 2 [1, 2, 0] X dX0_countHeard_39 rfl (nI_i1 _) (Nat.le_of_ble_eq_true rfl) rfl rfl ?_
        refine V_goto (pc' := 15) X dX0_countHeard_42 (by decide) ?_
        rw [upN_succ, show f i + bq p i = f i by omega, va_up_id (upN_out (Nat.le_refl _))] at ih
        exact ih
      · refine V_aload_n (pc' := 30) 0 X dX0_countHeard_29 rfl rfl rfl ?_
        refine V_get (pc' := 33) 0 X F21 rfl rfl dX0_countHeard_30 rfl ?_
        refine V_iload_n (pc' := 34) 2 X dX0_countHeard_33 rfl rfl rfl ?_
        refine V_dup2 (pc' := 35) X dX0_countHeard_34 rfl rfl rfl ?_
        refine V_iald (pc' := 36) (v := nI (f i)) 1 i X rfl (by omega) (by decide) (by show nI (upN f (fun k => f k + bq p k) i i) = nI (f i); rw [upN_out (Nat.le_refl _)]) dX0_countHeard_35 rfl ?_
        refine V_iconst (pc' := 37) (nI 1) X dX0_countHeard_36 ki_1 rfl ?_
        refine V_iadd (pc' := 38) (nI ((f i) + 1)) X dX0_countHeard_37 (nI_add _ _) rfl ?_
        refine V_iast (pc' := 39) 1 i [[(d, .inr (0, [.ref p1, .ref t1, .ref w1, .ref th, .ref h1, .int (nI b1), .int (nI x1), .int (nI k1), .int (nI (n + (cnt p))), .int (nI m)]))], [(th, .inl (G.2 0, 10, .inl (upd (nf (upN f (fun k => f k + bq p k) i)) i (nI ((f i) + 1)))))]] X rfl (by omega) (by decide) rfl dX0_countHeard_38 rfl ?_
        refine V_ws [[(d, .inr (0, [.ref p1, .ref t1, .ref w1, .ref th, .ref h1, .int (nI b1), .int (nI x1), .int (nI k1), .int (nI (n + (cnt p))), .int (nI m)]))], [(th, .inl (G.2 0, 10, .inl (nf (va_up (upN f (fun k => f k + bq p k) i) i ((f i) + 1)))))]] (by simp only [nf_upd]) ?_
        refine V_iinc (pc' := 42) [(0, .ref d), (1, .int (nI p)), (2, .int (nI (i + 1)))] 2 [1, 2, 0] X dX0_countHeard_39 rfl (nI_i1 _) (Nat.le_of_ble_eq_true rfl) rfl rfl ?_
        refine V_goto (pc' := 15) X dX0_countHeard_42 (by decide) ?_
        rw [upN_succ, show f i + bq p i = f i + 1 by have := bq_lt p i; omega] at ih
        exact ih
  exact lp_1 0 (Nat.zero_le _)

set_option maxHeartbeats 4000000 in
set_option maxRecDepth 100000 in
theorem c_X0_strikeAtHand (l : Launch) (G : gT) (a S : Nat → Nat) (hI : IV S) : CM l G yX0_strikeAtHand wsX0_strikeAtHand 4 90 0 [.ref (a 0)] [DW G a S] 0 0 (fun v u => v = none ∧ u = [DW G a (stk 3 S)]) := by
  refine CM_of RX0 3 69 rfl rfl (by decide) (by decide +kernel) (Nat.le_of_ble_eq_true rfl) (fun E A X hrt hnm => ?_)
  have F9 := Fld_of (idx := 9) 0 0 X (by decide) (by decide) (by decide +kernel) (by decide +kernel)
  have F15 := Fld_of (idx := 15) 0 1 X (by decide) (by decide) (by decide +kernel) (by decide +kernel)
  have F27 := Fld_of (idx := 27) 0 4 X (by decide) (by decide) (by decide +kernel) (by decide +kernel)
  have F35 := Fld_of (idx := 35) 0 6 X (by decide) (by decide) (by decide +kernel) (by decide +kernel)
  have F38 := Fld_of (idx := 38) 0 7 X (by decide) (by decide) (by decide +kernel) (by decide +kernel)
  have F44 := Fld_of (idx := 44) 0 9 X (by decide) (by decide) (by decide +kernel) (by decide +kernel)
  generalize hQ : QM E G A _ _ _ = Q
  obtain ⟨i1, i2, i3, i4, i5, i6⟩ := id hI
  have hlt := hs_lt S
  have i11 := i1 _ i5
  have i22 := i2 (S 47 / 8) (by omega)
  show V E G A 2 [DW G a S] 0 0 Q 0 [(0, .ref (a 0))] []
  refine V_aload_n (pc' := 1) 0 X dX0_strikeAtHand_0 rfl rfl rfl ?_
  refine V_callV (pc' := 4) (As := []) (st := []) 0 0 [0] [] (show (List.range 1).Perm ([0] ++ []) by decide) X (c_X0_heardAtHand l G a S (by assumption)) rfl gX0_strikeAtHand_X0_heardAtHand rfl (by decide) rfl rfl rfl (Nat.le_of_ble_eq_true rfl) ⟨Nat.le_of_ble_eq_true rfl, Nat.le_of_ble_eq_true rfl⟩ ⟨Nat.le_of_ble_eq_true rfl, Nat.le_of_ble_eq_true rfl⟩ dX0_strikeAtHand_1 rfl (fun v_ u_ hp_ => ?_)
  obtain ⟨rfl, rfl⟩ := hp_
  show V E G A 2 [DW G a S] 0 0 Q 4 [(0, .ref (a 0))] [.int (nI (hs S))]
  refine V_istore_n (pc' := 5) [(0, .ref (a 0)), (1, .int (nI (hs S)))] [1, 0] X dX0_strikeAtHand_4 rfl (Nat.le_of_ble_eq_true rfl) rfl rfl ?_
  refine V_ws [[((a 0), .inr (0, [.ref (a 1), .ref (a 2), .ref (a 3), .ref (a 4), .ref (a 5), .int (nI (S 46)), .int (nI (S 47)), .int (nI (S 48)), .int (nI (S 70)), .int (nI (S 59))]))], [((a 1), .inl (G.2 0, 32, .inl (nf S)))], [((a 2), .inl (G.2 0, 4, .inl (nf (fun k => S (32 + k)))))], [((a 3), .inl (G.2 0, 10, .inl (nf (fun k => S (36 + k)))))], [((a 4), .inl (G.2 0, 10, .inl (nf (fun k => S (49 + k)))))], HM G (a 5) (a 6) (fun k => S (60 + k))] rfl ?_
  refine V_aload_n (pc' := 6) 0 X dX0_strikeAtHand_5 rfl rfl rfl ?_
  refine V_get (pc' := 9) 0 X F27 rfl rfl dX0_strikeAtHand_6 rfl ?_
  refine V_iload_n (pc' := 10) 1 X dX0_strikeAtHand_9 rfl rfl rfl ?_
  refine V_callV (pc' := 13) (As := [.int (nI (hs S))]) (st := []) 1 5 [5] [0, 1, 2, 3, 4] (show (List.range 6).Perm ([5] ++ [0, 1, 2, 3, 4]) by decide) X (c_X1_swing l G (a 5) (a 6) (hs S) (fun k => S (60 + k)) hlt i6) rfl gX0_strikeAtHand_X1_swing rfl (by decide) rfl rfl rfl (Nat.le_of_ble_eq_true rfl) ⟨Nat.le_of_ble_eq_true rfl, Nat.le_of_ble_eq_true rfl⟩ ⟨Nat.le_of_ble_eq_true rfl, Nat.le_of_ble_eq_true rfl⟩ dX0_strikeAtHand_10 rfl (fun v_ u_ hp_ => ?_)
  obtain ⟨rfl, rfl⟩ := hp_
  show V E G A 2 [[((a 0), .inr (0, [.ref (a 1), .ref (a 2), .ref (a 3), .ref (a 4), .ref (a 5), .int (nI (S 46)), .int (nI (S 47)), .int (nI (S 48)), .int (nI (S 70)), .int (nI (S 59))]))], [((a 1), .inl (G.2 0, 32, .inl (nf S)))], [((a 2), .inl (G.2 0, 4, .inl (nf (fun k => S (32 + k)))))], [((a 3), .inl (G.2 0, 10, .inl (nf (fun k => S (36 + k)))))], [((a 4), .inl (G.2 0, 10, .inl (nf (fun k => S (49 + k)))))], HM G (a 5) (a 6) (swg 3 (fun k => S (60 + k)) (hs S))] 0 0 Q 13 [(0, .ref (a 0)), (1, .int (nI (hs S)))] []
  refine V_aload_n (pc' := 14) 0 X dX0_strikeAtHand_13 rfl rfl rfl ?_
  refine V_iload_n (pc' := 15) 1 X dX0_strikeAtHand_14 rfl rfl rfl ?_
  refine V_callV (pc' := 18) (As := [.int (nI (hs S))]) (st := []) 0 0 [0, 4] [1, 2, 3, 5] (show (List.range 6).Perm ([0, 4] ++ [1, 2, 3, 5]) by decide) X (c_X0_countHeard l G (a 0) (a 1) (a 2) (a 3) (a 4) (a 5) (S 46) (S 47) (S 48) (S 70) (S 59) (hs S) (fun k => S (49 + k)) hlt) rfl gX0_strikeAtHand_X0_countHeard rfl (by decide) rfl rfl rfl (Nat.le_of_ble_eq_true rfl) ⟨Nat.le_of_ble_eq_true rfl, Nat.le_of_ble_eq_true rfl⟩ ⟨Nat.le_of_ble_eq_true rfl, Nat.le_of_ble_eq_true rfl⟩ dX0_strikeAtHand_15 rfl (fun v_ u_ hp_ => ?_)
  obtain ⟨rfl, rfl⟩ := hp_
  show V E G A 2 [[((a 1), .inl (G.2 0, 32, .inl (nf S)))], [((a 2), .inl (G.2 0, 4, .inl (nf (fun k => S (32 + k)))))], [((a 3), .inl (G.2 0, 10, .inl (nf (fun k => S (36 + k)))))], HM G (a 5) (a 6) (swg 3 (fun k => S (60 + k)) (hs S)), [((a 0), .inr (0, [.ref (a 1), .ref (a 2), .ref (a 3), .ref (a 4), .ref (a 5), .int (nI (S 46)), .int (nI (S 47)), .int (nI (S 48)), .int (nI (S 70 + cnt (hs S))), .int (nI (S 59))]))], [((a 4), .inl (G.2 0, 10, .inl (nf (fun k => S (49 + k) + bq (hs S) k))))]] 0 0 Q 18 [(0, .ref (a 0)), (1, .int (nI (hs S)))] []
  refine V_ord [4, 0, 1, 2, 5, 3] [[((a 0), .inr (0, [.ref (a 1), .ref (a 2), .ref (a 3), .ref (a 4), .ref (a 5), .int (nI (S 46)), .int (nI (S 47)), .int (nI (S 48)), .int (nI (S 70 + cnt (hs S))), .int (nI (S 59))]))], [((a 1), .inl (G.2 0, 32, .inl (nf S)))], [((a 2), .inl (G.2 0, 4, .inl (nf (fun k => S (32 + k)))))], [((a 3), .inl (G.2 0, 10, .inl (nf (fun k => S (36 + k)))))], [((a 4), .inl (G.2 0, 10, .inl (nf (fun k => S (49 + k) + bq (hs S) k))))], HM G (a 5) (a 6) (swg 3 (fun k => S (60 + k)) (hs S))] (show (List.range 6).Perm [4, 0, 1, 2, 5, 3] by decide) rfl ?_
  refine V_aload_n (pc' := 19) 0 X dX0_strikeAtHand_18 rfl rfl rfl ?_
  refine V_dup (pc' := 20) X dX0_strikeAtHand_19 rfl rfl ?_
  refine V_get (pc' := 23) 0 X F44 rfl rfl dX0_strikeAtHand_20 rfl ?_
  refine V_aload_n (pc' := 24) 0 X dX0_strikeAtHand_23 rfl rfl rfl ?_
  refine V_get (pc' := 27) 0 X F9 rfl rfl dX0_strikeAtHand_24 rfl ?_
  refine V_aload_n (pc' := 28) 0 X dX0_strikeAtHand_27 rfl rfl rfl ?_
  refine V_get (pc' := 31) 0 X F35 rfl rfl dX0_strikeAtHand_28 rfl ?_
  refine V_iald (pc' := 32) (v := nI (S (S 47))) 1 (S 47) X rfl (by omega) (by decide) rfl dX0_strikeAtHand_31 rfl ?_
  refine V_iload_n (pc' := 33) 1 X dX0_strikeAtHand_32 rfl rfl rfl ?_
  refine V_iconst (pc' := 34) (-1) X dX0_strikeAtHand_33 rfl rfl ?_
  refine V_ixor (pc' := 35) (((nI (hs S)) ^^^ (-1))) X dX0_strikeAtHand_34 rfl rfl ?_
  refine V_iand (pc' := 36) (nI ((S (S 47)) ^^^ hs S)) X dX0_strikeAtHand_35 (z_andn (hs_bq S)) rfl ?_
  refine V_callS (pc' := 39) (As := [.int (nI ((S (S 47)) ^^^ hs S))]) (st := [.int (nI (S 59)), .ref (a 0)]) [] [0, 1, 2, 3, 4, 5] (show (List.range 6).Perm ([] ++ [0, 1, 2, 3, 4, 5]) by decide) X (c_J6_bitCount_0f7a4 l G ((S (S 47)) ^^^ hs S) (Nat.xor_lt_two_pow (n := 10) i11 hlt)) rfl gX0_strikeAtHand_J6_bitCount_0f7a4 rfl rfl (Nat.le_of_ble_eq_true rfl) ⟨Nat.le_of_ble_eq_true rfl, Nat.le_of_ble_eq_true rfl⟩ ⟨Nat.le_of_ble_eq_true rfl, Nat.le_of_ble_eq_true rfl⟩ dX0_strikeAtHand_36 rfl (fun v_ u_ hp_ => ?_)
  obtain ⟨rfl, rfl⟩ := hp_
  show V E G A 2 [[((a 0), .inr (0, [.ref (a 1), .ref (a 2), .ref (a 3), .ref (a 4), .ref (a 5), .int (nI (S 46)), .int (nI (S 47)), .int (nI (S 48)), .int (nI (S 70 + cnt (hs S))), .int (nI (S 59))]))], [((a 1), .inl (G.2 0, 32, .inl (nf S)))], [((a 2), .inl (G.2 0, 4, .inl (nf (fun k => S (32 + k)))))], [((a 3), .inl (G.2 0, 10, .inl (nf (fun k => S (36 + k)))))], [((a 4), .inl (G.2 0, 10, .inl (nf (fun k => S (49 + k) + bq (hs S) k))))], HM G (a 5) (a 6) (swg 3 (fun k => S (60 + k)) (hs S))] 0 0 Q 39 [(0, .ref (a 0)), (1, .int (nI (hs S)))] [.int (nI (cnt ((S (S 47)) ^^^ hs S))), .int (nI (S 59)), .ref (a 0)]
  refine V_iadd (pc' := 40) (nI ((S 59) + (cnt ((S (S 47)) ^^^ hs S)))) X dX0_strikeAtHand_39 (nI_add _ _) rfl ?_
  refine V_put (pc' := 43) 0 [[((a 0), .inr (0, [.ref (a 1), .ref (a 2), .ref (a 3), .ref (a 4), .ref (a 5), .int (nI (S 46)), .int (nI (S 47)), .int (nI (S 48)), .int (nI (S 70 + cnt (hs S))), .int (nI ((S 59) + (cnt ((S (S 47)) ^^^ hs S))))]))], [((a 1), .inl (G.2 0, 32, .inl (nf S)))], [((a 2), .inl (G.2 0, 4, .inl (nf (fun k => S (32 + k)))))], [((a 3), .inl (G.2 0, 10, .inl (nf (fun k => S (36 + k)))))], [((a 4), .inl (G.2 0, 10, .inl (nf (fun k => S (49 + k) + bq (hs S) k))))], HM G (a 5) (a 6) (swg 3 (fun k => S (60 + k)) (hs S))] X F44 rfl rfl rfl rfl (Nat.le_of_ble_eq_true rfl) rfl dX0_strikeAtHand_40 rfl ?_
  refine V_aload_n (pc' := 44) 0 X dX0_strikeAtHand_43 rfl rfl rfl ?_
  refine V_dup (pc' := 45) X dX0_strikeAtHand_44 rfl rfl ?_
  refine V_get (pc' := 48) 0 X F38 rfl rfl dX0_strikeAtHand_45 rfl ?_
  refine V_aload_n (pc' := 49) 0 X dX0_strikeAtHand_48 rfl rfl rfl ?_
  refine V_get (pc' := 52) 0 X F15 rfl rfl dX0_strikeAtHand_49 rfl ?_
  refine V_aload_n (pc' := 53) 0 X dX0_strikeAtHand_52 rfl rfl rfl ?_
  refine V_get (pc' := 56) 0 X F35 rfl rfl dX0_strikeAtHand_53 rfl ?_
  refine V_bipush (pc' := 58) (nI 8) X dX0_strikeAtHand_56 kb_8 rfl ?_
  refine V_idiv (pc' := 59) (nI ((S 47) / 8)) X dX0_strikeAtHand_58 (z_ne0 (by omega) (by omega)) (pk_div (by omega) (by omega) (by omega)) rfl ?_
  refine V_iald (pc' := 60) (v := nI (S (32 + ((S 47) / 8)))) 2 ((S 47) / 8) X rfl (by omega) (by decide) rfl dX0_strikeAtHand_59 rfl ?_
  refine V_iadd (pc' := 61) (nI ((S 48) + (S (32 + ((S 47) / 8))))) X dX0_strikeAtHand_60 (nI_add _ _) rfl ?_
  refine V_put (pc' := 64) 0 [[((a 0), .inr (0, [.ref (a 1), .ref (a 2), .ref (a 3), .ref (a 4), .ref (a 5), .int (nI (S 46)), .int (nI (S 47)), .int (nI ((S 48) + (S (32 + ((S 47) / 8))))), .int (nI (S 70 + cnt (hs S))), .int (nI ((S 59) + (cnt ((S (S 47)) ^^^ hs S))))]))], [((a 1), .inl (G.2 0, 32, .inl (nf S)))], [((a 2), .inl (G.2 0, 4, .inl (nf (fun k => S (32 + k)))))], [((a 3), .inl (G.2 0, 10, .inl (nf (fun k => S (36 + k)))))], [((a 4), .inl (G.2 0, 10, .inl (nf (fun k => S (49 + k) + bq (hs S) k))))], HM G (a 5) (a 6) (swg 3 (fun k => S (60 + k)) (hs S))] X F38 rfl rfl rfl rfl (Nat.le_of_ble_eq_true rfl) rfl dX0_strikeAtHand_61 rfl ?_
  refine V_aload_n (pc' := 65) 0 X dX0_strikeAtHand_64 rfl rfl rfl ?_
  refine V_aload_n (pc' := 66) 0 X dX0_strikeAtHand_65 rfl rfl rfl ?_
  refine V_get (pc' := 69) 0 X F35 rfl rfl dX0_strikeAtHand_66 rfl ?_
  refine V_iconst (pc' := 70) (nI 1) X dX0_strikeAtHand_69 ki_1 rfl ?_
  refine V_iadd (pc' := 71) (nI ((S 47) + 1)) X dX0_strikeAtHand_70 (nI_add _ _) rfl ?_
  refine V_bipush (pc' := 73) (nI 32) X dX0_strikeAtHand_71 kb_32 rfl ?_
  refine V_irem (pc' := 74) (nI (((S 47) + 1) % 32)) X dX0_strikeAtHand_73 (z_ne0 (by omega) (by omega)) (pk_rem (by omega) (by omega) (by omega)) rfl ?_
  refine V_put (pc' := 77) 0 [[((a 0), .inr (0, [.ref (a 1), .ref (a 2), .ref (a 3), .ref (a 4), .ref (a 5), .int (nI (S 46)), .int (nI (((S 47) + 1) % 32)), .int (nI ((S 48) + (S (32 + ((S 47) / 8))))), .int (nI (S 70 + cnt (hs S))), .int (nI ((S 59) + (cnt ((S (S 47)) ^^^ hs S))))]))], [((a 1), .inl (G.2 0, 32, .inl (nf S)))], [((a 2), .inl (G.2 0, 4, .inl (nf (fun k => S (32 + k)))))], [((a 3), .inl (G.2 0, 10, .inl (nf (fun k => S (36 + k)))))], [((a 4), .inl (G.2 0, 10, .inl (nf (fun k => S (49 + k) + bq (hs S) k))))], HM G (a 5) (a 6) (swg 3 (fun k => S (60 + k)) (hs S))] X F35 rfl rfl rfl rfl (Nat.le_of_ble_eq_true rfl) rfl dX0_strikeAtHand_74 rfl ?_
  refine V_ws [[((a 0), .inr (0, [.ref (a 1), .ref (a 2), .ref (a 3), .ref (a 4), .ref (a 5), .int (nI (S 46)), .int (nI (((S 47) + 1) % 32)), .int (nI ((S 48) + (S (32 + ((S 47) / 8))))), .int (nI (S 70 + cnt (hs S))), .int (nI ((S 59) + (cnt ((S (S 47)) ^^^ hs S))))]))], [((a 1), .inl (G.2 0, 32, .inl (nf S)))], [((a 2), .inl (G.2 0, 4, .inl (nf (fun k => S (32 + k)))))], [((a 3), .inl (G.2 0, 10, .inl (nf (fun k => S (36 + k)))))], [((a 4), .inl (G.2 0, 10, .inl (nf (fun k => S (49 + k) + bq (hs S) k))))], [((a 5), .inr (1, [.ref (a 6)])), ((a 6), .inl (G.2 0, 10, .inl (nf (swg 3 (fun k => S (60 + k)) (hs S)))))]] rfl ?_
  refine V_wsq [DW G a (stk 3 S)] (wsq.cons (weq.of (by rw [show stk 3 S 46 = S 46 from rfl, show stk 3 S 47 = (S 47 + 1) % 32 from rfl, show stk 3 S 48 = S 48 + S (32 + S 47 / 8) from rfl, show stk 3 S 70 = S 70 + cnt (hs S) from rfl, show stk 3 S 59 = S 59 + (cnt (S (S 47)) - cnt (hs S)) from rfl, cnt_xor (hs_bq S)])) (wsq.cons (weq.row (fun k hk => by show nI (S k) = nI (stk 3 S k); rw [stk_lo (by omega)])) (wsq.cons (weq.row (fun k hk => by show nI (S (32 + k)) = nI (stk 3 S (32 + k)); rw [stk_lo (by omega)])) (wsq.cons (weq.row (fun k hk => by show nI (S (36 + k)) = nI (stk 3 S (36 + k)); rw [stk_lo (by omega)])) (wsq.cons (weq.row (fun k hk => by show nI (S (49 + k) + bq (hs S) k) = nI (stk 3 S (49 + k)); rw [stk_th hk])) (wsq.cons (weq.rf _) (wsq.cons (weq.row (fun k hk => by show nI _ = nI (stk 3 S (60 + k)); rw [stk_rs hk])) (wsq.rf _)))))))) ?_
  exact V_return [DW G a (stk 3 S)] hQ X hrt dX0_strikeAtHand_77 (Nat.le_of_ble_eq_true rfl) (Nat.le_of_ble_eq_true rfl) (List.Perm.refl _) ⟨rfl, rfl⟩

set_option maxHeartbeats 4000000 in
set_option maxRecDepth 100000 in
theorem c_X0_strikeColumns (l : Launch) (G : gT) (a S : Nat → Nat) (n : Nat) (hI : IV S) (hn : n < 2 ^ 20) : CM l G yX0_strikeColumns wsX0_strikeColumns 5 113 1 [.ref (a 0), .int (nI n)] [DW G a S] 0 0 (fun v u => v = some (.int (nI (stkN 3 S n 70 - S 70))) ∧ u = [DW G a (stkN 3 S n)]) := by
  refine CM_of RX0 4 90 rfl rfl (by decide) (by decide +kernel) (Nat.le_of_ble_eq_true rfl) (fun E A X hrt hnm => ?_)
  have F41 := Fld_of (idx := 41) 0 8 X (by decide) (by decide) (by decide +kernel) (by decide +kernel)
  generalize hQ : QM E G A _ _ _ = Q
  show V E G A 4 [DW G a S] 0 0 Q 0 [(0, .ref (a 0)), (1, .int (nI n))] []
  refine V_aload_n (pc' := 1) 0 X dX0_strikeColumns_0 rfl rfl rfl ?_
  refine V_get (pc' := 4) 0 X F41 rfl rfl dX0_strikeColumns_1 rfl ?_
  refine V_istore_n (pc' := 5) [(0, .ref (a 0)), (1, .int (nI n)), (2, .int (nI (S 70)))] [1, 2, 0] X dX0_strikeColumns_4 rfl (Nat.le_of_ble_eq_true rfl) rfl rfl ?_
  refine V_iconst (pc' := 6) (nI 0) X dX0_strikeColumns_5 ki_0 rfl ?_
  refine V_istore_n (pc' := 7) [(0, .ref (a 0)), (1, .int (nI n)), (2, .int (nI (S 70))), (3, .int (nI 0))] [1, 2, 3, 0] X dX0_strikeColumns_6 rfl (Nat.le_of_ble_eq_true rfl) rfl rfl ?_
  have lp_1 : ∀ i, i ≤ n → V E G A 4 [DW G a (stkN 3 S i)] 0 0 Q 7 [(0, .ref (a 0)), (1, .int (nI n)), (2, .int (nI (S 70))), (3, .int (nI i))] [] := by
    refine loopD n ?_ ?_
    · show V E G A 4 [DW G a (stkN 3 S n)] 0 0 Q 7 [(0, .ref (a 0)), (1, .int (nI n)), (2, .int (nI (S 70))), (3, .int (nI n))] []
      refine V_iload_n (pc' := 8) 3 X dX0_strikeColumns_7 rfl rfl rfl ?_
      refine V_iload_n (pc' := 9) 1 X dX0_strikeColumns_8 rfl rfl rfl ?_
      refine V_icmp_ge (pc' := 12) (C := n ≤ n) 22 X dX0_strikeColumns_9 (by decide) rfl (nI_leI (by omega) (by omega)) (fun _ => ?_) (fun hz => absurd (by omega) hz)
      refine V_aload_n (pc' := 23) 0 X dX0_strikeColumns_22 rfl rfl rfl ?_
      refine V_get (pc' := 26) 0 X F41 rfl rfl dX0_strikeColumns_23 rfl ?_
      refine V_iload_n (pc' := 27) 2 X dX0_strikeColumns_26 rfl rfl rfl ?_
      refine V_isub (pc' := 28) (nI (((stkN 3 S n) 70) - (S 70))) X dX0_strikeColumns_27 (pk_sub (stkN_70 3 S n)) rfl ?_
      exact V_ireturn (v := nI (((stkN 3 S n) 70) - (S 70))) [DW G a (stkN 3 S n)] hQ X hrt rfl dX0_strikeColumns_28 (Nat.le_of_ble_eq_true rfl) (Nat.le_of_ble_eq_true rfl) (List.Perm.refl _) ⟨rfl, rfl⟩
    · intro i hi_i ih
      show V E G A 4 [DW G a (stkN 3 S i)] 0 0 Q 7 [(0, .ref (a 0)), (1, .int (nI n)), (2, .int (nI (S 70))), (3, .int (nI i))] []
      refine V_iload_n (pc' := 8) 3 X dX0_strikeColumns_7 rfl rfl rfl ?_
      refine V_iload_n (pc' := 9) 1 X dX0_strikeColumns_8 rfl rfl rfl ?_
      refine V_icmp_ge (pc' := 12) (C := n ≤ i) 22 X dX0_strikeColumns_9 (by decide) rfl (nI_leI (by omega) (by omega)) (fun hz => absurd hz (by omega)) (fun _ => ?_)
      refine V_aload_n (pc' := 13) 0 X dX0_strikeColumns_12 rfl rfl rfl ?_
      refine V_callV (pc' := 16) (As := []) (st := []) 0 0 [0] [] (show (List.range 1).Perm ([0] ++ []) by decide) X (c_X0_strikeAtHand l G a (stkN 3 S i) (IV_stkN (by decide) hI i)) rfl gX0_strikeColumns_X0_strikeAtHand rfl (by decide) rfl rfl rfl (Nat.le_of_ble_eq_true rfl) ⟨Nat.le_of_ble_eq_true rfl, Nat.le_of_ble_eq_true rfl⟩ ⟨Nat.le_of_ble_eq_true rfl, Nat.le_of_ble_eq_true rfl⟩ dX0_strikeColumns_13 rfl (fun v_ u_ hp_ => ?_)
      obtain ⟨rfl, rfl⟩ := hp_
      show V E G A 4 [DW G a (stk 3 (stkN 3 S i))] 0 0 Q 16 [(0, .ref (a 0)), (1, .int (nI n)), (2, .int (nI (S 70))), (3, .int (nI i))] []
      refine V_iinc (pc' := 19) [(0, .ref (a 0)), (1, .int (nI n)), (2, .int (nI (S 70))), (3, .int (nI (i + 1)))] 3 [1, 2, 3, 0] X dX0_strikeColumns_16 rfl (nI_i1 _) (Nat.le_of_ble_eq_true rfl) rfl rfl ?_
      refine V_goto (pc' := 7) X dX0_strikeColumns_19 (by decide) ?_
      exact ih
  exact lp_1 0 (Nat.zero_le _)

set_option maxHeartbeats 4000000 in
set_option maxRecDepth 100000 in
theorem c_X0_copyFrom (l : Launch) (G : gT) (a S a2 S2 : Nat → Nat) : CM l G yX0_copyFrom wsX0_copyFrom 3 82 1 [.ref (a 0), .ref (a2 0)] [DW G a S, DW G a2 S2] 0 0 (fun v u => v = none ∧ u = [DW G a S2, DW G a2 S2]) := by
  refine CM_of RX0 2 61 rfl rfl (by decide) (by decide +kernel) (Nat.le_of_ble_eq_true rfl) (fun E A X hrt hnm => ?_)
  have F9 := Fld_of (idx := 9) 0 0 X (by decide) (by decide) (by decide +kernel) (by decide +kernel)
  have F15 := Fld_of (idx := 15) 0 1 X (by decide) (by decide) (by decide +kernel) (by decide +kernel)
  have F18 := Fld_of (idx := 18) 0 2 X (by decide) (by decide) (by decide +kernel) (by decide +kernel)
  have F21 := Fld_of (idx := 21) 0 3 X (by decide) (by decide) (by decide +kernel) (by decide +kernel)
  have F27 := Fld_of (idx := 27) 0 4 X (by decide) (by decide) (by decide +kernel) (by decide +kernel)
  have F31 := Fld_of (idx := 31) 0 5 X (by decide) (by decide) (by decide +kernel) (by decide +kernel)
  have F35 := Fld_of (idx := 35) 0 6 X (by decide) (by decide) (by decide +kernel) (by decide +kernel)
  have F38 := Fld_of (idx := 38) 0 7 X (by decide) (by decide) (by decide +kernel) (by decide +kernel)
  have F41 := Fld_of (idx := 41) 0 8 X (by decide) (by decide) (by decide +kernel) (by decide +kernel)
  have F44 := Fld_of (idx := 44) 0 9 X (by decide) (by decide) (by decide +kernel) (by decide +kernel)
  generalize hQ : QM E G A _ _ _ = Q
  refine V_ws [[((a 0), .inr (0, [.ref (a 1), .ref (a 2), .ref (a 3), .ref (a 4), .ref (a 5), .int (nI (S 46)), .int (nI (S 47)), .int (nI (S 48)), .int (nI (S 70)), .int (nI (S 59))]))], [((a 1), .inl (G.2 0, 32, .inl (nf S)))], [((a 2), .inl (G.2 0, 4, .inl (nf (fun k => S (32 + k)))))], [((a 3), .inl (G.2 0, 10, .inl (nf (fun k => S (36 + k)))))], [((a 4), .inl (G.2 0, 10, .inl (nf (fun k => S (49 + k)))))], HM G (a 5) (a 6) (fun k => S (60 + k)), [((a2 0), .inr (0, [.ref (a2 1), .ref (a2 2), .ref (a2 3), .ref (a2 4), .ref (a2 5), .int (nI (S2 46)), .int (nI (S2 47)), .int (nI (S2 48)), .int (nI (S2 70)), .int (nI (S2 59))]))], [((a2 1), .inl (G.2 0, 32, .inl (nf S2)))], [((a2 2), .inl (G.2 0, 4, .inl (nf (fun k => S2 (32 + k)))))], [((a2 3), .inl (G.2 0, 10, .inl (nf (fun k => S2 (36 + k)))))], [((a2 4), .inl (G.2 0, 10, .inl (nf (fun k => S2 (49 + k)))))], HM G (a2 5) (a2 6) (fun k => S2 (60 + k))] rfl ?_
  refine V_aload_n (pc' := 1) 1 X dX0_copyFrom_0 rfl rfl rfl ?_
  refine V_get (pc' := 4) 7 X F9 rfl rfl dX0_copyFrom_1 rfl ?_
  refine V_iconst (pc' := 5) (nI 0) X dX0_copyFrom_4 ki_0 rfl ?_
  refine V_aload_n (pc' := 6) 0 X dX0_copyFrom_5 rfl rfl rfl ?_
  refine V_get (pc' := 9) 0 X F9 rfl rfl dX0_copyFrom_6 rfl ?_
  refine V_iconst (pc' := 10) (nI 0) X dX0_copyFrom_9 ki_0 rfl ?_
  refine V_bipush (pc' := 12) (nI 32) X dX0_copyFrom_10 kb_32 rfl ?_
  refine V_copy (pc' := 15) 8 1 [[((a 0), .inr (0, [.ref (a 1), .ref (a 2), .ref (a 3), .ref (a 4), .ref (a 5), .int (nI (S 46)), .int (nI (S 47)), .int (nI (S 48)), .int (nI (S 70)), .int (nI (S 59))]))], [((a 1), .inl (G.2 0, 32, .inl (va_cpy (nf S2) (nf S) 0 0 32)))], [((a 2), .inl (G.2 0, 4, .inl (nf (fun k => S (32 + k)))))], [((a 3), .inl (G.2 0, 10, .inl (nf (fun k => S (36 + k)))))], [((a 4), .inl (G.2 0, 10, .inl (nf (fun k => S (49 + k)))))], HM G (a 5) (a 6) (fun k => S (60 + k)), [((a2 0), .inr (0, [.ref (a2 1), .ref (a2 2), .ref (a2 3), .ref (a2 4), .ref (a2 5), .int (nI (S2 46)), .int (nI (S2 47)), .int (nI (S2 48)), .int (nI (S2 70)), .int (nI (S2 59))]))], [((a2 1), .inl (G.2 0, 32, .inl (nf S2)))], [((a2 2), .inl (G.2 0, 4, .inl (nf (fun k => S2 (32 + k)))))], [((a2 3), .inl (G.2 0, 10, .inl (nf (fun k => S2 (36 + k)))))], [((a2 4), .inl (G.2 0, 10, .inl (nf (fun k => S2 (49 + k)))))], HM G (a2 5) (a2 6) (fun k => S2 (60 + k))] X (by decide +kernel) (by decide +kernel) (by decide +kernel) (by decide +kernel) rfl rfl (by decide) (by decide) (by decide) (by decide) (Nat.le_of_ble_eq_true rfl) (by decide +kernel) rfl dX0_copyFrom_12 rfl ?_
  refine V_aload_n (pc' := 16) 1 X dX0_copyFrom_15 rfl rfl rfl ?_
  refine V_get (pc' := 19) 7 X F15 rfl rfl dX0_copyFrom_16 rfl ?_
  refine V_iconst (pc' := 20) (nI 0) X dX0_copyFrom_19 ki_0 rfl ?_
  refine V_aload_n (pc' := 21) 0 X dX0_copyFrom_20 rfl rfl rfl ?_
  refine V_get (pc' := 24) 0 X F15 rfl rfl dX0_copyFrom_21 rfl ?_
  refine V_iconst (pc' := 25) (nI 0) X dX0_copyFrom_24 ki_0 rfl ?_
  refine V_iconst (pc' := 26) (nI 4) X dX0_copyFrom_25 ki_4 rfl ?_
  refine V_copy (pc' := 29) 9 2 [[((a 0), .inr (0, [.ref (a 1), .ref (a 2), .ref (a 3), .ref (a 4), .ref (a 5), .int (nI (S 46)), .int (nI (S 47)), .int (nI (S 48)), .int (nI (S 70)), .int (nI (S 59))]))], [((a 1), .inl (G.2 0, 32, .inl (va_cpy (nf S2) (nf S) 0 0 32)))], [((a 2), .inl (G.2 0, 4, .inl (va_cpy (nf (fun k => S2 (32 + k))) (nf (fun k => S (32 + k))) 0 0 4)))], [((a 3), .inl (G.2 0, 10, .inl (nf (fun k => S (36 + k)))))], [((a 4), .inl (G.2 0, 10, .inl (nf (fun k => S (49 + k)))))], HM G (a 5) (a 6) (fun k => S (60 + k)), [((a2 0), .inr (0, [.ref (a2 1), .ref (a2 2), .ref (a2 3), .ref (a2 4), .ref (a2 5), .int (nI (S2 46)), .int (nI (S2 47)), .int (nI (S2 48)), .int (nI (S2 70)), .int (nI (S2 59))]))], [((a2 1), .inl (G.2 0, 32, .inl (nf S2)))], [((a2 2), .inl (G.2 0, 4, .inl (nf (fun k => S2 (32 + k)))))], [((a2 3), .inl (G.2 0, 10, .inl (nf (fun k => S2 (36 + k)))))], [((a2 4), .inl (G.2 0, 10, .inl (nf (fun k => S2 (49 + k)))))], HM G (a2 5) (a2 6) (fun k => S2 (60 + k))] X (by decide +kernel) (by decide +kernel) (by decide +kernel) (by decide +kernel) rfl rfl (by decide) (by decide) (by decide) (by decide) (Nat.le_of_ble_eq_true rfl) (by decide +kernel) rfl dX0_copyFrom_26 rfl ?_
  refine V_aload_n (pc' := 30) 1 X dX0_copyFrom_29 rfl rfl rfl ?_
  refine V_get (pc' := 33) 7 X F18 rfl rfl dX0_copyFrom_30 rfl ?_
  refine V_iconst (pc' := 34) (nI 0) X dX0_copyFrom_33 ki_0 rfl ?_
  refine V_aload_n (pc' := 35) 0 X dX0_copyFrom_34 rfl rfl rfl ?_
  refine V_get (pc' := 38) 0 X F18 rfl rfl dX0_copyFrom_35 rfl ?_
  refine V_iconst (pc' := 39) (nI 0) X dX0_copyFrom_38 ki_0 rfl ?_
  refine V_bipush (pc' := 41) (nI 10) X dX0_copyFrom_39 kb_10 rfl ?_
  refine V_copy (pc' := 44) 10 3 [[((a 0), .inr (0, [.ref (a 1), .ref (a 2), .ref (a 3), .ref (a 4), .ref (a 5), .int (nI (S 46)), .int (nI (S 47)), .int (nI (S 48)), .int (nI (S 70)), .int (nI (S 59))]))], [((a 1), .inl (G.2 0, 32, .inl (va_cpy (nf S2) (nf S) 0 0 32)))], [((a 2), .inl (G.2 0, 4, .inl (va_cpy (nf (fun k => S2 (32 + k))) (nf (fun k => S (32 + k))) 0 0 4)))], [((a 3), .inl (G.2 0, 10, .inl (va_cpy (nf (fun k => S2 (36 + k))) (nf (fun k => S (36 + k))) 0 0 10)))], [((a 4), .inl (G.2 0, 10, .inl (nf (fun k => S (49 + k)))))], HM G (a 5) (a 6) (fun k => S (60 + k)), [((a2 0), .inr (0, [.ref (a2 1), .ref (a2 2), .ref (a2 3), .ref (a2 4), .ref (a2 5), .int (nI (S2 46)), .int (nI (S2 47)), .int (nI (S2 48)), .int (nI (S2 70)), .int (nI (S2 59))]))], [((a2 1), .inl (G.2 0, 32, .inl (nf S2)))], [((a2 2), .inl (G.2 0, 4, .inl (nf (fun k => S2 (32 + k)))))], [((a2 3), .inl (G.2 0, 10, .inl (nf (fun k => S2 (36 + k)))))], [((a2 4), .inl (G.2 0, 10, .inl (nf (fun k => S2 (49 + k)))))], HM G (a2 5) (a2 6) (fun k => S2 (60 + k))] X (by decide +kernel) (by decide +kernel) (by decide +kernel) (by decide +kernel) rfl rfl (by decide) (by decide) (by decide) (by decide) (Nat.le_of_ble_eq_true rfl) (by decide +kernel) rfl dX0_copyFrom_41 rfl ?_
  refine V_aload_n (pc' := 45) 1 X dX0_copyFrom_44 rfl rfl rfl ?_
  refine V_get (pc' := 48) 7 X F21 rfl rfl dX0_copyFrom_45 rfl ?_
  refine V_iconst (pc' := 49) (nI 0) X dX0_copyFrom_48 ki_0 rfl ?_
  refine V_aload_n (pc' := 50) 0 X dX0_copyFrom_49 rfl rfl rfl ?_
  refine V_get (pc' := 53) 0 X F21 rfl rfl dX0_copyFrom_50 rfl ?_
  refine V_iconst (pc' := 54) (nI 0) X dX0_copyFrom_53 ki_0 rfl ?_
  refine V_bipush (pc' := 56) (nI 10) X dX0_copyFrom_54 kb_10 rfl ?_
  refine V_copy (pc' := 59) 11 4 [[((a 0), .inr (0, [.ref (a 1), .ref (a 2), .ref (a 3), .ref (a 4), .ref (a 5), .int (nI (S 46)), .int (nI (S 47)), .int (nI (S 48)), .int (nI (S 70)), .int (nI (S 59))]))], [((a 1), .inl (G.2 0, 32, .inl (va_cpy (nf S2) (nf S) 0 0 32)))], [((a 2), .inl (G.2 0, 4, .inl (va_cpy (nf (fun k => S2 (32 + k))) (nf (fun k => S (32 + k))) 0 0 4)))], [((a 3), .inl (G.2 0, 10, .inl (va_cpy (nf (fun k => S2 (36 + k))) (nf (fun k => S (36 + k))) 0 0 10)))], [((a 4), .inl (G.2 0, 10, .inl (va_cpy (nf (fun k => S2 (49 + k))) (nf (fun k => S (49 + k))) 0 0 10)))], HM G (a 5) (a 6) (fun k => S (60 + k)), [((a2 0), .inr (0, [.ref (a2 1), .ref (a2 2), .ref (a2 3), .ref (a2 4), .ref (a2 5), .int (nI (S2 46)), .int (nI (S2 47)), .int (nI (S2 48)), .int (nI (S2 70)), .int (nI (S2 59))]))], [((a2 1), .inl (G.2 0, 32, .inl (nf S2)))], [((a2 2), .inl (G.2 0, 4, .inl (nf (fun k => S2 (32 + k)))))], [((a2 3), .inl (G.2 0, 10, .inl (nf (fun k => S2 (36 + k)))))], [((a2 4), .inl (G.2 0, 10, .inl (nf (fun k => S2 (49 + k)))))], HM G (a2 5) (a2 6) (fun k => S2 (60 + k))] X (by decide +kernel) (by decide +kernel) (by decide +kernel) (by decide +kernel) rfl rfl (by decide) (by decide) (by decide) (by decide) (Nat.le_of_ble_eq_true rfl) (by decide +kernel) rfl dX0_copyFrom_56 rfl ?_
  refine V_aload_n (pc' := 60) 0 X dX0_copyFrom_59 rfl rfl rfl ?_
  refine V_get (pc' := 63) 0 X F27 rfl rfl dX0_copyFrom_60 rfl ?_
  refine V_aload_n (pc' := 64) 1 X dX0_copyFrom_63 rfl rfl rfl ?_
  refine V_get (pc' := 67) 7 X F27 rfl rfl dX0_copyFrom_64 rfl ?_
  refine V_callV (pc' := 70) (As := [.ref (a2 5)]) (st := []) 1 5 [5, 11] [0, 1, 2, 3, 4, 6, 7, 8, 9, 10] (show (List.range 12).Perm ([5, 11] ++ [0, 1, 2, 3, 4, 6, 7, 8, 9, 10]) by decide) X (c_X1_copyFrom l G (a 5) (a 6) (a2 5) (a2 6) (fun k => S (60 + k)) (fun k => S2 (60 + k))) rfl gX0_copyFrom_X1_copyFrom rfl (by decide) rfl rfl rfl (Nat.le_of_ble_eq_true rfl) ⟨Nat.le_of_ble_eq_true rfl, Nat.le_of_ble_eq_true rfl⟩ ⟨Nat.le_of_ble_eq_true rfl, Nat.le_of_ble_eq_true rfl⟩ dX0_copyFrom_67 rfl (fun v_ u_ hp_ => ?_)
  obtain ⟨rfl, rfl⟩ := hp_
  show V E G A 2 [[((a 0), .inr (0, [.ref (a 1), .ref (a 2), .ref (a 3), .ref (a 4), .ref (a 5), .int (nI (S 46)), .int (nI (S 47)), .int (nI (S 48)), .int (nI (S 70)), .int (nI (S 59))]))], [((a 1), .inl (G.2 0, 32, .inl (va_cpy (nf S2) (nf S) 0 0 32)))], [((a 2), .inl (G.2 0, 4, .inl (va_cpy (nf (fun k => S2 (32 + k))) (nf (fun k => S (32 + k))) 0 0 4)))], [((a 3), .inl (G.2 0, 10, .inl (va_cpy (nf (fun k => S2 (36 + k))) (nf (fun k => S (36 + k))) 0 0 10)))], [((a 4), .inl (G.2 0, 10, .inl (va_cpy (nf (fun k => S2 (49 + k))) (nf (fun k => S (49 + k))) 0 0 10)))], [((a2 0), .inr (0, [.ref (a2 1), .ref (a2 2), .ref (a2 3), .ref (a2 4), .ref (a2 5), .int (nI (S2 46)), .int (nI (S2 47)), .int (nI (S2 48)), .int (nI (S2 70)), .int (nI (S2 59))]))], [((a2 1), .inl (G.2 0, 32, .inl (nf S2)))], [((a2 2), .inl (G.2 0, 4, .inl (nf (fun k => S2 (32 + k)))))], [((a2 3), .inl (G.2 0, 10, .inl (nf (fun k => S2 (36 + k)))))], [((a2 4), .inl (G.2 0, 10, .inl (nf (fun k => S2 (49 + k)))))], HM G (a 5) (a 6) (fun k => S2 (60 + k)), HM G (a2 5) (a2 6) (fun k => S2 (60 + k))] 0 0 Q 70 [(0, .ref (a 0)), (1, .ref (a2 0))] []
  refine V_ord [0, 1, 2, 3, 4, 10, 5, 6, 7, 8, 9, 11] [[((a 0), .inr (0, [.ref (a 1), .ref (a 2), .ref (a 3), .ref (a 4), .ref (a 5), .int (nI (S 46)), .int (nI (S 47)), .int (nI (S 48)), .int (nI (S 70)), .int (nI (S 59))]))], [((a 1), .inl (G.2 0, 32, .inl (va_cpy (nf S2) (nf S) 0 0 32)))], [((a 2), .inl (G.2 0, 4, .inl (va_cpy (nf (fun k => S2 (32 + k))) (nf (fun k => S (32 + k))) 0 0 4)))], [((a 3), .inl (G.2 0, 10, .inl (va_cpy (nf (fun k => S2 (36 + k))) (nf (fun k => S (36 + k))) 0 0 10)))], [((a 4), .inl (G.2 0, 10, .inl (va_cpy (nf (fun k => S2 (49 + k))) (nf (fun k => S (49 + k))) 0 0 10)))], HM G (a 5) (a 6) (fun k => S2 (60 + k)), [((a2 0), .inr (0, [.ref (a2 1), .ref (a2 2), .ref (a2 3), .ref (a2 4), .ref (a2 5), .int (nI (S2 46)), .int (nI (S2 47)), .int (nI (S2 48)), .int (nI (S2 70)), .int (nI (S2 59))]))], [((a2 1), .inl (G.2 0, 32, .inl (nf S2)))], [((a2 2), .inl (G.2 0, 4, .inl (nf (fun k => S2 (32 + k)))))], [((a2 3), .inl (G.2 0, 10, .inl (nf (fun k => S2 (36 + k)))))], [((a2 4), .inl (G.2 0, 10, .inl (nf (fun k => S2 (49 + k)))))], HM G (a2 5) (a2 6) (fun k => S2 (60 + k))] (show (List.range 12).Perm [0, 1, 2, 3, 4, 10, 5, 6, 7, 8, 9, 11] by decide) rfl ?_
  refine V_aload_n (pc' := 71) 0 X dX0_copyFrom_70 rfl rfl rfl ?_
  refine V_aload_n (pc' := 72) 1 X dX0_copyFrom_71 rfl rfl rfl ?_
  refine V_get (pc' := 75) 7 X F31 rfl rfl dX0_copyFrom_72 rfl ?_
  refine V_put (pc' := 78) 0 [[((a 0), .inr (0, [.ref (a 1), .ref (a 2), .ref (a 3), .ref (a 4), .ref (a 5), .int (nI (S2 46)), .int (nI (S 47)), .int (nI (S 48)), .int (nI (S 70)), .int (nI (S 59))]))], [((a 1), .inl (G.2 0, 32, .inl (va_cpy (nf S2) (nf S) 0 0 32)))], [((a 2), .inl (G.2 0, 4, .inl (va_cpy (nf (fun k => S2 (32 + k))) (nf (fun k => S (32 + k))) 0 0 4)))], [((a 3), .inl (G.2 0, 10, .inl (va_cpy (nf (fun k => S2 (36 + k))) (nf (fun k => S (36 + k))) 0 0 10)))], [((a 4), .inl (G.2 0, 10, .inl (va_cpy (nf (fun k => S2 (49 + k))) (nf (fun k => S (49 + k))) 0 0 10)))], HM G (a 5) (a 6) (fun k => S2 (60 + k)), [((a2 0), .inr (0, [.ref (a2 1), .ref (a2 2), .ref (a2 3), .ref (a2 4), .ref (a2 5), .int (nI (S2 46)), .int (nI (S2 47)), .int (nI (S2 48)), .int (nI (S2 70)), .int (nI (S2 59))]))], [((a2 1), .inl (G.2 0, 32, .inl (nf S2)))], [((a2 2), .inl (G.2 0, 4, .inl (nf (fun k => S2 (32 + k)))))], [((a2 3), .inl (G.2 0, 10, .inl (nf (fun k => S2 (36 + k)))))], [((a2 4), .inl (G.2 0, 10, .inl (nf (fun k => S2 (49 + k)))))], HM G (a2 5) (a2 6) (fun k => S2 (60 + k))] X F31 rfl rfl rfl rfl (Nat.le_of_ble_eq_true rfl) rfl dX0_copyFrom_75 rfl ?_
  refine V_aload_n (pc' := 79) 0 X dX0_copyFrom_78 rfl rfl rfl ?_
  refine V_aload_n (pc' := 80) 1 X dX0_copyFrom_79 rfl rfl rfl ?_
  refine V_get (pc' := 83) 7 X F35 rfl rfl dX0_copyFrom_80 rfl ?_
  refine V_put (pc' := 86) 0 [[((a 0), .inr (0, [.ref (a 1), .ref (a 2), .ref (a 3), .ref (a 4), .ref (a 5), .int (nI (S2 46)), .int (nI (S2 47)), .int (nI (S 48)), .int (nI (S 70)), .int (nI (S 59))]))], [((a 1), .inl (G.2 0, 32, .inl (va_cpy (nf S2) (nf S) 0 0 32)))], [((a 2), .inl (G.2 0, 4, .inl (va_cpy (nf (fun k => S2 (32 + k))) (nf (fun k => S (32 + k))) 0 0 4)))], [((a 3), .inl (G.2 0, 10, .inl (va_cpy (nf (fun k => S2 (36 + k))) (nf (fun k => S (36 + k))) 0 0 10)))], [((a 4), .inl (G.2 0, 10, .inl (va_cpy (nf (fun k => S2 (49 + k))) (nf (fun k => S (49 + k))) 0 0 10)))], HM G (a 5) (a 6) (fun k => S2 (60 + k)), [((a2 0), .inr (0, [.ref (a2 1), .ref (a2 2), .ref (a2 3), .ref (a2 4), .ref (a2 5), .int (nI (S2 46)), .int (nI (S2 47)), .int (nI (S2 48)), .int (nI (S2 70)), .int (nI (S2 59))]))], [((a2 1), .inl (G.2 0, 32, .inl (nf S2)))], [((a2 2), .inl (G.2 0, 4, .inl (nf (fun k => S2 (32 + k)))))], [((a2 3), .inl (G.2 0, 10, .inl (nf (fun k => S2 (36 + k)))))], [((a2 4), .inl (G.2 0, 10, .inl (nf (fun k => S2 (49 + k)))))], HM G (a2 5) (a2 6) (fun k => S2 (60 + k))] X F35 rfl rfl rfl rfl (Nat.le_of_ble_eq_true rfl) rfl dX0_copyFrom_83 rfl ?_
  refine V_aload_n (pc' := 87) 0 X dX0_copyFrom_86 rfl rfl rfl ?_
  refine V_aload_n (pc' := 88) 1 X dX0_copyFrom_87 rfl rfl rfl ?_
  refine V_get (pc' := 91) 7 X F38 rfl rfl dX0_copyFrom_88 rfl ?_
  refine V_put (pc' := 94) 0 [[((a 0), .inr (0, [.ref (a 1), .ref (a 2), .ref (a 3), .ref (a 4), .ref (a 5), .int (nI (S2 46)), .int (nI (S2 47)), .int (nI (S2 48)), .int (nI (S 70)), .int (nI (S 59))]))], [((a 1), .inl (G.2 0, 32, .inl (va_cpy (nf S2) (nf S) 0 0 32)))], [((a 2), .inl (G.2 0, 4, .inl (va_cpy (nf (fun k => S2 (32 + k))) (nf (fun k => S (32 + k))) 0 0 4)))], [((a 3), .inl (G.2 0, 10, .inl (va_cpy (nf (fun k => S2 (36 + k))) (nf (fun k => S (36 + k))) 0 0 10)))], [((a 4), .inl (G.2 0, 10, .inl (va_cpy (nf (fun k => S2 (49 + k))) (nf (fun k => S (49 + k))) 0 0 10)))], HM G (a 5) (a 6) (fun k => S2 (60 + k)), [((a2 0), .inr (0, [.ref (a2 1), .ref (a2 2), .ref (a2 3), .ref (a2 4), .ref (a2 5), .int (nI (S2 46)), .int (nI (S2 47)), .int (nI (S2 48)), .int (nI (S2 70)), .int (nI (S2 59))]))], [((a2 1), .inl (G.2 0, 32, .inl (nf S2)))], [((a2 2), .inl (G.2 0, 4, .inl (nf (fun k => S2 (32 + k)))))], [((a2 3), .inl (G.2 0, 10, .inl (nf (fun k => S2 (36 + k)))))], [((a2 4), .inl (G.2 0, 10, .inl (nf (fun k => S2 (49 + k)))))], HM G (a2 5) (a2 6) (fun k => S2 (60 + k))] X F38 rfl rfl rfl rfl (Nat.le_of_ble_eq_true rfl) rfl dX0_copyFrom_91 rfl ?_
  refine V_aload_n (pc' := 95) 0 X dX0_copyFrom_94 rfl rfl rfl ?_
  refine V_aload_n (pc' := 96) 1 X dX0_copyFrom_95 rfl rfl rfl ?_
  refine V_get (pc' := 99) 7 X F41 rfl rfl dX0_copyFrom_96 rfl ?_
  refine V_put (pc' := 102) 0 [[((a 0), .inr (0, [.ref (a 1), .ref (a 2), .ref (a 3), .ref (a 4), .ref (a 5), .int (nI (S2 46)), .int (nI (S2 47)), .int (nI (S2 48)), .int (nI (S2 70)), .int (nI (S 59))]))], [((a 1), .inl (G.2 0, 32, .inl (va_cpy (nf S2) (nf S) 0 0 32)))], [((a 2), .inl (G.2 0, 4, .inl (va_cpy (nf (fun k => S2 (32 + k))) (nf (fun k => S (32 + k))) 0 0 4)))], [((a 3), .inl (G.2 0, 10, .inl (va_cpy (nf (fun k => S2 (36 + k))) (nf (fun k => S (36 + k))) 0 0 10)))], [((a 4), .inl (G.2 0, 10, .inl (va_cpy (nf (fun k => S2 (49 + k))) (nf (fun k => S (49 + k))) 0 0 10)))], HM G (a 5) (a 6) (fun k => S2 (60 + k)), [((a2 0), .inr (0, [.ref (a2 1), .ref (a2 2), .ref (a2 3), .ref (a2 4), .ref (a2 5), .int (nI (S2 46)), .int (nI (S2 47)), .int (nI (S2 48)), .int (nI (S2 70)), .int (nI (S2 59))]))], [((a2 1), .inl (G.2 0, 32, .inl (nf S2)))], [((a2 2), .inl (G.2 0, 4, .inl (nf (fun k => S2 (32 + k)))))], [((a2 3), .inl (G.2 0, 10, .inl (nf (fun k => S2 (36 + k)))))], [((a2 4), .inl (G.2 0, 10, .inl (nf (fun k => S2 (49 + k)))))], HM G (a2 5) (a2 6) (fun k => S2 (60 + k))] X F41 rfl rfl rfl rfl (Nat.le_of_ble_eq_true rfl) rfl dX0_copyFrom_99 rfl ?_
  refine V_aload_n (pc' := 103) 0 X dX0_copyFrom_102 rfl rfl rfl ?_
  refine V_aload_n (pc' := 104) 1 X dX0_copyFrom_103 rfl rfl rfl ?_
  refine V_get (pc' := 107) 7 X F44 rfl rfl dX0_copyFrom_104 rfl ?_
  refine V_put (pc' := 110) 0 [[((a 0), .inr (0, [.ref (a 1), .ref (a 2), .ref (a 3), .ref (a 4), .ref (a 5), .int (nI (S2 46)), .int (nI (S2 47)), .int (nI (S2 48)), .int (nI (S2 70)), .int (nI (S2 59))]))], [((a 1), .inl (G.2 0, 32, .inl (va_cpy (nf S2) (nf S) 0 0 32)))], [((a 2), .inl (G.2 0, 4, .inl (va_cpy (nf (fun k => S2 (32 + k))) (nf (fun k => S (32 + k))) 0 0 4)))], [((a 3), .inl (G.2 0, 10, .inl (va_cpy (nf (fun k => S2 (36 + k))) (nf (fun k => S (36 + k))) 0 0 10)))], [((a 4), .inl (G.2 0, 10, .inl (va_cpy (nf (fun k => S2 (49 + k))) (nf (fun k => S (49 + k))) 0 0 10)))], HM G (a 5) (a 6) (fun k => S2 (60 + k)), [((a2 0), .inr (0, [.ref (a2 1), .ref (a2 2), .ref (a2 3), .ref (a2 4), .ref (a2 5), .int (nI (S2 46)), .int (nI (S2 47)), .int (nI (S2 48)), .int (nI (S2 70)), .int (nI (S2 59))]))], [((a2 1), .inl (G.2 0, 32, .inl (nf S2)))], [((a2 2), .inl (G.2 0, 4, .inl (nf (fun k => S2 (32 + k)))))], [((a2 3), .inl (G.2 0, 10, .inl (nf (fun k => S2 (36 + k)))))], [((a2 4), .inl (G.2 0, 10, .inl (nf (fun k => S2 (49 + k)))))], HM G (a2 5) (a2 6) (fun k => S2 (60 + k))] X F44 rfl rfl rfl rfl (Nat.le_of_ble_eq_true rfl) rfl dX0_copyFrom_107 rfl ?_
  refine V_ws [[((a 0), .inr (0, [.ref (a 1), .ref (a 2), .ref (a 3), .ref (a 4), .ref (a 5), .int (nI (S2 46)), .int (nI (S2 47)), .int (nI (S2 48)), .int (nI (S2 70)), .int (nI (S2 59))]))], [((a 1), .inl (G.2 0, 32, .inl (va_cpy (nf S2) (nf S) 0 0 32)))], [((a 2), .inl (G.2 0, 4, .inl (va_cpy (nf (fun k => S2 (32 + k))) (nf (fun k => S (32 + k))) 0 0 4)))], [((a 3), .inl (G.2 0, 10, .inl (va_cpy (nf (fun k => S2 (36 + k))) (nf (fun k => S (36 + k))) 0 0 10)))], [((a 4), .inl (G.2 0, 10, .inl (va_cpy (nf (fun k => S2 (49 + k))) (nf (fun k => S (49 + k))) 0 0 10)))], [((a 5), .inr (1, [.ref (a 6)])), ((a 6), .inl (G.2 0, 10, .inl (nf (fun k => S2 (60 + k)))))], [((a2 0), .inr (0, [.ref (a2 1), .ref (a2 2), .ref (a2 3), .ref (a2 4), .ref (a2 5), .int (nI (S2 46)), .int (nI (S2 47)), .int (nI (S2 48)), .int (nI (S2 70)), .int (nI (S2 59))]))], [((a2 1), .inl (G.2 0, 32, .inl (nf S2)))], [((a2 2), .inl (G.2 0, 4, .inl (nf (fun k => S2 (32 + k)))))], [((a2 3), .inl (G.2 0, 10, .inl (nf (fun k => S2 (36 + k)))))], [((a2 4), .inl (G.2 0, 10, .inl (nf (fun k => S2 (49 + k)))))], [((a2 5), .inr (1, [.ref (a2 6)])), ((a2 6), .inl (G.2 0, 10, .inl (nf (fun k => S2 (60 + k)))))]] rfl ?_
  refine V_wsq [DW G a S2, DW G a2 S2] (wsq.cons (weq.rf _) (wsq.cons (weq.row (fun k hk => pk_cpy_in (Nat.zero_le _) (by omega) |>.trans (by simp [nf]))) (wsq.cons (weq.row (fun k hk => pk_cpy_in (Nat.zero_le _) (by omega) |>.trans (by simp [nf]))) (wsq.cons (weq.row (fun k hk => pk_cpy_in (Nat.zero_le _) (by omega) |>.trans (by simp [nf]))) (wsq.cons (weq.row (fun k hk => pk_cpy_in (Nat.zero_le _) (by omega) |>.trans (by simp [nf]))) (wsq.cons (weq.rf _) (wsq.cons (weq.rf _) (wsq.cons (weq.rf _) (wsq.cons (weq.rf _) (wsq.cons (weq.rf _) (wsq.cons (weq.rf _) (wsq.cons (weq.rf _) (wsq.cons (weq.rf _) (wsq.cons (weq.rf _) (wsq.rf _))))))))))))))) ?_
  exact V_return [DW G a S2, DW G a2 S2] hQ X hrt dX0_copyFrom_110 (Nat.le_of_ble_eq_true rfl) (Nat.le_of_ble_eq_true rfl) (List.Perm.refl _) ⟨rfl, rfl⟩

set_option maxHeartbeats 4000000 in
set_option maxRecDepth 100000 in
theorem c_X0_init (l : Launch) (G : gT) (d : Nat) : CM l G yX0_init wsX0_init 3 64 0 [.ref d] [[(d, .inr (0, [.null, .null, .null, .null, .null, .int 0, .int 0, .int 0, .int 0, .int 0]))]] 6 67 (fun v u => ∃ a : Nat → Nat, a 0 = d ∧ v = none ∧ u = [DW G a (S0 3)]) := by
  refine CM_of RX0 2 43 rfl rfl (by decide) (by decide +kernel) (Nat.le_of_ble_eq_true rfl) (fun E A X hrt hnm => ?_)
  have hin : (e_h E).name = "<init>" := hnm
  have F9 := Fld_of (idx := 9) 0 0 X (by decide) (by decide) (by decide +kernel) (by decide +kernel)
  have F15 := Fld_of (idx := 15) 0 1 X (by decide) (by decide) (by decide +kernel) (by decide +kernel)
  have F18 := Fld_of (idx := 18) 0 2 X (by decide) (by decide) (by decide +kernel) (by decide +kernel)
  have F21 := Fld_of (idx := 21) 0 3 X (by decide) (by decide) (by decide +kernel) (by decide +kernel)
  have F27 := Fld_of (idx := 27) 0 4 X (by decide) (by decide) (by decide +kernel) (by decide +kernel)
  have F31 := Fld_of (idx := 31) 0 5 X (by decide) (by decide) (by decide +kernel) (by decide +kernel)
  have F35 := Fld_of (idx := 35) 0 6 X (by decide) (by decide) (by decide +kernel) (by decide +kernel)
  have F38 := Fld_of (idx := 38) 0 7 X (by decide) (by decide) (by decide +kernel) (by decide +kernel)
  have F41 := Fld_of (idx := 41) 0 8 X (by decide) (by decide) (by decide +kernel) (by decide +kernel)
  have F44 := Fld_of (idx := 44) 0 9 X (by decide) (by decide) (by decide +kernel) (by decide +kernel)
  generalize hQ : QM E G A _ _ _ = Q
  show V E G A 2 [[(d, .inr (0, [.null, .null, .null, .null, .null, .int 0, .int 0, .int 0, .int 0, .int 0]))]] 0 0 Q 0 [(0, .ref d)] []
  refine V_aload_n (pc' := 1) 0 X dX0_init_0 rfl rfl rfl ?_
  refine V_obj (pc' := 4) X (by decide +kernel) (by decide +kernel) (by decide +kernel) dX0_init_1 (Nat.le_of_ble_eq_true rfl) (Nat.le_of_ble_eq_true rfl) rfl ?_
  refine V_aload_n (pc' := 5) 0 X dX0_init_4 rfl rfl rfl ?_
  refine V_bipush (pc' := 7) (nI 32) X dX0_init_5 kb_32 rfl ?_
  refine V_newi (pc' := 9) (n := 32) X (by decide +kernel) (by decide) (Nat.le_of_ble_eq_true rfl) (Nat.le_of_ble_eq_true rfl) dX0_init_7 rfl (fun q_1 => ?_)
  show V E G A 2 [[(d, .inr (0, [.null, .null, .null, .null, .null, .int 0, .int 0, .int 0, .int 0, .int 0]))], [(q_1, .inl (G.2 0, 32, .inl (fun _ => 0)))]] 1 32 Q 9 [(0, .ref d)] [.ref q_1, .ref d]
  refine V_putF (pc' := 12) 0 [[(d, .inr (0, [.ref q_1, .null, .null, .null, .null, .int 0, .int 0, .int 0, .int 0, .int 0]))], [(q_1, .inl (G.2 0, 32, .inl (fun _ => 0)))]] X F9 rfl rfl hin rfl rfl rfl (Nat.le_of_ble_eq_true rfl) rfl dX0_init_9 rfl ?_
  refine V_aload_n (pc' := 13) 0 X dX0_init_12 rfl rfl rfl ?_
  refine V_iconst (pc' := 14) (nI 4) X dX0_init_13 ki_4 rfl ?_
  refine V_newi (pc' := 16) (n := 4) X (by decide +kernel) (by decide) (Nat.le_of_ble_eq_true rfl) (Nat.le_of_ble_eq_true rfl) dX0_init_14 rfl (fun q_2 => ?_)
  show V E G A 2 [[(d, .inr (0, [.ref q_1, .null, .null, .null, .null, .int 0, .int 0, .int 0, .int 0, .int 0]))], [(q_1, .inl (G.2 0, 32, .inl (fun _ => 0)))], [(q_2, .inl (G.2 0, 4, .inl (fun _ => 0)))]] 2 36 Q 16 [(0, .ref d)] [.ref q_2, .ref d]
  refine V_putF (pc' := 19) 0 [[(d, .inr (0, [.ref q_1, .ref q_2, .null, .null, .null, .int 0, .int 0, .int 0, .int 0, .int 0]))], [(q_1, .inl (G.2 0, 32, .inl (fun _ => 0)))], [(q_2, .inl (G.2 0, 4, .inl (fun _ => 0)))]] X F15 rfl rfl hin rfl rfl rfl (Nat.le_of_ble_eq_true rfl) rfl dX0_init_16 rfl ?_
  refine V_aload_n (pc' := 20) 0 X dX0_init_19 rfl rfl rfl ?_
  refine V_bipush (pc' := 22) (nI 10) X dX0_init_20 kb_10 rfl ?_
  refine V_newi (pc' := 24) (n := 10) X (by decide +kernel) (by decide) (Nat.le_of_ble_eq_true rfl) (Nat.le_of_ble_eq_true rfl) dX0_init_22 rfl (fun q_3 => ?_)
  show V E G A 2 [[(d, .inr (0, [.ref q_1, .ref q_2, .null, .null, .null, .int 0, .int 0, .int 0, .int 0, .int 0]))], [(q_1, .inl (G.2 0, 32, .inl (fun _ => 0)))], [(q_2, .inl (G.2 0, 4, .inl (fun _ => 0)))], [(q_3, .inl (G.2 0, 10, .inl (fun _ => 0)))]] 3 46 Q 24 [(0, .ref d)] [.ref q_3, .ref d]
  refine V_putF (pc' := 27) 0 [[(d, .inr (0, [.ref q_1, .ref q_2, .ref q_3, .null, .null, .int 0, .int 0, .int 0, .int 0, .int 0]))], [(q_1, .inl (G.2 0, 32, .inl (fun _ => 0)))], [(q_2, .inl (G.2 0, 4, .inl (fun _ => 0)))], [(q_3, .inl (G.2 0, 10, .inl (fun _ => 0)))]] X F18 rfl rfl hin rfl rfl rfl (Nat.le_of_ble_eq_true rfl) rfl dX0_init_24 rfl ?_
  refine V_aload_n (pc' := 28) 0 X dX0_init_27 rfl rfl rfl ?_
  refine V_bipush (pc' := 30) (nI 10) X dX0_init_28 kb_10 rfl ?_
  refine V_newi (pc' := 32) (n := 10) X (by decide +kernel) (by decide) (Nat.le_of_ble_eq_true rfl) (Nat.le_of_ble_eq_true rfl) dX0_init_30 rfl (fun q_4 => ?_)
  show V E G A 2 [[(d, .inr (0, [.ref q_1, .ref q_2, .ref q_3, .null, .null, .int 0, .int 0, .int 0, .int 0, .int 0]))], [(q_1, .inl (G.2 0, 32, .inl (fun _ => 0)))], [(q_2, .inl (G.2 0, 4, .inl (fun _ => 0)))], [(q_3, .inl (G.2 0, 10, .inl (fun _ => 0)))], [(q_4, .inl (G.2 0, 10, .inl (fun _ => 0)))]] 4 56 Q 32 [(0, .ref d)] [.ref q_4, .ref d]
  refine V_putF (pc' := 35) 0 [[(d, .inr (0, [.ref q_1, .ref q_2, .ref q_3, .ref q_4, .null, .int 0, .int 0, .int 0, .int 0, .int 0]))], [(q_1, .inl (G.2 0, 32, .inl (fun _ => 0)))], [(q_2, .inl (G.2 0, 4, .inl (fun _ => 0)))], [(q_3, .inl (G.2 0, 10, .inl (fun _ => 0)))], [(q_4, .inl (G.2 0, 10, .inl (fun _ => 0)))]] X F21 rfl rfl hin rfl rfl rfl (Nat.le_of_ble_eq_true rfl) rfl dX0_init_32 rfl ?_
  refine V_aload_n (pc' := 36) 0 X dX0_init_35 rfl rfl rfl ?_
  refine V_new (pc' := 39) 1 [.null] X (by decide) (by decide +kernel) (by decide +kernel) (by decide +kernel) (by decide +kernel) (fun j hj => by have hj : j < 1 := hj; rcases (show j = 0 by omega) with rfl <;> rfl) (Nat.le_of_ble_eq_true rfl) (Nat.le_of_ble_eq_true rfl) dX0_init_36 rfl (fun q_5 => ?_)
  show V E G A 2 [[(d, .inr (0, [.ref q_1, .ref q_2, .ref q_3, .ref q_4, .null, .int 0, .int 0, .int 0, .int 0, .int 0]))], [(q_1, .inl (G.2 0, 32, .inl (fun _ => 0)))], [(q_2, .inl (G.2 0, 4, .inl (fun _ => 0)))], [(q_3, .inl (G.2 0, 10, .inl (fun _ => 0)))], [(q_4, .inl (G.2 0, 10, .inl (fun _ => 0)))], [(q_5, .inr (1, [.null]))]] 5 57 Q 39 [(0, .ref d)] [.ref q_5, .ref d]
  refine V_dup (pc' := 40) X dX0_init_39 rfl rfl ?_
  refine V_callI (pc' := 43) (As := []) (st := [.ref q_5, .ref d]) [5] [0, 1, 2, 3, 4] (show (List.range 6).Perm ([5] ++ [0, 1, 2, 3, 4]) by decide) X (c_X1_init l G q_5) rfl gX0_init_X1_init (by decide +kernel) (by decide +kernel) (by decide +kernel) rfl (fun _ _ _ _ h => (Cond.code.inj (List.cons.inj h).1).2.2.2.symm) rfl rfl (Nat.le_of_ble_eq_true rfl) ⟨Nat.le_of_ble_eq_true rfl, Nat.le_of_ble_eq_true rfl⟩ ⟨Nat.le_of_ble_eq_true rfl, Nat.le_of_ble_eq_true rfl⟩ dX0_init_40 rfl (fun v_ u_ hp_ => ?_)
  obtain ⟨r_q_5, rfl, rfl⟩ := hp_
  show V E G A 2 [[(d, .inr (0, [.ref q_1, .ref q_2, .ref q_3, .ref q_4, .null, .int 0, .int 0, .int 0, .int 0, .int 0]))], [(q_1, .inl (G.2 0, 32, .inl (fun _ => 0)))], [(q_2, .inl (G.2 0, 4, .inl (fun _ => 0)))], [(q_3, .inl (G.2 0, 10, .inl (fun _ => 0)))], [(q_4, .inl (G.2 0, 10, .inl (fun _ => 0)))], HM G q_5 r_q_5 (fun _ => 3)] 6 67 Q 43 [(0, .ref d)] [.ref q_5, .ref d]
  refine V_putF (pc' := 46) 0 [[(d, .inr (0, [.ref q_1, .ref q_2, .ref q_3, .ref q_4, .ref q_5, .int 0, .int 0, .int 0, .int 0, .int 0]))], [(q_1, .inl (G.2 0, 32, .inl (fun _ => 0)))], [(q_2, .inl (G.2 0, 4, .inl (fun _ => 0)))], [(q_3, .inl (G.2 0, 10, .inl (fun _ => 0)))], [(q_4, .inl (G.2 0, 10, .inl (fun _ => 0)))], HM G q_5 r_q_5 (fun _ => 3)] X F27 rfl rfl hin rfl rfl rfl (Nat.le_of_ble_eq_true rfl) rfl dX0_init_43 rfl ?_
  refine V_aload_n (pc' := 47) 0 X dX0_init_46 rfl rfl rfl ?_
  refine V_bipush (pc' := 49) (nI 120) X dX0_init_47 kb_120 rfl ?_
  refine V_put (pc' := 52) 0 [[(d, .inr (0, [.ref q_1, .ref q_2, .ref q_3, .ref q_4, .ref q_5, .int (nI 120), .int 0, .int 0, .int 0, .int 0]))], [(q_1, .inl (G.2 0, 32, .inl (fun _ => 0)))], [(q_2, .inl (G.2 0, 4, .inl (fun _ => 0)))], [(q_3, .inl (G.2 0, 10, .inl (fun _ => 0)))], [(q_4, .inl (G.2 0, 10, .inl (fun _ => 0)))], HM G q_5 r_q_5 (fun _ => 3)] X F31 rfl rfl rfl rfl (Nat.le_of_ble_eq_true rfl) rfl dX0_init_49 rfl ?_
  refine V_aload_n (pc' := 53) 0 X dX0_init_52 rfl rfl rfl ?_
  refine V_iconst (pc' := 54) (nI 0) X dX0_init_53 ki_0 rfl ?_
  refine V_put (pc' := 57) 0 [[(d, .inr (0, [.ref q_1, .ref q_2, .ref q_3, .ref q_4, .ref q_5, .int (nI 120), .int (nI 0), .int 0, .int 0, .int 0]))], [(q_1, .inl (G.2 0, 32, .inl (fun _ => 0)))], [(q_2, .inl (G.2 0, 4, .inl (fun _ => 0)))], [(q_3, .inl (G.2 0, 10, .inl (fun _ => 0)))], [(q_4, .inl (G.2 0, 10, .inl (fun _ => 0)))], HM G q_5 r_q_5 (fun _ => 3)] X F35 rfl rfl rfl rfl (Nat.le_of_ble_eq_true rfl) rfl dX0_init_54 rfl ?_
  refine V_aload_n (pc' := 58) 0 X dX0_init_57 rfl rfl rfl ?_
  refine V_iconst (pc' := 59) (nI 0) X dX0_init_58 ki_0 rfl ?_
  refine V_put (pc' := 62) 0 [[(d, .inr (0, [.ref q_1, .ref q_2, .ref q_3, .ref q_4, .ref q_5, .int (nI 120), .int (nI 0), .int (nI 0), .int 0, .int 0]))], [(q_1, .inl (G.2 0, 32, .inl (fun _ => 0)))], [(q_2, .inl (G.2 0, 4, .inl (fun _ => 0)))], [(q_3, .inl (G.2 0, 10, .inl (fun _ => 0)))], [(q_4, .inl (G.2 0, 10, .inl (fun _ => 0)))], HM G q_5 r_q_5 (fun _ => 3)] X F38 rfl rfl rfl rfl (Nat.le_of_ble_eq_true rfl) rfl dX0_init_59 rfl ?_
  refine V_aload_n (pc' := 63) 0 X dX0_init_62 rfl rfl rfl ?_
  refine V_iconst (pc' := 64) (nI 0) X dX0_init_63 ki_0 rfl ?_
  refine V_put (pc' := 67) 0 [[(d, .inr (0, [.ref q_1, .ref q_2, .ref q_3, .ref q_4, .ref q_5, .int (nI 120), .int (nI 0), .int (nI 0), .int (nI 0), .int 0]))], [(q_1, .inl (G.2 0, 32, .inl (fun _ => 0)))], [(q_2, .inl (G.2 0, 4, .inl (fun _ => 0)))], [(q_3, .inl (G.2 0, 10, .inl (fun _ => 0)))], [(q_4, .inl (G.2 0, 10, .inl (fun _ => 0)))], HM G q_5 r_q_5 (fun _ => 3)] X F41 rfl rfl rfl rfl (Nat.le_of_ble_eq_true rfl) rfl dX0_init_64 rfl ?_
  refine V_aload_n (pc' := 68) 0 X dX0_init_67 rfl rfl rfl ?_
  refine V_iconst (pc' := 69) (nI 0) X dX0_init_68 ki_0 rfl ?_
  refine V_put (pc' := 72) 0 [[(d, .inr (0, [.ref q_1, .ref q_2, .ref q_3, .ref q_4, .ref q_5, .int (nI 120), .int (nI 0), .int (nI 0), .int (nI 0), .int (nI 0)]))], [(q_1, .inl (G.2 0, 32, .inl (fun _ => 0)))], [(q_2, .inl (G.2 0, 4, .inl (fun _ => 0)))], [(q_3, .inl (G.2 0, 10, .inl (fun _ => 0)))], [(q_4, .inl (G.2 0, 10, .inl (fun _ => 0)))], HM G q_5 r_q_5 (fun _ => 3)] X F44 rfl rfl rfl rfl (Nat.le_of_ble_eq_true rfl) rfl dX0_init_69 rfl ?_
  refine V_aload_n (pc' := 73) 0 X dX0_init_72 rfl rfl rfl ?_
  refine V_get (pc' := 76) 0 X F15 rfl rfl dX0_init_73 rfl ?_
  refine V_iconst (pc' := 77) (nI 4) X dX0_init_76 ki_4 rfl ?_
  refine V_callS (pc' := 80) (As := [.ref q_2, .int (nI 4)]) (st := []) [2] [0, 1, 3, 4, 5] (show (List.range 6).Perm ([2] ++ [0, 1, 3, 4, 5]) by decide) X (c_J7_fill_53178 l G q_2 4 (by decide) (nI 4) (fun _ => 0)) rfl gX0_init_J7_fill_53178 rfl rfl (Nat.le_of_ble_eq_true rfl) ⟨Nat.le_of_ble_eq_true rfl, Nat.le_of_ble_eq_true rfl⟩ ⟨Nat.le_of_ble_eq_true rfl, Nat.le_of_ble_eq_true rfl⟩ dX0_init_77 rfl (fun v_ u_ hp_ => ?_)
  obtain ⟨rfl, rfl⟩ := hp_
  show V E G A 2 [[(d, .inr (0, [.ref q_1, .ref q_2, .ref q_3, .ref q_4, .ref q_5, .int (nI 120), .int (nI 0), .int (nI 0), .int (nI 0), .int (nI 0)]))], [(q_1, .inl (G.2 0, 32, .inl (fun _ => 0)))], [(q_3, .inl (G.2 0, 10, .inl (fun _ => 0)))], [(q_4, .inl (G.2 0, 10, .inl (fun _ => 0)))], HM G q_5 r_q_5 (fun _ => 3), [(q_2, .inl (G.2 0, 4, .inl (fl (fun _ => 0) (nI 4) 4)))]] 6 67 Q 80 [(0, .ref d)] []
  refine V_ord [0, 1, 5, 2, 3, 4] [[(d, .inr (0, [.ref q_1, .ref q_2, .ref q_3, .ref q_4, .ref q_5, .int (nI 120), .int (nI 0), .int (nI 0), .int (nI 0), .int (nI 0)]))], [(q_1, .inl (G.2 0, 32, .inl (fun _ => 0)))], [(q_2, .inl (G.2 0, 4, .inl (fl (fun _ => 0) (nI 4) 4)))], [(q_3, .inl (G.2 0, 10, .inl (fun _ => 0)))], [(q_4, .inl (G.2 0, 10, .inl (fun _ => 0)))], HM G q_5 r_q_5 (fun _ => 3)] (show (List.range 6).Perm [0, 1, 5, 2, 3, 4] by decide) rfl ?_
  refine V_iconst (pc' := 81) (nI 0) X dX0_init_80 ki_0 rfl ?_
  refine V_istore_n (pc' := 82) [(0, .ref d), (1, .int (nI 0))] [1, 0] X dX0_init_81 rfl (Nat.le_of_ble_eq_true rfl) rfl rfl ?_
  refine V_wsq [[(d, .inr (0, [.ref q_1, .ref q_2, .ref q_3, .ref q_4, .ref q_5, .int (nI 120), .int (nI 0), .int (nI 0), .int (nI 0), .int (nI 0)]))], [(q_1, .inl (G.2 0, 32, .inl (fun _ => 0)))], [(q_2, .inl (G.2 0, 4, .inl (fl (fun _ => 0) (nI 4) 4)))], [(q_3, .inl (G.2 0, 10, .inl (nf (fun _ => 0))))], [(q_4, .inl (G.2 0, 10, .inl (fun _ => 0)))], HM G q_5 r_q_5 (fun _ => 3)] (wsq.cons (weq.rf _) (wsq.cons (weq.rf _) (wsq.cons (weq.rf _) (wsq.cons (weq.row (fun k hk => nI_0.symm)) (wsq.rf _))))) ?_
  have lp_6 : ∀ i, i ≤ 10 → V E G A 2 [[(d, .inr (0, [.ref q_1, .ref q_2, .ref q_3, .ref q_4, .ref q_5, .int (nI 120), .int (nI 0), .int (nI 0), .int (nI 0), .int (nI 0)]))], [(q_1, .inl (G.2 0, 32, .inl (fun _ => 0)))], [(q_2, .inl (G.2 0, 4, .inl (fl (fun _ => 0) (nI 4) 4)))], [(q_3, .inl (G.2 0, 10, .inl (nf (upN (fun _ => 0) (fun k => 60 - 6 * k) i))))], [(q_4, .inl (G.2 0, 10, .inl (fun _ => 0)))], HM G q_5 r_q_5 (fun _ => 3)] 6 67 Q 82 [(0, .ref d), (1, .int (nI i))] [] := by
    refine loopD 10 ?_ ?_
    · show V E G A 2 [[(d, .inr (0, [.ref q_1, .ref q_2, .ref q_3, .ref q_4, .ref q_5, .int (nI 120), .int (nI 0), .int (nI 0), .int (nI 0), .int (nI 0)]))], [(q_1, .inl (G.2 0, 32, .inl (fun _ => 0)))], [(q_2, .inl (G.2 0, 4, .inl (fl (fun _ => 0) (nI 4) 4)))], [(q_3, .inl (G.2 0, 10, .inl (nf (upN (fun _ => 0) (fun k => 60 - 6 * k) 10))))], [(q_4, .inl (G.2 0, 10, .inl (fun _ => 0)))], HM G q_5 r_q_5 (fun _ => 3)] 6 67 Q 82 [(0, .ref d), (1, .int (nI 10))] []
      refine V_iload_n (pc' := 83) 1 X dX0_init_82 rfl rfl rfl ?_
      refine V_bipush (pc' := 85) (nI 10) X dX0_init_83 kb_10 rfl ?_
      refine V_icmp_ge (pc' := 88) (C := 10 ≤ 10) 107 X dX0_init_85 (by decide) rfl (nI_leI (by omega) (by omega)) (fun _ => ?_) (fun hz => absurd (by omega) hz)
      refine V_ws [[(d, .inr (0, [.ref q_1, .ref q_2, .ref q_3, .ref q_4, .ref q_5, .int (nI 120), .int (nI 0), .int (nI 0), .int (nI 0), .int (nI 0)]))], [(q_1, .inl (G.2 0, 32, .inl (fun _ => 0)))], [(q_2, .inl (G.2 0, 4, .inl (fl (fun _ => 0) (nI 4) 4)))], [(q_3, .inl (G.2 0, 10, .inl (nf (upN (fun _ => 0) (fun k => 60 - 6 * k) 10))))], [(q_4, .inl (G.2 0, 10, .inl (fun _ => 0)))], [(q_5, .inr (1, [.ref r_q_5])), (r_q_5, .inl (G.2 0, 10, .inl (nf (fun _ => 3))))]] rfl ?_
      refine V_ws [[(d, .inr (0, [.ref q_1, .ref q_2, .ref q_3, .ref q_4, .ref q_5, .int (nI 120), .int (nI 0), .int (nI 0), .int (nI 0), .int (nI 0)]))], [(q_1, .inl (G.2 0, 32, .inl (fun _ => 0)))], [(q_2, .inl (G.2 0, 4, .inl (fl (fun _ => 0) (nI 4) 4)))], [(q_3, .inl (G.2 0, 10, .inl (nf (upN (fun _ => 0) (fun k => 60 - 6 * k) 10))))], [(q_4, .inl (G.2 0, 10, .inl (fun _ => 0)))], [(q_5, .inr (1, [.ref r_q_5]))], [(r_q_5, .inl (G.2 0, 10, .inl (nf (fun _ => 3))))]] rfl ?_
      refine V_wsq [DW G (fun k => ([d, q_1, q_2, q_3, q_4, q_5, r_q_5].getD k 0)) (S0 3)] (wsq.cons (weq.rf _) (wsq.cons (weq.row (fun k hk => by show nI 0 = nI (S0 3 k); unfold S0; rw [if_pos (by omega)])) (wsq.cons (weq.row (fun k hk => by rw [fl_in hk]; show nI 4 = nI (S0 3 (32 + k)); unfold S0; rw [if_neg (by omega), if_pos (by omega)])) (wsq.cons (weq.row (fun k hk => by show nI (upN _ _ 10 k) = nI (S0 3 (36 + k)); rw [upN_in hk]; unfold S0; rw [if_neg (by omega), if_neg (by omega), if_pos (by omega), Nat.add_sub_cancel_left])) (wsq.cons (weq.row (fun k hk => by show nI 0 = nI (S0 3 (49 + k)); unfold S0; rw [if_neg (by omega), if_neg (by omega), if_neg (by omega), if_neg (by omega), if_pos (by omega)])) (wsq.cons (weq.rf _) (wsq.cons (weq.row (fun k hk => by show nI 3 = nI (S0 3 (60 + k)); unfold S0; rw [if_neg (by omega), if_neg (by omega), if_neg (by omega), if_neg (by omega), if_neg (by omega), if_pos (by omega)])) (wsq.rf _)))))))) ?_
      exact V_return [DW G (fun k => ([d, q_1, q_2, q_3, q_4, q_5, r_q_5].getD k 0)) (S0 3)] hQ X hrt dX0_init_107 (Nat.le_of_ble_eq_true rfl) (Nat.le_of_ble_eq_true rfl) (List.Perm.refl _) ⟨_, rfl, rfl, rfl⟩
    · intro i hi_i ih
      show V E G A 2 [[(d, .inr (0, [.ref q_1, .ref q_2, .ref q_3, .ref q_4, .ref q_5, .int (nI 120), .int (nI 0), .int (nI 0), .int (nI 0), .int (nI 0)]))], [(q_1, .inl (G.2 0, 32, .inl (fun _ => 0)))], [(q_2, .inl (G.2 0, 4, .inl (fl (fun _ => 0) (nI 4) 4)))], [(q_3, .inl (G.2 0, 10, .inl (nf (upN (fun _ => 0) (fun k => 60 - 6 * k) i))))], [(q_4, .inl (G.2 0, 10, .inl (fun _ => 0)))], HM G q_5 r_q_5 (fun _ => 3)] 6 67 Q 82 [(0, .ref d), (1, .int (nI i))] []
      refine V_iload_n (pc' := 83) 1 X dX0_init_82 rfl rfl rfl ?_
      refine V_bipush (pc' := 85) (nI 10) X dX0_init_83 kb_10 rfl ?_
      refine V_icmp_ge (pc' := 88) (C := 10 ≤ i) 107 X dX0_init_85 (by decide) rfl (nI_leI (by omega) (by omega)) (fun hz => absurd hz (by omega)) (fun _ => ?_)
      refine V_aload_n (pc' := 89) 0 X dX0_init_88 rfl rfl rfl ?_
      refine V_get (pc' := 92) 0 X F18 rfl rfl dX0_init_89 rfl ?_
      refine V_iload_n (pc' := 93) 1 X dX0_init_92 rfl rfl rfl ?_
      refine V_bipush (pc' := 95) (nI 60) X dX0_init_93 kb_60 rfl ?_
      refine V_bipush (pc' := 97) (nI 6) X dX0_init_95 kb_6 rfl ?_
      refine V_iload_n (pc' := 98) 1 X dX0_init_97 rfl rfl rfl ?_
      refine V_imul (pc' := 99) (nI (6 * i)) X dX0_init_98 (pk_mul _ _) rfl ?_
      refine V_isub (pc' := 100) (nI (60 - (6 * i))) X dX0_init_99 (pk_sub (by omega)) rfl ?_
      refine V_iast (pc' := 101) 3 i [[(d, .inr (0, [.ref q_1, .ref q_2, .ref q_3, .ref q_4, .ref q_5, .int (nI 120), .int (nI 0), .int (nI 0), .int (nI 0), .int (nI 0)]))], [(q_1, .inl (G.2 0, 32, .inl (fun _ => 0)))], [(q_2, .inl (G.2 0, 4, .inl (fl (fun _ => 0) (nI 4) 4)))], [(q_3, .inl (G.2 0, 10, .inl (upd (nf (upN (fun _ => 0) (fun k => 60 - 6 * k) i)) i (nI (60 - (6 * i))))))], [(q_4, .inl (G.2 0, 10, .inl (fun _ => 0)))], HM G q_5 r_q_5 (fun _ => 3)] X rfl (by omega) (by decide) rfl dX0_init_100 rfl ?_
      refine V_ws [[(d, .inr (0, [.ref q_1, .ref q_2, .ref q_3, .ref q_4, .ref q_5, .int (nI 120), .int (nI 0), .int (nI 0), .int (nI 0), .int (nI 0)]))], [(q_1, .inl (G.2 0, 32, .inl (fun _ => 0)))], [(q_2, .inl (G.2 0, 4, .inl (fl (fun _ => 0) (nI 4) 4)))], [(q_3, .inl (G.2 0, 10, .inl (nf (va_up (upN (fun _ => 0) (fun k => 60 - 6 * k) i) i (60 - (6 * i))))))], [(q_4, .inl (G.2 0, 10, .inl (fun _ => 0)))], HM G q_5 r_q_5 (fun _ => 3)] (by simp only [nf_upd]) ?_
      refine V_iinc (pc' := 104) [(0, .ref d), (1, .int (nI (i + 1)))] 1 [1, 0] X dX0_init_101 rfl (nI_i1 _) (Nat.le_of_ble_eq_true rfl) rfl rfl ?_
      refine V_goto (pc' := 82) X dX0_init_104 (by decide) ?_
      exact ih
  exact lp_6 0 (Nat.zero_le _)
