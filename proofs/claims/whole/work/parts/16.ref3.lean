/-! the reference: its pad -/
theorem ch_lt {f : Nat → Nat} {n : Nat} (hf : ∀ k, k < n → f k < 128) (i : Nat) : ch f n i < 128 := by
  unfold ch
  split
  · next h => exact hf i h
  · decide
def bpI : Bool × Nat → Int32 | (true, e) => nI e | (false, k) => -1 - nI k
theorem m1_sub (a b : Nat) : (-1 : Int32) - nI a - nI b = -1 - nI (a + b) := by
  rw [← nI_add, Int32.sub_eq_add_neg, Int32.sub_eq_add_neg, Int32.sub_eq_add_neg, Int32.neg_add, Int32.sub_eq_add_neg, Int32.add_assoc]
theorem m2_sub (a : Nat) : (-2 : Int32) - nI a = -1 - nI (a + 1) := by
  rw [← m1_sub, Int32.sub_eq_add_neg, Int32.sub_eq_add_neg, Int32.sub_eq_add_neg, Int32.add_assoc, Int32.add_comm (-nI a), ← Int32.add_assoc]
  rfl
theorem m1_m1 (a : Nat) : (-1 : Int32) - (-1 - nI a) = nI a := by
  rw [Int32.sub_eq_add_neg, Int32.sub_eq_add_neg, Int32.neg_add, Int32.neg_neg, Int32.sub_eq_add_neg, Int32.neg_neg, ← Int32.add_assoc, show (-1 : Int32) + 1 = 0 by decide, Int32.zero_add]
theorem m1_neg {a : Nat} (h : a < 2 ^ 29) : ¬ (0 : Int32) ≤ -1 - nI a := by
  intro q
  have e : (-1 : Int32) - nI a = nI 0 - nI (a + 1) := by
    rw [show (-1 : Int32) = nI 0 - nI 1 by decide +kernel, Int32.sub_eq_add_neg, Int32.sub_eq_add_neg, Int32.sub_eq_add_neg, ← nI_add, Int32.neg_add, Int32.sub_eq_add_neg, Int32.add_assoc, Int32.add_comm (-nI 1)]
  have h1 := pk_sub_toInt (a := 0) (b := a + 1) (by decide) (by omega)
  rw [e, Int32.le_iff_toInt_le, h1, show (0 : Int32).toInt = 0 by decide] at q
  omega
theorem rn_dg (f : Nat → Nat) (n : Nat) : ∀ m j, n - j = m → j ≤ rn f n j ∧ rn f n j ≤ j + (n - j) ∧ (∀ k, j ≤ k → k < rn f n j → dg (ch f n k)) ∧ ¬ dg (ch f n (rn f n j))
  | 0, j, hm => by
    have hn : ¬ dg (ch f n j) := by rw [ch_out (by omega)]; omega
    rw [rn_stop hn]
    exact ⟨Nat.le_refl _, Nat.le_add_right _ _, fun k h1 h2 => absurd h2 (by omega), hn⟩
  | m + 1, j, hm => by
    by_cases hd : dg (ch f n j)
    · obtain ⟨a1, a2, a3, a4⟩ := rn_dg f n m (j + 1) (by omega)
      rw [rn_step hd]
      refine ⟨by omega, by omega, fun k h1 h2 => ?_, a4⟩
      by_cases e : k = j
      · rw [e]; exact hd
      · exact a3 k (by omega) h2
    · rw [rn_stop hd]
      exact ⟨Nat.le_refl _, Nat.le_add_right _ _, fun k h1 h2 => absurd h2 (by omega), hd⟩
theorem bc_le (f : Nat → Nat) (n s : Nat) : bc f n s ≤ s + 2 := by unfold bc; split <;> omega
theorem num1 (f : Nat → Nat) (s : Nat) : num f s 1 = f s - 48 := by show 10 * 0 + (f (s + 0) - 48) = _; rw [Nat.add_zero]; omega
theorem num2 (f : Nat → Nat) (s : Nat) : num f s 2 = 10 * (f s - 48) + (f (s + 1) - 48) := by show 10 * num f s 1 + (f (s + 1) - 48) = _; rw [num1]
theorem rd_skip {c : Nat} {f : Nat → Nat} {n : Nat} {S : Nat → Nat} {p : Nat} : ∀ m i, i = p + m → (∀ j, p ≤ j → j < i → ¬ j = n ∧ ¬ f j = 59) → rdS c f n S i = rdS c f n S p
  | 0, i, h, _ => by rw [h]; rfl
  | m + 1, i, h, hj => by
    obtain ⟨j, rfl⟩ : ∃ j, i = j + 1 := ⟨p + m, h⟩
    have h1 := hj j (by omega) (by omega)
    rw [show rdS c f n S (j + 1) = rdS c f n S j from if_neg (fun q => q.elim h1.1 h1.2)]
    exact rd_skip m j (by omega) (fun k k1 k2 => hj k k1 (by omega))
/-- the part that is read at its start p -/
theorem rd_part {c : Nat} (hc : c ≤ 9) {f : Nat → Nat} {n p : Nat} {S : Nat → Nat} (hv : ff f n = none) (hI : IV S) (hp : p ≤ n) (hs : (rdS c f n S p).2.1 = p) :
    ∃ e, bp f n p = (true, e) ∧ Pt f n p e ∧ e ≤ n ∧ rdS c f n S (e + 1) = ((doP c f n p e (rdS c f n S p).1).1, e + 1, (rdS c f n S p).2.2 + (doP c f n p e (rdS c f n S p).1).2) := by
  obtain ⟨_, a2⟩ := rd_inv hc hv hI p (by omega)
  obtain ⟨b1, b2, b3, b4⟩ := a2 hp
  rw [hs] at b1 b3
  obtain ⟨e, e1, e2, e3, e4, e5⟩ := pt_of hv b1 hp b3
  have he : e ≤ n := e2.2.1
  have hpe : p < e := e2.1
  have h1 : rdS c f n S e = rdS c f n S p := rd_skip (e - p) e (by omega) (fun j j1 j2 => ⟨by omega, e3 j j1 j2⟩)
  refine ⟨e, e1, e2, he, ?_⟩
  have hb : e = n ∨ f e = 59 := e5.imp id (fun q => q.2.1)
  rw [show rdS c f n S (e + 1) = ((doP c f n (rdS c f n S e).2.1 e (rdS c f n S e).1).1, e + 1, (rdS c f n S e).2.2 + (doP c f n (rdS c f n S e).2.1 e (rdS c f n S e).1).2) from if_pos hb, h1, hs]
/-- the characters of a number, by rising bytes: how many, and is one bad -/
def pt (u : Nat) : Nat → Nat × Nat
  | 0 => (0, 0)
  | k + 1 => ((pt u k).1 + (if 0 < k ∧ u / 2 ^ (8 * k) = 0 then 0 else 1), if (pt u k).2 = 1 ∨ (¬ (0 < k ∧ u / 2 ^ (8 * k) = 0) ∧ ¬ (33 ≤ u / 2 ^ (8 * k) % 256 ∧ u / 2 ^ (8 * k) % 256 ≤ 126)) then 1 else 0)
theorem pt_le (u : Nat) : ∀ k, (pt u k).1 ≤ k ∧ (pt u k).2 ≤ 1
  | 0 => ⟨Nat.le_refl _, Nat.zero_le _⟩
  | k + 1 => by
    obtain ⟨h1, h2⟩ := pt_le u k
    rw [pt]
    refine ⟨?_, ?_⟩
    · show (pt u k).1 + _ ≤ _; split <;> omega
    · show (if _ then 1 else 0) ≤ 1; split <;> omega
theorem pt_bad {u : Nat} : ∀ m k, (pt u k).2 = 1 → (pt u (k + m)).2 = 1
  | 0, _, h => h
  | m + 1, k, h => by
    rw [show k + (m + 1) = (k + m) + 1 by omega, pt]
    exact if_pos (Or.inl (pt_bad m k h))
theorem div_zero' {u a b : Nat} (h : u / 2 ^ a = 0) (hab : a ≤ b) : u / 2 ^ b = 0 := by
  have h1 : u < 2 ^ a := by
    rcases Nat.div_eq_zero_iff.mp h with q | q
    · exact absurd q (Nat.ne_of_gt (Nat.two_pow_pos a))
    · exact q
  exact Nat.div_eq_of_lt (Nat.lt_of_lt_of_le h1 (Nat.pow_le_pow_right (by decide) hab))
theorem pt_end {u c k : Nat} (hk : 0 < k) (hz : u / 2 ^ (8 * k) = 0) (h : pt u k = (c, 0)) : ∀ m, pt u (k + m) = (c, 0)
  | 0 => h
  | m + 1 => by
    have hz2 : u / 2 ^ (8 * (k + m)) = 0 := div_zero' hz (by omega)
    rw [show k + (m + 1) = (k + m) + 1 by omega, pt, pt_end hk hz h m]
    rw [if_pos ⟨by omega, hz2⟩, if_neg (by rintro (q | q); exact absurd q (show ¬ 0 = 1 by decide); exact q.1 ⟨by omega, hz2⟩)]
    rfl
theorem pt_cin_go (u : Nat) : ∀ m c, c + m = 8 → pt u c = (c, 0) → (cinF u m c = 0 → (pt u 8).2 = 1) ∧ (¬ cinF u m c = 0 → pt u 8 = (cinF u m c, 0))
  | 0, c, hc, h => by
    have : c = 8 := by omega
    subst this
    exact ⟨fun q => absurd q (by show ¬ 8 = 0; decide), fun _ => h⟩
  | m + 1, c, hc, h => by
    have e8 : c * 8 = 8 * c := Nat.mul_comm _ _
    rw [cinF, e8]
    by_cases hz : u / 2 ^ (8 * c) = 0
    · rw [if_pos hz]
      by_cases h0 : c = 0
      · subst h0
        refine ⟨fun _ => ?_, fun q => absurd rfl q⟩
        have h1 : (pt u 1).2 = 1 := if_pos (Or.inr ⟨fun q => absurd q.1 (by decide), fun q => by rw [hz] at q; exact absurd q.1 (by decide)⟩)
        exact pt_bad 7 1 h1
      · refine ⟨fun q => absurd q h0, fun _ => ?_⟩
        have := pt_end (by omega) hz h (8 - c)
        rw [show c + (8 - c) = 8 by omega] at this
        exact this
    · rw [if_neg hz]
      by_cases hb : u / 2 ^ (8 * c) % 256 < 33 ∨ 126 < u / 2 ^ (8 * c) % 256
      · rw [if_pos hb]
        refine ⟨fun _ => ?_, fun q => absurd rfl q⟩
        have h1 : (pt u (c + 1)).2 = 1 := by rw [pt]; exact if_pos (Or.inr ⟨fun q => hz q.2, by omega⟩)
        have := pt_bad (8 - (c + 1)) (c + 1) h1
        rw [show c + 1 + (8 - (c + 1)) = 8 by omega] at this
        exact this
      · rw [if_neg hb]
        refine pt_cin_go u m (c + 1) (by omega) ?_
        rw [pt, h, if_neg (fun q => hz q.2)]
        rw [if_neg (by rintro (q | q); exact absurd q (show ¬ 0 = 1 by decide); exact q.2 (by omega))]
theorem pt_cin (u : Nat) : (cin u = 0 → (pt u 8).2 = 1) ∧ (¬ cin u = 0 → pt u 8 = (cin u, 0)) := pt_cin_go u 8 0 rfl rfl
theorem pt_next {u k a b : Nat} (ha : (pt u k).1 + (if 0 < k ∧ u / 2 ^ (8 * k) = 0 then 0 else 1) = a) (hb : (if (pt u k).2 = 1 ∨ (¬ (0 < k ∧ u / 2 ^ (8 * k) = 0) ∧ ¬ (33 ≤ u / 2 ^ (8 * k) % 256 ∧ u / 2 ^ (8 * k) % 256 ≤ 126)) then 1 else 0) = b) : pt u (k + 1) = (a, b) := by rw [pt, ha, hb]
/-- the characters of u put behind n others, from the last on -/
def apG (f : Nat → Nat) (n u c i : Nat) : Nat → Nat := fun k => if n + c - i ≤ k ∧ k < n + c then u / 2 ^ ((c - (k - n) - 1) * 8) % 256 else f k
theorem apG_step {f : Nat → Nat} {n u c i k : Nat} (hi : i < c) : va_up (apG f n u c i) (n + c - 1 - i) (u / 2 ^ (8 * i) % 256) k = apG f n u c (i + 1) k := by
  unfold va_up apG
  by_cases e : k = n + c - 1 - i
  · rw [if_pos e, if_pos (by omega), show c - (k - n) - 1 = i by omega, Nat.mul_comm]
  · rw [if_neg e]
    by_cases e2 : n + c - i ≤ k ∧ k < n + c
    · rw [if_pos e2, if_pos (by omega)]
    · rw [if_neg e2, if_neg (by omega)]
theorem apG_end {f : Nat → Nat} {n u c k : Nat} : apG f n u c c k = ap f n u c k := by unfold apG ap; rw [Nat.add_sub_cancel]
/-- a new reference's row, as it is laid -/
def n1 (i : Nat) : Nat → Nat := fun k => if 32 ≤ k ∧ k < 32 + i then 4 else 0
theorem n1_step {i k : Nat} : va_up (n1 i) (32 + i) 4 k = n1 (i + 1) k := by
  unfold va_up n1
  by_cases e : k = 32 + i
  · rw [if_pos e, if_pos (by omega)]
  · rw [if_neg e]
    by_cases e2 : 32 ≤ k ∧ k < 32 + i
    · rw [if_pos e2, if_pos (by omega)]
    · rw [if_neg e2, if_neg (by omega)]
def n2 (i : Nat) : Nat → Nat := fun k => if 36 ≤ k ∧ k < 36 + i then 60 - 6 * (k - 36) else if 60 ≤ k ∧ k < 60 + i then 9 else n1 4 k
theorem n2_step {i k : Nat} (hi : i < 10) : va_up (va_up (n2 i) (36 + i) (60 - 6 * i)) (60 + i) 9 k = n2 (i + 1) k := by
  unfold va_up n2
  by_cases e : k = 60 + i
  · rw [if_pos e, if_neg (by omega), if_pos (by omega)]
  · rw [if_neg e]
    by_cases e3 : k = 36 + i
    · rw [if_pos e3, if_pos (by omega), e3, Nat.add_sub_cancel_left]
    · rw [if_neg e3]
      by_cases e2 : 36 ≤ k ∧ k < 36 + i
      · rw [if_pos e2, if_pos (by omega)]
      · rw [if_neg e2, if_neg (show ¬ (36 ≤ k ∧ k < 36 + (i + 1)) by omega)]
        by_cases e4 : 60 ≤ k ∧ k < 60 + i
        · rw [if_pos e4, if_pos (by omega)]
        · rw [if_neg e4, if_neg (by omega)]
theorem n2_end {k : Nat} (hk : k < 70) : va_up (n2 10) 46 120 k = S0 9 k := by
  unfold va_up n2 n1 S0
  (repeat' split) <;> omega

set_option maxHeartbeats 4000000 in
set_option maxRecDepth 100000 in
theorem c_X6_charAt (l : Launch) (G : gT) (y : Nat → Nat) (t kn ln th : Nat) (f : Nat → Nat) (hn : ln ≤ 60) (hf : ∀ k, k < ln → f k < 128) (i : Nat) (hi : i < 2 ^ 20) : CM l G yX6_charAt wsX6_charAt 1 21 1 [.ref (y 0), .int (nI i)] [MO y t kn ln th, RW G (y 5) 60 f] 0 0 (fun v u => v = some (.int (nI (ch f ln i))) ∧ u = [MO y t kn ln th, RW G (y 5) 60 f]) := by
  refine CM_of RX6 0 0 rfl rfl (by decide) (by decide +kernel) (Nat.le_of_ble_eq_true rfl) (fun E A X hrt hnm => ?_)
  have F23 := Fld_of (idx := 23) 6 6 X (by decide) (by decide) (by decide +kernel) (by decide +kernel)
  have F105 := Fld_of (idx := 105) 6 7 X (by decide) (by decide) (by decide +kernel) (by decide +kernel)
  generalize hQ : QM E G A _ _ _ = Q
  show V E G A 2 [MO y t kn ln th, RW G (y 5) 60 f] 0 0 Q 0 [(0, .ref (y 0)), (1, .int (nI i))] []
  refine V_iload_n (pc' := 1) 1 X dX6_charAt_0 rfl rfl rfl ?_
  refine V_aload_n (pc' := 2) 0 X dX6_charAt_1 rfl rfl rfl ?_
  refine V_get (pc' := 5) 0 X F105 rfl rfl dX6_charAt_2 rfl ?_
  refine V_icmp_ge (pc' := 8) (C := ln ≤ i) 17 X dX6_charAt_5 (by decide) rfl (nI_leI (by omega) (by omega)) (fun h5 => ?_) (fun h5 => ?_)
  · refine V_iconst (pc' := 18) (nI 0) X dX6_charAt_17 ki_0 rfl ?_
    exact V_ireturn (v := nI 0) [MO y t kn ln th, RW G (y 5) 60 f] hQ X hrt rfl dX6_charAt_18 (Nat.le_of_ble_eq_true rfl) (Nat.le_of_ble_eq_true rfl) (List.Perm.refl _) ⟨by rw [ch_out h5], rfl⟩
  · refine V_aload_n (pc' := 9) 0 X dX6_charAt_8 rfl rfl rfl ?_
    refine V_get (pc' := 12) 0 X F23 rfl rfl dX6_charAt_9 rfl ?_
    refine V_iload_n (pc' := 13) 1 X dX6_charAt_12 rfl rfl rfl ?_
    refine V_iald (pc' := 14) (v := nI (f i)) 1 i X rfl (by omega) (by decide) rfl dX6_charAt_13 rfl ?_
    refine V_goto (pc' := 18) X dX6_charAt_14 (by decide) ?_
    exact V_ireturn (v := nI (f i)) [MO y t kn ln th, RW G (y 5) 60 f] hQ X hrt rfl dX6_charAt_18 (Nat.le_of_ble_eq_true rfl) (Nat.le_of_ble_eq_true rfl) (List.Perm.refl _) ⟨by rw [ch_in (by omega)], rfl⟩

set_option maxHeartbeats 4000000 in
set_option maxRecDepth 100000 in
theorem c_X6_isDigit (l : Launch) (G : gT) (y : Nat → Nat) (t kn ln th : Nat) (f : Nat → Nat) (hn : ln ≤ 60) (hf : ∀ k, k < ln → f k < 128) (i : Nat) (hi : i < 2 ^ 20) : CM l G yX6_isDigit wsX6_isDigit 2 43 1 [.ref (y 0), .int (nI i)] [MO y t kn ln th, RW G (y 5) 60 f] 0 0 (fun v u => v = some (.int (nI (if 48 ≤ ch f ln i ∧ ch f ln i ≤ 57 then 1 else 0))) ∧ u = [MO y t kn ln th, RW G (y 5) 60 f]) := by
  refine CM_of RX6 1 22 rfl rfl (by decide) (by decide +kernel) (Nat.le_of_ble_eq_true rfl) (fun E A X hrt hnm => ?_)
  generalize hQ : QM E G A _ _ _ = Q
  show V E G A 2 [MO y t kn ln th, RW G (y 5) 60 f] 0 0 Q 0 [(0, .ref (y 0)), (1, .int (nI i))] []
  refine V_aload_n (pc' := 1) 0 X dX6_isDigit_0 rfl rfl rfl ?_
  refine V_iload_n (pc' := 2) 1 X dX6_isDigit_1 rfl rfl rfl ?_
  refine V_callV (pc' := 5) (As := [.int (nI i)]) (st := []) 6 0 [0, 1] [] (show (List.range 2).Perm ([0, 1] ++ []) by decide) X (c_X6_charAt l G y t kn ln th f hn hf i (by omega)) rfl gX6_isDigit_X6_charAt rfl (by decide) rfl rfl rfl (Nat.le_of_ble_eq_true rfl) ⟨Nat.le_of_ble_eq_true rfl, Nat.le_of_ble_eq_true rfl⟩ ⟨Nat.le_of_ble_eq_true rfl, Nat.le_of_ble_eq_true rfl⟩ dX6_isDigit_2 rfl (fun v_ u_ hp_ => ?_)
  obtain ⟨rfl, rfl⟩ := hp_
  show V E G A 2 [MO y t kn ln th, RW G (y 5) 60 f] 0 0 Q 5 [(0, .ref (y 0)), (1, .int (nI i))] [.int (nI (ch f ln i))]
  refine V_bipush (pc' := 7) (nI 48) X dX6_isDigit_5 kb_48 rfl ?_
  refine V_bipush (pc' := 9) (nI 57) X dX6_isDigit_7 kb_57 rfl ?_
  refine V_callS (pc' := 12) (As := [.int (nI (ch f ln i)), .int (nI 48), .int (nI 57)]) (st := []) [] [0, 1] (show (List.range 2).Perm ([] ++ [0, 1]) by decide) X (c_X6_in l G (ch f ln i) 48 57 (Nat.lt_trans (ch_lt hf _) (by decide)) (by decide) (by decide)) rfl gX6_isDigit_X6_in rfl rfl (Nat.le_of_ble_eq_true rfl) ⟨Nat.le_of_ble_eq_true rfl, Nat.le_of_ble_eq_true rfl⟩ ⟨Nat.le_of_ble_eq_true rfl, Nat.le_of_ble_eq_true rfl⟩ dX6_isDigit_9 rfl (fun v_ u_ hp_ => ?_)
  obtain ⟨rfl, rfl⟩ := hp_
  show V E G A 2 [MO y t kn ln th, RW G (y 5) 60 f] 0 0 Q 12 [(0, .ref (y 0)), (1, .int (nI i))] [.int (nI (if 48 ≤ (ch f ln i) ∧ (ch f ln i) ≤ 57 then 1 else 0))]
  exact V_ireturn (v := nI (if 48 ≤ (ch f ln i) ∧ (ch f ln i) ≤ 57 then 1 else 0)) [MO y t kn ln th, RW G (y 5) 60 f] hQ X hrt (nar_if _) dX6_isDigit_12 (Nat.le_of_ble_eq_true rfl) (Nat.le_of_ble_eq_true rfl) (List.Perm.refl _) ⟨rfl, rfl⟩

set_option maxHeartbeats 4000000 in
set_option maxRecDepth 100000 in
theorem c_X6_behindColumn (l : Launch) (G : gT) (y : Nat → Nat) (t kn ln th : Nat) (f : Nat → Nat) (hn : ln ≤ 60) (hf : ∀ k, k < ln → f k < 128) (p : Nat) (hp : p < 2 ^ 19) (hd : dg (ch f ln p)) : CM l G yX6_behindColumn wsX6_behindColumn 3 65 1 [.ref (y 0), .int (nI p)] [MO y t kn ln th, RW G (y 5) 60 f] 0 0 (fun v u => v = some (.int (nI (bc f ln p))) ∧ u = [MO y t kn ln th, RW G (y 5) 60 f]) := by
  refine CM_of RX6 2 43 rfl rfl (by decide) (by decide +kernel) (Nat.le_of_ble_eq_true rfl) (fun E A X hrt hnm => ?_)
  generalize hQ : QM E G A _ _ _ = Q
  have hc0 := ch_lt hf p
  have hc1 := ch_lt hf (p + 1)
  show V E G A 3 [MO y t kn ln th, RW G (y 5) 60 f] 0 0 Q 0 [(0, .ref (y 0)), (1, .int (nI p))] []
  refine V_bipush (pc' := 2) (nI 10) X dX6_behindColumn_0 kb_10 rfl ?_
  refine V_aload_n (pc' := 3) 0 X dX6_behindColumn_2 rfl rfl rfl ?_
  refine V_iload_n (pc' := 4) 1 X dX6_behindColumn_3 rfl rfl rfl ?_
  refine V_callV (pc' := 7) (As := [.int (nI p)]) (st := [.int (nI 10)]) 6 0 [0, 1] [] (show (List.range 2).Perm ([0, 1] ++ []) by decide) X (c_X6_charAt l G y t kn ln th f hn hf p (by omega)) rfl gX6_behindColumn_X6_charAt rfl (by decide) rfl rfl rfl (Nat.le_of_ble_eq_true rfl) ⟨Nat.le_of_ble_eq_true rfl, Nat.le_of_ble_eq_true rfl⟩ ⟨Nat.le_of_ble_eq_true rfl, Nat.le_of_ble_eq_true rfl⟩ dX6_behindColumn_4 rfl (fun v_ u_ hp_ => ?_)
  obtain ⟨rfl, rfl⟩ := hp_
  show V E G A 3 [MO y t kn ln th, RW G (y 5) 60 f] 0 0 Q 7 [(0, .ref (y 0)), (1, .int (nI p))] [.int (nI (ch f ln p)), .int (nI 10)]
  refine V_bipush (pc' := 9) (nI 48) X dX6_behindColumn_7 kb_48 rfl ?_
  refine V_isub (pc' := 10) (nI ((ch f ln p) - 48)) X dX6_behindColumn_9 (pk_sub (by omega)) rfl ?_
  refine V_imul (pc' := 11) (nI (10 * ((ch f ln p) - 48))) X dX6_behindColumn_10 (pk_mul _ _) rfl ?_
  refine V_aload_n (pc' := 12) 0 X dX6_behindColumn_11 rfl rfl rfl ?_
  refine V_iload_n (pc' := 13) 1 X dX6_behindColumn_12 rfl rfl rfl ?_
  refine V_iconst (pc' := 14) (nI 1) X dX6_behindColumn_13 ki_1 rfl ?_
  refine V_iadd (pc' := 15) (nI (p + 1)) X dX6_behindColumn_14 (nI_add _ _) rfl ?_
  refine V_callV (pc' := 18) (As := [.int (nI (p + 1))]) (st := [.int (nI (10 * ((ch f ln p) - 48)))]) 6 0 [0, 1] [] (show (List.range 2).Perm ([0, 1] ++ []) by decide) X (c_X6_charAt l G y t kn ln th f hn hf (p + 1) (by omega)) rfl gX6_behindColumn_X6_charAt rfl (by decide) rfl rfl rfl (Nat.le_of_ble_eq_true rfl) ⟨Nat.le_of_ble_eq_true rfl, Nat.le_of_ble_eq_true rfl⟩ ⟨Nat.le_of_ble_eq_true rfl, Nat.le_of_ble_eq_true rfl⟩ dX6_behindColumn_15 rfl (fun v_ u_ hp_ => ?_)
  obtain ⟨rfl, rfl⟩ := hp_
  show V E G A 3 [MO y t kn ln th, RW G (y 5) 60 f] 0 0 Q 18 [(0, .ref (y 0)), (1, .int (nI p))] [.int (nI (ch f ln (p + 1))), .int (nI (10 * ((ch f ln p) - 48)))]
  refine V_iadd (pc' := 19) (nI ((10 * ((ch f ln p) - 48)) + (ch f ln (p + 1)))) X dX6_behindColumn_18 (nI_add _ _) rfl ?_
  refine V_bipush (pc' := 21) (nI 48) X dX6_behindColumn_19 kb_48 rfl ?_
  refine V_isub (pc' := 22) ((nI (10 * (ch f ln p - 48) + ch f ln (p + 1)) - nI 48)) X dX6_behindColumn_21 rfl rfl ?_
  refine V_istore_n (pc' := 23) [(0, .ref (y 0)), (1, .int (nI p)), (2, .int (nI (10 * (ch f ln p - 48) + ch f ln (p + 1)) - nI 48))] [1, 2, 0] X dX6_behindColumn_22 rfl (Nat.le_of_ble_eq_true rfl) rfl rfl ?_
  refine V_aload_n (pc' := 24) 0 X dX6_behindColumn_23 rfl rfl rfl ?_
  refine V_iload_n (pc' := 25) 1 X dX6_behindColumn_24 rfl rfl rfl ?_
  refine V_iconst (pc' := 26) (nI 1) X dX6_behindColumn_25 ki_1 rfl ?_
  refine V_iadd (pc' := 27) (nI (p + 1)) X dX6_behindColumn_26 (nI_add _ _) rfl ?_
  refine V_callV (pc' := 30) (As := [.int (nI (p + 1))]) (st := []) 6 0 [0, 1] [] (show (List.range 2).Perm ([0, 1] ++ []) by decide) X (c_X6_isDigit l G y t kn ln th f hn hf (p + 1) (by omega)) rfl gX6_behindColumn_X6_isDigit rfl (by decide) rfl rfl rfl (Nat.le_of_ble_eq_true rfl) ⟨Nat.le_of_ble_eq_true rfl, Nat.le_of_ble_eq_true rfl⟩ ⟨Nat.le_of_ble_eq_true rfl, Nat.le_of_ble_eq_true rfl⟩ dX6_behindColumn_27 rfl (fun v_ u_ hp_ => ?_)
  obtain ⟨rfl, rfl⟩ := hp_
  show V E G A 3 [MO y t kn ln th, RW G (y 5) 60 f] 0 0 Q 30 [(0, .ref (y 0)), (1, .int (nI p)), (2, .int (nI (10 * (ch f ln p - 48) + ch f ln (p + 1)) - nI 48))] [.int (nI (if 48 ≤ ch f ln (p + 1) ∧ ch f ln (p + 1) ≤ 57 then 1 else 0))]
  refine V_if_eq (pc' := 33) (C := ¬ (48 ≤ ch f ln (p + 1) ∧ ch f ln (p + 1) ≤ 57)) 50 X dX6_behindColumn_30 (by decide) rfl z_ite0 (fun h30 => ?_) (fun h30 => ?_)
  · refine V_iload_n (pc' := 51) 1 X dX6_behindColumn_50 rfl rfl rfl ?_
    refine V_iconst (pc' := 52) (nI 1) X dX6_behindColumn_51 ki_1 rfl ?_
    refine V_iadd (pc' := 53) (nI (p + 1)) X dX6_behindColumn_52 (nI_add _ _) rfl ?_
    exact V_ireturn (v := nI (p + 1)) [MO y t kn ln th, RW G (y 5) 60 f] hQ X hrt rfl dX6_behindColumn_53 (Nat.le_of_ble_eq_true rfl) (Nat.le_of_ble_eq_true rfl) (List.Perm.refl _) ⟨by unfold bc; rw [if_neg (fun q => h30 q.1)], rfl⟩
  · have h30 := Classical.not_not.mp h30
    rw [pk_sub (a := 10 * (ch f ln p - 48) + ch f ln (p + 1)) (b := 48) (by omega)]
    show V E G A 3 [MO y t kn ln th, RW G (y 5) 60 f] 0 0 Q 33 [(0, .ref (y 0)), (1, .int (nI p)), (2, .int (nI (10 * (ch f ln p - 48) + ch f ln (p + 1) - 48)))] []
    refine V_iload_n (pc' := 34) 2 X dX6_behindColumn_33 rfl rfl rfl ?_
    refine V_bipush (pc' := 36) (nI 10) X dX6_behindColumn_34 kb_10 rfl ?_
    refine V_bipush (pc' := 38) (nI 31) X dX6_behindColumn_36 kb_31 rfl ?_
    refine V_callS (pc' := 41) (As := [.int (nI (10 * (ch f ln p - 48) + ch f ln (p + 1) - 48)), .int (nI 10), .int (nI 31)]) (st := []) [] [0, 1] (show (List.range 2).Perm ([] ++ [0, 1]) by decide) X (c_X6_in l G (10 * (ch f ln p - 48) + ch f ln (p + 1) - 48) 10 31 (by omega) (by decide) (by decide)) rfl gX6_behindColumn_X6_in rfl rfl (Nat.le_of_ble_eq_true rfl) ⟨Nat.le_of_ble_eq_true rfl, Nat.le_of_ble_eq_true rfl⟩ ⟨Nat.le_of_ble_eq_true rfl, Nat.le_of_ble_eq_true rfl⟩ dX6_behindColumn_38 rfl (fun v_ u_ hp_ => ?_)
    obtain ⟨rfl, rfl⟩ := hp_
    show V E G A 3 [MO y t kn ln th, RW G (y 5) 60 f] 0 0 Q 41 [(0, .ref (y 0)), (1, .int (nI p)), (2, .int (nI (10 * (ch f ln p - 48) + ch f ln (p + 1) - 48)))] [.int (nI (if 10 ≤ (10 * (ch f ln p - 48) + ch f ln (p + 1) - 48) ∧ (10 * (ch f ln p - 48) + ch f ln (p + 1) - 48) ≤ 31 then 1 else 0))]
    refine V_if_eq (pc' := 44) (C := ¬ (10 ≤ (10 * (ch f ln p - 48) + ch f ln (p + 1) - 48) ∧ (10 * (ch f ln p - 48) + ch f ln (p + 1) - 48) ≤ 31)) 50 X dX6_behindColumn_41 (by decide) rfl z_ite0 (fun h41 => ?_) (fun h41 => ?_)
    · refine V_iload_n (pc' := 51) 1 X dX6_behindColumn_50 rfl rfl rfl ?_
      refine V_iconst (pc' := 52) (nI 1) X dX6_behindColumn_51 ki_1 rfl ?_
      refine V_iadd (pc' := 53) (nI (p + 1)) X dX6_behindColumn_52 (nI_add _ _) rfl ?_
      exact V_ireturn (v := nI (p + 1)) [MO y t kn ln th, RW G (y 5) 60 f] hQ X hrt rfl dX6_behindColumn_53 (Nat.le_of_ble_eq_true rfl) (Nat.le_of_ble_eq_true rfl) (List.Perm.refl _) ⟨by unfold bc; rw [if_neg (fun q => h41 ⟨by omega, by omega⟩)], rfl⟩
    · have h41 := Classical.not_not.mp h41
      refine V_iload_n (pc' := 45) 1 X dX6_behindColumn_44 rfl rfl rfl ?_
      refine V_iconst (pc' := 46) (nI 2) X dX6_behindColumn_45 ki_2 rfl ?_
      refine V_iadd (pc' := 47) (nI (p + 2)) X dX6_behindColumn_46 (nI_add _ _) rfl ?_
      refine V_goto (pc' := 53) X dX6_behindColumn_47 (by decide) ?_
      exact V_ireturn (v := nI (p + 2)) [MO y t kn ln th, RW G (y 5) 60 f] hQ X hrt rfl dX6_behindColumn_53 (Nat.le_of_ble_eq_true rfl) (Nat.le_of_ble_eq_true rfl) (List.Perm.refl _) ⟨by unfold bc; rw [if_pos ⟨h30, by omega, by omega⟩], rfl⟩

set_option maxHeartbeats 4000000 in
set_option maxRecDepth 100000 in
theorem c_X6_behindPart (l : Launch) (G : gT) (y : Nat → Nat) (t kn ln th : Nat) (f : Nat → Nat) (hn : ln ≤ 60) (hf : ∀ k, k < ln → f k < 128) (p : Nat) (hp : p < 2 ^ 18) : CM l G yX6_behindPart wsX6_behindPart 4 88 1 [.ref (y 0), .int (nI p)] [MO y t kn ln th, RW G (y 5) 60 f] 0 0 (fun v u => v = some (.int (bpI (bp f ln p))) ∧ u = [MO y t kn ln th, RW G (y 5) 60 f]) := by
  refine CM_of RX6 3 65 rfl rfl (by decide) (by decide +kernel) (Nat.le_of_ble_eq_true rfl) (fun E A X hrt hnm => ?_)
  generalize hQ : QM E G A _ _ _ = Q
  have hc0 := ch_lt hf p
  have hc1 := ch_lt hf (p + 1)
  have hc2 := ch_lt hf (p + 2)
  have hbc := bc_le f ln p
  have hc3 := ch_lt hf (bc f ln p)
  show V E G A 4 [MO y t kn ln th, RW G (y 5) 60 f] 0 0 Q 0 [(0, .ref (y 0)), (1, .int (nI p))] []
  refine V_aload_n (pc' := 1) 0 X dX6_behindPart_0 rfl rfl rfl ?_
  refine V_iload_n (pc' := 2) 1 X dX6_behindPart_1 rfl rfl rfl ?_
  refine V_callV (pc' := 5) (As := [.int (nI p)]) (st := []) 6 0 [0, 1] [] (show (List.range 2).Perm ([0, 1] ++ []) by decide) X (c_X6_charAt l G y t kn ln th f hn hf p (by omega)) rfl gX6_behindPart_X6_charAt rfl (by decide) rfl rfl rfl (Nat.le_of_ble_eq_true rfl) ⟨Nat.le_of_ble_eq_true rfl, Nat.le_of_ble_eq_true rfl⟩ ⟨Nat.le_of_ble_eq_true rfl, Nat.le_of_ble_eq_true rfl⟩ dX6_behindPart_2 rfl (fun v_ u_ hp_ => ?_)
  obtain ⟨rfl, rfl⟩ := hp_
  show V E G A 4 [MO y t kn ln th, RW G (y 5) 60 f] 0 0 Q 5 [(0, .ref (y 0)), (1, .int (nI p))] [.int (nI (ch f ln p))]
  refine V_bipush (pc' := 7) (nI 46) X dX6_behindPart_5 kb_46 rfl ?_
  refine V_icmp_ne (pc' := 10) (C := (ch f ln p) = 46) 37 X dX6_behindPart_7 (by decide) rfl (nI_eq (by omega) (by omega)) (fun h7 => ?_) (fun h7 => ?_)
  · refine V_aload_n (pc' := 38) 0 X dX6_behindPart_37 rfl rfl rfl ?_
    refine V_iload_n (pc' := 39) 1 X dX6_behindPart_38 rfl rfl rfl ?_
    refine V_callV (pc' := 42) (As := [.int (nI p)]) (st := []) 6 0 [0, 1] [] (show (List.range 2).Perm ([0, 1] ++ []) by decide) X (c_X6_charAt l G y t kn ln th f hn hf p (by omega)) rfl gX6_behindPart_X6_charAt rfl (by decide) rfl rfl rfl (Nat.le_of_ble_eq_true rfl) ⟨Nat.le_of_ble_eq_true rfl, Nat.le_of_ble_eq_true rfl⟩ ⟨Nat.le_of_ble_eq_true rfl, Nat.le_of_ble_eq_true rfl⟩ dX6_behindPart_39 rfl (fun v_ u_ hp_ => ?_)
    obtain ⟨rfl, rfl⟩ := hp_
    show V E G A 4 [MO y t kn ln th, RW G (y 5) 60 f] 0 0 Q 42 [(0, .ref (y 0)), (1, .int (nI p))] [.int (nI (ch f ln p))]
    refine V_bipush (pc' := 44) (nI 116) X dX6_behindPart_42 kb_116 rfl ?_
    refine V_icmp_ne (pc' := 47) (C := (ch f ln p) = 116) 107 X dX6_behindPart_44 (by decide) rfl (nI_eq (by omega) (by omega)) (fun h44 => ?_) (fun h44 => ?_)
    · refine V_aload_n (pc' := 108) 0 X dX6_behindPart_107 rfl rfl rfl ?_
      refine V_iload_n (pc' := 109) 1 X dX6_behindPart_108 rfl rfl rfl ?_
      refine V_callV (pc' := 112) (As := [.int (nI p)]) (st := []) 6 0 [0, 1] [] (show (List.range 2).Perm ([0, 1] ++ []) by decide) X (c_X6_isDigit l G y t kn ln th f hn hf p (by omega)) rfl gX6_behindPart_X6_isDigit rfl (by decide) rfl rfl rfl (Nat.le_of_ble_eq_true rfl) ⟨Nat.le_of_ble_eq_true rfl, Nat.le_of_ble_eq_true rfl⟩ ⟨Nat.le_of_ble_eq_true rfl, Nat.le_of_ble_eq_true rfl⟩ dX6_behindPart_109 rfl (fun v_ u_ hp_ => ?_)
      obtain ⟨rfl, rfl⟩ := hp_
      show V E G A 4 [MO y t kn ln th, RW G (y 5) 60 f] 0 0 Q 112 [(0, .ref (y 0)), (1, .int (nI p))] [.int (nI (if 48 ≤ ch f ln p ∧ ch f ln p ≤ 57 then 1 else 0))]
      refine V_if_ne (pc' := 115) (C := ¬ (48 ≤ ch f ln p ∧ ch f ln p ≤ 57)) 119 X dX6_behindPart_112 (by decide) rfl z_ite0 (fun h112 => ?_) (fun h112 => ?_)
      · have h112 := Classical.not_not.mp h112
        refine V_aload_n (pc' := 120) 0 X dX6_behindPart_119 rfl rfl rfl ?_
        refine V_iload_n (pc' := 121) 1 X dX6_behindPart_120 rfl rfl rfl ?_
        refine V_callV (pc' := 124) (As := [.int (nI p)]) (st := []) 6 0 [0, 1] [] (show (List.range 2).Perm ([0, 1] ++ []) by decide) X (c_X6_behindColumn l G y t kn ln th f hn hf p (by omega) h112) rfl gX6_behindPart_X6_behindColumn rfl (by decide) rfl rfl rfl (Nat.le_of_ble_eq_true rfl) ⟨Nat.le_of_ble_eq_true rfl, Nat.le_of_ble_eq_true rfl⟩ ⟨Nat.le_of_ble_eq_true rfl, Nat.le_of_ble_eq_true rfl⟩ dX6_behindPart_121 rfl (fun v_ u_ hp_ => ?_)
        obtain ⟨rfl, rfl⟩ := hp_
        show V E G A 4 [MO y t kn ln th, RW G (y 5) 60 f] 0 0 Q 124 [(0, .ref (y 0)), (1, .int (nI p))] [.int (nI (bc f ln p))]
        refine V_istore_n (pc' := 125) [(0, .ref (y 0)), (1, .int (nI p)), (2, .int (nI (bc f ln p)))] [1, 2, 0] X dX6_behindPart_124 rfl (Nat.le_of_ble_eq_true rfl) rfl rfl ?_
        refine V_aload_n (pc' := 126) 0 X dX6_behindPart_125 rfl rfl rfl ?_
        refine V_iload_n (pc' := 127) 2 X dX6_behindPart_126 rfl rfl rfl ?_
        refine V_callV (pc' := 130) (As := [.int (nI (bc f ln p))]) (st := []) 6 0 [0, 1] [] (show (List.range 2).Perm ([0, 1] ++ []) by decide) X (c_X6_charAt l G y t kn ln th f hn hf (bc f ln p) (by omega)) rfl gX6_behindPart_X6_charAt rfl (by decide) rfl rfl rfl (Nat.le_of_ble_eq_true rfl) ⟨Nat.le_of_ble_eq_true rfl, Nat.le_of_ble_eq_true rfl⟩ ⟨Nat.le_of_ble_eq_true rfl, Nat.le_of_ble_eq_true rfl⟩ dX6_behindPart_127 rfl (fun v_ u_ hp_ => ?_)
        obtain ⟨rfl, rfl⟩ := hp_
        show V E G A 4 [MO y t kn ln th, RW G (y 5) 60 f] 0 0 Q 130 [(0, .ref (y 0)), (1, .int (nI p)), (2, .int (nI (bc f ln p)))] [.int (nI (ch f ln (bc f ln p)))]
        refine V_bipush (pc' := 132) (nI 58) X dX6_behindPart_130 kb_58 rfl ?_
        refine V_icmp_ne (pc' := 135) (C := (ch f ln (bc f ln p)) = 58) 145 X dX6_behindPart_132 (by decide) rfl (nI_eq (by omega) (by omega)) (fun h132 => ?_) (fun h132 => ?_)
        · refine V_aload_n (pc' := 146) 0 X dX6_behindPart_145 rfl rfl rfl ?_
          refine V_iload_n (pc' := 147) 2 X dX6_behindPart_146 rfl rfl rfl ?_
          refine V_callV (pc' := 150) (As := [.int (nI (bc f ln p))]) (st := []) 6 0 [0, 1] [] (show (List.range 2).Perm ([0, 1] ++ []) by decide) X (c_X6_charAt l G y t kn ln th f hn hf (bc f ln p) (by omega)) rfl gX6_behindPart_X6_charAt rfl (by decide) rfl rfl rfl (Nat.le_of_ble_eq_true rfl) ⟨Nat.le_of_ble_eq_true rfl, Nat.le_of_ble_eq_true rfl⟩ ⟨Nat.le_of_ble_eq_true rfl, Nat.le_of_ble_eq_true rfl⟩ dX6_behindPart_147 rfl (fun v_ u_ hp_ => ?_)
          obtain ⟨rfl, rfl⟩ := hp_
          show V E G A 4 [MO y t kn ln th, RW G (y 5) 60 f] 0 0 Q 150 [(0, .ref (y 0)), (1, .int (nI p)), (2, .int (nI (bc f ln p)))] [.int (nI (ch f ln (bc f ln p)))]
          refine V_bipush (pc' := 152) (nI 58) X dX6_behindPart_150 kb_58 rfl ?_
          refine V_icmp_eq (pc' := 155) (C := (ch f ln (bc f ln p)) = 58) 161 X dX6_behindPart_152 (by decide) rfl (nI_eq (by omega) (by omega)) (fun hz => absurd hz (h132)) (fun _ => ?_)
          refine V_iconst (pc' := 156) (-1) X dX6_behindPart_155 rfl rfl ?_
          refine V_iload_n (pc' := 157) 2 X dX6_behindPart_156 rfl rfl rfl ?_
          refine V_isub (pc' := 158) (((-1) - (nI (bc f ln p)))) X dX6_behindPart_157 rfl rfl ?_
          refine V_goto (pc' := 165) X dX6_behindPart_158 (by decide) ?_
          exact V_ireturn (v := ((-1) - (nI (bc f ln p)))) [MO y t kn ln th, RW G (y 5) 60 f] hQ X hrt rfl dX6_behindPart_165 (Nat.le_of_ble_eq_true rfl) (Nat.le_of_ble_eq_true rfl) (List.Perm.refl _) ⟨congrArg (fun z => some (Value.int z)) (by unfold bp; rw [if_neg h7, if_neg h44, if_neg (Classical.not_not.mpr h112), if_pos h132]; exact rfl), rfl⟩
        · refine V_aload_n (pc' := 136) 0 X dX6_behindPart_135 rfl rfl rfl ?_
          refine V_iload_n (pc' := 137) 2 X dX6_behindPart_136 rfl rfl rfl ?_
          refine V_iconst (pc' := 138) (nI 1) X dX6_behindPart_137 ki_1 rfl ?_
          refine V_iadd (pc' := 139) (nI ((bc f ln p) + 1)) X dX6_behindPart_138 (nI_add _ _) rfl ?_
          refine V_callV (pc' := 142) (As := [.int (nI ((bc f ln p) + 1))]) (st := []) 6 0 [0, 1] [] (show (List.range 2).Perm ([0, 1] ++ []) by decide) X (c_X6_isDigit l G y t kn ln th f hn hf ((bc f ln p) + 1) (by omega)) rfl gX6_behindPart_X6_isDigit rfl (by decide) rfl rfl rfl (Nat.le_of_ble_eq_true rfl) ⟨Nat.le_of_ble_eq_true rfl, Nat.le_of_ble_eq_true rfl⟩ ⟨Nat.le_of_ble_eq_true rfl, Nat.le_of_ble_eq_true rfl⟩ dX6_behindPart_139 rfl (fun v_ u_ hp_ => ?_)
          obtain ⟨rfl, rfl⟩ := hp_
          show V E G A 4 [MO y t kn ln th, RW G (y 5) 60 f] 0 0 Q 142 [(0, .ref (y 0)), (1, .int (nI p)), (2, .int (nI (bc f ln p)))] [.int (nI (if 48 ≤ ch f ln ((bc f ln p) + 1) ∧ ch f ln ((bc f ln p) + 1) ≤ 57 then 1 else 0))]
          refine V_if_ne (pc' := 145) (C := ¬ (48 ≤ ch f ln ((bc f ln p) + 1) ∧ ch f ln ((bc f ln p) + 1) ≤ 57)) 166 X dX6_behindPart_142 (by decide) rfl z_ite0 (fun h142 => ?_) (fun h142 => ?_)
          · have h142 := Classical.not_not.mp h142
            refine V_iload_n (pc' := 167) 2 X dX6_behindPart_166 rfl rfl rfl ?_
            refine V_iconst (pc' := 168) (nI 1) X dX6_behindPart_167 ki_1 rfl ?_
            refine V_iadd (pc' := 169) (nI ((bc f ln p) + 1)) X dX6_behindPart_168 (nI_add _ _) rfl ?_
            refine V_istore_n (pc' := 170) [(0, .ref (y 0)), (1, .int (nI p)), (2, .int (nI (bc f ln p))), (3, .int (nI ((bc f ln p) + 1)))] [1, 2, 3, 0] X dX6_behindPart_169 rfl (Nat.le_of_ble_eq_true rfl) rfl rfl ?_
            obtain ⟨hr1, hr2, hr3, hr4⟩ := rn_dg f ln _ (bc f ln p + 1) rfl
            have lp_1 : ∀ i, i ≤ (rn f ln (bc f ln p + 1) - (bc f ln p + 1)) → V E G A 4 [MO y t kn ln th, RW G (y 5) 60 f] 0 0 Q 170 [(0, .ref (y 0)), (1, .int (nI p)), (2, .int (nI (bc f ln p))), (3, .int (nI (bc f ln p + 1 + i)))] [] := by
              refine loopD (rn f ln (bc f ln p + 1) - (bc f ln p + 1)) ?_ ?_
              · show V E G A 4 [MO y t kn ln th, RW G (y 5) 60 f] 0 0 Q 170 [(0, .ref (y 0)), (1, .int (nI p)), (2, .int (nI (bc f ln p))), (3, .int (nI (bc f ln p + 1 + (rn f ln (bc f ln p + 1) - (bc f ln p + 1)))))] []
                rw [show bc f ln p + 1 + (rn f ln (bc f ln p + 1) - (bc f ln p + 1)) = rn f ln (bc f ln p + 1) by omega]
                show V E G A 4 [MO y t kn ln th, RW G (y 5) 60 f] 0 0 Q 170 [(0, .ref (y 0)), (1, .int (nI p)), (2, .int (nI (bc f ln p))), (3, .int (nI (rn f ln (bc f ln p + 1))))] []
                refine V_aload_n (pc' := 171) 0 X dX6_behindPart_170 rfl rfl rfl ?_
                refine V_iload_n (pc' := 172) 3 X dX6_behindPart_171 rfl rfl rfl ?_
                refine V_callV (pc' := 175) (As := [.int (nI (rn f ln (bc f ln p + 1)))]) (st := []) 6 0 [0, 1] [] (show (List.range 2).Perm ([0, 1] ++ []) by decide) X (c_X6_isDigit l G y t kn ln th f hn hf (rn f ln (bc f ln p + 1)) (by omega)) rfl gX6_behindPart_X6_isDigit rfl (by decide) rfl rfl rfl (Nat.le_of_ble_eq_true rfl) ⟨Nat.le_of_ble_eq_true rfl, Nat.le_of_ble_eq_true rfl⟩ ⟨Nat.le_of_ble_eq_true rfl, Nat.le_of_ble_eq_true rfl⟩ dX6_behindPart_172 rfl (fun v_ u_ hp_ => ?_)
                obtain ⟨rfl, rfl⟩ := hp_
                show V E G A 4 [MO y t kn ln th, RW G (y 5) 60 f] 0 0 Q 175 [(0, .ref (y 0)), (1, .int (nI p)), (2, .int (nI (bc f ln p))), (3, .int (nI (rn f ln (bc f ln p + 1))))] [.int (nI (if 48 ≤ ch f ln (rn f ln (bc f ln p + 1)) ∧ ch f ln (rn f ln (bc f ln p + 1)) ≤ 57 then 1 else 0))]
                refine V_if_eq (pc' := 178) (C := ¬ (48 ≤ ch f ln (rn f ln (bc f ln p + 1)) ∧ ch f ln (rn f ln (bc f ln p + 1)) ≤ 57)) 184 X dX6_behindPart_175 (by decide) rfl z_ite0 (fun _ => ?_) (fun hz => absurd (hr4) hz)
                refine V_iload_n (pc' := 185) 3 X dX6_behindPart_184 rfl rfl rfl ?_
                exact V_ireturn (v := nI (rn f ln (bc f ln p + 1))) [MO y t kn ln th, RW G (y 5) 60 f] hQ X hrt rfl dX6_behindPart_185 (Nat.le_of_ble_eq_true rfl) (Nat.le_of_ble_eq_true rfl) (List.Perm.refl _) ⟨congrArg (fun z => some (Value.int z)) (by unfold bp; rw [if_neg h7, if_neg h44, if_neg (Classical.not_not.mpr h112), if_neg (Classical.not_not.mpr h132), if_neg (Classical.not_not.mpr h142)]; exact rfl), rfl⟩
              · intro i hi_i ih
                show V E G A 4 [MO y t kn ln th, RW G (y 5) 60 f] 0 0 Q 170 [(0, .ref (y 0)), (1, .int (nI p)), (2, .int (nI (bc f ln p))), (3, .int (nI (bc f ln p + 1 + i)))] []
                refine V_aload_n (pc' := 171) 0 X dX6_behindPart_170 rfl rfl rfl ?_
                refine V_iload_n (pc' := 172) 3 X dX6_behindPart_171 rfl rfl rfl ?_
                refine V_callV (pc' := 175) (As := [.int (nI (bc f ln p + 1 + i))]) (st := []) 6 0 [0, 1] [] (show (List.range 2).Perm ([0, 1] ++ []) by decide) X (c_X6_isDigit l G y t kn ln th f hn hf (bc f ln p + 1 + i) (by omega)) rfl gX6_behindPart_X6_isDigit rfl (by decide) rfl rfl rfl (Nat.le_of_ble_eq_true rfl) ⟨Nat.le_of_ble_eq_true rfl, Nat.le_of_ble_eq_true rfl⟩ ⟨Nat.le_of_ble_eq_true rfl, Nat.le_of_ble_eq_true rfl⟩ dX6_behindPart_172 rfl (fun v_ u_ hp_ => ?_)
                obtain ⟨rfl, rfl⟩ := hp_
                show V E G A 4 [MO y t kn ln th, RW G (y 5) 60 f] 0 0 Q 175 [(0, .ref (y 0)), (1, .int (nI p)), (2, .int (nI (bc f ln p))), (3, .int (nI (bc f ln p + 1 + i)))] [.int (nI (if 48 ≤ ch f ln (bc f ln p + 1 + i) ∧ ch f ln (bc f ln p + 1 + i) ≤ 57 then 1 else 0))]
                refine V_if_eq (pc' := 178) (C := ¬ (48 ≤ ch f ln (bc f ln p + 1 + i) ∧ ch f ln (bc f ln p + 1 + i) ≤ 57)) 184 X dX6_behindPart_175 (by decide) rfl z_ite0 (fun hz => absurd hz (Classical.not_not.mpr (hr3 _ (by omega) (by omega)))) (fun _ => ?_)
                refine V_iinc (pc' := 181) [(0, .ref (y 0)), (1, .int (nI p)), (2, .int (nI (bc f ln p))), (3, .int (nI (bc f ln p + 1 + i + 1)))] 3 [1, 2, 3, 0] X dX6_behindPart_178 rfl (nI_i1 _) (Nat.le_of_ble_eq_true rfl) rfl rfl ?_
                refine V_goto (pc' := 170) X dX6_behindPart_181 (by decide) ?_
                exact ih
            have e0 := lp_1 0 (Nat.zero_le _)
            rw [Nat.add_zero] at e0
            exact e0
          · refine V_aload_n (pc' := 146) 0 X dX6_behindPart_145 rfl rfl rfl ?_
            refine V_iload_n (pc' := 147) 2 X dX6_behindPart_146 rfl rfl rfl ?_
            refine V_callV (pc' := 150) (As := [.int (nI (bc f ln p))]) (st := []) 6 0 [0, 1] [] (show (List.range 2).Perm ([0, 1] ++ []) by decide) X (c_X6_charAt l G y t kn ln th f hn hf (bc f ln p) (by omega)) rfl gX6_behindPart_X6_charAt rfl (by decide) rfl rfl rfl (Nat.le_of_ble_eq_true rfl) ⟨Nat.le_of_ble_eq_true rfl, Nat.le_of_ble_eq_true rfl⟩ ⟨Nat.le_of_ble_eq_true rfl, Nat.le_of_ble_eq_true rfl⟩ dX6_behindPart_147 rfl (fun v_ u_ hp_ => ?_)
            obtain ⟨rfl, rfl⟩ := hp_
            show V E G A 4 [MO y t kn ln th, RW G (y 5) 60 f] 0 0 Q 150 [(0, .ref (y 0)), (1, .int (nI p)), (2, .int (nI (bc f ln p)))] [.int (nI (ch f ln (bc f ln p)))]
            refine V_bipush (pc' := 152) (nI 58) X dX6_behindPart_150 kb_58 rfl ?_
            refine V_icmp_eq (pc' := 155) (C := (ch f ln (bc f ln p)) = 58) 161 X dX6_behindPart_152 (by decide) rfl (nI_eq (by omega) (by omega)) (fun _ => ?_) (fun hz => absurd (h132) hz)
            refine V_bipush (pc' := 163) (-2) X dX6_behindPart_161 (by decide +kernel) rfl ?_
            refine V_iload_n (pc' := 164) 2 X dX6_behindPart_163 rfl rfl rfl ?_
            refine V_isub (pc' := 165) (((-2) - (nI (bc f ln p)))) X dX6_behindPart_164 rfl rfl ?_
            exact V_ireturn (v := ((-2) - (nI (bc f ln p)))) [MO y t kn ln th, RW G (y 5) 60 f] hQ X hrt rfl dX6_behindPart_165 (Nat.le_of_ble_eq_true rfl) (Nat.le_of_ble_eq_true rfl) (List.Perm.refl _) ⟨congrArg (fun z => some (Value.int z)) (by unfold bp; rw [if_neg h7, if_neg h44, if_neg (Classical.not_not.mpr h112), if_neg (Classical.not_not.mpr h132), if_pos h142]; exact m2_sub _), rfl⟩
      · refine V_iconst (pc' := 116) (-1) X dX6_behindPart_115 rfl rfl ?_
        refine V_iload_n (pc' := 117) 1 X dX6_behindPart_116 rfl rfl rfl ?_
        refine V_isub (pc' := 118) (((-1) - (nI p))) X dX6_behindPart_117 rfl rfl ?_
        exact V_ireturn (v := ((-1) - (nI p))) [MO y t kn ln th, RW G (y 5) 60 f] hQ X hrt rfl dX6_behindPart_118 (Nat.le_of_ble_eq_true rfl) (Nat.le_of_ble_eq_true rfl) (List.Perm.refl _) ⟨congrArg (fun z => some (Value.int z)) (by unfold bp; rw [if_neg h7, if_neg h44, if_pos h112]; exact rfl), rfl⟩
    · refine V_aload_n (pc' := 48) 0 X dX6_behindPart_47 rfl rfl rfl ?_
      refine V_iload_n (pc' := 49) 1 X dX6_behindPart_48 rfl rfl rfl ?_
      refine V_iconst (pc' := 50) (nI 1) X dX6_behindPart_49 ki_1 rfl ?_
      refine V_iadd (pc' := 51) (nI (p + 1)) X dX6_behindPart_50 (nI_add _ _) rfl ?_
      refine V_callV (pc' := 54) (As := [.int (nI (p + 1))]) (st := []) 6 0 [0, 1] [] (show (List.range 2).Perm ([0, 1] ++ []) by decide) X (c_X6_charAt l G y t kn ln th f hn hf (p + 1) (by omega)) rfl gX6_behindPart_X6_charAt rfl (by decide) rfl rfl rfl (Nat.le_of_ble_eq_true rfl) ⟨Nat.le_of_ble_eq_true rfl, Nat.le_of_ble_eq_true rfl⟩ ⟨Nat.le_of_ble_eq_true rfl, Nat.le_of_ble_eq_true rfl⟩ dX6_behindPart_51 rfl (fun v_ u_ hp_ => ?_)
      obtain ⟨rfl, rfl⟩ := hp_
      show V E G A 4 [MO y t kn ln th, RW G (y 5) 60 f] 0 0 Q 54 [(0, .ref (y 0)), (1, .int (nI p))] [.int (nI (ch f ln (p + 1)))]
      refine V_bipush (pc' := 56) (nI 48) X dX6_behindPart_54 kb_48 rfl ?_
      refine V_bipush (pc' := 58) (nI 51) X dX6_behindPart_56 kb_51 rfl ?_
      refine V_callS (pc' := 61) (As := [.int (nI (ch f ln (p + 1))), .int (nI 48), .int (nI 51)]) (st := []) [] [0, 1] (show (List.range 2).Perm ([] ++ [0, 1]) by decide) X (c_X6_in l G (ch f ln (p + 1)) 48 51 (by omega) (by decide) (by decide)) rfl gX6_behindPart_X6_in rfl rfl (Nat.le_of_ble_eq_true rfl) ⟨Nat.le_of_ble_eq_true rfl, Nat.le_of_ble_eq_true rfl⟩ ⟨Nat.le_of_ble_eq_true rfl, Nat.le_of_ble_eq_true rfl⟩ dX6_behindPart_58 rfl (fun v_ u_ hp_ => ?_)
      obtain ⟨rfl, rfl⟩ := hp_
      show V E G A 4 [MO y t kn ln th, RW G (y 5) 60 f] 0 0 Q 61 [(0, .ref (y 0)), (1, .int (nI p))] [.int (nI (if 48 ≤ (ch f ln (p + 1)) ∧ (ch f ln (p + 1)) ≤ 51 then 1 else 0))]
      refine V_if_ne (pc' := 64) (C := ¬ (48 ≤ (ch f ln (p + 1)) ∧ (ch f ln (p + 1)) ≤ 51)) 68 X dX6_behindPart_61 (by decide) rfl z_ite0 (fun h61 => ?_) (fun h61 => ?_)
      · have h61 := Classical.not_not.mp h61
        refine V_aload_n (pc' := 69) 0 X dX6_behindPart_68 rfl rfl rfl ?_
        refine V_iload_n (pc' := 70) 1 X dX6_behindPart_69 rfl rfl rfl ?_
        refine V_iconst (pc' := 71) (nI 2) X dX6_behindPart_70 ki_2 rfl ?_
        refine V_iadd (pc' := 72) (nI (p + 2)) X dX6_behindPart_71 (nI_add _ _) rfl ?_
        refine V_callV (pc' := 75) (As := [.int (nI (p + 2))]) (st := []) 6 0 [0, 1] [] (show (List.range 2).Perm ([0, 1] ++ []) by decide) X (c_X6_charAt l G y t kn ln th f hn hf (p + 2) (by omega)) rfl gX6_behindPart_X6_charAt rfl (by decide) rfl rfl rfl (Nat.le_of_ble_eq_true rfl) ⟨Nat.le_of_ble_eq_true rfl, Nat.le_of_ble_eq_true rfl⟩ ⟨Nat.le_of_ble_eq_true rfl, Nat.le_of_ble_eq_true rfl⟩ dX6_behindPart_72 rfl (fun v_ u_ hp_ => ?_)
        obtain ⟨rfl, rfl⟩ := hp_
        show V E G A 4 [MO y t kn ln th, RW G (y 5) 60 f] 0 0 Q 75 [(0, .ref (y 0)), (1, .int (nI p))] [.int (nI (ch f ln (p + 2)))]
        refine V_bipush (pc' := 77) (nI 49) X dX6_behindPart_75 kb_49 rfl ?_
        refine V_bipush (pc' := 79) (nI 57) X dX6_behindPart_77 kb_57 rfl ?_
        refine V_callS (pc' := 82) (As := [.int (nI (ch f ln (p + 2))), .int (nI 49), .int (nI 57)]) (st := []) [] [0, 1] (show (List.range 2).Perm ([] ++ [0, 1]) by decide) X (c_X6_in l G (ch f ln (p + 2)) 49 57 (by omega) (by decide) (by decide)) rfl gX6_behindPart_X6_in rfl rfl (Nat.le_of_ble_eq_true rfl) ⟨Nat.le_of_ble_eq_true rfl, Nat.le_of_ble_eq_true rfl⟩ ⟨Nat.le_of_ble_eq_true rfl, Nat.le_of_ble_eq_true rfl⟩ dX6_behindPart_79 rfl (fun v_ u_ hp_ => ?_)
        obtain ⟨rfl, rfl⟩ := hp_
        show V E G A 4 [MO y t kn ln th, RW G (y 5) 60 f] 0 0 Q 82 [(0, .ref (y 0)), (1, .int (nI p))] [.int (nI (if 49 ≤ (ch f ln (p + 2)) ∧ (ch f ln (p + 2)) ≤ 57 then 1 else 0))]
        refine V_if_eq (pc' := 85) (C := ¬ (49 ≤ (ch f ln (p + 2)) ∧ (ch f ln (p + 2)) ≤ 57)) 89 X dX6_behindPart_82 (by decide) rfl z_ite0 (fun h82 => ?_) (fun h82 => ?_)
        · refine V_iconst (pc' := 90) (nI 2) X dX6_behindPart_89 ki_2 rfl ?_
          refine V_istore_n (pc' := 91) [(0, .ref (y 0)), (1, .int (nI p)), (2, .int (nI 2))] [1, 2, 0] X dX6_behindPart_90 rfl (Nat.le_of_ble_eq_true rfl) rfl rfl ?_
          refine V_iload_n (pc' := 92) 2 X dX6_behindPart_91 rfl rfl rfl ?_
          refine V_if_le (pc' := 95) (C := 2 = 0) 103 X dX6_behindPart_92 (by decide) rfl (z_le0 (by omega)) (fun hz => absurd hz (by decide)) (fun _ => ?_)
          refine V_iconst (pc' := 96) (-1) X dX6_behindPart_95 rfl rfl ?_
          refine V_iload_n (pc' := 97) 1 X dX6_behindPart_96 rfl rfl rfl ?_
          refine V_isub (pc' := 98) (((-1) - (nI p))) X dX6_behindPart_97 rfl rfl ?_
          refine V_iload_n (pc' := 99) 2 X dX6_behindPart_98 rfl rfl rfl ?_
          refine V_isub (pc' := 100) ((((-1) - (nI p)) - (nI 2))) X dX6_behindPart_99 rfl rfl ?_
          refine V_goto (pc' := 106) X dX6_behindPart_100 (by decide) ?_
          exact V_ireturn (v := (((-1) - (nI p)) - (nI 2))) [MO y t kn ln th, RW G (y 5) 60 f] hQ X hrt rfl dX6_behindPart_106 (Nat.le_of_ble_eq_true rfl) (Nat.le_of_ble_eq_true rfl) (List.Perm.refl _) ⟨congrArg (fun z => some (Value.int z)) (by unfold bp; rw [if_neg h7, if_pos h44, if_neg (Classical.not_not.mpr h61), if_neg h82]; exact m1_sub _ _), rfl⟩
        · have h82 := Classical.not_not.mp h82
          refine V_iconst (pc' := 86) (nI 0) X dX6_behindPart_85 ki_0 rfl ?_
          refine V_goto (pc' := 90) X dX6_behindPart_86 (by decide) ?_
          refine V_istore_n (pc' := 91) [(0, .ref (y 0)), (1, .int (nI p)), (2, .int (nI 0))] [1, 2, 0] X dX6_behindPart_90 rfl (Nat.le_of_ble_eq_true rfl) rfl rfl ?_
          refine V_iload_n (pc' := 92) 2 X dX6_behindPart_91 rfl rfl rfl ?_
          refine V_if_le (pc' := 95) (C := 0 = 0) 103 X dX6_behindPart_92 (by decide) rfl (z_le0 (by omega)) (fun _ => ?_) (fun hz => absurd (by decide) hz)
          refine V_iload_n (pc' := 104) 1 X dX6_behindPart_103 rfl rfl rfl ?_
          refine V_iconst (pc' := 105) (nI 3) X dX6_behindPart_104 ki_3 rfl ?_
          refine V_iadd (pc' := 106) (nI (p + 3)) X dX6_behindPart_105 (nI_add _ _) rfl ?_
          exact V_ireturn (v := nI (p + 3)) [MO y t kn ln th, RW G (y 5) 60 f] hQ X hrt rfl dX6_behindPart_106 (Nat.le_of_ble_eq_true rfl) (Nat.le_of_ble_eq_true rfl) (List.Perm.refl _) ⟨congrArg (fun z => some (Value.int z)) (by unfold bp; rw [if_neg h7, if_pos h44, if_neg (Classical.not_not.mpr h61), if_pos h82]; exact rfl), rfl⟩
      · refine V_iconst (pc' := 65) (nI 1) X dX6_behindPart_64 ki_1 rfl ?_
        refine V_goto (pc' := 90) X dX6_behindPart_65 (by decide) ?_
        refine V_istore_n (pc' := 91) [(0, .ref (y 0)), (1, .int (nI p)), (2, .int (nI 1))] [1, 2, 0] X dX6_behindPart_90 rfl (Nat.le_of_ble_eq_true rfl) rfl rfl ?_
        refine V_iload_n (pc' := 92) 2 X dX6_behindPart_91 rfl rfl rfl ?_
        refine V_if_le (pc' := 95) (C := 1 = 0) 103 X dX6_behindPart_92 (by decide) rfl (z_le0 (by omega)) (fun hz => absurd hz (by decide)) (fun _ => ?_)
        refine V_iconst (pc' := 96) (-1) X dX6_behindPart_95 rfl rfl ?_
        refine V_iload_n (pc' := 97) 1 X dX6_behindPart_96 rfl rfl rfl ?_
        refine V_isub (pc' := 98) (((-1) - (nI p))) X dX6_behindPart_97 rfl rfl ?_
        refine V_iload_n (pc' := 99) 2 X dX6_behindPart_98 rfl rfl rfl ?_
        refine V_isub (pc' := 100) ((((-1) - (nI p)) - (nI 1))) X dX6_behindPart_99 rfl rfl ?_
        refine V_goto (pc' := 106) X dX6_behindPart_100 (by decide) ?_
        exact V_ireturn (v := (((-1) - (nI p)) - (nI 1))) [MO y t kn ln th, RW G (y 5) 60 f] hQ X hrt rfl dX6_behindPart_106 (Nat.le_of_ble_eq_true rfl) (Nat.le_of_ble_eq_true rfl) (List.Perm.refl _) ⟨congrArg (fun z => some (Value.int z)) (by unfold bp; rw [if_neg h7, if_pos h44, if_pos h61]; exact m1_sub _ _), rfl⟩
  · refine V_aload_n (pc' := 11) 0 X dX6_behindPart_10 rfl rfl rfl ?_
    refine V_iload_n (pc' := 12) 1 X dX6_behindPart_11 rfl rfl rfl ?_
    refine V_iconst (pc' := 13) (nI 1) X dX6_behindPart_12 ki_1 rfl ?_
    refine V_iadd (pc' := 14) (nI (p + 1)) X dX6_behindPart_13 (nI_add _ _) rfl ?_
    refine V_callV (pc' := 17) (As := [.int (nI (p + 1))]) (st := []) 6 0 [0, 1] [] (show (List.range 2).Perm ([0, 1] ++ []) by decide) X (c_X6_charAt l G y t kn ln th f hn hf (p + 1) (by omega)) rfl gX6_behindPart_X6_charAt rfl (by decide) rfl rfl rfl (Nat.le_of_ble_eq_true rfl) ⟨Nat.le_of_ble_eq_true rfl, Nat.le_of_ble_eq_true rfl⟩ ⟨Nat.le_of_ble_eq_true rfl, Nat.le_of_ble_eq_true rfl⟩ dX6_behindPart_14 rfl (fun v_ u_ hp_ => ?_)
    obtain ⟨rfl, rfl⟩ := hp_
    show V E G A 4 [MO y t kn ln th, RW G (y 5) 60 f] 0 0 Q 17 [(0, .ref (y 0)), (1, .int (nI p))] [.int (nI (ch f ln (p + 1)))]
    refine V_bipush (pc' := 19) (nI 50) X dX6_behindPart_17 kb_50 rfl ?_
    refine V_bipush (pc' := 21) (nI 57) X dX6_behindPart_19 kb_57 rfl ?_
    refine V_callS (pc' := 24) (As := [.int (nI (ch f ln (p + 1))), .int (nI 50), .int (nI 57)]) (st := []) [] [0, 1] (show (List.range 2).Perm ([] ++ [0, 1]) by decide) X (c_X6_in l G (ch f ln (p + 1)) 50 57 (by omega) (by decide) (by decide)) rfl gX6_behindPart_X6_in rfl rfl (Nat.le_of_ble_eq_true rfl) ⟨Nat.le_of_ble_eq_true rfl, Nat.le_of_ble_eq_true rfl⟩ ⟨Nat.le_of_ble_eq_true rfl, Nat.le_of_ble_eq_true rfl⟩ dX6_behindPart_21 rfl (fun v_ u_ hp_ => ?_)
    obtain ⟨rfl, rfl⟩ := hp_
    show V E G A 4 [MO y t kn ln th, RW G (y 5) 60 f] 0 0 Q 24 [(0, .ref (y 0)), (1, .int (nI p))] [.int (nI (if 50 ≤ (ch f ln (p + 1)) ∧ (ch f ln (p + 1)) ≤ 57 then 1 else 0))]
    refine V_if_eq (pc' := 27) (C := ¬ (50 ≤ (ch f ln (p + 1)) ∧ (ch f ln (p + 1)) ≤ 57)) 33 X dX6_behindPart_24 (by decide) rfl z_ite0 (fun h24 => ?_) (fun h24 => ?_)
    · refine V_iload_n (pc' := 34) 1 X dX6_behindPart_33 rfl rfl rfl ?_
      refine V_iconst (pc' := 35) (nI 1) X dX6_behindPart_34 ki_1 rfl ?_
      refine V_iadd (pc' := 36) (nI (p + 1)) X dX6_behindPart_35 (nI_add _ _) rfl ?_
      exact V_ireturn (v := nI (p + 1)) [MO y t kn ln th, RW G (y 5) 60 f] hQ X hrt rfl dX6_behindPart_36 (Nat.le_of_ble_eq_true rfl) (Nat.le_of_ble_eq_true rfl) (List.Perm.refl _) ⟨congrArg (fun z => some (Value.int z)) (by unfold bp; rw [if_pos h7, if_neg h24]; exact rfl), rfl⟩
    · have h24 := Classical.not_not.mp h24
      refine V_iload_n (pc' := 28) 1 X dX6_behindPart_27 rfl rfl rfl ?_
      refine V_iconst (pc' := 29) (nI 2) X dX6_behindPart_28 ki_2 rfl ?_
      refine V_iadd (pc' := 30) (nI (p + 2)) X dX6_behindPart_29 (nI_add _ _) rfl ?_
      refine V_goto (pc' := 36) X dX6_behindPart_30 (by decide) ?_
      exact V_ireturn (v := nI (p + 2)) [MO y t kn ln th, RW G (y 5) 60 f] hQ X hrt rfl dX6_behindPart_36 (Nat.le_of_ble_eq_true rfl) (Nat.le_of_ble_eq_true rfl) (List.Perm.refl _) ⟨congrArg (fun z => some (Value.int z)) (by unfold bp; rw [if_pos h7, if_pos h24]; exact rfl), rfl⟩

set_option maxHeartbeats 4000000 in
set_option maxRecDepth 100000 in
theorem c_X6_wrong (l : Launch) (G : gT) (y : Nat → Nat) (t kn ln th : Nat) (f : Nat → Nat) (hn : ln ≤ 60) (hf : ∀ k, k < ln → f k < 128) : CM l G yX6_wrong wsX6_wrong 5 110 0 [.ref (y 0)] [MO y t kn ln th, RW G (y 5) 60 f] 0 0 (fun v u => v = some (.int (rN (ff f ln))) ∧ u = [MO y t kn ln th, RW G (y 5) 60 f]) := by
  refine CM_of RX6 4 88 rfl rfl (by decide) (by decide +kernel) (Nat.le_of_ble_eq_true rfl) (fun E A X hrt hnm => ?_)
  have F23 := Fld_of (idx := 23) 6 6 X (by decide) (by decide) (by decide +kernel) (by decide +kernel)
  have F105 := Fld_of (idx := 105) 6 7 X (by decide) (by decide) (by decide +kernel) (by decide +kernel)
  generalize hQ : QM E G A _ _ _ = Q
  show V E G A 3 [MO y t kn ln th, RW G (y 5) 60 f] 0 0 Q 0 [(0, .ref (y 0))] []
  refine V_iconst (pc' := 1) (nI 0) X dX6_wrong_0 ki_0 rfl ?_
  refine V_istore_n (pc' := 2) [(0, .ref (y 0)), (1, .int (nI 0))] [1, 0] X dX6_wrong_1 rfl (Nat.le_of_ble_eq_true rfl) rfl rfl ?_
  refine V_iconst (pc' := 3) (nI 1) X dX6_wrong_2 ki_1 rfl ?_
  refine V_istore_n (pc' := 4) [(0, .ref (y 0)), (1, .int (nI 0)), (2, .int (nI 1))] [1, 2, 0] X dX6_wrong_3 rfl (Nat.le_of_ble_eq_true rfl) rfl rfl ?_
  have lp : ∀ m p, ln + 1 - p ≤ m → p ≤ ln → pl f p = 1 → (∀ j, j ≤ p → ¬ pl f j = 0) → V E G A 3 [MO y t kn ln th, RW G (y 5) 60 f] 0 0 Q 4 [(0, .ref (y 0)), (1, .int (nI p)), (2, .int (nI 1))] [] := by
    intro m
    induction m with
    | zero => intro p h1 h2; exact absurd h1 (by omega)
    | succ m ih =>
      intro p h1 h2 h3 h4
      obtain ⟨b1, b2⟩ := bp_spec (n := ln) h3 h2
      rcases hb : bp f ln p with ⟨b, e⟩
      cases b with
      | false =>
        obtain ⟨a1, a2, a3, a4, a5⟩ := b2 e hb
        have a6 : ∀ j, j ≤ e → ¬ pl f j = 0 := fun j hj => by by_cases q : j ≤ p; exact h4 j q; exact a3 j (by omega) hj
        show V E G A 3 [MO y t kn ln th, RW G (y 5) 60 f] 0 0 Q 4 [(0, .ref (y 0)), (1, .int (nI p)), (2, .int (nI 1))] []
        refine V_iload_n (pc' := 5) 2 X dX6_wrong_4 rfl rfl rfl ?_
        refine V_if_eq (pc' := 8) (C := 1 = 0) 68 X dX6_wrong_5 (by decide) rfl (z_eq0 (by omega)) (fun hz => absurd hz (by decide)) (fun _ => ?_)
        refine V_aload_n (pc' := 9) 0 X dX6_wrong_8 rfl rfl rfl ?_
        refine V_iload_n (pc' := 10) 1 X dX6_wrong_9 rfl rfl rfl ?_
        refine V_callV (pc' := 13) (As := [.int (nI p)]) (st := []) 6 0 [0, 1] [] (show (List.range 2).Perm ([0, 1] ++ []) by decide) X (c_X6_behindPart l G y t kn ln th f hn hf p (by omega)) rfl gX6_wrong_X6_behindPart rfl (by decide) rfl rfl rfl (Nat.le_of_ble_eq_true rfl) ⟨Nat.le_of_ble_eq_true rfl, Nat.le_of_ble_eq_true rfl⟩ ⟨Nat.le_of_ble_eq_true rfl, Nat.le_of_ble_eq_true rfl⟩ dX6_wrong_10 rfl (fun v_ u_ hp_ => ?_)
        obtain ⟨rfl, rfl⟩ := hp_; rw [hb, show bpI (false, e) = -1 - nI e from rfl]
        show V E G A 3 [MO y t kn ln th, RW G (y 5) 60 f] 0 0 Q 13 [(0, .ref (y 0)), (1, .int (nI p)), (2, .int (nI 1))] [.int (-1 - nI e)]
        refine V_istore_n (pc' := 14) [(0, .ref (y 0)), (1, .int (-1 - nI e)), (2, .int (nI 1))] [1, 0, 2] X dX6_wrong_13 rfl (Nat.le_of_ble_eq_true rfl) rfl rfl ?_
        refine V_iload_n (pc' := 15) 1 X dX6_wrong_14 rfl rfl rfl ?_
        refine V_if_ge (pc' := 18) (C := 0 ≤ (-1 - nI e)) 22 X dX6_wrong_15 (by decide) rfl Iff.rfl (fun hz => absurd hz (m1_neg (by omega))) (fun _ => ?_)
        refine V_iconst (pc' := 19) (-1) X dX6_wrong_18 rfl rfl ?_
        refine V_iload_n (pc' := 20) 1 X dX6_wrong_19 rfl rfl rfl ?_
        refine V_isub (pc' := 21) (((-1) - (-1 - nI e))) X dX6_wrong_20 rfl rfl ?_
        exact V_ireturn (v := ((-1) - (-1 - nI e))) [MO y t kn ln th, RW G (y 5) 60 f] hQ X hrt rfl dX6_wrong_21 (Nat.le_of_ble_eq_true rfl) (Nat.le_of_ble_eq_true rfl) (List.Perm.refl _) ⟨by rw [ff_some a2 a6 a4 a5, m1_m1]; rfl, rfl⟩
      | true =>
        obtain ⟨p1, a1, a2, a3, a4⟩ := b1 e hb
        have hpe := p1.1
        have hen := p1.2.1
        have hfe : e < ln → f e < 128 := hf e
        have a6 : ∀ j, j ≤ e → ¬ pl f j = 0 := fun j hj => by by_cases q : j ≤ p; exact h4 j q; exact a1 j (by omega) hj
        show V E G A 3 [MO y t kn ln th, RW G (y 5) 60 f] 0 0 Q 4 [(0, .ref (y 0)), (1, .int (nI p)), (2, .int (nI 1))] []
        refine V_iload_n (pc' := 5) 2 X dX6_wrong_4 rfl rfl rfl ?_
        refine V_if_eq (pc' := 8) (C := 1 = 0) 68 X dX6_wrong_5 (by decide) rfl (z_eq0 (by omega)) (fun hz => absurd hz (by decide)) (fun _ => ?_)
        refine V_aload_n (pc' := 9) 0 X dX6_wrong_8 rfl rfl rfl ?_
        refine V_iload_n (pc' := 10) 1 X dX6_wrong_9 rfl rfl rfl ?_
        refine V_callV (pc' := 13) (As := [.int (nI p)]) (st := []) 6 0 [0, 1] [] (show (List.range 2).Perm ([0, 1] ++ []) by decide) X (c_X6_behindPart l G y t kn ln th f hn hf p (by omega)) rfl gX6_wrong_X6_behindPart rfl (by decide) rfl rfl rfl (Nat.le_of_ble_eq_true rfl) ⟨Nat.le_of_ble_eq_true rfl, Nat.le_of_ble_eq_true rfl⟩ ⟨Nat.le_of_ble_eq_true rfl, Nat.le_of_ble_eq_true rfl⟩ dX6_wrong_10 rfl (fun v_ u_ hp_ => ?_)
        obtain ⟨rfl, rfl⟩ := hp_; rw [hb, show bpI (true, e) = nI e from rfl]
        show V E G A 3 [MO y t kn ln th, RW G (y 5) 60 f] 0 0 Q 13 [(0, .ref (y 0)), (1, .int (nI p)), (2, .int (nI 1))] [.int (nI e)]
        refine V_istore_n (pc' := 14) [(0, .ref (y 0)), (1, .int (nI e)), (2, .int (nI 1))] [1, 0, 2] X dX6_wrong_13 rfl (Nat.le_of_ble_eq_true rfl) rfl rfl ?_
        refine V_iload_n (pc' := 15) 1 X dX6_wrong_14 rfl rfl rfl ?_
        refine V_if_ge (pc' := 18) (C := True) 22 X dX6_wrong_15 (by decide) rfl (z_ge0 (by omega)) (fun _ => ?_) (fun hz => absurd (by decide) hz)
        refine V_iload_n (pc' := 23) 1 X dX6_wrong_22 rfl rfl rfl ?_
        refine V_aload_n (pc' := 24) 0 X dX6_wrong_23 rfl rfl rfl ?_
        refine V_get (pc' := 27) 0 X F105 rfl rfl dX6_wrong_24 rfl ?_
        refine V_icmp_ge (pc' := 30) (C := ln ≤ e) 34 X dX6_wrong_27 (by decide) rfl (nI_leI (by omega) (by omega)) (fun h27 => ?_) (fun h27 => ?_)
        · refine V_iconst (pc' := 35) (nI 0) X dX6_wrong_34 ki_0 rfl ?_
          refine V_istore_n (pc' := 36) [(0, .ref (y 0)), (1, .int (nI e)), (2, .int (nI 0))] [1, 2, 0] X dX6_wrong_35 rfl (Nat.le_of_ble_eq_true rfl) rfl rfl ?_
          refine V_iload_n (pc' := 37) 2 X dX6_wrong_36 rfl rfl rfl ?_
          refine V_if_eq (pc' := 40) (C := 0 = 0) 53 X dX6_wrong_37 (by decide) rfl (z_eq0 (by omega)) (fun _ => ?_) (fun hz => absurd (by decide) hz)
          refine V_iload_n (pc' := 54) 1 X dX6_wrong_53 rfl rfl rfl ?_
          refine V_iload_n (pc' := 55) 2 X dX6_wrong_54 rfl rfl rfl ?_
          refine V_if_eq (pc' := 58) (C := 0 = 0) 62 X dX6_wrong_55 (by decide) rfl (z_eq0 (by omega)) (fun _ => ?_) (fun hz => absurd (by decide) hz)
          refine V_iconst (pc' := 63) (nI 0) X dX6_wrong_62 ki_0 rfl ?_
          refine V_iadd (pc' := 64) (nI e) X dX6_wrong_63 (nI_add0 _) rfl ?_
          refine V_istore_n (pc' := 65) [(0, .ref (y 0)), (1, .int (nI e)), (2, .int (nI 0))] [1, 0, 2] X dX6_wrong_64 rfl (Nat.le_of_ble_eq_true rfl) rfl rfl ?_
          refine V_goto (pc' := 4) X dX6_wrong_65 (by decide) ?_
          refine V_iload_n (pc' := 5) 2 X dX6_wrong_4 rfl rfl rfl ?_
          refine V_if_eq (pc' := 8) (C := 0 = 0) 68 X dX6_wrong_5 (by decide) rfl (z_eq0 (by omega)) (fun _ => ?_) (fun hz => absurd (by decide) hz)
          refine V_iconst (pc' := 69) (-1) X dX6_wrong_68 rfl rfl ?_
          exact V_ireturn (v := (-1)) [MO y t kn ln th, RW G (y 5) 60 f] hQ X hrt rfl dX6_wrong_69 (Nat.le_of_ble_eq_true rfl) (Nat.le_of_ble_eq_true rfl) (List.Perm.refl _) ⟨by rw [ff_none (fun j hj => a6 j (by omega)) (by rw [show ln = e by omega]; exact a2)]; rfl, rfl⟩
        · refine V_iconst (pc' := 31) (nI 1) X dX6_wrong_30 ki_1 rfl ?_
          refine V_goto (pc' := 35) X dX6_wrong_31 (by decide) ?_
          refine V_istore_n (pc' := 36) [(0, .ref (y 0)), (1, .int (nI e)), (2, .int (nI 1))] [1, 2, 0] X dX6_wrong_35 rfl (Nat.le_of_ble_eq_true rfl) rfl rfl ?_
          refine V_iload_n (pc' := 37) 2 X dX6_wrong_36 rfl rfl rfl ?_
          refine V_if_eq (pc' := 40) (C := 1 = 0) 53 X dX6_wrong_37 (by decide) rfl (z_eq0 (by omega)) (fun hz => absurd hz (by decide)) (fun _ => ?_)
          refine V_aload_n (pc' := 41) 0 X dX6_wrong_40 rfl rfl rfl ?_
          refine V_get (pc' := 44) 0 X F23 rfl rfl dX6_wrong_41 rfl ?_
          refine V_iload_n (pc' := 45) 1 X dX6_wrong_44 rfl rfl rfl ?_
          refine V_iald (pc' := 46) (v := nI (f e)) 1 e X rfl (by omega) (by decide) rfl dX6_wrong_45 rfl ?_
          refine V_bipush (pc' := 48) (nI 59) X dX6_wrong_46 kb_59 rfl ?_
          refine V_icmp_eq (pc' := 51) (C := (f e) = 59) 53 X dX6_wrong_48 (by decide) rfl (nI_eq (by omega) (by decide)) (fun h48 => ?_) (fun h48 => ?_)
          · refine V_iload_n (pc' := 54) 1 X dX6_wrong_53 rfl rfl rfl ?_
            refine V_iload_n (pc' := 55) 2 X dX6_wrong_54 rfl rfl rfl ?_
            refine V_if_eq (pc' := 58) (C := 1 = 0) 62 X dX6_wrong_55 (by decide) rfl (z_eq0 (by omega)) (fun hz => absurd hz (by decide)) (fun _ => ?_)
            refine V_iconst (pc' := 59) (nI 1) X dX6_wrong_58 ki_1 rfl ?_
            refine V_goto (pc' := 63) X dX6_wrong_59 (by decide) ?_
            refine V_iadd (pc' := 64) (nI (e + 1)) X dX6_wrong_63 (nI_add _ _) rfl ?_
            refine V_istore_n (pc' := 65) [(0, .ref (y 0)), (1, .int (nI (e + 1))), (2, .int (nI 1))] [1, 0, 2] X dX6_wrong_64 rfl (Nat.le_of_ble_eq_true rfl) rfl rfl ?_
            refine V_goto (pc' := 4) X dX6_wrong_65 (by decide) ?_
            exact ih (e + 1) (by omega) (by omega) ((a3 (by omega)).1 h48) (fun j hj => by by_cases q : j ≤ e; exact a6 j q; rw [show j = e + 1 by omega, (a3 (by omega)).1 h48]; decide)
          · refine V_iload_n (pc' := 52) 1 X dX6_wrong_51 rfl rfl rfl ?_
            exact V_ireturn (v := nI e) [MO y t kn ln th, RW G (y 5) 60 f] hQ X hrt rfl dX6_wrong_52 (Nat.le_of_ble_eq_true rfl) (Nat.le_of_ble_eq_true rfl) (List.Perm.refl _) ⟨by rw [ff_some (k := e) (by omega) a6 (fun _ => (a3 (by omega)).2 h48) (fun q => by omega)]; rfl, rfl⟩
  exact lp _ 0 (Nat.le_refl _) (Nat.zero_le _) rfl (fun j hj => by rw [Nat.le_zero.mp hj]; show ¬ 1 = 0; decide)

set_option maxHeartbeats 4000000 in
set_option maxRecDepth 100000 in
theorem c_X6_fault (l : Launch) (G : gT) (y : Nat → Nat) (t kn ln th : Nat) (f : Nat → Nat) (hn : ln ≤ 60) (hf : ∀ k, k < ln → f k < 128) : CM l G yX6_fault wsX6_fault 6 130 0 [.ref (y 0)] [MO y t kn ln th, RW G (y 5) 60 f] 0 0 (fun v u => v = some (.int (rN (ff f ln))) ∧ u = [MO y 0 kn ln th, RW G (y 5) 60 f]) := by
  refine CM_of RX6 5 110 rfl rfl (by decide) (by decide +kernel) (Nat.le_of_ble_eq_true rfl) (fun E A X hrt hnm => ?_)
  have F32 := Fld_of (idx := 32) 6 0 X (by decide) (by decide) (by decide +kernel) (by decide +kernel)
  generalize hQ : QM E G A _ _ _ = Q
  show V E G A 1 [MO y t kn ln th, RW G (y 5) 60 f] 0 0 Q 0 [(0, .ref (y 0))] []
  refine V_aload_n (pc' := 1) 0 X dX6_fault_0 rfl rfl rfl ?_
  refine V_iconst (pc' := 2) (nI 0) X dX6_fault_1 ki_0 rfl ?_
  refine V_ws [[((y 0), .inr (6, [.int (nI t), .ref (y 1), .ref (y 2), .ref (y 3), .ref (y 4), .int (nI kn), .ref (y 5), .int (nI ln), .ref (y 6), .ref (y 7), .int (nI th)]))], RW G (y 5) 60 f] rfl ?_
  refine V_put (pc' := 5) 0 [[((y 0), .inr (6, [.int (nI 0), .ref (y 1), .ref (y 2), .ref (y 3), .ref (y 4), .int (nI kn), .ref (y 5), .int (nI ln), .ref (y 6), .ref (y 7), .int (nI th)]))], RW G (y 5) 60 f] X F32 rfl rfl rfl rfl (Nat.le_of_ble_eq_true rfl) rfl dX6_fault_2 rfl ?_
  refine V_aload_n (pc' := 6) 0 X dX6_fault_5 rfl rfl rfl ?_
  refine V_callV (pc' := 9) (As := []) (st := []) 6 0 [0, 1] [] (show (List.range 2).Perm ([0, 1] ++ []) by decide) X (c_X6_wrong l G y 0 kn ln th f hn hf) rfl gX6_fault_X6_wrong rfl (by decide) rfl rfl rfl (Nat.le_of_ble_eq_true rfl) ⟨Nat.le_of_ble_eq_true rfl, Nat.le_of_ble_eq_true rfl⟩ ⟨Nat.le_of_ble_eq_true rfl, Nat.le_of_ble_eq_true rfl⟩ dX6_fault_6 rfl (fun v_ u_ hp_ => ?_)
  obtain ⟨rfl, rfl⟩ := hp_
  show V E G A 1 [MO y 0 kn ln th, RW G (y 5) 60 f] 0 0 Q 9 [(0, .ref (y 0))] [.int (rN (ff f ln))]
  exact V_ireturn (v := (rN (ff f ln))) [MO y 0 kn ln th, RW G (y 5) 60 f] hQ X hrt rfl dX6_fault_9 (Nat.le_of_ble_eq_true rfl) (Nat.le_of_ble_eq_true rfl) (List.Perm.refl _) ⟨rfl, rfl⟩

set_option maxHeartbeats 4000000 in
set_option maxRecDepth 100000 in
theorem c_X6_wipe (l : Launch) (G : gT) (y : Nat → Nat) (t kn ln th : Nat) : CM l G yX6_wipe wsX6_wipe 1 21 0 [.ref (y 0)] [MO y t kn ln th] 0 0 (fun v u => v = some (.int (nI ln)) ∧ u = [MO y 0 kn 0 th]) := by
  refine CM_of RX6 0 0 rfl rfl (by decide) (by decide +kernel) (Nat.le_of_ble_eq_true rfl) (fun E A X hrt hnm => ?_)
  have F32 := Fld_of (idx := 32) 6 0 X (by decide) (by decide) (by decide +kernel) (by decide +kernel)
  have F105 := Fld_of (idx := 105) 6 7 X (by decide) (by decide) (by decide +kernel) (by decide +kernel)
  generalize hQ : QM E G A _ _ _ = Q
  show V E G A 2 [MO y t kn ln th] 0 0 Q 0 [(0, .ref (y 0))] []
  refine V_aload_n (pc' := 1) 0 X dX6_wipe_0 rfl rfl rfl ?_
  refine V_iconst (pc' := 2) (nI 0) X dX6_wipe_1 ki_0 rfl ?_
  refine V_ws [[((y 0), .inr (6, [.int (nI t), .ref (y 1), .ref (y 2), .ref (y 3), .ref (y 4), .int (nI kn), .ref (y 5), .int (nI ln), .ref (y 6), .ref (y 7), .int (nI th)]))]] rfl ?_
  refine V_put (pc' := 5) 0 [[((y 0), .inr (6, [.int (nI 0), .ref (y 1), .ref (y 2), .ref (y 3), .ref (y 4), .int (nI kn), .ref (y 5), .int (nI ln), .ref (y 6), .ref (y 7), .int (nI th)]))]] X F32 rfl rfl rfl rfl (Nat.le_of_ble_eq_true rfl) rfl dX6_wipe_2 rfl ?_
  refine V_aload_n (pc' := 6) 0 X dX6_wipe_5 rfl rfl rfl ?_
  refine V_get (pc' := 9) 0 X F105 rfl rfl dX6_wipe_6 rfl ?_
  refine V_istore_n (pc' := 10) [(0, .ref (y 0)), (1, .int (nI ln))] [1, 0] X dX6_wipe_9 rfl (Nat.le_of_ble_eq_true rfl) rfl rfl ?_
  refine V_aload_n (pc' := 11) 0 X dX6_wipe_10 rfl rfl rfl ?_
  refine V_iconst (pc' := 12) (nI 0) X dX6_wipe_11 ki_0 rfl ?_
  refine V_put (pc' := 15) 0 [[((y 0), .inr (6, [.int (nI 0), .ref (y 1), .ref (y 2), .ref (y 3), .ref (y 4), .int (nI kn), .ref (y 5), .int (nI 0), .ref (y 6), .ref (y 7), .int (nI th)]))]] X F105 rfl rfl rfl rfl (Nat.le_of_ble_eq_true rfl) rfl dX6_wipe_12 rfl ?_
  refine V_iload_n (pc' := 16) 1 X dX6_wipe_15 rfl rfl rfl ?_
  refine V_ws [MO y 0 kn 0 th] rfl ?_
  exact V_ireturn (v := nI ln) [MO y 0 kn 0 th] hQ X hrt rfl dX6_wipe_16 (Nat.le_of_ble_eq_true rfl) (Nat.le_of_ble_eq_true rfl) (List.Perm.refl _) ⟨rfl, rfl⟩

set_option maxHeartbeats 4000000 in
set_option maxRecDepth 100000 in
theorem c_X6_padLength (l : Launch) (G : gT) (y : Nat → Nat) (t kn ln th : Nat) : CM l G yX6_padLength wsX6_padLength 1 20 0 [.ref (y 0)] [MO y t kn ln th] 0 0 (fun v u => v = some (.int (nI ln)) ∧ u = [MO y 0 kn ln th]) := by
  refine CM_of RX6 0 0 rfl rfl (by decide) (by decide +kernel) (Nat.le_of_ble_eq_true rfl) (fun E A X hrt hnm => ?_)
  have F32 := Fld_of (idx := 32) 6 0 X (by decide) (by decide) (by decide +kernel) (by decide +kernel)
  have F105 := Fld_of (idx := 105) 6 7 X (by decide) (by decide) (by decide +kernel) (by decide +kernel)
  generalize hQ : QM E G A _ _ _ = Q
  show V E G A 1 [MO y t kn ln th] 0 0 Q 0 [(0, .ref (y 0))] []
  refine V_aload_n (pc' := 1) 0 X dX6_padLength_0 rfl rfl rfl ?_
  refine V_iconst (pc' := 2) (nI 0) X dX6_padLength_1 ki_0 rfl ?_
  refine V_ws [[((y 0), .inr (6, [.int (nI t), .ref (y 1), .ref (y 2), .ref (y 3), .ref (y 4), .int (nI kn), .ref (y 5), .int (nI ln), .ref (y 6), .ref (y 7), .int (nI th)]))]] rfl ?_
  refine V_put (pc' := 5) 0 [[((y 0), .inr (6, [.int (nI 0), .ref (y 1), .ref (y 2), .ref (y 3), .ref (y 4), .int (nI kn), .ref (y 5), .int (nI ln), .ref (y 6), .ref (y 7), .int (nI th)]))]] X F32 rfl rfl rfl rfl (Nat.le_of_ble_eq_true rfl) rfl dX6_padLength_2 rfl ?_
  refine V_aload_n (pc' := 6) 0 X dX6_padLength_5 rfl rfl rfl ?_
  refine V_get (pc' := 9) 0 X F105 rfl rfl dX6_padLength_6 rfl ?_
  refine V_ws [MO y 0 kn ln th] rfl ?_
  exact V_ireturn (v := nI ln) [MO y 0 kn ln th] hQ X hrt rfl dX6_padLength_9 (Nat.le_of_ble_eq_true rfl) (Nat.le_of_ble_eq_true rfl) (List.Perm.refl _) ⟨rfl, rfl⟩

set_option maxHeartbeats 4000000 in
set_option maxRecDepth 100000 in
theorem c_X6_does_1 (l : Launch) (G : gT) (y : Nat → Nat) (t kn ln th : Nat) (f : Nat → Nat) (hn : ln ≤ 60) (hf : ∀ k, k < ln → f k < 128) (s : Nat → Nat) (hI : IV s) (p : Nat) (he : p + 1 ≤ ln) (hb : bp f ln p = (true, p + 1)) (h46 : f p = 46) : CM l G yX6_does wsX6_does 5 120 1 [.ref (y 0), .int (nI p)] [MO y t kn ln th, RW G (y 1) 70 s, RW G (y 5) 60 f] 0 0 (fun v u => v = some (.int (nI (stkN 9 s 1 70 - s 70))) ∧ u = [MO y t kn ln th, RW G (y 1) 70 (stkN 9 s 1), RW G (y 5) 60 f]) := by
  refine CM_of RX6 4 95 rfl rfl (by decide) (by decide +kernel) (Nat.le_of_ble_eq_true rfl) (fun E A X hrt hnm => ?_)
  generalize hQ : QM E G A _ _ _ = Q
  obtain ⟨i1, i2, i3, i4, i5, i6⟩ := id hI
  have hfp := hf p (by omega)
  have hpl : p < ln := by omega
  show V E G A 6 [MO y t kn ln th, RW G (y 1) 70 s, RW G (y 5) 60 f] 0 0 Q 0 [(0, .ref (y 0)), (1, .int (nI p))] []
  refine V_aload_n (pc' := 1) 0 X dX6_does_0 rfl rfl rfl ?_
  refine V_iload_n (pc' := 2) 1 X dX6_does_1 rfl rfl rfl ?_
  refine V_callV (pc' := 5) (As := [.int (nI p)]) (st := []) 6 0 [0, 2] [1] (show (List.range 3).Perm ([0, 2] ++ [1]) by decide) X (c_X6_behindPart l G y t kn ln th f hn hf p (by omega)) rfl gX6_does_X6_behindPart rfl (by decide) rfl rfl rfl (Nat.le_of_ble_eq_true rfl) ⟨Nat.le_of_ble_eq_true rfl, Nat.le_of_ble_eq_true rfl⟩ ⟨Nat.le_of_ble_eq_true rfl, Nat.le_of_ble_eq_true rfl⟩ dX6_does_2 rfl (fun v_ u_ hp_ => ?_)
  obtain ⟨rfl, rfl⟩ := hp_; rw [hb, show bpI (true, p + 1) = nI (p + 1) from rfl]
  show V E G A 6 [RW G (y 1) 70 s, MO y t kn ln th, RW G (y 5) 60 f] 0 0 Q 5 [(0, .ref (y 0)), (1, .int (nI p))] [.int (nI (p + 1))]
  refine V_ord [1, 0, 2] [MO y t kn ln th, RW G (y 1) 70 s, RW G (y 5) 60 f] (show (List.range 3).Perm [1, 0, 2] by decide) rfl ?_
  refine V_istore_n (pc' := 6) [(0, .ref (y 0)), (1, .int (nI p)), (2, .int (nI (p + 1)))] [1, 2, 0] X dX6_does_5 rfl (Nat.le_of_ble_eq_true rfl) rfl rfl ?_
  refine V_aload_n (pc' := 7) 0 X dX6_does_6 rfl rfl rfl ?_
  refine V_iload_n (pc' := 8) 1 X dX6_does_7 rfl rfl rfl ?_
  refine V_callV (pc' := 11) (As := [.int (nI p)]) (st := []) 6 0 [0, 2] [1] (show (List.range 3).Perm ([0, 2] ++ [1]) by decide) X (c_X6_charAt l G y t kn ln th f hn hf p (by omega)) rfl gX6_does_X6_charAt rfl (by decide) rfl rfl rfl (Nat.le_of_ble_eq_true rfl) ⟨Nat.le_of_ble_eq_true rfl, Nat.le_of_ble_eq_true rfl⟩ ⟨Nat.le_of_ble_eq_true rfl, Nat.le_of_ble_eq_true rfl⟩ dX6_does_8 rfl (fun v_ u_ hp_ => ?_)
  obtain ⟨rfl, rfl⟩ := hp_; rw [ch_in (i := p) hpl]
  show V E G A 6 [RW G (y 1) 70 s, MO y t kn ln th, RW G (y 5) 60 f] 0 0 Q 11 [(0, .ref (y 0)), (1, .int (nI p)), (2, .int (nI (p + 1)))] [.int (nI (f p))]
  refine V_ord [1, 0, 2] [MO y t kn ln th, RW G (y 1) 70 s, RW G (y 5) 60 f] (show (List.range 3).Perm [1, 0, 2] by decide) rfl ?_
  refine V_bipush (pc' := 13) (nI 46) X dX6_does_11 kb_46 rfl ?_
  refine V_icmp_ne (pc' := 16) (C := (f p) = 46) 42 X dX6_does_13 (by decide) rfl (nI_eq (by omega) (by omega)) (fun hz => absurd (h46) hz) (fun _ => ?_)
  refine V_aload_n (pc' := 17) 0 X dX6_does_16 rfl rfl rfl ?_
  refine V_iload_n (pc' := 18) 2 X dX6_does_17 rfl rfl rfl ?_
  refine V_iload_n (pc' := 19) 1 X dX6_does_18 rfl rfl rfl ?_
  refine V_iconst (pc' := 20) (nI 2) X dX6_does_19 ki_2 rfl ?_
  refine V_iadd (pc' := 21) (nI (p + 2)) X dX6_does_20 (nI_add _ _) rfl ?_
  refine V_icmp_ne (pc' := 24) (C := (p + 1) = (p + 2)) 37 X dX6_does_21 (by decide) rfl (nI_eq (by omega) (by omega)) (fun _ => ?_) (fun hz => absurd hz (by omega))
  refine V_iconst (pc' := 38) (nI 1) X dX6_does_37 ki_1 rfl ?_
  refine V_callV (pc' := 41) (As := [.int (nI 1)]) (st := []) 6 0 [0, 1] [2] (show (List.range 3).Perm ([0, 1] ++ [2]) by decide) X (c_X6_cranks l G y t kn ln th s hI 1 (by omega)) rfl gX6_does_X6_cranks rfl (by decide) rfl rfl rfl (Nat.le_of_ble_eq_true rfl) ⟨Nat.le_of_ble_eq_true rfl, Nat.le_of_ble_eq_true rfl⟩ ⟨Nat.le_of_ble_eq_true rfl, Nat.le_of_ble_eq_true rfl⟩ dX6_does_38 rfl (fun v_ u_ hp_ => ?_)
  obtain ⟨rfl, rfl⟩ := hp_
  show V E G A 6 [RW G (y 5) 60 f, MO y t kn ln th, RW G (y 1) 70 (stkN 9 s 1)] 0 0 Q 41 [(0, .ref (y 0)), (1, .int (nI p)), (2, .int (nI (p + 1)))] [.int (nI (stkN 9 s 1 70 - s 70))]
  refine V_ord [1, 2, 0] [MO y t kn ln th, RW G (y 1) 70 (stkN 9 s 1), RW G (y 5) 60 f] (show (List.range 3).Perm [1, 2, 0] by decide) rfl ?_
  exact V_ireturn (v := nI (stkN 9 s 1 70 - s 70)) [MO y t kn ln th, RW G (y 1) 70 (stkN 9 s 1), RW G (y 5) 60 f] hQ X hrt rfl dX6_does_41 (Nat.le_of_ble_eq_true rfl) (Nat.le_of_ble_eq_true rfl) (List.Perm.refl _) ⟨rfl, rfl⟩

set_option maxHeartbeats 4000000 in
set_option maxRecDepth 100000 in
theorem c_X6_does_2 (l : Launch) (G : gT) (y : Nat → Nat) (t kn ln th : Nat) (f : Nat → Nat) (hn : ln ≤ 60) (hf : ∀ k, k < ln → f k < 128) (s : Nat → Nat) (hI : IV s) (p : Nat) (he : p + 2 ≤ ln) (hb : bp f ln p = (true, p + 2)) (h46 : f p = 46) (h1 : 50 ≤ f (p + 1)) (h2 : f (p + 1) ≤ 57) : CM l G yX6_does wsX6_does 5 120 1 [.ref (y 0), .int (nI p)] [MO y t kn ln th, RW G (y 1) 70 s, RW G (y 5) 60 f] 0 0 (fun v u => v = some (.int (nI (stkN 9 s (f (p + 1) - 48) 70 - s 70))) ∧ u = [MO y t kn ln th, RW G (y 1) 70 (stkN 9 s (f (p + 1) - 48)), RW G (y 5) 60 f]) := by
  refine CM_of RX6 4 95 rfl rfl (by decide) (by decide +kernel) (Nat.le_of_ble_eq_true rfl) (fun E A X hrt hnm => ?_)
  generalize hQ : QM E G A _ _ _ = Q
  obtain ⟨i1, i2, i3, i4, i5, i6⟩ := id hI
  have hfp := hf p (by omega)
  have hpl : p < ln := by omega
  show V E G A 6 [MO y t kn ln th, RW G (y 1) 70 s, RW G (y 5) 60 f] 0 0 Q 0 [(0, .ref (y 0)), (1, .int (nI p))] []
  refine V_aload_n (pc' := 1) 0 X dX6_does_0 rfl rfl rfl ?_
  refine V_iload_n (pc' := 2) 1 X dX6_does_1 rfl rfl rfl ?_
  refine V_callV (pc' := 5) (As := [.int (nI p)]) (st := []) 6 0 [0, 2] [1] (show (List.range 3).Perm ([0, 2] ++ [1]) by decide) X (c_X6_behindPart l G y t kn ln th f hn hf p (by omega)) rfl gX6_does_X6_behindPart rfl (by decide) rfl rfl rfl (Nat.le_of_ble_eq_true rfl) ⟨Nat.le_of_ble_eq_true rfl, Nat.le_of_ble_eq_true rfl⟩ ⟨Nat.le_of_ble_eq_true rfl, Nat.le_of_ble_eq_true rfl⟩ dX6_does_2 rfl (fun v_ u_ hp_ => ?_)
  obtain ⟨rfl, rfl⟩ := hp_; rw [hb, show bpI (true, p + 2) = nI (p + 2) from rfl]
  show V E G A 6 [RW G (y 1) 70 s, MO y t kn ln th, RW G (y 5) 60 f] 0 0 Q 5 [(0, .ref (y 0)), (1, .int (nI p))] [.int (nI (p + 2))]
  refine V_ord [1, 0, 2] [MO y t kn ln th, RW G (y 1) 70 s, RW G (y 5) 60 f] (show (List.range 3).Perm [1, 0, 2] by decide) rfl ?_
  refine V_istore_n (pc' := 6) [(0, .ref (y 0)), (1, .int (nI p)), (2, .int (nI (p + 2)))] [1, 2, 0] X dX6_does_5 rfl (Nat.le_of_ble_eq_true rfl) rfl rfl ?_
  refine V_aload_n (pc' := 7) 0 X dX6_does_6 rfl rfl rfl ?_
  refine V_iload_n (pc' := 8) 1 X dX6_does_7 rfl rfl rfl ?_
  refine V_callV (pc' := 11) (As := [.int (nI p)]) (st := []) 6 0 [0, 2] [1] (show (List.range 3).Perm ([0, 2] ++ [1]) by decide) X (c_X6_charAt l G y t kn ln th f hn hf p (by omega)) rfl gX6_does_X6_charAt rfl (by decide) rfl rfl rfl (Nat.le_of_ble_eq_true rfl) ⟨Nat.le_of_ble_eq_true rfl, Nat.le_of_ble_eq_true rfl⟩ ⟨Nat.le_of_ble_eq_true rfl, Nat.le_of_ble_eq_true rfl⟩ dX6_does_8 rfl (fun v_ u_ hp_ => ?_)
  obtain ⟨rfl, rfl⟩ := hp_; rw [ch_in (i := p) hpl]
  show V E G A 6 [RW G (y 1) 70 s, MO y t kn ln th, RW G (y 5) 60 f] 0 0 Q 11 [(0, .ref (y 0)), (1, .int (nI p)), (2, .int (nI (p + 2)))] [.int (nI (f p))]
  refine V_ord [1, 0, 2] [MO y t kn ln th, RW G (y 1) 70 s, RW G (y 5) 60 f] (show (List.range 3).Perm [1, 0, 2] by decide) rfl ?_
  refine V_bipush (pc' := 13) (nI 46) X dX6_does_11 kb_46 rfl ?_
  refine V_icmp_ne (pc' := 16) (C := (f p) = 46) 42 X dX6_does_13 (by decide) rfl (nI_eq (by omega) (by omega)) (fun hz => absurd (h46) hz) (fun _ => ?_)
  refine V_aload_n (pc' := 17) 0 X dX6_does_16 rfl rfl rfl ?_
  refine V_iload_n (pc' := 18) 2 X dX6_does_17 rfl rfl rfl ?_
  refine V_iload_n (pc' := 19) 1 X dX6_does_18 rfl rfl rfl ?_
  refine V_iconst (pc' := 20) (nI 2) X dX6_does_19 ki_2 rfl ?_
  refine V_iadd (pc' := 21) (nI (p + 2)) X dX6_does_20 (nI_add _ _) rfl ?_
  refine V_icmp_ne (pc' := 24) (C := (p + 2) = (p + 2)) 37 X dX6_does_21 (by decide) rfl (nI_eq (by omega) (by omega)) (fun hz => absurd (rfl) hz) (fun _ => ?_)
  refine V_aload_n (pc' := 25) 0 X dX6_does_24 rfl rfl rfl ?_
  refine V_iload_n (pc' := 26) 1 X dX6_does_25 rfl rfl rfl ?_
  refine V_iconst (pc' := 27) (nI 1) X dX6_does_26 ki_1 rfl ?_
  refine V_iadd (pc' := 28) (nI (p + 1)) X dX6_does_27 (nI_add _ _) rfl ?_
  refine V_callV (pc' := 31) (As := [.int (nI (p + 1))]) (st := [.ref (y 0)]) 6 0 [0, 2] [1] (show (List.range 3).Perm ([0, 2] ++ [1]) by decide) X (c_X6_charAt l G y t kn ln th f hn hf (p + 1) (by omega)) rfl gX6_does_X6_charAt rfl (by decide) rfl rfl rfl (Nat.le_of_ble_eq_true rfl) ⟨Nat.le_of_ble_eq_true rfl, Nat.le_of_ble_eq_true rfl⟩ ⟨Nat.le_of_ble_eq_true rfl, Nat.le_of_ble_eq_true rfl⟩ dX6_does_28 rfl (fun v_ u_ hp_ => ?_)
  obtain ⟨rfl, rfl⟩ := hp_; rw [ch_in (i := p + 1) (by omega)]
  show V E G A 6 [RW G (y 1) 70 s, MO y t kn ln th, RW G (y 5) 60 f] 0 0 Q 31 [(0, .ref (y 0)), (1, .int (nI p)), (2, .int (nI (p + 2)))] [.int (nI (f (p + 1))), .ref (y 0)]
  refine V_ord [1, 0, 2] [MO y t kn ln th, RW G (y 1) 70 s, RW G (y 5) 60 f] (show (List.range 3).Perm [1, 0, 2] by decide) rfl ?_
  refine V_bipush (pc' := 33) (nI 48) X dX6_does_31 kb_48 rfl ?_
  refine V_isub (pc' := 34) (nI ((f (p + 1)) - 48)) X dX6_does_33 (pk_sub (by omega)) rfl ?_
  refine V_goto (pc' := 38) X dX6_does_34 (by decide) ?_
  refine V_callV (pc' := 41) (As := [.int (nI ((f (p + 1)) - 48))]) (st := []) 6 0 [0, 1] [2] (show (List.range 3).Perm ([0, 1] ++ [2]) by decide) X (c_X6_cranks l G y t kn ln th s hI ((f (p + 1)) - 48) (by omega)) rfl gX6_does_X6_cranks rfl (by decide) rfl rfl rfl (Nat.le_of_ble_eq_true rfl) ⟨Nat.le_of_ble_eq_true rfl, Nat.le_of_ble_eq_true rfl⟩ ⟨Nat.le_of_ble_eq_true rfl, Nat.le_of_ble_eq_true rfl⟩ dX6_does_38 rfl (fun v_ u_ hp_ => ?_)
  obtain ⟨rfl, rfl⟩ := hp_
  show V E G A 6 [RW G (y 5) 60 f, MO y t kn ln th, RW G (y 1) 70 (stkN 9 s ((f (p + 1)) - 48))] 0 0 Q 41 [(0, .ref (y 0)), (1, .int (nI p)), (2, .int (nI (p + 2)))] [.int (nI (stkN 9 s ((f (p + 1)) - 48) 70 - s 70))]
  refine V_ord [1, 2, 0] [MO y t kn ln th, RW G (y 1) 70 (stkN 9 s ((f (p + 1)) - 48)), RW G (y 5) 60 f] (show (List.range 3).Perm [1, 2, 0] by decide) rfl ?_
  exact V_ireturn (v := nI (stkN 9 s ((f (p + 1)) - 48) 70 - s 70)) [MO y t kn ln th, RW G (y 1) 70 (stkN 9 s ((f (p + 1)) - 48)), RW G (y 5) 60 f] hQ X hrt rfl dX6_does_41 (Nat.le_of_ble_eq_true rfl) (Nat.le_of_ble_eq_true rfl) (List.Perm.refl _) ⟨rfl, rfl⟩

set_option maxHeartbeats 4000000 in
set_option maxRecDepth 100000 in
theorem c_X6_does_3 (l : Launch) (G : gT) (y : Nat → Nat) (t kn ln th : Nat) (f : Nat → Nat) (hn : ln ≤ 60) (hf : ∀ k, k < ln → f k < 128) (s : Nat → Nat) (hI : IV s) (p : Nat) (he : p + 3 ≤ ln) (hb : bp f ln p = (true, p + 3)) (h116 : f p = 116) (h1 : 48 ≤ f (p + 1) ∧ f (p + 1) ≤ 51) (h2 : 49 ≤ f (p + 2) ∧ f (p + 2) ≤ 57) : CM l G yX6_does wsX6_does 5 120 1 [.ref (y 0), .int (nI p)] [MO y t kn ln th, RW G (y 1) 70 s, RW G (y 5) 60 f] 0 0 (fun v u => v = some (.int (nI 0)) ∧ u = [MO y t kn ln th, RW G (y 1) 70 (va_up s (32 + (f (p + 1) - 48)) (f (p + 2) - 48)), RW G (y 5) 60 f]) := by
  refine CM_of RX6 4 95 rfl rfl (by decide) (by decide +kernel) (Nat.le_of_ble_eq_true rfl) (fun E A X hrt hnm => ?_)
  have F7 := Fld_of (idx := 7) 6 1 X (by decide) (by decide) (by decide +kernel) (by decide +kernel)
  generalize hQ : QM E G A _ _ _ = Q
  obtain ⟨i1, i2, i3, i4, i5, i6⟩ := id hI
  have hfp := hf p (by omega)
  have hpl : p < ln := by omega
  show V E G A 6 [MO y t kn ln th, RW G (y 1) 70 s, RW G (y 5) 60 f] 0 0 Q 0 [(0, .ref (y 0)), (1, .int (nI p))] []
  refine V_aload_n (pc' := 1) 0 X dX6_does_0 rfl rfl rfl ?_
  refine V_iload_n (pc' := 2) 1 X dX6_does_1 rfl rfl rfl ?_
  refine V_callV (pc' := 5) (As := [.int (nI p)]) (st := []) 6 0 [0, 2] [1] (show (List.range 3).Perm ([0, 2] ++ [1]) by decide) X (c_X6_behindPart l G y t kn ln th f hn hf p (by omega)) rfl gX6_does_X6_behindPart rfl (by decide) rfl rfl rfl (Nat.le_of_ble_eq_true rfl) ⟨Nat.le_of_ble_eq_true rfl, Nat.le_of_ble_eq_true rfl⟩ ⟨Nat.le_of_ble_eq_true rfl, Nat.le_of_ble_eq_true rfl⟩ dX6_does_2 rfl (fun v_ u_ hp_ => ?_)
  obtain ⟨rfl, rfl⟩ := hp_; rw [hb, show bpI (true, p + 3) = nI (p + 3) from rfl]
  show V E G A 6 [RW G (y 1) 70 s, MO y t kn ln th, RW G (y 5) 60 f] 0 0 Q 5 [(0, .ref (y 0)), (1, .int (nI p))] [.int (nI (p + 3))]
  refine V_ord [1, 0, 2] [MO y t kn ln th, RW G (y 1) 70 s, RW G (y 5) 60 f] (show (List.range 3).Perm [1, 0, 2] by decide) rfl ?_
  refine V_istore_n (pc' := 6) [(0, .ref (y 0)), (1, .int (nI p)), (2, .int (nI (p + 3)))] [1, 2, 0] X dX6_does_5 rfl (Nat.le_of_ble_eq_true rfl) rfl rfl ?_
  refine V_aload_n (pc' := 7) 0 X dX6_does_6 rfl rfl rfl ?_
  refine V_iload_n (pc' := 8) 1 X dX6_does_7 rfl rfl rfl ?_
  refine V_callV (pc' := 11) (As := [.int (nI p)]) (st := []) 6 0 [0, 2] [1] (show (List.range 3).Perm ([0, 2] ++ [1]) by decide) X (c_X6_charAt l G y t kn ln th f hn hf p (by omega)) rfl gX6_does_X6_charAt rfl (by decide) rfl rfl rfl (Nat.le_of_ble_eq_true rfl) ⟨Nat.le_of_ble_eq_true rfl, Nat.le_of_ble_eq_true rfl⟩ ⟨Nat.le_of_ble_eq_true rfl, Nat.le_of_ble_eq_true rfl⟩ dX6_does_8 rfl (fun v_ u_ hp_ => ?_)
  obtain ⟨rfl, rfl⟩ := hp_; rw [ch_in (i := p) hpl]
  show V E G A 6 [RW G (y 1) 70 s, MO y t kn ln th, RW G (y 5) 60 f] 0 0 Q 11 [(0, .ref (y 0)), (1, .int (nI p)), (2, .int (nI (p + 3)))] [.int (nI (f p))]
  refine V_ord [1, 0, 2] [MO y t kn ln th, RW G (y 1) 70 s, RW G (y 5) 60 f] (show (List.range 3).Perm [1, 0, 2] by decide) rfl ?_
  refine V_bipush (pc' := 13) (nI 46) X dX6_does_11 kb_46 rfl ?_
  refine V_icmp_ne (pc' := 16) (C := (f p) = 46) 42 X dX6_does_13 (by decide) rfl (nI_eq (by omega) (by omega)) (fun _ => ?_) (fun hz => absurd hz (by omega))
  refine V_aload_n (pc' := 43) 0 X dX6_does_42 rfl rfl rfl ?_
  refine V_iload_n (pc' := 44) 1 X dX6_does_43 rfl rfl rfl ?_
  refine V_callV (pc' := 47) (As := [.int (nI p)]) (st := []) 6 0 [0, 2] [1] (show (List.range 3).Perm ([0, 2] ++ [1]) by decide) X (c_X6_charAt l G y t kn ln th f hn hf p (by omega)) rfl gX6_does_X6_charAt rfl (by decide) rfl rfl rfl (Nat.le_of_ble_eq_true rfl) ⟨Nat.le_of_ble_eq_true rfl, Nat.le_of_ble_eq_true rfl⟩ ⟨Nat.le_of_ble_eq_true rfl, Nat.le_of_ble_eq_true rfl⟩ dX6_does_44 rfl (fun v_ u_ hp_ => ?_)
  obtain ⟨rfl, rfl⟩ := hp_; rw [ch_in (i := p) hpl]
  show V E G A 6 [RW G (y 1) 70 s, MO y t kn ln th, RW G (y 5) 60 f] 0 0 Q 47 [(0, .ref (y 0)), (1, .int (nI p)), (2, .int (nI (p + 3)))] [.int (nI (f p))]
  refine V_ord [1, 0, 2] [MO y t kn ln th, RW G (y 1) 70 s, RW G (y 5) 60 f] (show (List.range 3).Perm [1, 0, 2] by decide) rfl ?_
  refine V_bipush (pc' := 49) (nI 116) X dX6_does_47 kb_116 rfl ?_
  refine V_icmp_ne (pc' := 52) (C := (f p) = 116) 82 X dX6_does_49 (by decide) rfl (nI_eq (by omega) (by omega)) (fun hz => absurd (h116) hz) (fun _ => ?_)
  refine V_aload_n (pc' := 53) 0 X dX6_does_52 rfl rfl rfl ?_
  refine V_get (pc' := 56) 0 X F7 rfl rfl dX6_does_53 rfl ?_
  refine V_bipush (pc' := 58) (nI 32) X dX6_does_56 kb_32 rfl ?_
  refine V_aload_n (pc' := 59) 0 X dX6_does_58 rfl rfl rfl ?_
  refine V_iload_n (pc' := 60) 1 X dX6_does_59 rfl rfl rfl ?_
  refine V_iconst (pc' := 61) (nI 1) X dX6_does_60 ki_1 rfl ?_
  refine V_iadd (pc' := 62) (nI (p + 1)) X dX6_does_61 (nI_add _ _) rfl ?_
  refine V_callV (pc' := 65) (As := [.int (nI (p + 1))]) (st := [.int (nI 32), .ref (y 1)]) 6 0 [0, 2] [1] (show (List.range 3).Perm ([0, 2] ++ [1]) by decide) X (c_X6_charAt l G y t kn ln th f hn hf (p + 1) (by omega)) rfl gX6_does_X6_charAt rfl (by decide) rfl rfl rfl (Nat.le_of_ble_eq_true rfl) ⟨Nat.le_of_ble_eq_true rfl, Nat.le_of_ble_eq_true rfl⟩ ⟨Nat.le_of_ble_eq_true rfl, Nat.le_of_ble_eq_true rfl⟩ dX6_does_62 rfl (fun v_ u_ hp_ => ?_)
  obtain ⟨rfl, rfl⟩ := hp_; rw [ch_in (i := p + 1) (by omega)]
  show V E G A 6 [RW G (y 1) 70 s, MO y t kn ln th, RW G (y 5) 60 f] 0 0 Q 65 [(0, .ref (y 0)), (1, .int (nI p)), (2, .int (nI (p + 3)))] [.int (nI (f (p + 1))), .int (nI 32), .ref (y 1)]
  refine V_ord [1, 0, 2] [MO y t kn ln th, RW G (y 1) 70 s, RW G (y 5) 60 f] (show (List.range 3).Perm [1, 0, 2] by decide) rfl ?_
  refine V_iadd (pc' := 66) (nI (32 + (f (p + 1)))) X dX6_does_65 (nI_add _ _) rfl ?_
  refine V_bipush (pc' := 68) (nI 48) X dX6_does_66 kb_48 rfl ?_
  refine V_isub (pc' := 69) (nI ((32 + (f (p + 1))) - 48)) X dX6_does_68 (pk_sub (by omega)) rfl ?_
  refine V_aload_n (pc' := 70) 0 X dX6_does_69 rfl rfl rfl ?_
  refine V_iload_n (pc' := 71) 1 X dX6_does_70 rfl rfl rfl ?_
  refine V_iconst (pc' := 72) (nI 2) X dX6_does_71 ki_2 rfl ?_
  refine V_iadd (pc' := 73) (nI (p + 2)) X dX6_does_72 (nI_add _ _) rfl ?_
  refine V_callV (pc' := 76) (As := [.int (nI (p + 2))]) (st := [.int (nI ((32 + (f (p + 1))) - 48)), .ref (y 1)]) 6 0 [0, 2] [1] (show (List.range 3).Perm ([0, 2] ++ [1]) by decide) X (c_X6_charAt l G y t kn ln th f hn hf (p + 2) (by omega)) rfl gX6_does_X6_charAt rfl (by decide) rfl rfl rfl (Nat.le_of_ble_eq_true rfl) ⟨Nat.le_of_ble_eq_true rfl, Nat.le_of_ble_eq_true rfl⟩ ⟨Nat.le_of_ble_eq_true rfl, Nat.le_of_ble_eq_true rfl⟩ dX6_does_73 rfl (fun v_ u_ hp_ => ?_)
  obtain ⟨rfl, rfl⟩ := hp_; rw [ch_in (i := p + 2) (by omega)]
  show V E G A 6 [RW G (y 1) 70 s, MO y t kn ln th, RW G (y 5) 60 f] 0 0 Q 76 [(0, .ref (y 0)), (1, .int (nI p)), (2, .int (nI (p + 3)))] [.int (nI (f (p + 2))), .int (nI ((32 + (f (p + 1))) - 48)), .ref (y 1)]
  refine V_ord [1, 0, 2] [MO y t kn ln th, RW G (y 1) 70 s, RW G (y 5) 60 f] (show (List.range 3).Perm [1, 0, 2] by decide) rfl ?_
  refine V_bipush (pc' := 78) (nI 48) X dX6_does_76 kb_48 rfl ?_
  refine V_isub (pc' := 79) (nI ((f (p + 2)) - 48)) X dX6_does_78 (pk_sub (by omega)) rfl ?_
  refine V_ws [MO y t kn ln th, [((y 1), .inl (G.2 0, 70, .inl (nf s)))], RW G (y 5) 60 f] rfl ?_
  refine V_iast (pc' := 80) 1 ((32 + (f (p + 1))) - 48) [MO y t kn ln th, [((y 1), .inl (G.2 0, 70, .inl (upd (nf s) ((32 + (f (p + 1))) - 48) (nI ((f (p + 2)) - 48)))))], RW G (y 5) 60 f] X rfl (by omega) (by decide) rfl dX6_does_79 rfl ?_
  refine V_ws [MO y t kn ln th, [((y 1), .inl (G.2 0, 70, .inl (nf (va_up s ((32 + (f (p + 1))) - 48) ((f (p + 2)) - 48)))))], RW G (y 5) 60 f] (by simp only [nf_upd]) ?_
  refine V_iconst (pc' := 81) (nI 0) X dX6_does_80 ki_0 rfl ?_
  refine V_ws [MO y t kn ln th, RW G (y 1) 70 (va_up s ((32 + (f (p + 1))) - 48) ((f (p + 2)) - 48)), RW G (y 5) 60 f] rfl ?_
  rw [show 32 + f (p + 1) - 48 = 32 + (f (p + 1) - 48) by omega]
  show V E G A 6 [MO y t kn ln th, RW G (y 1) 70 (va_up s (32 + (f (p + 1) - 48)) (f (p + 2) - 48)), RW G (y 5) 60 f] 0 0 Q 81 [(0, .ref (y 0)), (1, .int (nI p)), (2, .int (nI (p + 3)))] [.int (nI 0)]
  exact V_ireturn (v := nI 0) [MO y t kn ln th, RW G (y 1) 70 (va_up s (32 + (f (p + 1) - 48)) (f (p + 2) - 48)), RW G (y 5) 60 f] hQ X hrt rfl dX6_does_81 (Nat.le_of_ble_eq_true rfl) (Nat.le_of_ble_eq_true rfl) (List.Perm.refl _) ⟨rfl, rfl⟩

set_option maxHeartbeats 4000000 in
set_option maxRecDepth 100000 in
theorem c_X6_does_4 (l : Launch) (G : gT) (y : Nat → Nat) (t kn ln th : Nat) (f : Nat → Nat) (hn : ln ≤ 60) (hf : ∀ k, k < ln → f k < 128) (s : Nat → Nat) (hI : IV s) (p : Nat) (m : Nat) (he : p + 1 + 1 + m ≤ ln) (hb : bp f ln p = (true, p + 1 + 1 + m)) (h46 : ¬ f p = 46) (h116 : ¬ f p = 116) (hbc : bc f ln p = p + 1) (hd : ∀ k, p ≤ k → k < p + 1 → dg (f k)) (hC : num f p 1 < 32) (hd2 : ∀ k, p + 1 < k → k < p + 1 + 1 + m → dg (f k)) : CM l G yX6_does wsX6_does 5 120 1 [.ref (y 0), .int (nI p)] [MO y t kn ln th, RW G (y 1) 70 s, RW G (y 5) 60 f] 0 0 (fun v u => v = some (.int (nI 0)) ∧ u = [MO y t kn ln th, RW G (y 1) 70 (pgN s (num f p 1) (fun j => f (p + 1 + 1 + j) - 48) m), RW G (y 5) 60 f]) := by
  refine CM_of RX6 4 95 rfl rfl (by decide) (by decide +kernel) (Nat.le_of_ble_eq_true rfl) (fun E A X hrt hnm => ?_)
  have F7 := Fld_of (idx := 7) 6 1 X (by decide) (by decide) (by decide +kernel) (by decide +kernel)
  generalize hQ : QM E G A _ _ _ = Q
  obtain ⟨i1, i2, i3, i4, i5, i6⟩ := id hI
  have hfp := hf p (by omega)
  have hpl : p < ln := by omega
  have hdp := hd p (Nat.le_refl _) (by omega)
  show V E G A 6 [MO y t kn ln th, RW G (y 1) 70 s, RW G (y 5) 60 f] 0 0 Q 0 [(0, .ref (y 0)), (1, .int (nI p))] []
  refine V_aload_n (pc' := 1) 0 X dX6_does_0 rfl rfl rfl ?_
  refine V_iload_n (pc' := 2) 1 X dX6_does_1 rfl rfl rfl ?_
  refine V_callV (pc' := 5) (As := [.int (nI p)]) (st := []) 6 0 [0, 2] [1] (show (List.range 3).Perm ([0, 2] ++ [1]) by decide) X (c_X6_behindPart l G y t kn ln th f hn hf p (by omega)) rfl gX6_does_X6_behindPart rfl (by decide) rfl rfl rfl (Nat.le_of_ble_eq_true rfl) ⟨Nat.le_of_ble_eq_true rfl, Nat.le_of_ble_eq_true rfl⟩ ⟨Nat.le_of_ble_eq_true rfl, Nat.le_of_ble_eq_true rfl⟩ dX6_does_2 rfl (fun v_ u_ hp_ => ?_)
  obtain ⟨rfl, rfl⟩ := hp_; rw [hb, show bpI (true, p + 1 + 1 + m) = nI (p + 1 + 1 + m) from rfl]
  show V E G A 6 [RW G (y 1) 70 s, MO y t kn ln th, RW G (y 5) 60 f] 0 0 Q 5 [(0, .ref (y 0)), (1, .int (nI p))] [.int (nI (p + 1 + 1 + m))]
  refine V_ord [1, 0, 2] [MO y t kn ln th, RW G (y 1) 70 s, RW G (y 5) 60 f] (show (List.range 3).Perm [1, 0, 2] by decide) rfl ?_
  refine V_istore_n (pc' := 6) [(0, .ref (y 0)), (1, .int (nI p)), (2, .int (nI (p + 1 + 1 + m)))] [1, 2, 0] X dX6_does_5 rfl (Nat.le_of_ble_eq_true rfl) rfl rfl ?_
  refine V_aload_n (pc' := 7) 0 X dX6_does_6 rfl rfl rfl ?_
  refine V_iload_n (pc' := 8) 1 X dX6_does_7 rfl rfl rfl ?_
  refine V_callV (pc' := 11) (As := [.int (nI p)]) (st := []) 6 0 [0, 2] [1] (show (List.range 3).Perm ([0, 2] ++ [1]) by decide) X (c_X6_charAt l G y t kn ln th f hn hf p (by omega)) rfl gX6_does_X6_charAt rfl (by decide) rfl rfl rfl (Nat.le_of_ble_eq_true rfl) ⟨Nat.le_of_ble_eq_true rfl, Nat.le_of_ble_eq_true rfl⟩ ⟨Nat.le_of_ble_eq_true rfl, Nat.le_of_ble_eq_true rfl⟩ dX6_does_8 rfl (fun v_ u_ hp_ => ?_)
  obtain ⟨rfl, rfl⟩ := hp_; rw [ch_in (i := p) hpl]
  show V E G A 6 [RW G (y 1) 70 s, MO y t kn ln th, RW G (y 5) 60 f] 0 0 Q 11 [(0, .ref (y 0)), (1, .int (nI p)), (2, .int (nI (p + 1 + 1 + m)))] [.int (nI (f p))]
  refine V_ord [1, 0, 2] [MO y t kn ln th, RW G (y 1) 70 s, RW G (y 5) 60 f] (show (List.range 3).Perm [1, 0, 2] by decide) rfl ?_
  refine V_bipush (pc' := 13) (nI 46) X dX6_does_11 kb_46 rfl ?_
  refine V_icmp_ne (pc' := 16) (C := (f p) = 46) 42 X dX6_does_13 (by decide) rfl (nI_eq (by omega) (by omega)) (fun _ => ?_) (fun hz => absurd hz (h46))
  refine V_aload_n (pc' := 43) 0 X dX6_does_42 rfl rfl rfl ?_
  refine V_iload_n (pc' := 44) 1 X dX6_does_43 rfl rfl rfl ?_
  refine V_callV (pc' := 47) (As := [.int (nI p)]) (st := []) 6 0 [0, 2] [1] (show (List.range 3).Perm ([0, 2] ++ [1]) by decide) X (c_X6_charAt l G y t kn ln th f hn hf p (by omega)) rfl gX6_does_X6_charAt rfl (by decide) rfl rfl rfl (Nat.le_of_ble_eq_true rfl) ⟨Nat.le_of_ble_eq_true rfl, Nat.le_of_ble_eq_true rfl⟩ ⟨Nat.le_of_ble_eq_true rfl, Nat.le_of_ble_eq_true rfl⟩ dX6_does_44 rfl (fun v_ u_ hp_ => ?_)
  obtain ⟨rfl, rfl⟩ := hp_; rw [ch_in (i := p) hpl]
  show V E G A 6 [RW G (y 1) 70 s, MO y t kn ln th, RW G (y 5) 60 f] 0 0 Q 47 [(0, .ref (y 0)), (1, .int (nI p)), (2, .int (nI (p + 1 + 1 + m)))] [.int (nI (f p))]
  refine V_ord [1, 0, 2] [MO y t kn ln th, RW G (y 1) 70 s, RW G (y 5) 60 f] (show (List.range 3).Perm [1, 0, 2] by decide) rfl ?_
  refine V_bipush (pc' := 49) (nI 116) X dX6_does_47 kb_116 rfl ?_
  refine V_icmp_ne (pc' := 52) (C := (f p) = 116) 82 X dX6_does_49 (by decide) rfl (nI_eq (by omega) (by omega)) (fun _ => ?_) (fun hz => absurd hz (h116))
  refine V_aload_n (pc' := 83) 0 X dX6_does_82 rfl rfl rfl ?_
  refine V_iload_n (pc' := 84) 1 X dX6_does_83 rfl rfl rfl ?_
  refine V_callV (pc' := 87) (As := [.int (nI p)]) (st := []) 6 0 [0, 2] [1] (show (List.range 3).Perm ([0, 2] ++ [1]) by decide) X (c_X6_behindColumn l G y t kn ln th f hn hf p (by omega) (by rw [ch_in hpl]; exact hdp)) rfl gX6_does_X6_behindColumn rfl (by decide) rfl rfl rfl (Nat.le_of_ble_eq_true rfl) ⟨Nat.le_of_ble_eq_true rfl, Nat.le_of_ble_eq_true rfl⟩ ⟨Nat.le_of_ble_eq_true rfl, Nat.le_of_ble_eq_true rfl⟩ dX6_does_84 rfl (fun v_ u_ hp_ => ?_)
  obtain ⟨rfl, rfl⟩ := hp_; rw [hbc]
  show V E G A 6 [RW G (y 1) 70 s, MO y t kn ln th, RW G (y 5) 60 f] 0 0 Q 87 [(0, .ref (y 0)), (1, .int (nI p)), (2, .int (nI (p + 1 + 1 + m)))] [.int (nI (p + 1))]
  refine V_ord [1, 0, 2] [MO y t kn ln th, RW G (y 1) 70 s, RW G (y 5) 60 f] (show (List.range 3).Perm [1, 0, 2] by decide) rfl ?_
  refine V_istore_n (pc' := 88) [(0, .ref (y 0)), (1, .int (nI p)), (2, .int (nI (p + 1 + 1 + m))), (3, .int (nI (p + 1)))] [1, 2, 3, 0] X dX6_does_87 rfl (Nat.le_of_ble_eq_true rfl) rfl rfl ?_
  refine V_iload_n (pc' := 89) 3 X dX6_does_88 rfl rfl rfl ?_
  refine V_iload_n (pc' := 90) 1 X dX6_does_89 rfl rfl rfl ?_
  refine V_iconst (pc' := 91) (nI 2) X dX6_does_90 ki_2 rfl ?_
  refine V_iadd (pc' := 92) (nI (p + 2)) X dX6_does_91 (nI_add _ _) rfl ?_
  refine V_icmp_ne (pc' := 95) (C := (p + 1) = (p + 2)) 120 X dX6_does_92 (by decide) rfl (nI_eq (by omega) (by omega)) (fun _ => ?_) (fun hz => absurd hz (by omega))
  refine V_aload_n (pc' := 121) 0 X dX6_does_120 rfl rfl rfl ?_
  refine V_iload_n (pc' := 122) 1 X dX6_does_121 rfl rfl rfl ?_
  refine V_callV (pc' := 125) (As := [.int (nI p)]) (st := []) 6 0 [0, 2] [1] (show (List.range 3).Perm ([0, 2] ++ [1]) by decide) X (c_X6_charAt l G y t kn ln th f hn hf p (by omega)) rfl gX6_does_X6_charAt rfl (by decide) rfl rfl rfl (Nat.le_of_ble_eq_true rfl) ⟨Nat.le_of_ble_eq_true rfl, Nat.le_of_ble_eq_true rfl⟩ ⟨Nat.le_of_ble_eq_true rfl, Nat.le_of_ble_eq_true rfl⟩ dX6_does_122 rfl (fun v_ u_ hp_ => ?_)
  obtain ⟨rfl, rfl⟩ := hp_; rw [ch_in (i := p) hpl]
  show V E G A 6 [RW G (y 1) 70 s, MO y t kn ln th, RW G (y 5) 60 f] 0 0 Q 125 [(0, .ref (y 0)), (1, .int (nI p)), (2, .int (nI (p + 1 + 1 + m))), (3, .int (nI (p + 1)))] [.int (nI (f p))]
  refine V_ord [1, 0, 2] [MO y t kn ln th, RW G (y 1) 70 s, RW G (y 5) 60 f] (show (List.range 3).Perm [1, 0, 2] by decide) rfl ?_
  refine V_bipush (pc' := 127) (nI 48) X dX6_does_125 kb_48 rfl ?_
  refine V_isub (pc' := 128) (nI (num f p 1)) X dX6_does_127 (by rw [pk_sub (by omega), num1]) rfl ?_
  refine V_istore (pc' := 130) [(0, .ref (y 0)), (1, .int (nI p)), (2, .int (nI (p + 1 + 1 + m))), (3, .int (nI (p + 1))), (4, .int (nI (num f p 1)))] [1, 2, 3, 4, 0] X dX6_does_128 (Nat.le_of_ble_eq_true rfl) rfl rfl ?_
  refine V_iload_n (pc' := 131) 3 X dX6_does_130 rfl rfl rfl ?_
  refine V_iconst (pc' := 132) (nI 1) X dX6_does_131 ki_1 rfl ?_
  refine V_iadd (pc' := 133) (nI ((p + 1) + 1)) X dX6_does_132 (nI_add _ _) rfl ?_
  refine V_istore (pc' := 135) [(0, .ref (y 0)), (1, .int (nI p)), (2, .int (nI (p + 1 + 1 + m))), (3, .int (nI (p + 1))), (4, .int (nI (num f p 1))), (5, .int (nI ((p + 1) + 1)))] [1, 2, 3, 4, 5, 0] X dX6_does_133 (Nat.le_of_ble_eq_true rfl) rfl rfl ?_
  refine V_ws [MO y t kn ln th, RW G (y 1) 70 (pgN s (num f p 1) (fun j => f (p + 1 + 1 + j) - 48) 0), RW G (y 5) 60 f] rfl ?_
  have lp_1 : ∀ i, i ≤ m → V E G A 6 [MO y t kn ln th, RW G (y 1) 70 (pgN s (num f p 1) (fun j => f (p + 1 + 1 + j) - 48) i), RW G (y 5) 60 f] 0 0 Q 135 [(0, .ref (y 0)), (1, .int (nI p)), (2, .int (nI (p + 1 + 1 + m))), (3, .int (nI (p + 1))), (4, .int (nI (num f p 1))), (5, .int (nI (p + 1 + 1 + i)))] [] := by
    refine loopD m ?_ ?_
    · show V E G A 6 [MO y t kn ln th, RW G (y 1) 70 (pgN s (num f p 1) (fun j => f (p + 1 + 1 + j) - 48) m), RW G (y 5) 60 f] 0 0 Q 135 [(0, .ref (y 0)), (1, .int (nI p)), (2, .int (nI (p + 1 + 1 + m))), (3, .int (nI (p + 1))), (4, .int (nI (num f p 1))), (5, .int (nI (p + 1 + 1 + m)))] []
      refine V_iload (pc' := 137) 5 X dX6_does_135 rfl rfl ?_
      refine V_iload_n (pc' := 138) 2 X dX6_does_137 rfl rfl rfl ?_
      refine V_icmp_ge (pc' := 141) (C := (p + 1 + 1 + m) ≤ (p + 1 + 1 + m)) 170 X dX6_does_138 (by decide) rfl (nI_leI (by omega) (by omega)) (fun _ => ?_) (fun hz => absurd (by omega) hz)
      refine V_iconst (pc' := 171) (nI 0) X dX6_does_170 ki_0 rfl ?_
      exact V_ireturn (v := nI 0) [MO y t kn ln th, RW G (y 1) 70 (pgN s (num f p 1) (fun j => f (p + 1 + 1 + j) - 48) m), RW G (y 5) 60 f] hQ X hrt rfl dX6_does_171 (Nat.le_of_ble_eq_true rfl) (Nat.le_of_ble_eq_true rfl) (List.Perm.refl _) ⟨rfl, rfl⟩
    · intro i hi_i ih
      show V E G A 6 [MO y t kn ln th, RW G (y 1) 70 (pgN s (num f p 1) (fun j => f (p + 1 + 1 + j) - 48) i), RW G (y 5) 60 f] 0 0 Q 135 [(0, .ref (y 0)), (1, .int (nI p)), (2, .int (nI (p + 1 + 1 + m))), (3, .int (nI (p + 1))), (4, .int (nI (num f p 1))), (5, .int (nI (p + 1 + 1 + i)))] []
      have hdi := hd2 (p + 1 + 1 + i) (by omega) (by omega)
      refine V_iload (pc' := 137) 5 X dX6_does_135 rfl rfl ?_
      refine V_iload_n (pc' := 138) 2 X dX6_does_137 rfl rfl rfl ?_
      refine V_icmp_ge (pc' := 141) (C := (p + 1 + 1 + m) ≤ (p + 1 + 1 + i)) 170 X dX6_does_138 (by decide) rfl (nI_leI (by omega) (by omega)) (fun hz => absurd hz (by omega)) (fun _ => ?_)
      refine V_aload_n (pc' := 142) 0 X dX6_does_141 rfl rfl rfl ?_
      refine V_get (pc' := 145) 0 X F7 rfl rfl dX6_does_142 rfl ?_
      refine V_iconst (pc' := 146) (nI 0) X dX6_does_145 ki_0 rfl ?_
      refine V_iload (pc' := 148) 4 X dX6_does_146 rfl rfl ?_
      refine V_iadd (pc' := 149) (nI (num f p 1)) X dX6_does_148 (nI_0add _) rfl ?_
      refine V_dup2 (pc' := 150) X dX6_does_149 rfl rfl rfl ?_
      refine V_iald (pc' := 151) (v := nI ((pgN s (num f p 1) (fun j => f (p + 1 + 1 + j) - 48) i) (num f p 1))) 1 (num f p 1) X rfl (by omega) (by decide) rfl dX6_does_150 rfl ?_
      refine V_iconst (pc' := 152) (nI 1) X dX6_does_151 ki_1 rfl ?_
      refine V_aload_n (pc' := 153) 0 X dX6_does_152 rfl rfl rfl ?_
      refine V_iload (pc' := 155) 5 X dX6_does_153 rfl rfl ?_
      refine V_callV (pc' := 158) (As := [.int (nI (p + 1 + 1 + i))]) (st := [.int (nI 1), .int (nI ((pgN s (num f p 1) (fun j => f (p + 1 + 1 + j) - 48) i) (num f p 1))), .int (nI (num f p 1)), .ref (y 1)]) 6 0 [0, 2] [1] (show (List.range 3).Perm ([0, 2] ++ [1]) by decide) X (c_X6_charAt l G y t kn ln th f hn hf (p + 1 + 1 + i) (by omega)) rfl gX6_does_X6_charAt rfl (by decide) rfl rfl rfl (Nat.le_of_ble_eq_true rfl) ⟨Nat.le_of_ble_eq_true rfl, Nat.le_of_ble_eq_true rfl⟩ ⟨Nat.le_of_ble_eq_true rfl, Nat.le_of_ble_eq_true rfl⟩ dX6_does_155 rfl (fun v_ u_ hp_ => ?_)
      obtain ⟨rfl, rfl⟩ := hp_; rw [ch_in (i := p + 1 + 1 + i) (by omega)]
      show V E G A 6 [RW G (y 1) 70 (pgN s (num f p 1) (fun j => f (p + 1 + 1 + j) - 48) i), MO y t kn ln th, RW G (y 5) 60 f] 0 0 Q 158 [(0, .ref (y 0)), (1, .int (nI p)), (2, .int (nI (p + 1 + 1 + m))), (3, .int (nI (p + 1))), (4, .int (nI (num f p 1))), (5, .int (nI (p + 1 + 1 + i)))] [.int (nI (f (p + 1 + 1 + i))), .int (nI 1), .int (nI ((pgN s (num f p 1) (fun j => f (p + 1 + 1 + j) - 48) i) (num f p 1))), .int (nI (num f p 1)), .ref (y 1)]
      refine V_ord [1, 0, 2] [MO y t kn ln th, RW G (y 1) 70 (pgN s (num f p 1) (fun j => f (p + 1 + 1 + j) - 48) i), RW G (y 5) 60 f] (show (List.range 3).Perm [1, 0, 2] by decide) rfl ?_
      refine V_bipush (pc' := 160) (nI 48) X dX6_does_158 kb_48 rfl ?_
      refine V_isub (pc' := 161) (nI ((f (p + 1 + 1 + i)) - 48)) X dX6_does_160 (pk_sub (by omega)) rfl ?_
      refine V_ishl (pc' := 162) (nI (2 ^ ((f (p + 1 + 1 + i)) - 48))) X dX6_does_161 (z_shl1 (by omega)) rfl ?_
      refine V_ixor (pc' := 163) (nI (((pgN s (num f p 1) (fun j => f (p + 1 + 1 + j) - 48) i) (num f p 1)) ^^^ (2 ^ ((f (p + 1 + 1 + i)) - 48)))) X dX6_does_162 (z_xor _ _) rfl ?_
      refine V_ws [MO y t kn ln th, [((y 1), .inl (G.2 0, 70, .inl (nf (pgN s (num f p 1) (fun j => f (p + 1 + 1 + j) - 48) i))))], RW G (y 5) 60 f] rfl ?_
      refine V_iast (pc' := 164) 1 (num f p 1) [MO y t kn ln th, [((y 1), .inl (G.2 0, 70, .inl (upd (nf (pgN s (num f p 1) (fun j => f (p + 1 + 1 + j) - 48) i)) (num f p 1) (nI (((pgN s (num f p 1) (fun j => f (p + 1 + 1 + j) - 48) i) (num f p 1)) ^^^ (2 ^ ((f (p + 1 + 1 + i)) - 48)))))))], RW G (y 5) 60 f] X rfl (by omega) (by decide) rfl dX6_does_163 rfl ?_
      refine V_ws [MO y t kn ln th, [((y 1), .inl (G.2 0, 70, .inl (nf (va_up (pgN s (num f p 1) (fun j => f (p + 1 + 1 + j) - 48) i) (num f p 1) (((pgN s (num f p 1) (fun j => f (p + 1 + 1 + j) - 48) i) (num f p 1)) ^^^ (2 ^ ((f (p + 1 + 1 + i)) - 48)))))))], RW G (y 5) 60 f] (by simp only [nf_upd]) ?_
      refine V_iinc (pc' := 167) [(0, .ref (y 0)), (1, .int (nI p)), (2, .int (nI (p + 1 + 1 + m))), (3, .int (nI (p + 1))), (4, .int (nI (num f p 1))), (5, .int (nI (p + 1 + 1 + i + 1)))] 5 [1, 2, 3, 4, 5, 0] X dX6_does_164 rfl (nI_i1 _) (Nat.le_of_ble_eq_true rfl) rfl rfl ?_
      refine V_goto (pc' := 135) X dX6_does_167 (by decide) ?_
      refine V_ws [MO y t kn ln th, RW G (y 1) 70 (pgN s (num f p 1) (fun j => f (p + 1 + 1 + j) - 48) (i + 1)), RW G (y 5) 60 f] rfl ?_
      exact ih
  have e0 := lp_1 0 (Nat.zero_le _)
  rw [Nat.add_zero] at e0
  exact e0

set_option maxHeartbeats 4000000 in
set_option maxRecDepth 100000 in
theorem c_X6_does_5 (l : Launch) (G : gT) (y : Nat → Nat) (t kn ln th : Nat) (f : Nat → Nat) (hn : ln ≤ 60) (hf : ∀ k, k < ln → f k < 128) (s : Nat → Nat) (hI : IV s) (p : Nat) (m : Nat) (he : p + 2 + 1 + m ≤ ln) (hb : bp f ln p = (true, p + 2 + 1 + m)) (h46 : ¬ f p = 46) (h116 : ¬ f p = 116) (hbc : bc f ln p = p + 2) (hd : ∀ k, p ≤ k → k < p + 2 → dg (f k)) (hC : num f p 2 < 32) (hd2 : ∀ k, p + 2 < k → k < p + 2 + 1 + m → dg (f k)) : CM l G yX6_does wsX6_does 5 120 1 [.ref (y 0), .int (nI p)] [MO y t kn ln th, RW G (y 1) 70 s, RW G (y 5) 60 f] 0 0 (fun v u => v = some (.int (nI 0)) ∧ u = [MO y t kn ln th, RW G (y 1) 70 (pgN s (num f p 2) (fun j => f (p + 2 + 1 + j) - 48) m), RW G (y 5) 60 f]) := by
  refine CM_of RX6 4 95 rfl rfl (by decide) (by decide +kernel) (Nat.le_of_ble_eq_true rfl) (fun E A X hrt hnm => ?_)
  have F7 := Fld_of (idx := 7) 6 1 X (by decide) (by decide) (by decide +kernel) (by decide +kernel)
  generalize hQ : QM E G A _ _ _ = Q
  obtain ⟨i1, i2, i3, i4, i5, i6⟩ := id hI
  have hfp := hf p (by omega)
  have hpl : p < ln := by omega
  have hdp := hd p (Nat.le_refl _) (by omega)
  have hdq := hd (p + 1) (by omega) (by omega)
  show V E G A 6 [MO y t kn ln th, RW G (y 1) 70 s, RW G (y 5) 60 f] 0 0 Q 0 [(0, .ref (y 0)), (1, .int (nI p))] []
  refine V_aload_n (pc' := 1) 0 X dX6_does_0 rfl rfl rfl ?_
  refine V_iload_n (pc' := 2) 1 X dX6_does_1 rfl rfl rfl ?_
  refine V_callV (pc' := 5) (As := [.int (nI p)]) (st := []) 6 0 [0, 2] [1] (show (List.range 3).Perm ([0, 2] ++ [1]) by decide) X (c_X6_behindPart l G y t kn ln th f hn hf p (by omega)) rfl gX6_does_X6_behindPart rfl (by decide) rfl rfl rfl (Nat.le_of_ble_eq_true rfl) ⟨Nat.le_of_ble_eq_true rfl, Nat.le_of_ble_eq_true rfl⟩ ⟨Nat.le_of_ble_eq_true rfl, Nat.le_of_ble_eq_true rfl⟩ dX6_does_2 rfl (fun v_ u_ hp_ => ?_)
  obtain ⟨rfl, rfl⟩ := hp_; rw [hb, show bpI (true, p + 2 + 1 + m) = nI (p + 2 + 1 + m) from rfl]
  show V E G A 6 [RW G (y 1) 70 s, MO y t kn ln th, RW G (y 5) 60 f] 0 0 Q 5 [(0, .ref (y 0)), (1, .int (nI p))] [.int (nI (p + 2 + 1 + m))]
  refine V_ord [1, 0, 2] [MO y t kn ln th, RW G (y 1) 70 s, RW G (y 5) 60 f] (show (List.range 3).Perm [1, 0, 2] by decide) rfl ?_
  refine V_istore_n (pc' := 6) [(0, .ref (y 0)), (1, .int (nI p)), (2, .int (nI (p + 2 + 1 + m)))] [1, 2, 0] X dX6_does_5 rfl (Nat.le_of_ble_eq_true rfl) rfl rfl ?_
  refine V_aload_n (pc' := 7) 0 X dX6_does_6 rfl rfl rfl ?_
  refine V_iload_n (pc' := 8) 1 X dX6_does_7 rfl rfl rfl ?_
  refine V_callV (pc' := 11) (As := [.int (nI p)]) (st := []) 6 0 [0, 2] [1] (show (List.range 3).Perm ([0, 2] ++ [1]) by decide) X (c_X6_charAt l G y t kn ln th f hn hf p (by omega)) rfl gX6_does_X6_charAt rfl (by decide) rfl rfl rfl (Nat.le_of_ble_eq_true rfl) ⟨Nat.le_of_ble_eq_true rfl, Nat.le_of_ble_eq_true rfl⟩ ⟨Nat.le_of_ble_eq_true rfl, Nat.le_of_ble_eq_true rfl⟩ dX6_does_8 rfl (fun v_ u_ hp_ => ?_)
  obtain ⟨rfl, rfl⟩ := hp_; rw [ch_in (i := p) hpl]
  show V E G A 6 [RW G (y 1) 70 s, MO y t kn ln th, RW G (y 5) 60 f] 0 0 Q 11 [(0, .ref (y 0)), (1, .int (nI p)), (2, .int (nI (p + 2 + 1 + m)))] [.int (nI (f p))]
  refine V_ord [1, 0, 2] [MO y t kn ln th, RW G (y 1) 70 s, RW G (y 5) 60 f] (show (List.range 3).Perm [1, 0, 2] by decide) rfl ?_
  refine V_bipush (pc' := 13) (nI 46) X dX6_does_11 kb_46 rfl ?_
  refine V_icmp_ne (pc' := 16) (C := (f p) = 46) 42 X dX6_does_13 (by decide) rfl (nI_eq (by omega) (by omega)) (fun _ => ?_) (fun hz => absurd hz (h46))
  refine V_aload_n (pc' := 43) 0 X dX6_does_42 rfl rfl rfl ?_
  refine V_iload_n (pc' := 44) 1 X dX6_does_43 rfl rfl rfl ?_
  refine V_callV (pc' := 47) (As := [.int (nI p)]) (st := []) 6 0 [0, 2] [1] (show (List.range 3).Perm ([0, 2] ++ [1]) by decide) X (c_X6_charAt l G y t kn ln th f hn hf p (by omega)) rfl gX6_does_X6_charAt rfl (by decide) rfl rfl rfl (Nat.le_of_ble_eq_true rfl) ⟨Nat.le_of_ble_eq_true rfl, Nat.le_of_ble_eq_true rfl⟩ ⟨Nat.le_of_ble_eq_true rfl, Nat.le_of_ble_eq_true rfl⟩ dX6_does_44 rfl (fun v_ u_ hp_ => ?_)
  obtain ⟨rfl, rfl⟩ := hp_; rw [ch_in (i := p) hpl]
  show V E G A 6 [RW G (y 1) 70 s, MO y t kn ln th, RW G (y 5) 60 f] 0 0 Q 47 [(0, .ref (y 0)), (1, .int (nI p)), (2, .int (nI (p + 2 + 1 + m)))] [.int (nI (f p))]
  refine V_ord [1, 0, 2] [MO y t kn ln th, RW G (y 1) 70 s, RW G (y 5) 60 f] (show (List.range 3).Perm [1, 0, 2] by decide) rfl ?_
  refine V_bipush (pc' := 49) (nI 116) X dX6_does_47 kb_116 rfl ?_
  refine V_icmp_ne (pc' := 52) (C := (f p) = 116) 82 X dX6_does_49 (by decide) rfl (nI_eq (by omega) (by omega)) (fun _ => ?_) (fun hz => absurd hz (h116))
  refine V_aload_n (pc' := 83) 0 X dX6_does_82 rfl rfl rfl ?_
  refine V_iload_n (pc' := 84) 1 X dX6_does_83 rfl rfl rfl ?_
  refine V_callV (pc' := 87) (As := [.int (nI p)]) (st := []) 6 0 [0, 2] [1] (show (List.range 3).Perm ([0, 2] ++ [1]) by decide) X (c_X6_behindColumn l G y t kn ln th f hn hf p (by omega) (by rw [ch_in hpl]; exact hdp)) rfl gX6_does_X6_behindColumn rfl (by decide) rfl rfl rfl (Nat.le_of_ble_eq_true rfl) ⟨Nat.le_of_ble_eq_true rfl, Nat.le_of_ble_eq_true rfl⟩ ⟨Nat.le_of_ble_eq_true rfl, Nat.le_of_ble_eq_true rfl⟩ dX6_does_84 rfl (fun v_ u_ hp_ => ?_)
  obtain ⟨rfl, rfl⟩ := hp_; rw [hbc]
  show V E G A 6 [RW G (y 1) 70 s, MO y t kn ln th, RW G (y 5) 60 f] 0 0 Q 87 [(0, .ref (y 0)), (1, .int (nI p)), (2, .int (nI (p + 2 + 1 + m)))] [.int (nI (p + 2))]
  refine V_ord [1, 0, 2] [MO y t kn ln th, RW G (y 1) 70 s, RW G (y 5) 60 f] (show (List.range 3).Perm [1, 0, 2] by decide) rfl ?_
  refine V_istore_n (pc' := 88) [(0, .ref (y 0)), (1, .int (nI p)), (2, .int (nI (p + 2 + 1 + m))), (3, .int (nI (p + 2)))] [1, 2, 3, 0] X dX6_does_87 rfl (Nat.le_of_ble_eq_true rfl) rfl rfl ?_
  refine V_iload_n (pc' := 89) 3 X dX6_does_88 rfl rfl rfl ?_
  refine V_iload_n (pc' := 90) 1 X dX6_does_89 rfl rfl rfl ?_
  refine V_iconst (pc' := 91) (nI 2) X dX6_does_90 ki_2 rfl ?_
  refine V_iadd (pc' := 92) (nI (p + 2)) X dX6_does_91 (nI_add _ _) rfl ?_
  refine V_icmp_ne (pc' := 95) (C := (p + 2) = (p + 2)) 120 X dX6_does_92 (by decide) rfl (nI_eq (by omega) (by omega)) (fun hz => absurd (rfl) hz) (fun _ => ?_)
  refine V_bipush (pc' := 97) (nI 10) X dX6_does_95 kb_10 rfl ?_
  refine V_aload_n (pc' := 98) 0 X dX6_does_97 rfl rfl rfl ?_
  refine V_iload_n (pc' := 99) 1 X dX6_does_98 rfl rfl rfl ?_
  refine V_callV (pc' := 102) (As := [.int (nI p)]) (st := [.int (nI 10)]) 6 0 [0, 2] [1] (show (List.range 3).Perm ([0, 2] ++ [1]) by decide) X (c_X6_charAt l G y t kn ln th f hn hf p (by omega)) rfl gX6_does_X6_charAt rfl (by decide) rfl rfl rfl (Nat.le_of_ble_eq_true rfl) ⟨Nat.le_of_ble_eq_true rfl, Nat.le_of_ble_eq_true rfl⟩ ⟨Nat.le_of_ble_eq_true rfl, Nat.le_of_ble_eq_true rfl⟩ dX6_does_99 rfl (fun v_ u_ hp_ => ?_)
  obtain ⟨rfl, rfl⟩ := hp_; rw [ch_in (i := p) hpl]
  show V E G A 6 [RW G (y 1) 70 s, MO y t kn ln th, RW G (y 5) 60 f] 0 0 Q 102 [(0, .ref (y 0)), (1, .int (nI p)), (2, .int (nI (p + 2 + 1 + m))), (3, .int (nI (p + 2)))] [.int (nI (f p)), .int (nI 10)]
  refine V_ord [1, 0, 2] [MO y t kn ln th, RW G (y 1) 70 s, RW G (y 5) 60 f] (show (List.range 3).Perm [1, 0, 2] by decide) rfl ?_
  refine V_bipush (pc' := 104) (nI 48) X dX6_does_102 kb_48 rfl ?_
  refine V_isub (pc' := 105) (nI ((f p) - 48)) X dX6_does_104 (pk_sub (by omega)) rfl ?_
  refine V_imul (pc' := 106) (nI (10 * ((f p) - 48))) X dX6_does_105 (pk_mul _ _) rfl ?_
  refine V_aload_n (pc' := 107) 0 X dX6_does_106 rfl rfl rfl ?_
  refine V_iload_n (pc' := 108) 1 X dX6_does_107 rfl rfl rfl ?_
  refine V_iconst (pc' := 109) (nI 1) X dX6_does_108 ki_1 rfl ?_
  refine V_iadd (pc' := 110) (nI (p + 1)) X dX6_does_109 (nI_add _ _) rfl ?_
  refine V_callV (pc' := 113) (As := [.int (nI (p + 1))]) (st := [.int (nI (10 * ((f p) - 48)))]) 6 0 [0, 2] [1] (show (List.range 3).Perm ([0, 2] ++ [1]) by decide) X (c_X6_charAt l G y t kn ln th f hn hf (p + 1) (by omega)) rfl gX6_does_X6_charAt rfl (by decide) rfl rfl rfl (Nat.le_of_ble_eq_true rfl) ⟨Nat.le_of_ble_eq_true rfl, Nat.le_of_ble_eq_true rfl⟩ ⟨Nat.le_of_ble_eq_true rfl, Nat.le_of_ble_eq_true rfl⟩ dX6_does_110 rfl (fun v_ u_ hp_ => ?_)
  obtain ⟨rfl, rfl⟩ := hp_; rw [ch_in (i := p + 1) (by omega)]
  show V E G A 6 [RW G (y 1) 70 s, MO y t kn ln th, RW G (y 5) 60 f] 0 0 Q 113 [(0, .ref (y 0)), (1, .int (nI p)), (2, .int (nI (p + 2 + 1 + m))), (3, .int (nI (p + 2)))] [.int (nI (f (p + 1))), .int (nI (10 * ((f p) - 48)))]
  refine V_ord [1, 0, 2] [MO y t kn ln th, RW G (y 1) 70 s, RW G (y 5) 60 f] (show (List.range 3).Perm [1, 0, 2] by decide) rfl ?_
  refine V_iadd (pc' := 114) (nI ((10 * ((f p) - 48)) + (f (p + 1)))) X dX6_does_113 (nI_add _ _) rfl ?_
  refine V_bipush (pc' := 116) (nI 48) X dX6_does_114 kb_48 rfl ?_
  refine V_isub (pc' := 117) (nI (num f p 2)) X dX6_does_116 (by rw [pk_sub (by omega), num2]; exact congrArg nI (by omega)) rfl ?_
  refine V_goto (pc' := 128) X dX6_does_117 (by decide) ?_
  refine V_istore (pc' := 130) [(0, .ref (y 0)), (1, .int (nI p)), (2, .int (nI (p + 2 + 1 + m))), (3, .int (nI (p + 2))), (4, .int (nI (num f p 2)))] [1, 2, 3, 4, 0] X dX6_does_128 (Nat.le_of_ble_eq_true rfl) rfl rfl ?_
  refine V_iload_n (pc' := 131) 3 X dX6_does_130 rfl rfl rfl ?_
  refine V_iconst (pc' := 132) (nI 1) X dX6_does_131 ki_1 rfl ?_
  refine V_iadd (pc' := 133) (nI ((p + 2) + 1)) X dX6_does_132 (nI_add _ _) rfl ?_
  refine V_istore (pc' := 135) [(0, .ref (y 0)), (1, .int (nI p)), (2, .int (nI (p + 2 + 1 + m))), (3, .int (nI (p + 2))), (4, .int (nI (num f p 2))), (5, .int (nI ((p + 2) + 1)))] [1, 2, 3, 4, 5, 0] X dX6_does_133 (Nat.le_of_ble_eq_true rfl) rfl rfl ?_
  refine V_ws [MO y t kn ln th, RW G (y 1) 70 (pgN s (num f p 2) (fun j => f (p + 2 + 1 + j) - 48) 0), RW G (y 5) 60 f] rfl ?_
  have lp_1 : ∀ i, i ≤ m → V E G A 6 [MO y t kn ln th, RW G (y 1) 70 (pgN s (num f p 2) (fun j => f (p + 2 + 1 + j) - 48) i), RW G (y 5) 60 f] 0 0 Q 135 [(0, .ref (y 0)), (1, .int (nI p)), (2, .int (nI (p + 2 + 1 + m))), (3, .int (nI (p + 2))), (4, .int (nI (num f p 2))), (5, .int (nI (p + 2 + 1 + i)))] [] := by
    refine loopD m ?_ ?_
    · show V E G A 6 [MO y t kn ln th, RW G (y 1) 70 (pgN s (num f p 2) (fun j => f (p + 2 + 1 + j) - 48) m), RW G (y 5) 60 f] 0 0 Q 135 [(0, .ref (y 0)), (1, .int (nI p)), (2, .int (nI (p + 2 + 1 + m))), (3, .int (nI (p + 2))), (4, .int (nI (num f p 2))), (5, .int (nI (p + 2 + 1 + m)))] []
      refine V_iload (pc' := 137) 5 X dX6_does_135 rfl rfl ?_
      refine V_iload_n (pc' := 138) 2 X dX6_does_137 rfl rfl rfl ?_
      refine V_icmp_ge (pc' := 141) (C := (p + 2 + 1 + m) ≤ (p + 2 + 1 + m)) 170 X dX6_does_138 (by decide) rfl (nI_leI (by omega) (by omega)) (fun _ => ?_) (fun hz => absurd (by omega) hz)
      refine V_iconst (pc' := 171) (nI 0) X dX6_does_170 ki_0 rfl ?_
      exact V_ireturn (v := nI 0) [MO y t kn ln th, RW G (y 1) 70 (pgN s (num f p 2) (fun j => f (p + 2 + 1 + j) - 48) m), RW G (y 5) 60 f] hQ X hrt rfl dX6_does_171 (Nat.le_of_ble_eq_true rfl) (Nat.le_of_ble_eq_true rfl) (List.Perm.refl _) ⟨rfl, rfl⟩
    · intro i hi_i ih
      show V E G A 6 [MO y t kn ln th, RW G (y 1) 70 (pgN s (num f p 2) (fun j => f (p + 2 + 1 + j) - 48) i), RW G (y 5) 60 f] 0 0 Q 135 [(0, .ref (y 0)), (1, .int (nI p)), (2, .int (nI (p + 2 + 1 + m))), (3, .int (nI (p + 2))), (4, .int (nI (num f p 2))), (5, .int (nI (p + 2 + 1 + i)))] []
      have hdi := hd2 (p + 2 + 1 + i) (by omega) (by omega)
      refine V_iload (pc' := 137) 5 X dX6_does_135 rfl rfl ?_
      refine V_iload_n (pc' := 138) 2 X dX6_does_137 rfl rfl rfl ?_
      refine V_icmp_ge (pc' := 141) (C := (p + 2 + 1 + m) ≤ (p + 2 + 1 + i)) 170 X dX6_does_138 (by decide) rfl (nI_leI (by omega) (by omega)) (fun hz => absurd hz (by omega)) (fun _ => ?_)
      refine V_aload_n (pc' := 142) 0 X dX6_does_141 rfl rfl rfl ?_
      refine V_get (pc' := 145) 0 X F7 rfl rfl dX6_does_142 rfl ?_
      refine V_iconst (pc' := 146) (nI 0) X dX6_does_145 ki_0 rfl ?_
      refine V_iload (pc' := 148) 4 X dX6_does_146 rfl rfl ?_
      refine V_iadd (pc' := 149) (nI (num f p 2)) X dX6_does_148 (nI_0add _) rfl ?_
      refine V_dup2 (pc' := 150) X dX6_does_149 rfl rfl rfl ?_
      refine V_iald (pc' := 151) (v := nI ((pgN s (num f p 2) (fun j => f (p + 2 + 1 + j) - 48) i) (num f p 2))) 1 (num f p 2) X rfl (by omega) (by decide) rfl dX6_does_150 rfl ?_
      refine V_iconst (pc' := 152) (nI 1) X dX6_does_151 ki_1 rfl ?_
      refine V_aload_n (pc' := 153) 0 X dX6_does_152 rfl rfl rfl ?_
      refine V_iload (pc' := 155) 5 X dX6_does_153 rfl rfl ?_
      refine V_callV (pc' := 158) (As := [.int (nI (p + 2 + 1 + i))]) (st := [.int (nI 1), .int (nI ((pgN s (num f p 2) (fun j => f (p + 2 + 1 + j) - 48) i) (num f p 2))), .int (nI (num f p 2)), .ref (y 1)]) 6 0 [0, 2] [1] (show (List.range 3).Perm ([0, 2] ++ [1]) by decide) X (c_X6_charAt l G y t kn ln th f hn hf (p + 2 + 1 + i) (by omega)) rfl gX6_does_X6_charAt rfl (by decide) rfl rfl rfl (Nat.le_of_ble_eq_true rfl) ⟨Nat.le_of_ble_eq_true rfl, Nat.le_of_ble_eq_true rfl⟩ ⟨Nat.le_of_ble_eq_true rfl, Nat.le_of_ble_eq_true rfl⟩ dX6_does_155 rfl (fun v_ u_ hp_ => ?_)
      obtain ⟨rfl, rfl⟩ := hp_; rw [ch_in (i := p + 2 + 1 + i) (by omega)]
      show V E G A 6 [RW G (y 1) 70 (pgN s (num f p 2) (fun j => f (p + 2 + 1 + j) - 48) i), MO y t kn ln th, RW G (y 5) 60 f] 0 0 Q 158 [(0, .ref (y 0)), (1, .int (nI p)), (2, .int (nI (p + 2 + 1 + m))), (3, .int (nI (p + 2))), (4, .int (nI (num f p 2))), (5, .int (nI (p + 2 + 1 + i)))] [.int (nI (f (p + 2 + 1 + i))), .int (nI 1), .int (nI ((pgN s (num f p 2) (fun j => f (p + 2 + 1 + j) - 48) i) (num f p 2))), .int (nI (num f p 2)), .ref (y 1)]
      refine V_ord [1, 0, 2] [MO y t kn ln th, RW G (y 1) 70 (pgN s (num f p 2) (fun j => f (p + 2 + 1 + j) - 48) i), RW G (y 5) 60 f] (show (List.range 3).Perm [1, 0, 2] by decide) rfl ?_
      refine V_bipush (pc' := 160) (nI 48) X dX6_does_158 kb_48 rfl ?_
      refine V_isub (pc' := 161) (nI ((f (p + 2 + 1 + i)) - 48)) X dX6_does_160 (pk_sub (by omega)) rfl ?_
      refine V_ishl (pc' := 162) (nI (2 ^ ((f (p + 2 + 1 + i)) - 48))) X dX6_does_161 (z_shl1 (by omega)) rfl ?_
      refine V_ixor (pc' := 163) (nI (((pgN s (num f p 2) (fun j => f (p + 2 + 1 + j) - 48) i) (num f p 2)) ^^^ (2 ^ ((f (p + 2 + 1 + i)) - 48)))) X dX6_does_162 (z_xor _ _) rfl ?_
      refine V_ws [MO y t kn ln th, [((y 1), .inl (G.2 0, 70, .inl (nf (pgN s (num f p 2) (fun j => f (p + 2 + 1 + j) - 48) i))))], RW G (y 5) 60 f] rfl ?_
      refine V_iast (pc' := 164) 1 (num f p 2) [MO y t kn ln th, [((y 1), .inl (G.2 0, 70, .inl (upd (nf (pgN s (num f p 2) (fun j => f (p + 2 + 1 + j) - 48) i)) (num f p 2) (nI (((pgN s (num f p 2) (fun j => f (p + 2 + 1 + j) - 48) i) (num f p 2)) ^^^ (2 ^ ((f (p + 2 + 1 + i)) - 48)))))))], RW G (y 5) 60 f] X rfl (by omega) (by decide) rfl dX6_does_163 rfl ?_
      refine V_ws [MO y t kn ln th, [((y 1), .inl (G.2 0, 70, .inl (nf (va_up (pgN s (num f p 2) (fun j => f (p + 2 + 1 + j) - 48) i) (num f p 2) (((pgN s (num f p 2) (fun j => f (p + 2 + 1 + j) - 48) i) (num f p 2)) ^^^ (2 ^ ((f (p + 2 + 1 + i)) - 48)))))))], RW G (y 5) 60 f] (by simp only [nf_upd]) ?_
      refine V_iinc (pc' := 167) [(0, .ref (y 0)), (1, .int (nI p)), (2, .int (nI (p + 2 + 1 + m))), (3, .int (nI (p + 2))), (4, .int (nI (num f p 2))), (5, .int (nI (p + 2 + 1 + i + 1)))] 5 [1, 2, 3, 4, 5, 0] X dX6_does_164 rfl (nI_i1 _) (Nat.le_of_ble_eq_true rfl) rfl rfl ?_
      refine V_goto (pc' := 135) X dX6_does_167 (by decide) ?_
      refine V_ws [MO y t kn ln th, RW G (y 1) 70 (pgN s (num f p 2) (fun j => f (p + 2 + 1 + j) - 48) (i + 1)), RW G (y 5) 60 f] rfl ?_
      exact ih
  have e0 := lp_1 0 (Nat.zero_le _)
  rw [Nat.add_zero] at e0
  exact e0

theorem c_X6_does (l : Launch) (G : gT) (y : Nat → Nat) (t kn ln th : Nat) (f : Nat → Nat) (hn : ln ≤ 60) (hf : ∀ k, k < ln → f k < 128) (s : Nat → Nat) (hI : IV s) (p e : Nat) (hb : bp f ln p = (true, e)) (hp : Pt f ln p e) : CM l G yX6_does wsX6_does 5 120 1 [.ref (y 0), .int (nI p)] [MO y t kn ln th, RW G (y 1) 70 s, RW G (y 5) 60 f] 0 0 (fun v u => v = some (.int (nI (doP 9 f ln p e s).2)) ∧ u = [MO y t kn ln th, RW G (y 1) 70 (doP 9 f ln p e s).1, RW G (y 5) 60 f]) := by
  obtain ⟨p1, p2, p3⟩ := hp
  rcases p3 with ⟨h46, q | q⟩ | ⟨h116, q, h1, h2⟩ | ⟨h46, h116, g, g1, g2, g3, g4, g5, g6, g7⟩
  · subst q
    have e1 : doP 9 f ln p (p + 1) s = (stkN 9 s 1, stkN 9 s 1 70 - s 70) := by unfold doP; rw [if_pos h46, if_pos rfl]
    rw [e1]
    exact c_X6_does_1 l G y t kn ln th f hn hf s hI p p2 hb h46
  · obtain ⟨rfl, h1, h2⟩ := q
    have e1 : doP 9 f ln p (p + 2) s = (stkN 9 s (f (p + 1) - 48), stkN 9 s (f (p + 1) - 48) 70 - s 70) := by unfold doP; rw [if_pos h46, if_neg (by omega)]
    rw [e1]
    exact c_X6_does_2 l G y t kn ln th f hn hf s hI p p2 hb h46 h1 h2
  · subst q
    have e1 : doP 9 f ln p (p + 3) s = (va_up s (32 + (f (p + 1) - 48)) (f (p + 2) - 48), 0) := by unfold doP; rw [if_neg (by omega), if_pos h116]
    rw [e1]
    exact c_X6_does_3 l G y t kn ln th f hn hf s hI p p2 hb h116 h1 h2
  · obtain ⟨m, rfl⟩ : ∃ m, e = g + 1 + m := ⟨e - (g + 1), by omega⟩
    rcases g1 with rfl | rfl
    · rw [Nat.add_sub_cancel_left] at g5
      have e1 : doP 9 f ln p (p + 1 + 1 + m) s = (pgN s (num f p 1) (fun j => f (p + 1 + 1 + j) - 48) m, 0) := by unfold doP; rw [if_neg h46, if_neg h116, ← g7, Nat.add_sub_cancel_left, Nat.add_sub_cancel_left]
      rw [e1]
      exact c_X6_does_4 l G y t kn ln th f hn hf s hI p m p2 hb h46 h116 g7.symm g4 g5 g6
    · rw [Nat.add_sub_cancel_left] at g5
      have e1 : doP 9 f ln p (p + 2 + 1 + m) s = (pgN s (num f p 2) (fun j => f (p + 2 + 1 + j) - 48) m, 0) := by unfold doP; rw [if_neg h46, if_neg h116, ← g7, Nat.add_sub_cancel_left, Nat.add_sub_cancel_left]
      rw [e1]
      exact c_X6_does_5 l G y t kn ln th f hn hf s hI p m p2 hb h46 h116 g7.symm g4 g5 g6
set_option maxHeartbeats 4000000 in
set_option maxRecDepth 100000 in
theorem c_X6_read_b1 (l : Launch) (G : gT) (y : Nat → Nat) (t kn ln th : Nat) (f : Nat → Nat) (hn : ln ≤ 60) (hf : ∀ k, k < ln → f k < 128) (hv : ¬ ff f ln = none) : CM l G yX6_read wsX6_read 6 132 0 [.ref (y 0)] [MO y t kn ln th, RW G (y 5) 60 f] 0 0 (fun v u => v = some (.int (nI 0)) ∧ u = [MO y 1 kn ln th, RW G (y 5) 60 f]) := by
  refine CM_of RX6 5 110 rfl rfl (by decide) (by decide +kernel) (Nat.le_of_ble_eq_true rfl) (fun E A X hrt hnm => ?_)
  generalize hQ : QM E G A _ _ _ = Q
  show V E G A 3 [MO y t kn ln th, RW G (y 5) 60 f] 0 0 Q 0 [(0, .ref (y 0))] []
  refine V_aload_n (pc' := 1) 0 X dX6_read_0 rfl rfl rfl ?_
  refine V_aload_n (pc' := 2) 0 X dX6_read_1 rfl rfl rfl ?_
  refine V_callV (pc' := 5) (As := []) (st := [.ref (y 0)]) 6 0 [0, 1] [] (show (List.range 2).Perm ([0, 1] ++ []) by decide) X (c_X6_wrong l G y t kn ln th f hn hf) rfl gX6_read_X6_wrong rfl (by decide) rfl rfl rfl (Nat.le_of_ble_eq_true rfl) ⟨Nat.le_of_ble_eq_true rfl, Nat.le_of_ble_eq_true rfl⟩ ⟨Nat.le_of_ble_eq_true rfl, Nat.le_of_ble_eq_true rfl⟩ dX6_read_2 rfl (fun v_ u_ hp_ => ?_)
  obtain ⟨rfl, rfl⟩ := hp_
  show V E G A 3 [MO y t kn ln th, RW G (y 5) 60 f] 0 0 Q 5 [(0, .ref (y 0))] [.int (rN (ff f ln)), .ref (y 0)]
  refine V_iconst (pc' := 6) (-1) X dX6_read_5 rfl rfl ?_
  refine V_icmp_ne (pc' := 9) (C := (rN (ff f ln)) = (-1)) 13 X dX6_read_6 (by decide) rfl Iff.rfl (fun _ => ?_) (fun hz => absurd hz (rN_ne' hn hv))
  refine V_iconst (pc' := 14) (nI 1) X dX6_read_13 ki_1 rfl ?_
  refine V_callV (pc' := 17) (As := [.int (nI 1)]) (st := []) 6 0 [0] [1] (show (List.range 2).Perm ([0] ++ [1]) by decide) X (c_X6_holds1 l G y t kn ln th) rfl gX6_read_X6_holds rfl (by decide) rfl rfl rfl (Nat.le_of_ble_eq_true rfl) ⟨Nat.le_of_ble_eq_true rfl, Nat.le_of_ble_eq_true rfl⟩ ⟨Nat.le_of_ble_eq_true rfl, Nat.le_of_ble_eq_true rfl⟩ dX6_read_14 rfl (fun v_ u_ hp_ => ?_)
  obtain ⟨rfl, rfl⟩ := hp_
  show V E G A 3 [RW G (y 5) 60 f, MO y 1 kn ln th] 0 0 Q 17 [(0, .ref (y 0))] [.int (nI 0)]
  refine V_ord [1, 0] [MO y 1 kn ln th, RW G (y 5) 60 f] (show (List.range 2).Perm [1, 0] by decide) rfl ?_
  refine V_if_ne (pc' := 20) (C := 0 = 0) 22 X dX6_read_17 (by decide) rfl (z_eq0 (by omega)) (fun hz => absurd (by decide) hz) (fun _ => ?_)
  refine V_iconst (pc' := 21) (nI 0) X dX6_read_20 ki_0 rfl ?_
  exact V_ireturn (v := nI 0) [MO y 1 kn ln th, RW G (y 5) 60 f] hQ X hrt rfl dX6_read_21 (Nat.le_of_ble_eq_true rfl) (Nat.le_of_ble_eq_true rfl) (List.Perm.refl _) ⟨rfl, rfl⟩

set_option maxHeartbeats 4000000 in
set_option maxRecDepth 100000 in
theorem c_X6_read (l : Launch) (G : gT) (y : Nat → Nat) (t kn ln th : Nat) (s g f : Nat → Nat) (hI : IV s) (hn : kn ≤ 6) (hm : ln ≤ 60) (hf : ∀ k, k < ln → f k < 128) (hv : ff f ln = none) : CM l G yX6_read wsX6_read 6 142 0 [.ref (y 0)] [MO y t kn ln th, RW G (y 1) 70 s, RW G (y 4) 420 g, RW G (y 5) 60 f] 0 0 (fun v u => v = some (.int (nI (rdS 9 f ln s (ln + 1)).2.2)) ∧ u = [MO y 0 (aM kn + 1) 0 th, RW G (y 1) 70 (rdS 9 f ln s (ln + 1)).1, RW G (y 4) 420 (rcH kn s g), RW G (y 5) 60 f]) := by
  refine CM_of RX6 5 120 rfl rfl (by decide) (by decide +kernel) (Nat.le_of_ble_eq_true rfl) (fun E A X hrt hnm => ?_)
  have F105 := Fld_of (idx := 105) 6 7 X (by decide) (by decide) (by decide +kernel) (by decide +kernel)
  generalize hQ : QM E G A _ _ _ = Q
  show V E G A 3 [MO y t kn ln th, RW G (y 1) 70 s, RW G (y 4) 420 g, RW G (y 5) 60 f] 0 0 Q 0 [(0, .ref (y 0))] []
  refine V_aload_n (pc' := 1) 0 X dX6_read_0 rfl rfl rfl ?_
  refine V_aload_n (pc' := 2) 0 X dX6_read_1 rfl rfl rfl ?_
  refine V_callV (pc' := 5) (As := []) (st := [.ref (y 0)]) 6 0 [0, 3] [1, 2] (show (List.range 4).Perm ([0, 3] ++ [1, 2]) by decide) X (c_X6_wrong l G y t kn ln th f hm hf) rfl gX6_read_X6_wrong rfl (by decide) rfl rfl rfl (Nat.le_of_ble_eq_true rfl) ⟨Nat.le_of_ble_eq_true rfl, Nat.le_of_ble_eq_true rfl⟩ ⟨Nat.le_of_ble_eq_true rfl, Nat.le_of_ble_eq_true rfl⟩ dX6_read_2 rfl (fun v_ u_ hp_ => ?_)
  obtain ⟨rfl, rfl⟩ := hp_
  show V E G A 3 [RW G (y 1) 70 s, RW G (y 4) 420 g, MO y t kn ln th, RW G (y 5) 60 f] 0 0 Q 5 [(0, .ref (y 0))] [.int (rN (ff f ln)), .ref (y 0)]
  refine V_ord [2, 0, 1, 3] [MO y t kn ln th, RW G (y 1) 70 s, RW G (y 4) 420 g, RW G (y 5) 60 f] (show (List.range 4).Perm [2, 0, 1, 3] by decide) rfl ?_
  refine V_iconst (pc' := 6) (-1) X dX6_read_5 rfl rfl ?_
  refine V_icmp_ne (pc' := 9) (C := (rN (ff f ln)) = (-1)) 13 X dX6_read_6 (by decide) rfl Iff.rfl (fun hz => absurd (by rw [hv]; rfl) hz) (fun _ => ?_)
  refine V_iconst (pc' := 10) (nI 0) X dX6_read_9 ki_0 rfl ?_
  refine V_goto (pc' := 14) X dX6_read_10 (by decide) ?_
  refine V_callV (pc' := 17) (As := [.int (nI 0)]) (st := []) 6 0 [0] [1, 2, 3] (show (List.range 4).Perm ([0] ++ [1, 2, 3]) by decide) X (c_X6_holds0 l G y t kn ln th) rfl gX6_read_X6_holds rfl (by decide) rfl rfl rfl (Nat.le_of_ble_eq_true rfl) ⟨Nat.le_of_ble_eq_true rfl, Nat.le_of_ble_eq_true rfl⟩ ⟨Nat.le_of_ble_eq_true rfl, Nat.le_of_ble_eq_true rfl⟩ dX6_read_14 rfl (fun v_ u_ hp_ => ?_)
  obtain ⟨rfl, rfl⟩ := hp_
  show V E G A 3 [RW G (y 1) 70 s, RW G (y 4) 420 g, RW G (y 5) 60 f, MO y 0 kn ln th] 0 0 Q 17 [(0, .ref (y 0))] [.int (nI 1)]
  refine V_ord [3, 0, 1, 2] [MO y 0 kn ln th, RW G (y 1) 70 s, RW G (y 4) 420 g, RW G (y 5) 60 f] (show (List.range 4).Perm [3, 0, 1, 2] by decide) rfl ?_
  refine V_if_ne (pc' := 20) (C := 1 = 0) 22 X dX6_read_17 (by decide) rfl (z_eq0 (by omega)) (fun _ => ?_) (fun hz => absurd hz (by decide))
  refine V_aload_n (pc' := 23) 0 X dX6_read_22 rfl rfl rfl ?_
  refine V_callV (pc' := 26) (As := []) (st := []) 6 0 [0, 1, 2] [3] (show (List.range 4).Perm ([0, 1, 2] ++ [3]) by decide) X (c_X6_records l G y 0 kn ln th s g hn) rfl gX6_read_X6_records rfl (by decide) rfl rfl rfl (Nat.le_of_ble_eq_true rfl) ⟨Nat.le_of_ble_eq_true rfl, Nat.le_of_ble_eq_true rfl⟩ ⟨Nat.le_of_ble_eq_true rfl, Nat.le_of_ble_eq_true rfl⟩ dX6_read_23 rfl (fun v_ u_ hp_ => ?_)
  obtain ⟨rfl, rfl⟩ := hp_
  show V E G A 3 [RW G (y 5) 60 f, MO y 0 (aM kn + 1) ln th, RW G (y 1) 70 s, RW G (y 4) 420 (rcH kn s g)] 0 0 Q 26 [(0, .ref (y 0))] []
  refine V_ord [1, 2, 3, 0] [MO y 0 (aM kn + 1) ln th, RW G (y 1) 70 s, RW G (y 4) 420 (rcH kn s g), RW G (y 5) 60 f] (show (List.range 4).Perm [1, 2, 3, 0] by decide) rfl ?_
  refine V_iconst (pc' := 27) (nI 0) X dX6_read_26 ki_0 rfl ?_
  refine V_istore_n (pc' := 28) [(0, .ref (y 0)), (1, .int (nI 0))] [1, 0] X dX6_read_27 rfl (Nat.le_of_ble_eq_true rfl) rfl rfl ?_
  refine V_iconst (pc' := 29) (nI 0) X dX6_read_28 ki_0 rfl ?_
  refine V_istore_n (pc' := 30) [(0, .ref (y 0)), (1, .int (nI 0)), (2, .int (nI 0))] [1, 2, 0] X dX6_read_29 rfl (Nat.le_of_ble_eq_true rfl) rfl rfl ?_
  have lp : ∀ m p, ln + 1 - p ≤ m → p ≤ ln + 1 → (rdS 9 f ln s p).2.1 = p → V E G A 3 [MO y 0 (aM kn + 1) ln th, RW G (y 1) 70 ((rdS 9 f ln s p).1), RW G (y 4) 420 (rcH kn s g), RW G (y 5) 60 f] 0 0 Q 30 [(0, .ref (y 0)), (1, .int (nI ((rdS 9 f ln s p).2.2))), (2, .int (nI p))] [] := by
    intro m
    induction m with
    | zero =>
      intro p h1 h2 h3
      have hp : p = ln + 1 := by omega
      subst hp
      show V E G A 3 [MO y 0 (aM kn + 1) ln th, RW G (y 1) 70 ((rdS 9 f ln s (ln + 1)).1), RW G (y 4) 420 (rcH kn s g), RW G (y 5) 60 f] 0 0 Q 30 [(0, .ref (y 0)), (1, .int (nI ((rdS 9 f ln s (ln + 1)).2.2))), (2, .int (nI (ln + 1)))] []
      refine V_iload_n (pc' := 31) 2 X dX6_read_30 rfl rfl rfl ?_
      refine V_aload_n (pc' := 32) 0 X dX6_read_31 rfl rfl rfl ?_
      refine V_get (pc' := 35) 0 X F105 rfl rfl dX6_read_32 rfl ?_
      refine V_icmp_ge (pc' := 38) (C := ln ≤ (ln + 1)) 57 X dX6_read_35 (by decide) rfl (nI_leI (by omega) (by omega)) (fun _ => ?_) (fun hz => absurd (by omega) hz)
      refine V_aload_n (pc' := 58) 0 X dX6_read_57 rfl rfl rfl ?_
      refine V_iconst (pc' := 59) (nI 0) X dX6_read_58 ki_0 rfl ?_
      refine V_ws [[((y 0), .inr (6, [.int (nI 0), .ref (y 1), .ref (y 2), .ref (y 3), .ref (y 4), .int (nI (aM kn + 1)), .ref (y 5), .int (nI ln), .ref (y 6), .ref (y 7), .int (nI th)]))], RW G (y 1) 70 ((rdS 9 f ln s (ln + 1)).1), RW G (y 4) 420 (rcH kn s g), RW G (y 5) 60 f] rfl ?_
      refine V_put (pc' := 62) 0 [[((y 0), .inr (6, [.int (nI 0), .ref (y 1), .ref (y 2), .ref (y 3), .ref (y 4), .int (nI (aM kn + 1)), .ref (y 5), .int (nI 0), .ref (y 6), .ref (y 7), .int (nI th)]))], RW G (y 1) 70 ((rdS 9 f ln s (ln + 1)).1), RW G (y 4) 420 (rcH kn s g), RW G (y 5) 60 f] X F105 rfl rfl rfl rfl (Nat.le_of_ble_eq_true rfl) rfl dX6_read_59 rfl ?_
      refine V_iload_n (pc' := 63) 1 X dX6_read_62 rfl rfl rfl ?_
      refine V_ws [MO y 0 (aM kn + 1) 0 th, RW G (y 1) 70 ((rdS 9 f ln s (ln + 1)).1), RW G (y 4) 420 (rcH kn s g), RW G (y 5) 60 f] rfl ?_
      exact V_ireturn (v := nI ((rdS 9 f ln s (ln + 1)).2.2)) [MO y 0 (aM kn + 1) 0 th, RW G (y 1) 70 ((rdS 9 f ln s (ln + 1)).1), RW G (y 4) 420 (rcH kn s g), RW G (y 5) 60 f] hQ X hrt rfl dX6_read_63 (Nat.le_of_ble_eq_true rfl) (Nat.le_of_ble_eq_true rfl) (List.Perm.refl _) ⟨rfl, rfl⟩
    | succ m ih =>
      intro p h1 h2 h3
      by_cases hp : p = ln + 1
      · subst hp
        show V E G A 3 [MO y 0 (aM kn + 1) ln th, RW G (y 1) 70 ((rdS 9 f ln s (ln + 1)).1), RW G (y 4) 420 (rcH kn s g), RW G (y 5) 60 f] 0 0 Q 30 [(0, .ref (y 0)), (1, .int (nI ((rdS 9 f ln s (ln + 1)).2.2))), (2, .int (nI (ln + 1)))] []
        refine V_iload_n (pc' := 31) 2 X dX6_read_30 rfl rfl rfl ?_
        refine V_aload_n (pc' := 32) 0 X dX6_read_31 rfl rfl rfl ?_
        refine V_get (pc' := 35) 0 X F105 rfl rfl dX6_read_32 rfl ?_
        refine V_icmp_ge (pc' := 38) (C := ln ≤ (ln + 1)) 57 X dX6_read_35 (by decide) rfl (nI_leI (by omega) (by omega)) (fun _ => ?_) (fun hz => absurd (by omega) hz)
        refine V_aload_n (pc' := 58) 0 X dX6_read_57 rfl rfl rfl ?_
        refine V_iconst (pc' := 59) (nI 0) X dX6_read_58 ki_0 rfl ?_
        refine V_ws [[((y 0), .inr (6, [.int (nI 0), .ref (y 1), .ref (y 2), .ref (y 3), .ref (y 4), .int (nI (aM kn + 1)), .ref (y 5), .int (nI ln), .ref (y 6), .ref (y 7), .int (nI th)]))], RW G (y 1) 70 ((rdS 9 f ln s (ln + 1)).1), RW G (y 4) 420 (rcH kn s g), RW G (y 5) 60 f] rfl ?_
        refine V_put (pc' := 62) 0 [[((y 0), .inr (6, [.int (nI 0), .ref (y 1), .ref (y 2), .ref (y 3), .ref (y 4), .int (nI (aM kn + 1)), .ref (y 5), .int (nI 0), .ref (y 6), .ref (y 7), .int (nI th)]))], RW G (y 1) 70 ((rdS 9 f ln s (ln + 1)).1), RW G (y 4) 420 (rcH kn s g), RW G (y 5) 60 f] X F105 rfl rfl rfl rfl (Nat.le_of_ble_eq_true rfl) rfl dX6_read_59 rfl ?_
        refine V_iload_n (pc' := 63) 1 X dX6_read_62 rfl rfl rfl ?_
        refine V_ws [MO y 0 (aM kn + 1) 0 th, RW G (y 1) 70 ((rdS 9 f ln s (ln + 1)).1), RW G (y 4) 420 (rcH kn s g), RW G (y 5) 60 f] rfl ?_
        exact V_ireturn (v := nI ((rdS 9 f ln s (ln + 1)).2.2)) [MO y 0 (aM kn + 1) 0 th, RW G (y 1) 70 ((rdS 9 f ln s (ln + 1)).1), RW G (y 4) 420 (rcH kn s g), RW G (y 5) 60 f] hQ X hrt rfl dX6_read_63 (Nat.le_of_ble_eq_true rfl) (Nat.le_of_ble_eq_true rfl) (List.Perm.refl _) ⟨rfl, rfl⟩
      · obtain ⟨e, hb, hPt, hen, hrd⟩ := rd_part (c := 9) (by decide) hv hI (by omega) h3
        have hIp := (rd_inv (c := 9) (by decide) hv hI p (by omega)).1
        have hpe := hPt.1
        show V E G A 3 [MO y 0 (aM kn + 1) ln th, RW G (y 1) 70 ((rdS 9 f ln s p).1), RW G (y 4) 420 (rcH kn s g), RW G (y 5) 60 f] 0 0 Q 30 [(0, .ref (y 0)), (1, .int (nI ((rdS 9 f ln s p).2.2))), (2, .int (nI p))] []
        refine V_iload_n (pc' := 31) 2 X dX6_read_30 rfl rfl rfl ?_
        refine V_aload_n (pc' := 32) 0 X dX6_read_31 rfl rfl rfl ?_
        refine V_get (pc' := 35) 0 X F105 rfl rfl dX6_read_32 rfl ?_
        refine V_icmp_ge (pc' := 38) (C := ln ≤ p) 57 X dX6_read_35 (by decide) rfl (nI_leI (by omega) (by omega)) (fun hz => absurd hz (by omega)) (fun _ => ?_)
        refine V_iload_n (pc' := 39) 1 X dX6_read_38 rfl rfl rfl ?_
        refine V_aload_n (pc' := 40) 0 X dX6_read_39 rfl rfl rfl ?_
        refine V_iload_n (pc' := 41) 2 X dX6_read_40 rfl rfl rfl ?_
        refine V_callV (pc' := 44) (As := [.int (nI p)]) (st := [.int (nI ((rdS 9 f ln s p).2.2))]) 6 0 [0, 1, 3] [2] (show (List.range 4).Perm ([0, 1, 3] ++ [2]) by decide) X (c_X6_does l G y 0 (aM kn + 1) ln th f hm hf (rdS 9 f ln s p).1 hIp p e hb hPt) rfl gX6_read_X6_does rfl (by decide) rfl rfl rfl (Nat.le_of_ble_eq_true rfl) ⟨Nat.le_of_ble_eq_true rfl, Nat.le_of_ble_eq_true rfl⟩ ⟨Nat.le_of_ble_eq_true rfl, Nat.le_of_ble_eq_true rfl⟩ dX6_read_41 rfl (fun v_ u_ hp_ => ?_)
        obtain ⟨rfl, rfl⟩ := hp_
        show V E G A 3 [RW G (y 4) 420 (rcH kn s g), MO y 0 (aM kn + 1) ln th, RW G (y 1) 70 ((doP 9 f ln p e (rdS 9 f ln s p).1).1), RW G (y 5) 60 f] 0 0 Q 44 [(0, .ref (y 0)), (1, .int (nI ((rdS 9 f ln s p).2.2))), (2, .int (nI p))] [.int (nI ((doP 9 f ln p e (rdS 9 f ln s p).1).2)), .int (nI ((rdS 9 f ln s p).2.2))]
        refine V_ord [1, 2, 0, 3] [MO y 0 (aM kn + 1) ln th, RW G (y 1) 70 ((doP 9 f ln p e (rdS 9 f ln s p).1).1), RW G (y 4) 420 (rcH kn s g), RW G (y 5) 60 f] (show (List.range 4).Perm [1, 2, 0, 3] by decide) rfl ?_
        refine V_iadd (pc' := 45) (nI (((rdS 9 f ln s p).2.2) + ((doP 9 f ln p e (rdS 9 f ln s p).1).2))) X dX6_read_44 (nI_add _ _) rfl ?_
        refine V_istore_n (pc' := 46) [(0, .ref (y 0)), (1, .int (nI (((rdS 9 f ln s p).2.2) + ((doP 9 f ln p e (rdS 9 f ln s p).1).2)))), (2, .int (nI p))] [1, 0, 2] X dX6_read_45 rfl (Nat.le_of_ble_eq_true rfl) rfl rfl ?_
        refine V_aload_n (pc' := 47) 0 X dX6_read_46 rfl rfl rfl ?_
        refine V_iload_n (pc' := 48) 2 X dX6_read_47 rfl rfl rfl ?_
        refine V_callV (pc' := 51) (As := [.int (nI p)]) (st := []) 6 0 [0, 3] [1, 2] (show (List.range 4).Perm ([0, 3] ++ [1, 2]) by decide) X (c_X6_behindPart l G y 0 (aM kn + 1) ln th f hm hf p (by omega)) rfl gX6_read_X6_behindPart rfl (by decide) rfl rfl rfl (Nat.le_of_ble_eq_true rfl) ⟨Nat.le_of_ble_eq_true rfl, Nat.le_of_ble_eq_true rfl⟩ ⟨Nat.le_of_ble_eq_true rfl, Nat.le_of_ble_eq_true rfl⟩ dX6_read_48 rfl (fun v_ u_ hp_ => ?_)
        obtain ⟨rfl, rfl⟩ := hp_; rw [hb, show bpI (true, e) = nI e from rfl]
        show V E G A 3 [RW G (y 1) 70 ((doP 9 f ln p e (rdS 9 f ln s p).1).1), RW G (y 4) 420 (rcH kn s g), MO y 0 (aM kn + 1) ln th, RW G (y 5) 60 f] 0 0 Q 51 [(0, .ref (y 0)), (1, .int (nI (((rdS 9 f ln s p).2.2) + ((doP 9 f ln p e (rdS 9 f ln s p).1).2)))), (2, .int (nI p))] [.int (nI e)]
        refine V_ord [2, 0, 1, 3] [MO y 0 (aM kn + 1) ln th, RW G (y 1) 70 ((doP 9 f ln p e (rdS 9 f ln s p).1).1), RW G (y 4) 420 (rcH kn s g), RW G (y 5) 60 f] (show (List.range 4).Perm [2, 0, 1, 3] by decide) rfl ?_
        refine V_iconst (pc' := 52) (nI 1) X dX6_read_51 ki_1 rfl ?_
        refine V_iadd (pc' := 53) (nI (e + 1)) X dX6_read_52 (nI_add _ _) rfl ?_
        refine V_istore_n (pc' := 54) [(0, .ref (y 0)), (1, .int (nI (((rdS 9 f ln s p).2.2) + ((doP 9 f ln p e (rdS 9 f ln s p).1).2)))), (2, .int (nI (e + 1)))] [1, 2, 0] X dX6_read_53 rfl (Nat.le_of_ble_eq_true rfl) rfl rfl ?_
        refine V_goto (pc' := 30) X dX6_read_54 (by decide) ?_
        have ih := ih (e + 1) (by omega) (by omega) (by rw [hrd])
        rw [hrd] at ih
        exact ih
  refine V_ws [MO y 0 (aM kn + 1) ln th, RW G (y 1) 70 ((rdS 9 f ln s 0).1), RW G (y 4) 420 (rcH kn s g), RW G (y 5) 60 f] rfl ?_
  exact lp _ 0 (Nat.le_refl _) (Nat.zero_le _) rfl

set_option maxHeartbeats 4000000 in
set_option maxRecDepth 100000 in
theorem c_X6_put_b1 (l : Launch) (G : gT) (y : Nat → Nat) (t kn ln th : Nat) (f : Nat → Nat) (hn : ln ≤ 60) (w : Nat) (hu : w < 2 ^ 64) (hx : cin w = 0) : CM l G yX6_put wsX6_put 2 49 1 [.ref (y 0), .long (lN w)] [MO y t kn ln th, RW G (y 5) 60 f] 0 0 (fun v u => v = some (.int (nI 0)) ∧ u = [MO y 1 kn ln th, RW G (y 5) 60 f]) := by
  refine CM_of RX6 1 22 rfl rfl (by decide) (by decide +kernel) (Nat.le_of_ble_eq_true rfl) (fun E A X hrt hnm => ?_)
  generalize hQ : QM E G A _ _ _ = Q
  have hcl := cin_le w
  show V E G A 8 [MO y t kn ln th, RW G (y 5) 60 f] 0 0 Q 0 [(0, .ref (y 0)), (1, .long (lN w))] []
  refine V_iconst (pc' := 1) (nI 0) X dX6_put_0 ki_0 rfl ?_
  refine V_istore_n (pc' := 2) [(0, .ref (y 0)), (1, .long (lN w)), (3, .int (nI 0))] [1, 2, 0] X dX6_put_1 rfl (Nat.le_of_ble_eq_true rfl) rfl rfl ?_
  refine V_iconst (pc' := 3) (nI 0) X dX6_put_2 ki_0 rfl ?_
  refine V_istore (pc' := 5) [(0, .ref (y 0)), (1, .long (lN w)), (3, .int (nI 0)), (4, .int (nI 0))] [1, 2, 3, 0] X dX6_put_3 (Nat.le_of_ble_eq_true rfl) rfl rfl ?_
  refine V_iconst (pc' := 6) (nI 0) X dX6_put_5 ki_0 rfl ?_
  refine V_istore (pc' := 8) [(0, .ref (y 0)), (1, .long (lN w)), (3, .int (nI 0)), (4, .int (nI 0)), (5, .int (nI 0))] [1, 2, 3, 4, 0] X dX6_put_6 (Nat.le_of_ble_eq_true rfl) rfl rfl ?_
  have lp_1 : ∀ i, i ≤ 8 → V E G A 8 [MO y t kn ln th, RW G (y 5) 60 f] 0 0 Q 8 [(0, .ref (y 0)), (1, .long (lN w)), (3, .int (nI ((pt w i).1))), (4, .int (nI ((pt w i).2))), (5, .int (nI i))] [] := by
    refine loopD 8 ?_ ?_
    · show V E G A 8 [MO y t kn ln th, RW G (y 5) 60 f] 0 0 Q 8 [(0, .ref (y 0)), (1, .long (lN w)), (3, .int (nI ((pt w 8).1))), (4, .int (nI ((pt w 8).2))), (5, .int (nI 8))] []
      rw [(pt_cin w).1 hx]
      show V E G A 8 [MO y t kn ln th, RW G (y 5) 60 f] 0 0 Q 8 [(0, .ref (y 0)), (1, .long (lN w)), (3, .int (nI ((pt w 8).1))), (4, .int (nI 1)), (5, .int (nI 8))] []
      refine V_iload (pc' := 10) 4 X dX6_put_8 rfl rfl ?_
      refine V_bipush (pc' := 12) (nI 8) X dX6_put_10 kb_8 rfl ?_
      refine V_icmp_ge (pc' := 15) (C := 8 ≤ 8) 101 X dX6_put_12 (by decide) rfl (nI_leI (by omega) (by omega)) (fun _ => ?_) (fun hz => absurd (by omega) hz)
      refine V_aload_n (pc' := 102) 0 X dX6_put_101 rfl rfl rfl ?_
      refine V_iload (pc' := 104) 3 X dX6_put_102 rfl rfl ?_
      refine V_if_eq (pc' := 107) (C := 1 = 0) 111 X dX6_put_104 (by decide) rfl (z_eq0 (by omega)) (fun hz => absurd hz (by decide)) (fun _ => ?_)
      refine V_iconst (pc' := 108) (nI 1) X dX6_put_107 ki_1 rfl ?_
      refine V_goto (pc' := 127) X dX6_put_108 (by decide) ?_
      refine V_callV (pc' := 130) (As := [.int (nI 1)]) (st := []) 6 0 [0] [1] (show (List.range 2).Perm ([0] ++ [1]) by decide) X (c_X6_holds1 l G y t kn ln th) rfl gX6_put_X6_holds rfl (by decide) rfl rfl rfl (Nat.le_of_ble_eq_true rfl) ⟨Nat.le_of_ble_eq_true rfl, Nat.le_of_ble_eq_true rfl⟩ ⟨Nat.le_of_ble_eq_true rfl, Nat.le_of_ble_eq_true rfl⟩ dX6_put_127 rfl (fun v_ u_ hp_ => ?_)
      obtain ⟨rfl, rfl⟩ := hp_
      show V E G A 8 [RW G (y 5) 60 f, MO y 1 kn ln th] 0 0 Q 130 [(0, .ref (y 0)), (1, .long (lN w)), (3, .int (nI ((pt w 8).1))), (4, .int (nI 1)), (5, .int (nI 8))] [.int (nI 0)]
      refine V_ord [1, 0] [MO y 1 kn ln th, RW G (y 5) 60 f] (show (List.range 2).Perm [1, 0] by decide) rfl ?_
      refine V_if_ne (pc' := 133) (C := 0 = 0) 135 X dX6_put_130 (by decide) rfl (z_eq0 (by omega)) (fun hz => absurd (by decide) hz) (fun _ => ?_)
      refine V_iconst (pc' := 134) (nI 0) X dX6_put_133 ki_0 rfl ?_
      exact V_ireturn (v := nI 0) [MO y 1 kn ln th, RW G (y 5) 60 f] hQ X hrt rfl dX6_put_134 (Nat.le_of_ble_eq_true rfl) (Nat.le_of_ble_eq_true rfl) (List.Perm.refl _) ⟨rfl, rfl⟩
    · intro i hi_i ih
      show V E G A 8 [MO y t kn ln th, RW G (y 5) 60 f] 0 0 Q 8 [(0, .ref (y 0)), (1, .long (lN w)), (3, .int (nI ((pt w i).1))), (4, .int (nI ((pt w i).2))), (5, .int (nI i))] []
      refine V_iload (pc' := 10) 4 X dX6_put_8 rfl rfl ?_
      refine V_bipush (pc' := 12) (nI 8) X dX6_put_10 kb_8 rfl ?_
      refine V_icmp_ge (pc' := 15) (C := 8 ≤ i) 101 X dX6_put_12 (by decide) rfl (nI_leI (by omega) (by omega)) (fun hz => absurd hz (by omega)) (fun _ => ?_)
      refine V_lload_n (pc' := 16) 1 X dX6_put_15 rfl rfl rfl ?_
      refine V_bipush (pc' := 18) (nI 8) X dX6_put_16 kb_8 rfl ?_
      refine V_iload (pc' := 20) 4 X dX6_put_18 rfl rfl ?_
      refine V_imul (pc' := 21) (nI (8 * i)) X dX6_put_20 (pk_mul _ _) rfl ?_
      refine V_lushr (pc' := 22) (lN (w / 2 ^ (8 * i))) X dX6_put_21 (wb_shr hu (by omega)) rfl ?_
      refine V_ldc2 (pc' := 25) (v := 255) (lN 255) X (by decide +kernel) (by decide +kernel) dX6_put_22 rfl ?_
      refine V_land (pc' := 26) (lN (w / 2 ^ (8 * i) % 256)) X dX6_put_25 (wb_mask (k := 8) (div_lt64 hu _) (by decide)) rfl ?_
      refine V_l2i (pc' := 27) (nI (w / 2 ^ (8 * i) % 256)) X dX6_put_26 (lN_i _) rfl ?_
      refine V_istore (pc' := 29) [(0, .ref (y 0)), (1, .long (lN w)), (3, .int (nI ((pt w i).1))), (4, .int (nI ((pt w i).2))), (5, .int (nI i)), (6, .int (nI (w / 2 ^ (8 * i) % 256)))] [1, 2, 3, 4, 5, 0] X dX6_put_27 (Nat.le_of_ble_eq_true rfl) rfl rfl ?_
      refine V_iload (pc' := 31) 4 X dX6_put_29 rfl rfl ?_
      refine V_if_le (pc' := 34) (C := i = 0) 50 X dX6_put_31 (by decide) rfl (z_le0 (by omega)) (fun h31 => ?_) (fun h31 => ?_)
      · refine V_iconst (pc' := 51) (nI 0) X dX6_put_50 ki_0 rfl ?_
        refine V_istore (pc' := 53) [(0, .ref (y 0)), (1, .long (lN w)), (3, .int (nI ((pt w i).1))), (4, .int (nI ((pt w i).2))), (5, .int (nI i)), (6, .int (nI (w / 2 ^ (8 * i) % 256))), (7, .int (nI 0))] [1, 2, 3, 4, 5, 6, 0] X dX6_put_51 (Nat.le_of_ble_eq_true rfl) rfl rfl ?_
        refine V_iload (pc' := 55) 3 X dX6_put_53 rfl rfl ?_
        refine V_if_ne (pc' := 58) (C := ((pt w i).2) = 0) 75 X dX6_put_55 (by decide) rfl (z_eq0 (by have := (pt_le w i).2; omega)) (fun h55 => ?_) (fun h55 => ?_)
        · refine V_iconst (pc' := 76) (nI 1) X dX6_put_75 ki_1 rfl ?_
          refine V_goto (pc' := 80) X dX6_put_76 (by decide) ?_
          refine V_istore (pc' := 82) [(0, .ref (y 0)), (1, .long (lN w)), (3, .int (nI ((pt w i).1))), (4, .int (nI 1)), (5, .int (nI i)), (6, .int (nI (w / 2 ^ (8 * i) % 256))), (7, .int (nI 0))] [1, 2, 3, 0, 4, 5, 6] X dX6_put_80 (Nat.le_of_ble_eq_true rfl) rfl rfl ?_
          refine V_iload_n (pc' := 83) 2 X dX6_put_82 rfl rfl rfl ?_
          refine V_iload (pc' := 85) 6 X dX6_put_83 rfl rfl ?_
          refine V_if_eq (pc' := 88) (C := 0 = 0) 92 X dX6_put_85 (by decide) rfl (z_eq0 (by omega)) (fun _ => ?_) (fun hz => absurd (by decide) hz)
          refine V_iconst (pc' := 93) (nI 1) X dX6_put_92 ki_1 rfl ?_
          refine V_iadd (pc' := 94) (nI (((pt w i).1) + 1)) X dX6_put_93 (nI_add _ _) rfl ?_
          refine V_istore_n (pc' := 95) [(0, .ref (y 0)), (1, .long (lN w)), (3, .int (nI (((pt w i).1) + 1))), (4, .int (nI 1)), (5, .int (nI i)), (6, .int (nI (w / 2 ^ (8 * i) % 256))), (7, .int (nI 0))] [1, 2, 0, 3, 4, 5, 6] X dX6_put_94 rfl (Nat.le_of_ble_eq_true rfl) rfl rfl ?_
          refine V_iinc (pc' := 98) [(0, .ref (y 0)), (1, .long (lN w)), (3, .int (nI (((pt w i).1) + 1))), (4, .int (nI 1)), (5, .int (nI (i + 1))), (6, .int (nI (w / 2 ^ (8 * i) % 256))), (7, .int (nI 0))] 4 [1, 2, 3, 4, 0, 5, 6] X dX6_put_95 rfl (nI_i1 _) (Nat.le_of_ble_eq_true rfl) rfl rfl ?_
          refine V_goto (pc' := 8) X dX6_put_98 (by decide) ?_
          refine V_lv [0, 1, 2, 3, 4] [(0, .ref (y 0)), (1, .long (lN w)), (3, .int (nI (((pt w i).1) + 1))), (4, .int (nI 1)), (5, .int (nI (i + 1)))] rfl ?_
          rw [pt_next (a := ((pt w i).1) + 1) (b := 1) (by rw [if_neg (fun q => absurd q.1 (by omega))]) (if_pos (Or.inl (by have := (pt_le w i).2; omega)))] at ih
          exact ih
        · refine V_iload (pc' := 60) 6 X dX6_put_58 rfl rfl ?_
          refine V_if_ne (pc' := 63) (C := 0 = 0) 79 X dX6_put_60 (by decide) rfl (z_eq0 (by omega)) (fun hz => absurd (by decide) hz) (fun _ => ?_)
          refine V_iload (pc' := 65) 5 X dX6_put_63 rfl rfl ?_
          refine V_bipush (pc' := 67) (nI 33) X dX6_put_65 kb_33 rfl ?_
          refine V_bipush (pc' := 69) (nI 126) X dX6_put_67 kb_126 rfl ?_
          refine V_callS (pc' := 72) (As := [.int (nI (w / 2 ^ (8 * i) % 256)), .int (nI 33), .int (nI 126)]) (st := []) [] [0, 1] (show (List.range 2).Perm ([] ++ [0, 1]) by decide) X (c_X6_in l G (w / 2 ^ (8 * i) % 256) 33 126 (Nat.lt_trans (Nat.mod_lt _ (by decide)) (by decide)) (by decide) (by decide)) rfl gX6_put_X6_in rfl rfl (Nat.le_of_ble_eq_true rfl) ⟨Nat.le_of_ble_eq_true rfl, Nat.le_of_ble_eq_true rfl⟩ ⟨Nat.le_of_ble_eq_true rfl, Nat.le_of_ble_eq_true rfl⟩ dX6_put_69 rfl (fun v_ u_ hp_ => ?_)
          obtain ⟨rfl, rfl⟩ := hp_
          show V E G A 8 [MO y t kn ln th, RW G (y 5) 60 f] 0 0 Q 72 [(0, .ref (y 0)), (1, .long (lN w)), (3, .int (nI ((pt w i).1))), (4, .int (nI ((pt w i).2))), (5, .int (nI i)), (6, .int (nI (w / 2 ^ (8 * i) % 256))), (7, .int (nI 0))] [.int (nI (if 33 ≤ (w / 2 ^ (8 * i) % 256) ∧ (w / 2 ^ (8 * i) % 256) ≤ 126 then 1 else 0))]
          refine V_if_ne (pc' := 75) (C := ¬ (33 ≤ (w / 2 ^ (8 * i) % 256) ∧ (w / 2 ^ (8 * i) % 256) ≤ 126)) 79 X dX6_put_72 (by decide) rfl z_ite0 (fun h72 => ?_) (fun h72 => ?_)
          · have h72 := Classical.not_not.mp h72
            refine V_iconst (pc' := 80) (nI 0) X dX6_put_79 ki_0 rfl ?_
            refine V_istore (pc' := 82) [(0, .ref (y 0)), (1, .long (lN w)), (3, .int (nI ((pt w i).1))), (4, .int (nI 0)), (5, .int (nI i)), (6, .int (nI (w / 2 ^ (8 * i) % 256))), (7, .int (nI 0))] [1, 2, 3, 0, 4, 5, 6] X dX6_put_80 (Nat.le_of_ble_eq_true rfl) rfl rfl ?_
            refine V_iload_n (pc' := 83) 2 X dX6_put_82 rfl rfl rfl ?_
            refine V_iload (pc' := 85) 6 X dX6_put_83 rfl rfl ?_
            refine V_if_eq (pc' := 88) (C := 0 = 0) 92 X dX6_put_85 (by decide) rfl (z_eq0 (by omega)) (fun _ => ?_) (fun hz => absurd (by decide) hz)
            refine V_iconst (pc' := 93) (nI 1) X dX6_put_92 ki_1 rfl ?_
            refine V_iadd (pc' := 94) (nI (((pt w i).1) + 1)) X dX6_put_93 (nI_add _ _) rfl ?_
            refine V_istore_n (pc' := 95) [(0, .ref (y 0)), (1, .long (lN w)), (3, .int (nI (((pt w i).1) + 1))), (4, .int (nI 0)), (5, .int (nI i)), (6, .int (nI (w / 2 ^ (8 * i) % 256))), (7, .int (nI 0))] [1, 2, 0, 3, 4, 5, 6] X dX6_put_94 rfl (Nat.le_of_ble_eq_true rfl) rfl rfl ?_
            refine V_iinc (pc' := 98) [(0, .ref (y 0)), (1, .long (lN w)), (3, .int (nI (((pt w i).1) + 1))), (4, .int (nI 0)), (5, .int (nI (i + 1))), (6, .int (nI (w / 2 ^ (8 * i) % 256))), (7, .int (nI 0))] 4 [1, 2, 3, 4, 0, 5, 6] X dX6_put_95 rfl (nI_i1 _) (Nat.le_of_ble_eq_true rfl) rfl rfl ?_
            refine V_goto (pc' := 8) X dX6_put_98 (by decide) ?_
            refine V_lv [0, 1, 2, 3, 4] [(0, .ref (y 0)), (1, .long (lN w)), (3, .int (nI (((pt w i).1) + 1))), (4, .int (nI 0)), (5, .int (nI (i + 1)))] rfl ?_
            rw [pt_next (a := ((pt w i).1) + 1) (b := 0) (by rw [if_neg (fun q => absurd q.1 (by omega))]) (if_neg (fun q => q.elim (fun z => absurd z (by omega)) (fun z => z.2 h72)))] at ih
            exact ih
          · refine V_iconst (pc' := 76) (nI 1) X dX6_put_75 ki_1 rfl ?_
            refine V_goto (pc' := 80) X dX6_put_76 (by decide) ?_
            refine V_istore (pc' := 82) [(0, .ref (y 0)), (1, .long (lN w)), (3, .int (nI ((pt w i).1))), (4, .int (nI 1)), (5, .int (nI i)), (6, .int (nI (w / 2 ^ (8 * i) % 256))), (7, .int (nI 0))] [1, 2, 3, 0, 4, 5, 6] X dX6_put_80 (Nat.le_of_ble_eq_true rfl) rfl rfl ?_
            refine V_iload_n (pc' := 83) 2 X dX6_put_82 rfl rfl rfl ?_
            refine V_iload (pc' := 85) 6 X dX6_put_83 rfl rfl ?_
            refine V_if_eq (pc' := 88) (C := 0 = 0) 92 X dX6_put_85 (by decide) rfl (z_eq0 (by omega)) (fun _ => ?_) (fun hz => absurd (by decide) hz)
            refine V_iconst (pc' := 93) (nI 1) X dX6_put_92 ki_1 rfl ?_
            refine V_iadd (pc' := 94) (nI (((pt w i).1) + 1)) X dX6_put_93 (nI_add _ _) rfl ?_
            refine V_istore_n (pc' := 95) [(0, .ref (y 0)), (1, .long (lN w)), (3, .int (nI (((pt w i).1) + 1))), (4, .int (nI 1)), (5, .int (nI i)), (6, .int (nI (w / 2 ^ (8 * i) % 256))), (7, .int (nI 0))] [1, 2, 0, 3, 4, 5, 6] X dX6_put_94 rfl (Nat.le_of_ble_eq_true rfl) rfl rfl ?_
            refine V_iinc (pc' := 98) [(0, .ref (y 0)), (1, .long (lN w)), (3, .int (nI (((pt w i).1) + 1))), (4, .int (nI 1)), (5, .int (nI (i + 1))), (6, .int (nI (w / 2 ^ (8 * i) % 256))), (7, .int (nI 0))] 4 [1, 2, 3, 4, 0, 5, 6] X dX6_put_95 rfl (nI_i1 _) (Nat.le_of_ble_eq_true rfl) rfl rfl ?_
            refine V_goto (pc' := 8) X dX6_put_98 (by decide) ?_
            refine V_lv [0, 1, 2, 3, 4] [(0, .ref (y 0)), (1, .long (lN w)), (3, .int (nI (((pt w i).1) + 1))), (4, .int (nI 1)), (5, .int (nI (i + 1)))] rfl ?_
            rw [pt_next (a := ((pt w i).1) + 1) (b := 1) (by rw [if_neg (fun q => absurd q.1 (by omega))]) (if_pos (Or.inr ⟨fun q => absurd q.1 (by omega), h72⟩))] at ih
            exact ih
      · refine V_lload_n (pc' := 35) 1 X dX6_put_34 rfl rfl rfl ?_
        refine V_bipush (pc' := 37) (nI 8) X dX6_put_35 kb_8 rfl ?_
        refine V_iload (pc' := 39) 4 X dX6_put_37 rfl rfl ?_
        refine V_imul (pc' := 40) (nI (8 * i)) X dX6_put_39 (pk_mul _ _) rfl ?_
        refine V_lushr (pc' := 41) (lN (w / 2 ^ (8 * i))) X dX6_put_40 (wb_shr hu (by omega)) rfl ?_
        refine V_lconst (pc' := 42) (lN 0) X dX6_put_41 (by decide +kernel) rfl ?_
        refine V_lcmp (pc' := 43) (lg_cmp (lN (w / 2 ^ (8 * i))) (lN 0)) X dX6_put_42 rfl rfl ?_
        refine V_if_ne (pc' := 46) (C := (lg_cmp (lN (w / 2 ^ (8 * i))) (lN 0)) = 0) 50 X dX6_put_43 (by decide) rfl Iff.rfl (fun h43 => ?_) (fun h43 => ?_)
        · have h43 : ¬ w / 2 ^ (8 * i) = 0 := fun q => h43 ((z_lc0 (div_lt64 hu _)).mpr q)
          refine V_iconst (pc' := 51) (nI 0) X dX6_put_50 ki_0 rfl ?_
          refine V_istore (pc' := 53) [(0, .ref (y 0)), (1, .long (lN w)), (3, .int (nI ((pt w i).1))), (4, .int (nI ((pt w i).2))), (5, .int (nI i)), (6, .int (nI (w / 2 ^ (8 * i) % 256))), (7, .int (nI 0))] [1, 2, 3, 4, 5, 6, 0] X dX6_put_51 (Nat.le_of_ble_eq_true rfl) rfl rfl ?_
          refine V_iload (pc' := 55) 3 X dX6_put_53 rfl rfl ?_
          refine V_if_ne (pc' := 58) (C := ((pt w i).2) = 0) 75 X dX6_put_55 (by decide) rfl (z_eq0 (by have := (pt_le w i).2; omega)) (fun h55 => ?_) (fun h55 => ?_)
          · refine V_iconst (pc' := 76) (nI 1) X dX6_put_75 ki_1 rfl ?_
            refine V_goto (pc' := 80) X dX6_put_76 (by decide) ?_
            refine V_istore (pc' := 82) [(0, .ref (y 0)), (1, .long (lN w)), (3, .int (nI ((pt w i).1))), (4, .int (nI 1)), (5, .int (nI i)), (6, .int (nI (w / 2 ^ (8 * i) % 256))), (7, .int (nI 0))] [1, 2, 3, 0, 4, 5, 6] X dX6_put_80 (Nat.le_of_ble_eq_true rfl) rfl rfl ?_
            refine V_iload_n (pc' := 83) 2 X dX6_put_82 rfl rfl rfl ?_
            refine V_iload (pc' := 85) 6 X dX6_put_83 rfl rfl ?_
            refine V_if_eq (pc' := 88) (C := 0 = 0) 92 X dX6_put_85 (by decide) rfl (z_eq0 (by omega)) (fun _ => ?_) (fun hz => absurd (by decide) hz)
            refine V_iconst (pc' := 93) (nI 1) X dX6_put_92 ki_1 rfl ?_
            refine V_iadd (pc' := 94) (nI (((pt w i).1) + 1)) X dX6_put_93 (nI_add _ _) rfl ?_
            refine V_istore_n (pc' := 95) [(0, .ref (y 0)), (1, .long (lN w)), (3, .int (nI (((pt w i).1) + 1))), (4, .int (nI 1)), (5, .int (nI i)), (6, .int (nI (w / 2 ^ (8 * i) % 256))), (7, .int (nI 0))] [1, 2, 0, 3, 4, 5, 6] X dX6_put_94 rfl (Nat.le_of_ble_eq_true rfl) rfl rfl ?_
            refine V_iinc (pc' := 98) [(0, .ref (y 0)), (1, .long (lN w)), (3, .int (nI (((pt w i).1) + 1))), (4, .int (nI 1)), (5, .int (nI (i + 1))), (6, .int (nI (w / 2 ^ (8 * i) % 256))), (7, .int (nI 0))] 4 [1, 2, 3, 4, 0, 5, 6] X dX6_put_95 rfl (nI_i1 _) (Nat.le_of_ble_eq_true rfl) rfl rfl ?_
            refine V_goto (pc' := 8) X dX6_put_98 (by decide) ?_
            refine V_lv [0, 1, 2, 3, 4] [(0, .ref (y 0)), (1, .long (lN w)), (3, .int (nI (((pt w i).1) + 1))), (4, .int (nI 1)), (5, .int (nI (i + 1)))] rfl ?_
            rw [pt_next (a := ((pt w i).1) + 1) (b := 1) (by rw [if_neg (fun q => h43 q.2)]) (if_pos (Or.inl (by have := (pt_le w i).2; omega)))] at ih
            exact ih
          · refine V_iload (pc' := 60) 6 X dX6_put_58 rfl rfl ?_
            refine V_if_ne (pc' := 63) (C := 0 = 0) 79 X dX6_put_60 (by decide) rfl (z_eq0 (by omega)) (fun hz => absurd (by decide) hz) (fun _ => ?_)
            refine V_iload (pc' := 65) 5 X dX6_put_63 rfl rfl ?_
            refine V_bipush (pc' := 67) (nI 33) X dX6_put_65 kb_33 rfl ?_
            refine V_bipush (pc' := 69) (nI 126) X dX6_put_67 kb_126 rfl ?_
            refine V_callS (pc' := 72) (As := [.int (nI (w / 2 ^ (8 * i) % 256)), .int (nI 33), .int (nI 126)]) (st := []) [] [0, 1] (show (List.range 2).Perm ([] ++ [0, 1]) by decide) X (c_X6_in l G (w / 2 ^ (8 * i) % 256) 33 126 (Nat.lt_trans (Nat.mod_lt _ (by decide)) (by decide)) (by decide) (by decide)) rfl gX6_put_X6_in rfl rfl (Nat.le_of_ble_eq_true rfl) ⟨Nat.le_of_ble_eq_true rfl, Nat.le_of_ble_eq_true rfl⟩ ⟨Nat.le_of_ble_eq_true rfl, Nat.le_of_ble_eq_true rfl⟩ dX6_put_69 rfl (fun v_ u_ hp_ => ?_)
            obtain ⟨rfl, rfl⟩ := hp_
            show V E G A 8 [MO y t kn ln th, RW G (y 5) 60 f] 0 0 Q 72 [(0, .ref (y 0)), (1, .long (lN w)), (3, .int (nI ((pt w i).1))), (4, .int (nI ((pt w i).2))), (5, .int (nI i)), (6, .int (nI (w / 2 ^ (8 * i) % 256))), (7, .int (nI 0))] [.int (nI (if 33 ≤ (w / 2 ^ (8 * i) % 256) ∧ (w / 2 ^ (8 * i) % 256) ≤ 126 then 1 else 0))]
            refine V_if_ne (pc' := 75) (C := ¬ (33 ≤ (w / 2 ^ (8 * i) % 256) ∧ (w / 2 ^ (8 * i) % 256) ≤ 126)) 79 X dX6_put_72 (by decide) rfl z_ite0 (fun h72 => ?_) (fun h72 => ?_)
            · have h72 := Classical.not_not.mp h72
              refine V_iconst (pc' := 80) (nI 0) X dX6_put_79 ki_0 rfl ?_
              refine V_istore (pc' := 82) [(0, .ref (y 0)), (1, .long (lN w)), (3, .int (nI ((pt w i).1))), (4, .int (nI 0)), (5, .int (nI i)), (6, .int (nI (w / 2 ^ (8 * i) % 256))), (7, .int (nI 0))] [1, 2, 3, 0, 4, 5, 6] X dX6_put_80 (Nat.le_of_ble_eq_true rfl) rfl rfl ?_
              refine V_iload_n (pc' := 83) 2 X dX6_put_82 rfl rfl rfl ?_
              refine V_iload (pc' := 85) 6 X dX6_put_83 rfl rfl ?_
              refine V_if_eq (pc' := 88) (C := 0 = 0) 92 X dX6_put_85 (by decide) rfl (z_eq0 (by omega)) (fun _ => ?_) (fun hz => absurd (by decide) hz)
              refine V_iconst (pc' := 93) (nI 1) X dX6_put_92 ki_1 rfl ?_
              refine V_iadd (pc' := 94) (nI (((pt w i).1) + 1)) X dX6_put_93 (nI_add _ _) rfl ?_
              refine V_istore_n (pc' := 95) [(0, .ref (y 0)), (1, .long (lN w)), (3, .int (nI (((pt w i).1) + 1))), (4, .int (nI 0)), (5, .int (nI i)), (6, .int (nI (w / 2 ^ (8 * i) % 256))), (7, .int (nI 0))] [1, 2, 0, 3, 4, 5, 6] X dX6_put_94 rfl (Nat.le_of_ble_eq_true rfl) rfl rfl ?_
              refine V_iinc (pc' := 98) [(0, .ref (y 0)), (1, .long (lN w)), (3, .int (nI (((pt w i).1) + 1))), (4, .int (nI 0)), (5, .int (nI (i + 1))), (6, .int (nI (w / 2 ^ (8 * i) % 256))), (7, .int (nI 0))] 4 [1, 2, 3, 4, 0, 5, 6] X dX6_put_95 rfl (nI_i1 _) (Nat.le_of_ble_eq_true rfl) rfl rfl ?_
              refine V_goto (pc' := 8) X dX6_put_98 (by decide) ?_
              refine V_lv [0, 1, 2, 3, 4] [(0, .ref (y 0)), (1, .long (lN w)), (3, .int (nI (((pt w i).1) + 1))), (4, .int (nI 0)), (5, .int (nI (i + 1)))] rfl ?_
              rw [pt_next (a := ((pt w i).1) + 1) (b := 0) (by rw [if_neg (fun q => h43 q.2)]) (if_neg (fun q => q.elim (fun z => absurd z (by omega)) (fun z => z.2 h72)))] at ih
              exact ih
            · refine V_iconst (pc' := 76) (nI 1) X dX6_put_75 ki_1 rfl ?_
              refine V_goto (pc' := 80) X dX6_put_76 (by decide) ?_
              refine V_istore (pc' := 82) [(0, .ref (y 0)), (1, .long (lN w)), (3, .int (nI ((pt w i).1))), (4, .int (nI 1)), (5, .int (nI i)), (6, .int (nI (w / 2 ^ (8 * i) % 256))), (7, .int (nI 0))] [1, 2, 3, 0, 4, 5, 6] X dX6_put_80 (Nat.le_of_ble_eq_true rfl) rfl rfl ?_
              refine V_iload_n (pc' := 83) 2 X dX6_put_82 rfl rfl rfl ?_
              refine V_iload (pc' := 85) 6 X dX6_put_83 rfl rfl ?_
              refine V_if_eq (pc' := 88) (C := 0 = 0) 92 X dX6_put_85 (by decide) rfl (z_eq0 (by omega)) (fun _ => ?_) (fun hz => absurd (by decide) hz)
              refine V_iconst (pc' := 93) (nI 1) X dX6_put_92 ki_1 rfl ?_
              refine V_iadd (pc' := 94) (nI (((pt w i).1) + 1)) X dX6_put_93 (nI_add _ _) rfl ?_
              refine V_istore_n (pc' := 95) [(0, .ref (y 0)), (1, .long (lN w)), (3, .int (nI (((pt w i).1) + 1))), (4, .int (nI 1)), (5, .int (nI i)), (6, .int (nI (w / 2 ^ (8 * i) % 256))), (7, .int (nI 0))] [1, 2, 0, 3, 4, 5, 6] X dX6_put_94 rfl (Nat.le_of_ble_eq_true rfl) rfl rfl ?_
              refine V_iinc (pc' := 98) [(0, .ref (y 0)), (1, .long (lN w)), (3, .int (nI (((pt w i).1) + 1))), (4, .int (nI 1)), (5, .int (nI (i + 1))), (6, .int (nI (w / 2 ^ (8 * i) % 256))), (7, .int (nI 0))] 4 [1, 2, 3, 4, 0, 5, 6] X dX6_put_95 rfl (nI_i1 _) (Nat.le_of_ble_eq_true rfl) rfl rfl ?_
              refine V_goto (pc' := 8) X dX6_put_98 (by decide) ?_
              refine V_lv [0, 1, 2, 3, 4] [(0, .ref (y 0)), (1, .long (lN w)), (3, .int (nI (((pt w i).1) + 1))), (4, .int (nI 1)), (5, .int (nI (i + 1)))] rfl ?_
              rw [pt_next (a := ((pt w i).1) + 1) (b := 1) (by rw [if_neg (fun q => h43 q.2)]) (if_pos (Or.inr ⟨fun q => h43 q.2, h72⟩))] at ih
              exact ih
        · have h43 := (z_lc0 (div_lt64 hu _)).mp h43
          refine V_iconst (pc' := 47) (nI 1) X dX6_put_46 ki_1 rfl ?_
          refine V_goto (pc' := 51) X dX6_put_47 (by decide) ?_
          refine V_istore (pc' := 53) [(0, .ref (y 0)), (1, .long (lN w)), (3, .int (nI ((pt w i).1))), (4, .int (nI ((pt w i).2))), (5, .int (nI i)), (6, .int (nI (w / 2 ^ (8 * i) % 256))), (7, .int (nI 1))] [1, 2, 3, 4, 5, 6, 0] X dX6_put_51 (Nat.le_of_ble_eq_true rfl) rfl rfl ?_
          refine V_iload (pc' := 55) 3 X dX6_put_53 rfl rfl ?_
          refine V_if_ne (pc' := 58) (C := ((pt w i).2) = 0) 75 X dX6_put_55 (by decide) rfl (z_eq0 (by have := (pt_le w i).2; omega)) (fun h55 => ?_) (fun h55 => ?_)
          · refine V_iconst (pc' := 76) (nI 1) X dX6_put_75 ki_1 rfl ?_
            refine V_goto (pc' := 80) X dX6_put_76 (by decide) ?_
            refine V_istore (pc' := 82) [(0, .ref (y 0)), (1, .long (lN w)), (3, .int (nI ((pt w i).1))), (4, .int (nI 1)), (5, .int (nI i)), (6, .int (nI (w / 2 ^ (8 * i) % 256))), (7, .int (nI 1))] [1, 2, 3, 0, 4, 5, 6] X dX6_put_80 (Nat.le_of_ble_eq_true rfl) rfl rfl ?_
            refine V_iload_n (pc' := 83) 2 X dX6_put_82 rfl rfl rfl ?_
            refine V_iload (pc' := 85) 6 X dX6_put_83 rfl rfl ?_
            refine V_if_eq (pc' := 88) (C := 1 = 0) 92 X dX6_put_85 (by decide) rfl (z_eq0 (by omega)) (fun hz => absurd hz (by decide)) (fun _ => ?_)
            refine V_iconst (pc' := 89) (nI 0) X dX6_put_88 ki_0 rfl ?_
            refine V_goto (pc' := 93) X dX6_put_89 (by decide) ?_
            refine V_iadd (pc' := 94) (nI (((pt w i).1) + 0)) X dX6_put_93 (nI_add _ _) rfl ?_
            refine V_istore_n (pc' := 95) [(0, .ref (y 0)), (1, .long (lN w)), (3, .int (nI (((pt w i).1) + 0))), (4, .int (nI 1)), (5, .int (nI i)), (6, .int (nI (w / 2 ^ (8 * i) % 256))), (7, .int (nI 1))] [1, 2, 0, 3, 4, 5, 6] X dX6_put_94 rfl (Nat.le_of_ble_eq_true rfl) rfl rfl ?_
            refine V_iinc (pc' := 98) [(0, .ref (y 0)), (1, .long (lN w)), (3, .int (nI (((pt w i).1) + 0))), (4, .int (nI 1)), (5, .int (nI (i + 1))), (6, .int (nI (w / 2 ^ (8 * i) % 256))), (7, .int (nI 1))] 4 [1, 2, 3, 4, 0, 5, 6] X dX6_put_95 rfl (nI_i1 _) (Nat.le_of_ble_eq_true rfl) rfl rfl ?_
            refine V_goto (pc' := 8) X dX6_put_98 (by decide) ?_
            refine V_lv [0, 1, 2, 3, 4] [(0, .ref (y 0)), (1, .long (lN w)), (3, .int (nI (((pt w i).1) + 0))), (4, .int (nI 1)), (5, .int (nI (i + 1)))] rfl ?_
            rw [pt_next (a := ((pt w i).1) + 0) (b := 1) (by rw [if_pos ⟨by omega, h43⟩]) (if_pos (Or.inl (by have := (pt_le w i).2; omega)))] at ih
            exact ih
          · refine V_iload (pc' := 60) 6 X dX6_put_58 rfl rfl ?_
            refine V_if_ne (pc' := 63) (C := 1 = 0) 79 X dX6_put_60 (by decide) rfl (z_eq0 (by omega)) (fun _ => ?_) (fun hz => absurd hz (by decide))
            refine V_iconst (pc' := 80) (nI 0) X dX6_put_79 ki_0 rfl ?_
            refine V_istore (pc' := 82) [(0, .ref (y 0)), (1, .long (lN w)), (3, .int (nI ((pt w i).1))), (4, .int (nI 0)), (5, .int (nI i)), (6, .int (nI (w / 2 ^ (8 * i) % 256))), (7, .int (nI 1))] [1, 2, 3, 0, 4, 5, 6] X dX6_put_80 (Nat.le_of_ble_eq_true rfl) rfl rfl ?_
            refine V_iload_n (pc' := 83) 2 X dX6_put_82 rfl rfl rfl ?_
            refine V_iload (pc' := 85) 6 X dX6_put_83 rfl rfl ?_
            refine V_if_eq (pc' := 88) (C := 1 = 0) 92 X dX6_put_85 (by decide) rfl (z_eq0 (by omega)) (fun hz => absurd hz (by decide)) (fun _ => ?_)
            refine V_iconst (pc' := 89) (nI 0) X dX6_put_88 ki_0 rfl ?_
            refine V_goto (pc' := 93) X dX6_put_89 (by decide) ?_
            refine V_iadd (pc' := 94) (nI (((pt w i).1) + 0)) X dX6_put_93 (nI_add _ _) rfl ?_
            refine V_istore_n (pc' := 95) [(0, .ref (y 0)), (1, .long (lN w)), (3, .int (nI (((pt w i).1) + 0))), (4, .int (nI 0)), (5, .int (nI i)), (6, .int (nI (w / 2 ^ (8 * i) % 256))), (7, .int (nI 1))] [1, 2, 0, 3, 4, 5, 6] X dX6_put_94 rfl (Nat.le_of_ble_eq_true rfl) rfl rfl ?_
            refine V_iinc (pc' := 98) [(0, .ref (y 0)), (1, .long (lN w)), (3, .int (nI (((pt w i).1) + 0))), (4, .int (nI 0)), (5, .int (nI (i + 1))), (6, .int (nI (w / 2 ^ (8 * i) % 256))), (7, .int (nI 1))] 4 [1, 2, 3, 4, 0, 5, 6] X dX6_put_95 rfl (nI_i1 _) (Nat.le_of_ble_eq_true rfl) rfl rfl ?_
            refine V_goto (pc' := 8) X dX6_put_98 (by decide) ?_
            refine V_lv [0, 1, 2, 3, 4] [(0, .ref (y 0)), (1, .long (lN w)), (3, .int (nI (((pt w i).1) + 0))), (4, .int (nI 0)), (5, .int (nI (i + 1)))] rfl ?_
            rw [pt_next (a := ((pt w i).1) + 0) (b := 0) (by rw [if_pos ⟨by omega, h43⟩]) (if_neg (fun q => q.elim (fun z => absurd z (by omega)) (fun z => z.1 ⟨by omega, h43⟩)))] at ih
            exact ih
  exact lp_1 0 (Nat.zero_le _)

set_option maxHeartbeats 4000000 in
set_option maxRecDepth 100000 in
theorem c_X6_put_b2 (l : Launch) (G : gT) (y : Nat → Nat) (t kn ln th : Nat) (f : Nat → Nat) (hn : ln ≤ 60) (w : Nat) (hu : w < 2 ^ 64) (hc : ¬ cin w = 0) (hr : ¬ ln + cin w ≤ 60) : CM l G yX6_put wsX6_put 2 49 1 [.ref (y 0), .long (lN w)] [MO y t kn ln th, RW G (y 5) 60 f] 0 0 (fun v u => v = some (.int (nI 0)) ∧ u = [MO y 2 kn ln th, RW G (y 5) 60 f]) := by
  refine CM_of RX6 1 22 rfl rfl (by decide) (by decide +kernel) (Nat.le_of_ble_eq_true rfl) (fun E A X hrt hnm => ?_)
  have F105 := Fld_of (idx := 105) 6 7 X (by decide) (by decide) (by decide +kernel) (by decide +kernel)
  generalize hQ : QM E G A _ _ _ = Q
  have hcl := cin_le w
  show V E G A 8 [MO y t kn ln th, RW G (y 5) 60 f] 0 0 Q 0 [(0, .ref (y 0)), (1, .long (lN w))] []
  refine V_iconst (pc' := 1) (nI 0) X dX6_put_0 ki_0 rfl ?_
  refine V_istore_n (pc' := 2) [(0, .ref (y 0)), (1, .long (lN w)), (3, .int (nI 0))] [1, 2, 0] X dX6_put_1 rfl (Nat.le_of_ble_eq_true rfl) rfl rfl ?_
  refine V_iconst (pc' := 3) (nI 0) X dX6_put_2 ki_0 rfl ?_
  refine V_istore (pc' := 5) [(0, .ref (y 0)), (1, .long (lN w)), (3, .int (nI 0)), (4, .int (nI 0))] [1, 2, 3, 0] X dX6_put_3 (Nat.le_of_ble_eq_true rfl) rfl rfl ?_
  refine V_iconst (pc' := 6) (nI 0) X dX6_put_5 ki_0 rfl ?_
  refine V_istore (pc' := 8) [(0, .ref (y 0)), (1, .long (lN w)), (3, .int (nI 0)), (4, .int (nI 0)), (5, .int (nI 0))] [1, 2, 3, 4, 0] X dX6_put_6 (Nat.le_of_ble_eq_true rfl) rfl rfl ?_
  have lp_1 : ∀ i, i ≤ 8 → V E G A 8 [MO y t kn ln th, RW G (y 5) 60 f] 0 0 Q 8 [(0, .ref (y 0)), (1, .long (lN w)), (3, .int (nI ((pt w i).1))), (4, .int (nI ((pt w i).2))), (5, .int (nI i))] [] := by
    refine loopD 8 ?_ ?_
    · show V E G A 8 [MO y t kn ln th, RW G (y 5) 60 f] 0 0 Q 8 [(0, .ref (y 0)), (1, .long (lN w)), (3, .int (nI ((pt w 8).1))), (4, .int (nI ((pt w 8).2))), (5, .int (nI 8))] []
      rw [(pt_cin w).2 hc]
      show V E G A 8 [MO y t kn ln th, RW G (y 5) 60 f] 0 0 Q 8 [(0, .ref (y 0)), (1, .long (lN w)), (3, .int (nI (cin w))), (4, .int (nI 0)), (5, .int (nI 8))] []
      refine V_iload (pc' := 10) 4 X dX6_put_8 rfl rfl ?_
      refine V_bipush (pc' := 12) (nI 8) X dX6_put_10 kb_8 rfl ?_
      refine V_icmp_ge (pc' := 15) (C := 8 ≤ 8) 101 X dX6_put_12 (by decide) rfl (nI_leI (by omega) (by omega)) (fun _ => ?_) (fun hz => absurd (by omega) hz)
      refine V_aload_n (pc' := 102) 0 X dX6_put_101 rfl rfl rfl ?_
      refine V_iload (pc' := 104) 3 X dX6_put_102 rfl rfl ?_
      refine V_if_eq (pc' := 107) (C := 0 = 0) 111 X dX6_put_104 (by decide) rfl (z_eq0 (by omega)) (fun _ => ?_) (fun hz => absurd (by decide) hz)
      refine V_aload_n (pc' := 112) 0 X dX6_put_111 rfl rfl rfl ?_
      refine V_get (pc' := 115) 0 X F105 rfl rfl dX6_put_112 rfl ?_
      refine V_iload_n (pc' := 116) 2 X dX6_put_115 rfl rfl rfl ?_
      refine V_iadd (pc' := 117) (nI (ln + (cin w))) X dX6_put_116 (nI_add _ _) rfl ?_
      refine V_bipush (pc' := 119) (nI 60) X dX6_put_117 kb_60 rfl ?_
      refine V_icmp_le (pc' := 122) (C := (ln + (cin w)) ≤ 60) 126 X dX6_put_119 (by decide) rfl (nI_leI (by omega) (by omega)) (fun hz => absurd hz (by omega)) (fun _ => ?_)
      refine V_iconst (pc' := 123) (nI 2) X dX6_put_122 ki_2 rfl ?_
      refine V_goto (pc' := 127) X dX6_put_123 (by decide) ?_
      refine V_callV (pc' := 130) (As := [.int (nI 2)]) (st := []) 6 0 [0] [1] (show (List.range 2).Perm ([0] ++ [1]) by decide) X (c_X6_holds2 l G y t kn ln th) rfl gX6_put_X6_holds rfl (by decide) rfl rfl rfl (Nat.le_of_ble_eq_true rfl) ⟨Nat.le_of_ble_eq_true rfl, Nat.le_of_ble_eq_true rfl⟩ ⟨Nat.le_of_ble_eq_true rfl, Nat.le_of_ble_eq_true rfl⟩ dX6_put_127 rfl (fun v_ u_ hp_ => ?_)
      obtain ⟨rfl, rfl⟩ := hp_
      show V E G A 8 [RW G (y 5) 60 f, MO y 2 kn ln th] 0 0 Q 130 [(0, .ref (y 0)), (1, .long (lN w)), (3, .int (nI (cin w))), (4, .int (nI 0)), (5, .int (nI 8))] [.int (nI 0)]
      refine V_ord [1, 0] [MO y 2 kn ln th, RW G (y 5) 60 f] (show (List.range 2).Perm [1, 0] by decide) rfl ?_
      refine V_if_ne (pc' := 133) (C := 0 = 0) 135 X dX6_put_130 (by decide) rfl (z_eq0 (by omega)) (fun hz => absurd (by decide) hz) (fun _ => ?_)
      refine V_iconst (pc' := 134) (nI 0) X dX6_put_133 ki_0 rfl ?_
      exact V_ireturn (v := nI 0) [MO y 2 kn ln th, RW G (y 5) 60 f] hQ X hrt rfl dX6_put_134 (Nat.le_of_ble_eq_true rfl) (Nat.le_of_ble_eq_true rfl) (List.Perm.refl _) ⟨rfl, rfl⟩
    · intro i hi_i ih
      show V E G A 8 [MO y t kn ln th, RW G (y 5) 60 f] 0 0 Q 8 [(0, .ref (y 0)), (1, .long (lN w)), (3, .int (nI ((pt w i).1))), (4, .int (nI ((pt w i).2))), (5, .int (nI i))] []
      refine V_iload (pc' := 10) 4 X dX6_put_8 rfl rfl ?_
      refine V_bipush (pc' := 12) (nI 8) X dX6_put_10 kb_8 rfl ?_
      refine V_icmp_ge (pc' := 15) (C := 8 ≤ i) 101 X dX6_put_12 (by decide) rfl (nI_leI (by omega) (by omega)) (fun hz => absurd hz (by omega)) (fun _ => ?_)
      refine V_lload_n (pc' := 16) 1 X dX6_put_15 rfl rfl rfl ?_
      refine V_bipush (pc' := 18) (nI 8) X dX6_put_16 kb_8 rfl ?_
      refine V_iload (pc' := 20) 4 X dX6_put_18 rfl rfl ?_
      refine V_imul (pc' := 21) (nI (8 * i)) X dX6_put_20 (pk_mul _ _) rfl ?_
      refine V_lushr (pc' := 22) (lN (w / 2 ^ (8 * i))) X dX6_put_21 (wb_shr hu (by omega)) rfl ?_
      refine V_ldc2 (pc' := 25) (v := 255) (lN 255) X (by decide +kernel) (by decide +kernel) dX6_put_22 rfl ?_
      refine V_land (pc' := 26) (lN (w / 2 ^ (8 * i) % 256)) X dX6_put_25 (wb_mask (k := 8) (div_lt64 hu _) (by decide)) rfl ?_
      refine V_l2i (pc' := 27) (nI (w / 2 ^ (8 * i) % 256)) X dX6_put_26 (lN_i _) rfl ?_
      refine V_istore (pc' := 29) [(0, .ref (y 0)), (1, .long (lN w)), (3, .int (nI ((pt w i).1))), (4, .int (nI ((pt w i).2))), (5, .int (nI i)), (6, .int (nI (w / 2 ^ (8 * i) % 256)))] [1, 2, 3, 4, 5, 0] X dX6_put_27 (Nat.le_of_ble_eq_true rfl) rfl rfl ?_
      refine V_iload (pc' := 31) 4 X dX6_put_29 rfl rfl ?_
      refine V_if_le (pc' := 34) (C := i = 0) 50 X dX6_put_31 (by decide) rfl (z_le0 (by omega)) (fun h31 => ?_) (fun h31 => ?_)
      · refine V_iconst (pc' := 51) (nI 0) X dX6_put_50 ki_0 rfl ?_
        refine V_istore (pc' := 53) [(0, .ref (y 0)), (1, .long (lN w)), (3, .int (nI ((pt w i).1))), (4, .int (nI ((pt w i).2))), (5, .int (nI i)), (6, .int (nI (w / 2 ^ (8 * i) % 256))), (7, .int (nI 0))] [1, 2, 3, 4, 5, 6, 0] X dX6_put_51 (Nat.le_of_ble_eq_true rfl) rfl rfl ?_
        refine V_iload (pc' := 55) 3 X dX6_put_53 rfl rfl ?_
        refine V_if_ne (pc' := 58) (C := ((pt w i).2) = 0) 75 X dX6_put_55 (by decide) rfl (z_eq0 (by have := (pt_le w i).2; omega)) (fun h55 => ?_) (fun h55 => ?_)
        · refine V_iconst (pc' := 76) (nI 1) X dX6_put_75 ki_1 rfl ?_
          refine V_goto (pc' := 80) X dX6_put_76 (by decide) ?_
          refine V_istore (pc' := 82) [(0, .ref (y 0)), (1, .long (lN w)), (3, .int (nI ((pt w i).1))), (4, .int (nI 1)), (5, .int (nI i)), (6, .int (nI (w / 2 ^ (8 * i) % 256))), (7, .int (nI 0))] [1, 2, 3, 0, 4, 5, 6] X dX6_put_80 (Nat.le_of_ble_eq_true rfl) rfl rfl ?_
          refine V_iload_n (pc' := 83) 2 X dX6_put_82 rfl rfl rfl ?_
          refine V_iload (pc' := 85) 6 X dX6_put_83 rfl rfl ?_
          refine V_if_eq (pc' := 88) (C := 0 = 0) 92 X dX6_put_85 (by decide) rfl (z_eq0 (by omega)) (fun _ => ?_) (fun hz => absurd (by decide) hz)
          refine V_iconst (pc' := 93) (nI 1) X dX6_put_92 ki_1 rfl ?_
          refine V_iadd (pc' := 94) (nI (((pt w i).1) + 1)) X dX6_put_93 (nI_add _ _) rfl ?_
          refine V_istore_n (pc' := 95) [(0, .ref (y 0)), (1, .long (lN w)), (3, .int (nI (((pt w i).1) + 1))), (4, .int (nI 1)), (5, .int (nI i)), (6, .int (nI (w / 2 ^ (8 * i) % 256))), (7, .int (nI 0))] [1, 2, 0, 3, 4, 5, 6] X dX6_put_94 rfl (Nat.le_of_ble_eq_true rfl) rfl rfl ?_
          refine V_iinc (pc' := 98) [(0, .ref (y 0)), (1, .long (lN w)), (3, .int (nI (((pt w i).1) + 1))), (4, .int (nI 1)), (5, .int (nI (i + 1))), (6, .int (nI (w / 2 ^ (8 * i) % 256))), (7, .int (nI 0))] 4 [1, 2, 3, 4, 0, 5, 6] X dX6_put_95 rfl (nI_i1 _) (Nat.le_of_ble_eq_true rfl) rfl rfl ?_
          refine V_goto (pc' := 8) X dX6_put_98 (by decide) ?_
          refine V_lv [0, 1, 2, 3, 4] [(0, .ref (y 0)), (1, .long (lN w)), (3, .int (nI (((pt w i).1) + 1))), (4, .int (nI 1)), (5, .int (nI (i + 1)))] rfl ?_
          rw [pt_next (a := ((pt w i).1) + 1) (b := 1) (by rw [if_neg (fun q => absurd q.1 (by omega))]) (if_pos (Or.inl (by have := (pt_le w i).2; omega)))] at ih
          exact ih
        · refine V_iload (pc' := 60) 6 X dX6_put_58 rfl rfl ?_
          refine V_if_ne (pc' := 63) (C := 0 = 0) 79 X dX6_put_60 (by decide) rfl (z_eq0 (by omega)) (fun hz => absurd (by decide) hz) (fun _ => ?_)
          refine V_iload (pc' := 65) 5 X dX6_put_63 rfl rfl ?_
          refine V_bipush (pc' := 67) (nI 33) X dX6_put_65 kb_33 rfl ?_
          refine V_bipush (pc' := 69) (nI 126) X dX6_put_67 kb_126 rfl ?_
          refine V_callS (pc' := 72) (As := [.int (nI (w / 2 ^ (8 * i) % 256)), .int (nI 33), .int (nI 126)]) (st := []) [] [0, 1] (show (List.range 2).Perm ([] ++ [0, 1]) by decide) X (c_X6_in l G (w / 2 ^ (8 * i) % 256) 33 126 (Nat.lt_trans (Nat.mod_lt _ (by decide)) (by decide)) (by decide) (by decide)) rfl gX6_put_X6_in rfl rfl (Nat.le_of_ble_eq_true rfl) ⟨Nat.le_of_ble_eq_true rfl, Nat.le_of_ble_eq_true rfl⟩ ⟨Nat.le_of_ble_eq_true rfl, Nat.le_of_ble_eq_true rfl⟩ dX6_put_69 rfl (fun v_ u_ hp_ => ?_)
          obtain ⟨rfl, rfl⟩ := hp_
          show V E G A 8 [MO y t kn ln th, RW G (y 5) 60 f] 0 0 Q 72 [(0, .ref (y 0)), (1, .long (lN w)), (3, .int (nI ((pt w i).1))), (4, .int (nI ((pt w i).2))), (5, .int (nI i)), (6, .int (nI (w / 2 ^ (8 * i) % 256))), (7, .int (nI 0))] [.int (nI (if 33 ≤ (w / 2 ^ (8 * i) % 256) ∧ (w / 2 ^ (8 * i) % 256) ≤ 126 then 1 else 0))]
          refine V_if_ne (pc' := 75) (C := ¬ (33 ≤ (w / 2 ^ (8 * i) % 256) ∧ (w / 2 ^ (8 * i) % 256) ≤ 126)) 79 X dX6_put_72 (by decide) rfl z_ite0 (fun h72 => ?_) (fun h72 => ?_)
          · have h72 := Classical.not_not.mp h72
            refine V_iconst (pc' := 80) (nI 0) X dX6_put_79 ki_0 rfl ?_
            refine V_istore (pc' := 82) [(0, .ref (y 0)), (1, .long (lN w)), (3, .int (nI ((pt w i).1))), (4, .int (nI 0)), (5, .int (nI i)), (6, .int (nI (w / 2 ^ (8 * i) % 256))), (7, .int (nI 0))] [1, 2, 3, 0, 4, 5, 6] X dX6_put_80 (Nat.le_of_ble_eq_true rfl) rfl rfl ?_
            refine V_iload_n (pc' := 83) 2 X dX6_put_82 rfl rfl rfl ?_
            refine V_iload (pc' := 85) 6 X dX6_put_83 rfl rfl ?_
            refine V_if_eq (pc' := 88) (C := 0 = 0) 92 X dX6_put_85 (by decide) rfl (z_eq0 (by omega)) (fun _ => ?_) (fun hz => absurd (by decide) hz)
            refine V_iconst (pc' := 93) (nI 1) X dX6_put_92 ki_1 rfl ?_
            refine V_iadd (pc' := 94) (nI (((pt w i).1) + 1)) X dX6_put_93 (nI_add _ _) rfl ?_
            refine V_istore_n (pc' := 95) [(0, .ref (y 0)), (1, .long (lN w)), (3, .int (nI (((pt w i).1) + 1))), (4, .int (nI 0)), (5, .int (nI i)), (6, .int (nI (w / 2 ^ (8 * i) % 256))), (7, .int (nI 0))] [1, 2, 0, 3, 4, 5, 6] X dX6_put_94 rfl (Nat.le_of_ble_eq_true rfl) rfl rfl ?_
            refine V_iinc (pc' := 98) [(0, .ref (y 0)), (1, .long (lN w)), (3, .int (nI (((pt w i).1) + 1))), (4, .int (nI 0)), (5, .int (nI (i + 1))), (6, .int (nI (w / 2 ^ (8 * i) % 256))), (7, .int (nI 0))] 4 [1, 2, 3, 4, 0, 5, 6] X dX6_put_95 rfl (nI_i1 _) (Nat.le_of_ble_eq_true rfl) rfl rfl ?_
            refine V_goto (pc' := 8) X dX6_put_98 (by decide) ?_
            refine V_lv [0, 1, 2, 3, 4] [(0, .ref (y 0)), (1, .long (lN w)), (3, .int (nI (((pt w i).1) + 1))), (4, .int (nI 0)), (5, .int (nI (i + 1)))] rfl ?_
            rw [pt_next (a := ((pt w i).1) + 1) (b := 0) (by rw [if_neg (fun q => absurd q.1 (by omega))]) (if_neg (fun q => q.elim (fun z => absurd z (by omega)) (fun z => z.2 h72)))] at ih
            exact ih
          · refine V_iconst (pc' := 76) (nI 1) X dX6_put_75 ki_1 rfl ?_
            refine V_goto (pc' := 80) X dX6_put_76 (by decide) ?_
            refine V_istore (pc' := 82) [(0, .ref (y 0)), (1, .long (lN w)), (3, .int (nI ((pt w i).1))), (4, .int (nI 1)), (5, .int (nI i)), (6, .int (nI (w / 2 ^ (8 * i) % 256))), (7, .int (nI 0))] [1, 2, 3, 0, 4, 5, 6] X dX6_put_80 (Nat.le_of_ble_eq_true rfl) rfl rfl ?_
            refine V_iload_n (pc' := 83) 2 X dX6_put_82 rfl rfl rfl ?_
            refine V_iload (pc' := 85) 6 X dX6_put_83 rfl rfl ?_
            refine V_if_eq (pc' := 88) (C := 0 = 0) 92 X dX6_put_85 (by decide) rfl (z_eq0 (by omega)) (fun _ => ?_) (fun hz => absurd (by decide) hz)
            refine V_iconst (pc' := 93) (nI 1) X dX6_put_92 ki_1 rfl ?_
            refine V_iadd (pc' := 94) (nI (((pt w i).1) + 1)) X dX6_put_93 (nI_add _ _) rfl ?_
            refine V_istore_n (pc' := 95) [(0, .ref (y 0)), (1, .long (lN w)), (3, .int (nI (((pt w i).1) + 1))), (4, .int (nI 1)), (5, .int (nI i)), (6, .int (nI (w / 2 ^ (8 * i) % 256))), (7, .int (nI 0))] [1, 2, 0, 3, 4, 5, 6] X dX6_put_94 rfl (Nat.le_of_ble_eq_true rfl) rfl rfl ?_
            refine V_iinc (pc' := 98) [(0, .ref (y 0)), (1, .long (lN w)), (3, .int (nI (((pt w i).1) + 1))), (4, .int (nI 1)), (5, .int (nI (i + 1))), (6, .int (nI (w / 2 ^ (8 * i) % 256))), (7, .int (nI 0))] 4 [1, 2, 3, 4, 0, 5, 6] X dX6_put_95 rfl (nI_i1 _) (Nat.le_of_ble_eq_true rfl) rfl rfl ?_
            refine V_goto (pc' := 8) X dX6_put_98 (by decide) ?_
            refine V_lv [0, 1, 2, 3, 4] [(0, .ref (y 0)), (1, .long (lN w)), (3, .int (nI (((pt w i).1) + 1))), (4, .int (nI 1)), (5, .int (nI (i + 1)))] rfl ?_
            rw [pt_next (a := ((pt w i).1) + 1) (b := 1) (by rw [if_neg (fun q => absurd q.1 (by omega))]) (if_pos (Or.inr ⟨fun q => absurd q.1 (by omega), h72⟩))] at ih
            exact ih
      · refine V_lload_n (pc' := 35) 1 X dX6_put_34 rfl rfl rfl ?_
        refine V_bipush (pc' := 37) (nI 8) X dX6_put_35 kb_8 rfl ?_
        refine V_iload (pc' := 39) 4 X dX6_put_37 rfl rfl ?_
        refine V_imul (pc' := 40) (nI (8 * i)) X dX6_put_39 (pk_mul _ _) rfl ?_
        refine V_lushr (pc' := 41) (lN (w / 2 ^ (8 * i))) X dX6_put_40 (wb_shr hu (by omega)) rfl ?_
        refine V_lconst (pc' := 42) (lN 0) X dX6_put_41 (by decide +kernel) rfl ?_
        refine V_lcmp (pc' := 43) (lg_cmp (lN (w / 2 ^ (8 * i))) (lN 0)) X dX6_put_42 rfl rfl ?_
        refine V_if_ne (pc' := 46) (C := (lg_cmp (lN (w / 2 ^ (8 * i))) (lN 0)) = 0) 50 X dX6_put_43 (by decide) rfl Iff.rfl (fun h43 => ?_) (fun h43 => ?_)
        · have h43 : ¬ w / 2 ^ (8 * i) = 0 := fun q => h43 ((z_lc0 (div_lt64 hu _)).mpr q)
          refine V_iconst (pc' := 51) (nI 0) X dX6_put_50 ki_0 rfl ?_
          refine V_istore (pc' := 53) [(0, .ref (y 0)), (1, .long (lN w)), (3, .int (nI ((pt w i).1))), (4, .int (nI ((pt w i).2))), (5, .int (nI i)), (6, .int (nI (w / 2 ^ (8 * i) % 256))), (7, .int (nI 0))] [1, 2, 3, 4, 5, 6, 0] X dX6_put_51 (Nat.le_of_ble_eq_true rfl) rfl rfl ?_
          refine V_iload (pc' := 55) 3 X dX6_put_53 rfl rfl ?_
          refine V_if_ne (pc' := 58) (C := ((pt w i).2) = 0) 75 X dX6_put_55 (by decide) rfl (z_eq0 (by have := (pt_le w i).2; omega)) (fun h55 => ?_) (fun h55 => ?_)
          · refine V_iconst (pc' := 76) (nI 1) X dX6_put_75 ki_1 rfl ?_
            refine V_goto (pc' := 80) X dX6_put_76 (by decide) ?_
            refine V_istore (pc' := 82) [(0, .ref (y 0)), (1, .long (lN w)), (3, .int (nI ((pt w i).1))), (4, .int (nI 1)), (5, .int (nI i)), (6, .int (nI (w / 2 ^ (8 * i) % 256))), (7, .int (nI 0))] [1, 2, 3, 0, 4, 5, 6] X dX6_put_80 (Nat.le_of_ble_eq_true rfl) rfl rfl ?_
            refine V_iload_n (pc' := 83) 2 X dX6_put_82 rfl rfl rfl ?_
            refine V_iload (pc' := 85) 6 X dX6_put_83 rfl rfl ?_
            refine V_if_eq (pc' := 88) (C := 0 = 0) 92 X dX6_put_85 (by decide) rfl (z_eq0 (by omega)) (fun _ => ?_) (fun hz => absurd (by decide) hz)
            refine V_iconst (pc' := 93) (nI 1) X dX6_put_92 ki_1 rfl ?_
            refine V_iadd (pc' := 94) (nI (((pt w i).1) + 1)) X dX6_put_93 (nI_add _ _) rfl ?_
            refine V_istore_n (pc' := 95) [(0, .ref (y 0)), (1, .long (lN w)), (3, .int (nI (((pt w i).1) + 1))), (4, .int (nI 1)), (5, .int (nI i)), (6, .int (nI (w / 2 ^ (8 * i) % 256))), (7, .int (nI 0))] [1, 2, 0, 3, 4, 5, 6] X dX6_put_94 rfl (Nat.le_of_ble_eq_true rfl) rfl rfl ?_
            refine V_iinc (pc' := 98) [(0, .ref (y 0)), (1, .long (lN w)), (3, .int (nI (((pt w i).1) + 1))), (4, .int (nI 1)), (5, .int (nI (i + 1))), (6, .int (nI (w / 2 ^ (8 * i) % 256))), (7, .int (nI 0))] 4 [1, 2, 3, 4, 0, 5, 6] X dX6_put_95 rfl (nI_i1 _) (Nat.le_of_ble_eq_true rfl) rfl rfl ?_
            refine V_goto (pc' := 8) X dX6_put_98 (by decide) ?_
            refine V_lv [0, 1, 2, 3, 4] [(0, .ref (y 0)), (1, .long (lN w)), (3, .int (nI (((pt w i).1) + 1))), (4, .int (nI 1)), (5, .int (nI (i + 1)))] rfl ?_
            rw [pt_next (a := ((pt w i).1) + 1) (b := 1) (by rw [if_neg (fun q => h43 q.2)]) (if_pos (Or.inl (by have := (pt_le w i).2; omega)))] at ih
            exact ih
          · refine V_iload (pc' := 60) 6 X dX6_put_58 rfl rfl ?_
            refine V_if_ne (pc' := 63) (C := 0 = 0) 79 X dX6_put_60 (by decide) rfl (z_eq0 (by omega)) (fun hz => absurd (by decide) hz) (fun _ => ?_)
            refine V_iload (pc' := 65) 5 X dX6_put_63 rfl rfl ?_
            refine V_bipush (pc' := 67) (nI 33) X dX6_put_65 kb_33 rfl ?_
            refine V_bipush (pc' := 69) (nI 126) X dX6_put_67 kb_126 rfl ?_
            refine V_callS (pc' := 72) (As := [.int (nI (w / 2 ^ (8 * i) % 256)), .int (nI 33), .int (nI 126)]) (st := []) [] [0, 1] (show (List.range 2).Perm ([] ++ [0, 1]) by decide) X (c_X6_in l G (w / 2 ^ (8 * i) % 256) 33 126 (Nat.lt_trans (Nat.mod_lt _ (by decide)) (by decide)) (by decide) (by decide)) rfl gX6_put_X6_in rfl rfl (Nat.le_of_ble_eq_true rfl) ⟨Nat.le_of_ble_eq_true rfl, Nat.le_of_ble_eq_true rfl⟩ ⟨Nat.le_of_ble_eq_true rfl, Nat.le_of_ble_eq_true rfl⟩ dX6_put_69 rfl (fun v_ u_ hp_ => ?_)
            obtain ⟨rfl, rfl⟩ := hp_
            show V E G A 8 [MO y t kn ln th, RW G (y 5) 60 f] 0 0 Q 72 [(0, .ref (y 0)), (1, .long (lN w)), (3, .int (nI ((pt w i).1))), (4, .int (nI ((pt w i).2))), (5, .int (nI i)), (6, .int (nI (w / 2 ^ (8 * i) % 256))), (7, .int (nI 0))] [.int (nI (if 33 ≤ (w / 2 ^ (8 * i) % 256) ∧ (w / 2 ^ (8 * i) % 256) ≤ 126 then 1 else 0))]
            refine V_if_ne (pc' := 75) (C := ¬ (33 ≤ (w / 2 ^ (8 * i) % 256) ∧ (w / 2 ^ (8 * i) % 256) ≤ 126)) 79 X dX6_put_72 (by decide) rfl z_ite0 (fun h72 => ?_) (fun h72 => ?_)
            · have h72 := Classical.not_not.mp h72
              refine V_iconst (pc' := 80) (nI 0) X dX6_put_79 ki_0 rfl ?_
              refine V_istore (pc' := 82) [(0, .ref (y 0)), (1, .long (lN w)), (3, .int (nI ((pt w i).1))), (4, .int (nI 0)), (5, .int (nI i)), (6, .int (nI (w / 2 ^ (8 * i) % 256))), (7, .int (nI 0))] [1, 2, 3, 0, 4, 5, 6] X dX6_put_80 (Nat.le_of_ble_eq_true rfl) rfl rfl ?_
              refine V_iload_n (pc' := 83) 2 X dX6_put_82 rfl rfl rfl ?_
              refine V_iload (pc' := 85) 6 X dX6_put_83 rfl rfl ?_
              refine V_if_eq (pc' := 88) (C := 0 = 0) 92 X dX6_put_85 (by decide) rfl (z_eq0 (by omega)) (fun _ => ?_) (fun hz => absurd (by decide) hz)
              refine V_iconst (pc' := 93) (nI 1) X dX6_put_92 ki_1 rfl ?_
              refine V_iadd (pc' := 94) (nI (((pt w i).1) + 1)) X dX6_put_93 (nI_add _ _) rfl ?_
              refine V_istore_n (pc' := 95) [(0, .ref (y 0)), (1, .long (lN w)), (3, .int (nI (((pt w i).1) + 1))), (4, .int (nI 0)), (5, .int (nI i)), (6, .int (nI (w / 2 ^ (8 * i) % 256))), (7, .int (nI 0))] [1, 2, 0, 3, 4, 5, 6] X dX6_put_94 rfl (Nat.le_of_ble_eq_true rfl) rfl rfl ?_
              refine V_iinc (pc' := 98) [(0, .ref (y 0)), (1, .long (lN w)), (3, .int (nI (((pt w i).1) + 1))), (4, .int (nI 0)), (5, .int (nI (i + 1))), (6, .int (nI (w / 2 ^ (8 * i) % 256))), (7, .int (nI 0))] 4 [1, 2, 3, 4, 0, 5, 6] X dX6_put_95 rfl (nI_i1 _) (Nat.le_of_ble_eq_true rfl) rfl rfl ?_
              refine V_goto (pc' := 8) X dX6_put_98 (by decide) ?_
              refine V_lv [0, 1, 2, 3, 4] [(0, .ref (y 0)), (1, .long (lN w)), (3, .int (nI (((pt w i).1) + 1))), (4, .int (nI 0)), (5, .int (nI (i + 1)))] rfl ?_
              rw [pt_next (a := ((pt w i).1) + 1) (b := 0) (by rw [if_neg (fun q => h43 q.2)]) (if_neg (fun q => q.elim (fun z => absurd z (by omega)) (fun z => z.2 h72)))] at ih
              exact ih
            · refine V_iconst (pc' := 76) (nI 1) X dX6_put_75 ki_1 rfl ?_
              refine V_goto (pc' := 80) X dX6_put_76 (by decide) ?_
              refine V_istore (pc' := 82) [(0, .ref (y 0)), (1, .long (lN w)), (3, .int (nI ((pt w i).1))), (4, .int (nI 1)), (5, .int (nI i)), (6, .int (nI (w / 2 ^ (8 * i) % 256))), (7, .int (nI 0))] [1, 2, 3, 0, 4, 5, 6] X dX6_put_80 (Nat.le_of_ble_eq_true rfl) rfl rfl ?_
              refine V_iload_n (pc' := 83) 2 X dX6_put_82 rfl rfl rfl ?_
              refine V_iload (pc' := 85) 6 X dX6_put_83 rfl rfl ?_
              refine V_if_eq (pc' := 88) (C := 0 = 0) 92 X dX6_put_85 (by decide) rfl (z_eq0 (by omega)) (fun _ => ?_) (fun hz => absurd (by decide) hz)
              refine V_iconst (pc' := 93) (nI 1) X dX6_put_92 ki_1 rfl ?_
              refine V_iadd (pc' := 94) (nI (((pt w i).1) + 1)) X dX6_put_93 (nI_add _ _) rfl ?_
              refine V_istore_n (pc' := 95) [(0, .ref (y 0)), (1, .long (lN w)), (3, .int (nI (((pt w i).1) + 1))), (4, .int (nI 1)), (5, .int (nI i)), (6, .int (nI (w / 2 ^ (8 * i) % 256))), (7, .int (nI 0))] [1, 2, 0, 3, 4, 5, 6] X dX6_put_94 rfl (Nat.le_of_ble_eq_true rfl) rfl rfl ?_
              refine V_iinc (pc' := 98) [(0, .ref (y 0)), (1, .long (lN w)), (3, .int (nI (((pt w i).1) + 1))), (4, .int (nI 1)), (5, .int (nI (i + 1))), (6, .int (nI (w / 2 ^ (8 * i) % 256))), (7, .int (nI 0))] 4 [1, 2, 3, 4, 0, 5, 6] X dX6_put_95 rfl (nI_i1 _) (Nat.le_of_ble_eq_true rfl) rfl rfl ?_
              refine V_goto (pc' := 8) X dX6_put_98 (by decide) ?_
              refine V_lv [0, 1, 2, 3, 4] [(0, .ref (y 0)), (1, .long (lN w)), (3, .int (nI (((pt w i).1) + 1))), (4, .int (nI 1)), (5, .int (nI (i + 1)))] rfl ?_
              rw [pt_next (a := ((pt w i).1) + 1) (b := 1) (by rw [if_neg (fun q => h43 q.2)]) (if_pos (Or.inr ⟨fun q => h43 q.2, h72⟩))] at ih
              exact ih
        · have h43 := (z_lc0 (div_lt64 hu _)).mp h43
          refine V_iconst (pc' := 47) (nI 1) X dX6_put_46 ki_1 rfl ?_
          refine V_goto (pc' := 51) X dX6_put_47 (by decide) ?_
          refine V_istore (pc' := 53) [(0, .ref (y 0)), (1, .long (lN w)), (3, .int (nI ((pt w i).1))), (4, .int (nI ((pt w i).2))), (5, .int (nI i)), (6, .int (nI (w / 2 ^ (8 * i) % 256))), (7, .int (nI 1))] [1, 2, 3, 4, 5, 6, 0] X dX6_put_51 (Nat.le_of_ble_eq_true rfl) rfl rfl ?_
          refine V_iload (pc' := 55) 3 X dX6_put_53 rfl rfl ?_
          refine V_if_ne (pc' := 58) (C := ((pt w i).2) = 0) 75 X dX6_put_55 (by decide) rfl (z_eq0 (by have := (pt_le w i).2; omega)) (fun h55 => ?_) (fun h55 => ?_)
          · refine V_iconst (pc' := 76) (nI 1) X dX6_put_75 ki_1 rfl ?_
            refine V_goto (pc' := 80) X dX6_put_76 (by decide) ?_
            refine V_istore (pc' := 82) [(0, .ref (y 0)), (1, .long (lN w)), (3, .int (nI ((pt w i).1))), (4, .int (nI 1)), (5, .int (nI i)), (6, .int (nI (w / 2 ^ (8 * i) % 256))), (7, .int (nI 1))] [1, 2, 3, 0, 4, 5, 6] X dX6_put_80 (Nat.le_of_ble_eq_true rfl) rfl rfl ?_
            refine V_iload_n (pc' := 83) 2 X dX6_put_82 rfl rfl rfl ?_
            refine V_iload (pc' := 85) 6 X dX6_put_83 rfl rfl ?_
            refine V_if_eq (pc' := 88) (C := 1 = 0) 92 X dX6_put_85 (by decide) rfl (z_eq0 (by omega)) (fun hz => absurd hz (by decide)) (fun _ => ?_)
            refine V_iconst (pc' := 89) (nI 0) X dX6_put_88 ki_0 rfl ?_
            refine V_goto (pc' := 93) X dX6_put_89 (by decide) ?_
            refine V_iadd (pc' := 94) (nI (((pt w i).1) + 0)) X dX6_put_93 (nI_add _ _) rfl ?_
            refine V_istore_n (pc' := 95) [(0, .ref (y 0)), (1, .long (lN w)), (3, .int (nI (((pt w i).1) + 0))), (4, .int (nI 1)), (5, .int (nI i)), (6, .int (nI (w / 2 ^ (8 * i) % 256))), (7, .int (nI 1))] [1, 2, 0, 3, 4, 5, 6] X dX6_put_94 rfl (Nat.le_of_ble_eq_true rfl) rfl rfl ?_
            refine V_iinc (pc' := 98) [(0, .ref (y 0)), (1, .long (lN w)), (3, .int (nI (((pt w i).1) + 0))), (4, .int (nI 1)), (5, .int (nI (i + 1))), (6, .int (nI (w / 2 ^ (8 * i) % 256))), (7, .int (nI 1))] 4 [1, 2, 3, 4, 0, 5, 6] X dX6_put_95 rfl (nI_i1 _) (Nat.le_of_ble_eq_true rfl) rfl rfl ?_
            refine V_goto (pc' := 8) X dX6_put_98 (by decide) ?_
            refine V_lv [0, 1, 2, 3, 4] [(0, .ref (y 0)), (1, .long (lN w)), (3, .int (nI (((pt w i).1) + 0))), (4, .int (nI 1)), (5, .int (nI (i + 1)))] rfl ?_
            rw [pt_next (a := ((pt w i).1) + 0) (b := 1) (by rw [if_pos ⟨by omega, h43⟩]) (if_pos (Or.inl (by have := (pt_le w i).2; omega)))] at ih
            exact ih
          · refine V_iload (pc' := 60) 6 X dX6_put_58 rfl rfl ?_
            refine V_if_ne (pc' := 63) (C := 1 = 0) 79 X dX6_put_60 (by decide) rfl (z_eq0 (by omega)) (fun _ => ?_) (fun hz => absurd hz (by decide))
            refine V_iconst (pc' := 80) (nI 0) X dX6_put_79 ki_0 rfl ?_
            refine V_istore (pc' := 82) [(0, .ref (y 0)), (1, .long (lN w)), (3, .int (nI ((pt w i).1))), (4, .int (nI 0)), (5, .int (nI i)), (6, .int (nI (w / 2 ^ (8 * i) % 256))), (7, .int (nI 1))] [1, 2, 3, 0, 4, 5, 6] X dX6_put_80 (Nat.le_of_ble_eq_true rfl) rfl rfl ?_
            refine V_iload_n (pc' := 83) 2 X dX6_put_82 rfl rfl rfl ?_
            refine V_iload (pc' := 85) 6 X dX6_put_83 rfl rfl ?_
            refine V_if_eq (pc' := 88) (C := 1 = 0) 92 X dX6_put_85 (by decide) rfl (z_eq0 (by omega)) (fun hz => absurd hz (by decide)) (fun _ => ?_)
            refine V_iconst (pc' := 89) (nI 0) X dX6_put_88 ki_0 rfl ?_
            refine V_goto (pc' := 93) X dX6_put_89 (by decide) ?_
            refine V_iadd (pc' := 94) (nI (((pt w i).1) + 0)) X dX6_put_93 (nI_add _ _) rfl ?_
            refine V_istore_n (pc' := 95) [(0, .ref (y 0)), (1, .long (lN w)), (3, .int (nI (((pt w i).1) + 0))), (4, .int (nI 0)), (5, .int (nI i)), (6, .int (nI (w / 2 ^ (8 * i) % 256))), (7, .int (nI 1))] [1, 2, 0, 3, 4, 5, 6] X dX6_put_94 rfl (Nat.le_of_ble_eq_true rfl) rfl rfl ?_
            refine V_iinc (pc' := 98) [(0, .ref (y 0)), (1, .long (lN w)), (3, .int (nI (((pt w i).1) + 0))), (4, .int (nI 0)), (5, .int (nI (i + 1))), (6, .int (nI (w / 2 ^ (8 * i) % 256))), (7, .int (nI 1))] 4 [1, 2, 3, 4, 0, 5, 6] X dX6_put_95 rfl (nI_i1 _) (Nat.le_of_ble_eq_true rfl) rfl rfl ?_
            refine V_goto (pc' := 8) X dX6_put_98 (by decide) ?_
            refine V_lv [0, 1, 2, 3, 4] [(0, .ref (y 0)), (1, .long (lN w)), (3, .int (nI (((pt w i).1) + 0))), (4, .int (nI 0)), (5, .int (nI (i + 1)))] rfl ?_
            rw [pt_next (a := ((pt w i).1) + 0) (b := 0) (by rw [if_pos ⟨by omega, h43⟩]) (if_neg (fun q => q.elim (fun z => absurd z (by omega)) (fun z => z.1 ⟨by omega, h43⟩)))] at ih
            exact ih
  exact lp_1 0 (Nat.zero_le _)

set_option maxHeartbeats 4000000 in
set_option maxRecDepth 100000 in
theorem c_X6_put (l : Launch) (G : gT) (y : Nat → Nat) (t kn ln th : Nat) (f : Nat → Nat) (hn : ln ≤ 60) (w : Nat) (hu : w < 2 ^ 64) (hc : ¬ cin w = 0) (hr : ln + cin w ≤ 60) : CM l G yX6_put wsX6_put 2 49 1 [.ref (y 0), .long (lN w)] [MO y t kn ln th, RW G (y 5) 60 f] 0 0 (fun v u => v = some (.int (nI (ln + cin w))) ∧ u = [MO y 0 kn (ln + cin w) th, RW G (y 5) 60 (ap f ln w (cin w))]) := by
  refine CM_of RX6 1 22 rfl rfl (by decide) (by decide +kernel) (Nat.le_of_ble_eq_true rfl) (fun E A X hrt hnm => ?_)
  have F23 := Fld_of (idx := 23) 6 6 X (by decide) (by decide) (by decide +kernel) (by decide +kernel)
  have F105 := Fld_of (idx := 105) 6 7 X (by decide) (by decide) (by decide +kernel) (by decide +kernel)
  generalize hQ : QM E G A _ _ _ = Q
  have hcl := cin_le w
  show V E G A 8 [MO y t kn ln th, RW G (y 5) 60 f] 0 0 Q 0 [(0, .ref (y 0)), (1, .long (lN w))] []
  refine V_iconst (pc' := 1) (nI 0) X dX6_put_0 ki_0 rfl ?_
  refine V_istore_n (pc' := 2) [(0, .ref (y 0)), (1, .long (lN w)), (3, .int (nI 0))] [1, 2, 0] X dX6_put_1 rfl (Nat.le_of_ble_eq_true rfl) rfl rfl ?_
  refine V_iconst (pc' := 3) (nI 0) X dX6_put_2 ki_0 rfl ?_
  refine V_istore (pc' := 5) [(0, .ref (y 0)), (1, .long (lN w)), (3, .int (nI 0)), (4, .int (nI 0))] [1, 2, 3, 0] X dX6_put_3 (Nat.le_of_ble_eq_true rfl) rfl rfl ?_
  refine V_iconst (pc' := 6) (nI 0) X dX6_put_5 ki_0 rfl ?_
  refine V_istore (pc' := 8) [(0, .ref (y 0)), (1, .long (lN w)), (3, .int (nI 0)), (4, .int (nI 0)), (5, .int (nI 0))] [1, 2, 3, 4, 0] X dX6_put_6 (Nat.le_of_ble_eq_true rfl) rfl rfl ?_
  have lp_1 : ∀ i, i ≤ 8 → V E G A 8 [MO y t kn ln th, RW G (y 5) 60 f] 0 0 Q 8 [(0, .ref (y 0)), (1, .long (lN w)), (3, .int (nI ((pt w i).1))), (4, .int (nI ((pt w i).2))), (5, .int (nI i))] [] := by
    refine loopD 8 ?_ ?_
    · show V E G A 8 [MO y t kn ln th, RW G (y 5) 60 f] 0 0 Q 8 [(0, .ref (y 0)), (1, .long (lN w)), (3, .int (nI ((pt w 8).1))), (4, .int (nI ((pt w 8).2))), (5, .int (nI 8))] []
      rw [(pt_cin w).2 hc]
      show V E G A 8 [MO y t kn ln th, RW G (y 5) 60 f] 0 0 Q 8 [(0, .ref (y 0)), (1, .long (lN w)), (3, .int (nI (cin w))), (4, .int (nI 0)), (5, .int (nI 8))] []
      refine V_iload (pc' := 10) 4 X dX6_put_8 rfl rfl ?_
      refine V_bipush (pc' := 12) (nI 8) X dX6_put_10 kb_8 rfl ?_
      refine V_icmp_ge (pc' := 15) (C := 8 ≤ 8) 101 X dX6_put_12 (by decide) rfl (nI_leI (by omega) (by omega)) (fun _ => ?_) (fun hz => absurd (by omega) hz)
      refine V_aload_n (pc' := 102) 0 X dX6_put_101 rfl rfl rfl ?_
      refine V_iload (pc' := 104) 3 X dX6_put_102 rfl rfl ?_
      refine V_if_eq (pc' := 107) (C := 0 = 0) 111 X dX6_put_104 (by decide) rfl (z_eq0 (by omega)) (fun _ => ?_) (fun hz => absurd (by decide) hz)
      refine V_aload_n (pc' := 112) 0 X dX6_put_111 rfl rfl rfl ?_
      refine V_get (pc' := 115) 0 X F105 rfl rfl dX6_put_112 rfl ?_
      refine V_iload_n (pc' := 116) 2 X dX6_put_115 rfl rfl rfl ?_
      refine V_iadd (pc' := 117) (nI (ln + (cin w))) X dX6_put_116 (nI_add _ _) rfl ?_
      refine V_bipush (pc' := 119) (nI 60) X dX6_put_117 kb_60 rfl ?_
      refine V_icmp_le (pc' := 122) (C := (ln + (cin w)) ≤ 60) 126 X dX6_put_119 (by decide) rfl (nI_leI (by omega) (by omega)) (fun _ => ?_) (fun hz => absurd (by omega) hz)
      refine V_iconst (pc' := 127) (nI 0) X dX6_put_126 ki_0 rfl ?_
      refine V_callV (pc' := 130) (As := [.int (nI 0)]) (st := []) 6 0 [0] [1] (show (List.range 2).Perm ([0] ++ [1]) by decide) X (c_X6_holds0 l G y t kn ln th) rfl gX6_put_X6_holds rfl (by decide) rfl rfl rfl (Nat.le_of_ble_eq_true rfl) ⟨Nat.le_of_ble_eq_true rfl, Nat.le_of_ble_eq_true rfl⟩ ⟨Nat.le_of_ble_eq_true rfl, Nat.le_of_ble_eq_true rfl⟩ dX6_put_127 rfl (fun v_ u_ hp_ => ?_)
      obtain ⟨rfl, rfl⟩ := hp_
      show V E G A 8 [RW G (y 5) 60 f, MO y 0 kn ln th] 0 0 Q 130 [(0, .ref (y 0)), (1, .long (lN w)), (3, .int (nI (cin w))), (4, .int (nI 0)), (5, .int (nI 8))] [.int (nI 1)]
      refine V_ord [1, 0] [MO y 0 kn ln th, RW G (y 5) 60 f] (show (List.range 2).Perm [1, 0] by decide) rfl ?_
      refine V_if_ne (pc' := 133) (C := 1 = 0) 135 X dX6_put_130 (by decide) rfl (z_eq0 (by omega)) (fun _ => ?_) (fun hz => absurd hz (by decide))
      refine V_iconst (pc' := 136) (nI 0) X dX6_put_135 ki_0 rfl ?_
      refine V_istore (pc' := 138) [(0, .ref (y 0)), (1, .long (lN w)), (3, .int (nI (cin w))), (4, .int (nI 0)), (5, .int (nI 0))] [1, 2, 3, 4, 0] X dX6_put_136 (Nat.le_of_ble_eq_true rfl) rfl rfl ?_
      refine V_ws [MO y 0 kn ln th, [((y 5), .inl (G.2 0, 60, .inl (nf f)))]] rfl ?_
      refine V_wsq [MO y 0 kn ln th, [((y 5), .inl (G.2 0, 60, .inl (nf (apG f ln w (cin w) 0))))]] (wsq.app (wsq.rf _) (wsq.app (wsq.cons (weq.row (fun k hk => congrArg nI (if_neg (by omega)).symm)) (wsq.rf _)) (wsq.rf _))) ?_
      refine V_ws [MO y 0 kn ln th, RW G (y 5) 60 (apG f ln w (cin w) 0)] rfl ?_
      have lp_2 : ∀ i, i ≤ (cin w) → V E G A 8 [MO y 0 kn ln th, RW G (y 5) 60 (apG f ln w (cin w) i)] 0 0 Q 138 [(0, .ref (y 0)), (1, .long (lN w)), (3, .int (nI (cin w))), (4, .int (nI 0)), (5, .int (nI i))] [] := by
        refine loopD (cin w) ?_ ?_
        · show V E G A 8 [MO y 0 kn ln th, RW G (y 5) 60 (apG f ln w (cin w) (cin w))] 0 0 Q 138 [(0, .ref (y 0)), (1, .long (lN w)), (3, .int (nI (cin w))), (4, .int (nI 0)), (5, .int (nI (cin w)))] []
          refine V_iload (pc' := 140) 4 X dX6_put_138 rfl rfl ?_
          refine V_iload_n (pc' := 141) 2 X dX6_put_140 rfl rfl rfl ?_
          refine V_icmp_ge (pc' := 144) (C := (cin w) ≤ (cin w)) 178 X dX6_put_141 (by decide) rfl (nI_leI (by omega) (by omega)) (fun _ => ?_) (fun hz => absurd (by omega) hz)
          refine V_aload_n (pc' := 179) 0 X dX6_put_178 rfl rfl rfl ?_
          refine V_dup (pc' := 180) X dX6_put_179 rfl rfl ?_
          refine V_get (pc' := 183) 0 X F105 rfl rfl dX6_put_180 rfl ?_
          refine V_iload_n (pc' := 184) 2 X dX6_put_183 rfl rfl rfl ?_
          refine V_iadd (pc' := 185) (nI (ln + (cin w))) X dX6_put_184 (nI_add _ _) rfl ?_
          refine V_ws [[((y 0), .inr (6, [.int (nI 0), .ref (y 1), .ref (y 2), .ref (y 3), .ref (y 4), .int (nI kn), .ref (y 5), .int (nI ln), .ref (y 6), .ref (y 7), .int (nI th)]))], RW G (y 5) 60 (apG f ln w (cin w) (cin w))] rfl ?_
          refine V_put (pc' := 188) 0 [[((y 0), .inr (6, [.int (nI 0), .ref (y 1), .ref (y 2), .ref (y 3), .ref (y 4), .int (nI kn), .ref (y 5), .int (nI (ln + (cin w))), .ref (y 6), .ref (y 7), .int (nI th)]))], RW G (y 5) 60 (apG f ln w (cin w) (cin w))] X F105 rfl rfl rfl rfl (Nat.le_of_ble_eq_true rfl) rfl dX6_put_185 rfl ?_
          refine V_aload_n (pc' := 189) 0 X dX6_put_188 rfl rfl rfl ?_
          refine V_get (pc' := 192) 0 X F105 rfl rfl dX6_put_189 rfl ?_
          refine V_ws [MO y 0 kn (ln + (cin w)) th, RW G (y 5) 60 (apG f ln w (cin w) (cin w))] rfl ?_
          refine V_ws [MO y 0 kn (ln + (cin w)) th, [((y 5), .inl (G.2 0, 60, .inl (nf (apG f ln w (cin w) (cin w)))))]] rfl ?_
          refine V_wsq [MO y 0 kn (ln + (cin w)) th, [((y 5), .inl (G.2 0, 60, .inl (nf (ap f ln w (cin w)))))]] (wsq.app (wsq.rf _) (wsq.app (wsq.cons (weq.row (fun k hk => congrArg nI apG_end)) (wsq.rf _)) (wsq.rf _))) ?_
          refine V_ws [MO y 0 kn (ln + (cin w)) th, RW G (y 5) 60 (ap f ln w (cin w))] rfl ?_
          exact V_ireturn (v := nI (ln + (cin w))) [MO y 0 kn (ln + (cin w)) th, RW G (y 5) 60 (ap f ln w (cin w))] hQ X hrt rfl dX6_put_192 (Nat.le_of_ble_eq_true rfl) (Nat.le_of_ble_eq_true rfl) (List.Perm.refl _) ⟨rfl, rfl⟩
        · intro i hi_i ih
          show V E G A 8 [MO y 0 kn ln th, RW G (y 5) 60 (apG f ln w (cin w) i)] 0 0 Q 138 [(0, .ref (y 0)), (1, .long (lN w)), (3, .int (nI (cin w))), (4, .int (nI 0)), (5, .int (nI i))] []
          refine V_iload (pc' := 140) 4 X dX6_put_138 rfl rfl ?_
          refine V_iload_n (pc' := 141) 2 X dX6_put_140 rfl rfl rfl ?_
          refine V_icmp_ge (pc' := 144) (C := (cin w) ≤ i) 178 X dX6_put_141 (by decide) rfl (nI_leI (by omega) (by omega)) (fun hz => absurd hz (by omega)) (fun _ => ?_)
          refine V_aload_n (pc' := 145) 0 X dX6_put_144 rfl rfl rfl ?_
          refine V_get (pc' := 148) 0 X F23 rfl rfl dX6_put_145 rfl ?_
          refine V_aload_n (pc' := 149) 0 X dX6_put_148 rfl rfl rfl ?_
          refine V_get (pc' := 152) 0 X F105 rfl rfl dX6_put_149 rfl ?_
          refine V_iload_n (pc' := 153) 2 X dX6_put_152 rfl rfl rfl ?_
          refine V_iadd (pc' := 154) (nI (ln + (cin w))) X dX6_put_153 (nI_add _ _) rfl ?_
          refine V_iconst (pc' := 155) (nI 1) X dX6_put_154 ki_1 rfl ?_
          refine V_isub (pc' := 156) (nI ((ln + (cin w)) - 1)) X dX6_put_155 (pk_sub (by omega)) rfl ?_
          refine V_iload (pc' := 158) 4 X dX6_put_156 rfl rfl ?_
          refine V_isub (pc' := 159) (nI (((ln + (cin w)) - 1) - i)) X dX6_put_158 (pk_sub (by omega)) rfl ?_
          refine V_lload_n (pc' := 160) 1 X dX6_put_159 rfl rfl rfl ?_
          refine V_bipush (pc' := 162) (nI 8) X dX6_put_160 kb_8 rfl ?_
          refine V_iload (pc' := 164) 4 X dX6_put_162 rfl rfl ?_
          refine V_imul (pc' := 165) (nI (8 * i)) X dX6_put_164 (pk_mul _ _) rfl ?_
          refine V_lushr (pc' := 166) (lN (w / 2 ^ (8 * i))) X dX6_put_165 (wb_shr hu (by omega)) rfl ?_
          refine V_ldc2 (pc' := 169) (v := 255) (lN 255) X (by decide +kernel) (by decide +kernel) dX6_put_166 rfl ?_
          refine V_land (pc' := 170) (lN (w / 2 ^ (8 * i) % 256)) X dX6_put_169 (wb_mask (k := 8) (div_lt64 hu _) (by decide)) rfl ?_
          refine V_l2i (pc' := 171) (nI (w / 2 ^ (8 * i) % 256)) X dX6_put_170 (lN_i _) rfl ?_
          refine V_ws [MO y 0 kn ln th, [((y 5), .inl (G.2 0, 60, .inl (nf (apG f ln w (cin w) i))))]] rfl ?_
          refine V_iast (pc' := 172) 1 (((ln + (cin w)) - 1) - i) [MO y 0 kn ln th, [((y 5), .inl (G.2 0, 60, .inl (upd (nf (apG f ln w (cin w) i)) (((ln + (cin w)) - 1) - i) (nI (w / 2 ^ (8 * i) % 256)))))]] X rfl (by omega) (by decide) rfl dX6_put_171 rfl ?_
          refine V_ws [MO y 0 kn ln th, [((y 5), .inl (G.2 0, 60, .inl (nf (va_up (apG f ln w (cin w) i) (((ln + (cin w)) - 1) - i) (w / 2 ^ (8 * i) % 256)))))]] (by simp only [nf_upd]) ?_
          refine V_iinc (pc' := 175) [(0, .ref (y 0)), (1, .long (lN w)), (3, .int (nI (cin w))), (4, .int (nI 0)), (5, .int (nI (i + 1)))] 4 [1, 2, 3, 4, 0] X dX6_put_172 rfl (nI_i1 _) (Nat.le_of_ble_eq_true rfl) rfl rfl ?_
          refine V_goto (pc' := 138) X dX6_put_175 (by decide) ?_
          refine V_wsq [MO y 0 kn ln th, [((y 5), .inl (G.2 0, 60, .inl (nf (apG f ln w (cin w) (i + 1)))))]] (wsq.app (wsq.rf _) (wsq.app (wsq.cons (weq.row (fun k hk => congrArg nI (apG_step hi_i))) (wsq.rf _)) (wsq.rf _))) ?_
          refine V_ws [MO y 0 kn ln th, RW G (y 5) 60 (apG f ln w (cin w) (i + 1))] rfl ?_
          exact ih
      exact lp_2 0 (Nat.zero_le _)
    · intro i hi_i ih
      show V E G A 8 [MO y t kn ln th, RW G (y 5) 60 f] 0 0 Q 8 [(0, .ref (y 0)), (1, .long (lN w)), (3, .int (nI ((pt w i).1))), (4, .int (nI ((pt w i).2))), (5, .int (nI i))] []
      refine V_iload (pc' := 10) 4 X dX6_put_8 rfl rfl ?_
      refine V_bipush (pc' := 12) (nI 8) X dX6_put_10 kb_8 rfl ?_
      refine V_icmp_ge (pc' := 15) (C := 8 ≤ i) 101 X dX6_put_12 (by decide) rfl (nI_leI (by omega) (by omega)) (fun hz => absurd hz (by omega)) (fun _ => ?_)
      refine V_lload_n (pc' := 16) 1 X dX6_put_15 rfl rfl rfl ?_
      refine V_bipush (pc' := 18) (nI 8) X dX6_put_16 kb_8 rfl ?_
      refine V_iload (pc' := 20) 4 X dX6_put_18 rfl rfl ?_
      refine V_imul (pc' := 21) (nI (8 * i)) X dX6_put_20 (pk_mul _ _) rfl ?_
      refine V_lushr (pc' := 22) (lN (w / 2 ^ (8 * i))) X dX6_put_21 (wb_shr hu (by omega)) rfl ?_
      refine V_ldc2 (pc' := 25) (v := 255) (lN 255) X (by decide +kernel) (by decide +kernel) dX6_put_22 rfl ?_
      refine V_land (pc' := 26) (lN (w / 2 ^ (8 * i) % 256)) X dX6_put_25 (wb_mask (k := 8) (div_lt64 hu _) (by decide)) rfl ?_
      refine V_l2i (pc' := 27) (nI (w / 2 ^ (8 * i) % 256)) X dX6_put_26 (lN_i _) rfl ?_
      refine V_istore (pc' := 29) [(0, .ref (y 0)), (1, .long (lN w)), (3, .int (nI ((pt w i).1))), (4, .int (nI ((pt w i).2))), (5, .int (nI i)), (6, .int (nI (w / 2 ^ (8 * i) % 256)))] [1, 2, 3, 4, 5, 0] X dX6_put_27 (Nat.le_of_ble_eq_true rfl) rfl rfl ?_
      refine V_iload (pc' := 31) 4 X dX6_put_29 rfl rfl ?_
      refine V_if_le (pc' := 34) (C := i = 0) 50 X dX6_put_31 (by decide) rfl (z_le0 (by omega)) (fun h31 => ?_) (fun h31 => ?_)
      · refine V_iconst (pc' := 51) (nI 0) X dX6_put_50 ki_0 rfl ?_
        refine V_istore (pc' := 53) [(0, .ref (y 0)), (1, .long (lN w)), (3, .int (nI ((pt w i).1))), (4, .int (nI ((pt w i).2))), (5, .int (nI i)), (6, .int (nI (w / 2 ^ (8 * i) % 256))), (7, .int (nI 0))] [1, 2, 3, 4, 5, 6, 0] X dX6_put_51 (Nat.le_of_ble_eq_true rfl) rfl rfl ?_
        refine V_iload (pc' := 55) 3 X dX6_put_53 rfl rfl ?_
        refine V_if_ne (pc' := 58) (C := ((pt w i).2) = 0) 75 X dX6_put_55 (by decide) rfl (z_eq0 (by have := (pt_le w i).2; omega)) (fun h55 => ?_) (fun h55 => ?_)
        · refine V_iconst (pc' := 76) (nI 1) X dX6_put_75 ki_1 rfl ?_
          refine V_goto (pc' := 80) X dX6_put_76 (by decide) ?_
          refine V_istore (pc' := 82) [(0, .ref (y 0)), (1, .long (lN w)), (3, .int (nI ((pt w i).1))), (4, .int (nI 1)), (5, .int (nI i)), (6, .int (nI (w / 2 ^ (8 * i) % 256))), (7, .int (nI 0))] [1, 2, 3, 0, 4, 5, 6] X dX6_put_80 (Nat.le_of_ble_eq_true rfl) rfl rfl ?_
          refine V_iload_n (pc' := 83) 2 X dX6_put_82 rfl rfl rfl ?_
          refine V_iload (pc' := 85) 6 X dX6_put_83 rfl rfl ?_
          refine V_if_eq (pc' := 88) (C := 0 = 0) 92 X dX6_put_85 (by decide) rfl (z_eq0 (by omega)) (fun _ => ?_) (fun hz => absurd (by decide) hz)
          refine V_iconst (pc' := 93) (nI 1) X dX6_put_92 ki_1 rfl ?_
          refine V_iadd (pc' := 94) (nI (((pt w i).1) + 1)) X dX6_put_93 (nI_add _ _) rfl ?_
          refine V_istore_n (pc' := 95) [(0, .ref (y 0)), (1, .long (lN w)), (3, .int (nI (((pt w i).1) + 1))), (4, .int (nI 1)), (5, .int (nI i)), (6, .int (nI (w / 2 ^ (8 * i) % 256))), (7, .int (nI 0))] [1, 2, 0, 3, 4, 5, 6] X dX6_put_94 rfl (Nat.le_of_ble_eq_true rfl) rfl rfl ?_
          refine V_iinc (pc' := 98) [(0, .ref (y 0)), (1, .long (lN w)), (3, .int (nI (((pt w i).1) + 1))), (4, .int (nI 1)), (5, .int (nI (i + 1))), (6, .int (nI (w / 2 ^ (8 * i) % 256))), (7, .int (nI 0))] 4 [1, 2, 3, 4, 0, 5, 6] X dX6_put_95 rfl (nI_i1 _) (Nat.le_of_ble_eq_true rfl) rfl rfl ?_
          refine V_goto (pc' := 8) X dX6_put_98 (by decide) ?_
          refine V_lv [0, 1, 2, 3, 4] [(0, .ref (y 0)), (1, .long (lN w)), (3, .int (nI (((pt w i).1) + 1))), (4, .int (nI 1)), (5, .int (nI (i + 1)))] rfl ?_
          rw [pt_next (a := ((pt w i).1) + 1) (b := 1) (by rw [if_neg (fun q => absurd q.1 (by omega))]) (if_pos (Or.inl (by have := (pt_le w i).2; omega)))] at ih
          exact ih
        · refine V_iload (pc' := 60) 6 X dX6_put_58 rfl rfl ?_
          refine V_if_ne (pc' := 63) (C := 0 = 0) 79 X dX6_put_60 (by decide) rfl (z_eq0 (by omega)) (fun hz => absurd (by decide) hz) (fun _ => ?_)
          refine V_iload (pc' := 65) 5 X dX6_put_63 rfl rfl ?_
          refine V_bipush (pc' := 67) (nI 33) X dX6_put_65 kb_33 rfl ?_
          refine V_bipush (pc' := 69) (nI 126) X dX6_put_67 kb_126 rfl ?_
          refine V_callS (pc' := 72) (As := [.int (nI (w / 2 ^ (8 * i) % 256)), .int (nI 33), .int (nI 126)]) (st := []) [] [0, 1] (show (List.range 2).Perm ([] ++ [0, 1]) by decide) X (c_X6_in l G (w / 2 ^ (8 * i) % 256) 33 126 (Nat.lt_trans (Nat.mod_lt _ (by decide)) (by decide)) (by decide) (by decide)) rfl gX6_put_X6_in rfl rfl (Nat.le_of_ble_eq_true rfl) ⟨Nat.le_of_ble_eq_true rfl, Nat.le_of_ble_eq_true rfl⟩ ⟨Nat.le_of_ble_eq_true rfl, Nat.le_of_ble_eq_true rfl⟩ dX6_put_69 rfl (fun v_ u_ hp_ => ?_)
          obtain ⟨rfl, rfl⟩ := hp_
          show V E G A 8 [MO y t kn ln th, RW G (y 5) 60 f] 0 0 Q 72 [(0, .ref (y 0)), (1, .long (lN w)), (3, .int (nI ((pt w i).1))), (4, .int (nI ((pt w i).2))), (5, .int (nI i)), (6, .int (nI (w / 2 ^ (8 * i) % 256))), (7, .int (nI 0))] [.int (nI (if 33 ≤ (w / 2 ^ (8 * i) % 256) ∧ (w / 2 ^ (8 * i) % 256) ≤ 126 then 1 else 0))]
          refine V_if_ne (pc' := 75) (C := ¬ (33 ≤ (w / 2 ^ (8 * i) % 256) ∧ (w / 2 ^ (8 * i) % 256) ≤ 126)) 79 X dX6_put_72 (by decide) rfl z_ite0 (fun h72 => ?_) (fun h72 => ?_)
          · have h72 := Classical.not_not.mp h72
            refine V_iconst (pc' := 80) (nI 0) X dX6_put_79 ki_0 rfl ?_
            refine V_istore (pc' := 82) [(0, .ref (y 0)), (1, .long (lN w)), (3, .int (nI ((pt w i).1))), (4, .int (nI 0)), (5, .int (nI i)), (6, .int (nI (w / 2 ^ (8 * i) % 256))), (7, .int (nI 0))] [1, 2, 3, 0, 4, 5, 6] X dX6_put_80 (Nat.le_of_ble_eq_true rfl) rfl rfl ?_
            refine V_iload_n (pc' := 83) 2 X dX6_put_82 rfl rfl rfl ?_
            refine V_iload (pc' := 85) 6 X dX6_put_83 rfl rfl ?_
            refine V_if_eq (pc' := 88) (C := 0 = 0) 92 X dX6_put_85 (by decide) rfl (z_eq0 (by omega)) (fun _ => ?_) (fun hz => absurd (by decide) hz)
            refine V_iconst (pc' := 93) (nI 1) X dX6_put_92 ki_1 rfl ?_
            refine V_iadd (pc' := 94) (nI (((pt w i).1) + 1)) X dX6_put_93 (nI_add _ _) rfl ?_
            refine V_istore_n (pc' := 95) [(0, .ref (y 0)), (1, .long (lN w)), (3, .int (nI (((pt w i).1) + 1))), (4, .int (nI 0)), (5, .int (nI i)), (6, .int (nI (w / 2 ^ (8 * i) % 256))), (7, .int (nI 0))] [1, 2, 0, 3, 4, 5, 6] X dX6_put_94 rfl (Nat.le_of_ble_eq_true rfl) rfl rfl ?_
            refine V_iinc (pc' := 98) [(0, .ref (y 0)), (1, .long (lN w)), (3, .int (nI (((pt w i).1) + 1))), (4, .int (nI 0)), (5, .int (nI (i + 1))), (6, .int (nI (w / 2 ^ (8 * i) % 256))), (7, .int (nI 0))] 4 [1, 2, 3, 4, 0, 5, 6] X dX6_put_95 rfl (nI_i1 _) (Nat.le_of_ble_eq_true rfl) rfl rfl ?_
            refine V_goto (pc' := 8) X dX6_put_98 (by decide) ?_
            refine V_lv [0, 1, 2, 3, 4] [(0, .ref (y 0)), (1, .long (lN w)), (3, .int (nI (((pt w i).1) + 1))), (4, .int (nI 0)), (5, .int (nI (i + 1)))] rfl ?_
            rw [pt_next (a := ((pt w i).1) + 1) (b := 0) (by rw [if_neg (fun q => absurd q.1 (by omega))]) (if_neg (fun q => q.elim (fun z => absurd z (by omega)) (fun z => z.2 h72)))] at ih
            exact ih
          · refine V_iconst (pc' := 76) (nI 1) X dX6_put_75 ki_1 rfl ?_
            refine V_goto (pc' := 80) X dX6_put_76 (by decide) ?_
            refine V_istore (pc' := 82) [(0, .ref (y 0)), (1, .long (lN w)), (3, .int (nI ((pt w i).1))), (4, .int (nI 1)), (5, .int (nI i)), (6, .int (nI (w / 2 ^ (8 * i) % 256))), (7, .int (nI 0))] [1, 2, 3, 0, 4, 5, 6] X dX6_put_80 (Nat.le_of_ble_eq_true rfl) rfl rfl ?_
            refine V_iload_n (pc' := 83) 2 X dX6_put_82 rfl rfl rfl ?_
            refine V_iload (pc' := 85) 6 X dX6_put_83 rfl rfl ?_
            refine V_if_eq (pc' := 88) (C := 0 = 0) 92 X dX6_put_85 (by decide) rfl (z_eq0 (by omega)) (fun _ => ?_) (fun hz => absurd (by decide) hz)
            refine V_iconst (pc' := 93) (nI 1) X dX6_put_92 ki_1 rfl ?_
            refine V_iadd (pc' := 94) (nI (((pt w i).1) + 1)) X dX6_put_93 (nI_add _ _) rfl ?_
            refine V_istore_n (pc' := 95) [(0, .ref (y 0)), (1, .long (lN w)), (3, .int (nI (((pt w i).1) + 1))), (4, .int (nI 1)), (5, .int (nI i)), (6, .int (nI (w / 2 ^ (8 * i) % 256))), (7, .int (nI 0))] [1, 2, 0, 3, 4, 5, 6] X dX6_put_94 rfl (Nat.le_of_ble_eq_true rfl) rfl rfl ?_
            refine V_iinc (pc' := 98) [(0, .ref (y 0)), (1, .long (lN w)), (3, .int (nI (((pt w i).1) + 1))), (4, .int (nI 1)), (5, .int (nI (i + 1))), (6, .int (nI (w / 2 ^ (8 * i) % 256))), (7, .int (nI 0))] 4 [1, 2, 3, 4, 0, 5, 6] X dX6_put_95 rfl (nI_i1 _) (Nat.le_of_ble_eq_true rfl) rfl rfl ?_
            refine V_goto (pc' := 8) X dX6_put_98 (by decide) ?_
            refine V_lv [0, 1, 2, 3, 4] [(0, .ref (y 0)), (1, .long (lN w)), (3, .int (nI (((pt w i).1) + 1))), (4, .int (nI 1)), (5, .int (nI (i + 1)))] rfl ?_
            rw [pt_next (a := ((pt w i).1) + 1) (b := 1) (by rw [if_neg (fun q => absurd q.1 (by omega))]) (if_pos (Or.inr ⟨fun q => absurd q.1 (by omega), h72⟩))] at ih
            exact ih
      · refine V_lload_n (pc' := 35) 1 X dX6_put_34 rfl rfl rfl ?_
        refine V_bipush (pc' := 37) (nI 8) X dX6_put_35 kb_8 rfl ?_
        refine V_iload (pc' := 39) 4 X dX6_put_37 rfl rfl ?_
        refine V_imul (pc' := 40) (nI (8 * i)) X dX6_put_39 (pk_mul _ _) rfl ?_
        refine V_lushr (pc' := 41) (lN (w / 2 ^ (8 * i))) X dX6_put_40 (wb_shr hu (by omega)) rfl ?_
        refine V_lconst (pc' := 42) (lN 0) X dX6_put_41 (by decide +kernel) rfl ?_
        refine V_lcmp (pc' := 43) (lg_cmp (lN (w / 2 ^ (8 * i))) (lN 0)) X dX6_put_42 rfl rfl ?_
        refine V_if_ne (pc' := 46) (C := (lg_cmp (lN (w / 2 ^ (8 * i))) (lN 0)) = 0) 50 X dX6_put_43 (by decide) rfl Iff.rfl (fun h43 => ?_) (fun h43 => ?_)
        · have h43 : ¬ w / 2 ^ (8 * i) = 0 := fun q => h43 ((z_lc0 (div_lt64 hu _)).mpr q)
          refine V_iconst (pc' := 51) (nI 0) X dX6_put_50 ki_0 rfl ?_
          refine V_istore (pc' := 53) [(0, .ref (y 0)), (1, .long (lN w)), (3, .int (nI ((pt w i).1))), (4, .int (nI ((pt w i).2))), (5, .int (nI i)), (6, .int (nI (w / 2 ^ (8 * i) % 256))), (7, .int (nI 0))] [1, 2, 3, 4, 5, 6, 0] X dX6_put_51 (Nat.le_of_ble_eq_true rfl) rfl rfl ?_
          refine V_iload (pc' := 55) 3 X dX6_put_53 rfl rfl ?_
          refine V_if_ne (pc' := 58) (C := ((pt w i).2) = 0) 75 X dX6_put_55 (by decide) rfl (z_eq0 (by have := (pt_le w i).2; omega)) (fun h55 => ?_) (fun h55 => ?_)
          · refine V_iconst (pc' := 76) (nI 1) X dX6_put_75 ki_1 rfl ?_
            refine V_goto (pc' := 80) X dX6_put_76 (by decide) ?_
            refine V_istore (pc' := 82) [(0, .ref (y 0)), (1, .long (lN w)), (3, .int (nI ((pt w i).1))), (4, .int (nI 1)), (5, .int (nI i)), (6, .int (nI (w / 2 ^ (8 * i) % 256))), (7, .int (nI 0))] [1, 2, 3, 0, 4, 5, 6] X dX6_put_80 (Nat.le_of_ble_eq_true rfl) rfl rfl ?_
            refine V_iload_n (pc' := 83) 2 X dX6_put_82 rfl rfl rfl ?_
            refine V_iload (pc' := 85) 6 X dX6_put_83 rfl rfl ?_
            refine V_if_eq (pc' := 88) (C := 0 = 0) 92 X dX6_put_85 (by decide) rfl (z_eq0 (by omega)) (fun _ => ?_) (fun hz => absurd (by decide) hz)
            refine V_iconst (pc' := 93) (nI 1) X dX6_put_92 ki_1 rfl ?_
            refine V_iadd (pc' := 94) (nI (((pt w i).1) + 1)) X dX6_put_93 (nI_add _ _) rfl ?_
            refine V_istore_n (pc' := 95) [(0, .ref (y 0)), (1, .long (lN w)), (3, .int (nI (((pt w i).1) + 1))), (4, .int (nI 1)), (5, .int (nI i)), (6, .int (nI (w / 2 ^ (8 * i) % 256))), (7, .int (nI 0))] [1, 2, 0, 3, 4, 5, 6] X dX6_put_94 rfl (Nat.le_of_ble_eq_true rfl) rfl rfl ?_
            refine V_iinc (pc' := 98) [(0, .ref (y 0)), (1, .long (lN w)), (3, .int (nI (((pt w i).1) + 1))), (4, .int (nI 1)), (5, .int (nI (i + 1))), (6, .int (nI (w / 2 ^ (8 * i) % 256))), (7, .int (nI 0))] 4 [1, 2, 3, 4, 0, 5, 6] X dX6_put_95 rfl (nI_i1 _) (Nat.le_of_ble_eq_true rfl) rfl rfl ?_
            refine V_goto (pc' := 8) X dX6_put_98 (by decide) ?_
            refine V_lv [0, 1, 2, 3, 4] [(0, .ref (y 0)), (1, .long (lN w)), (3, .int (nI (((pt w i).1) + 1))), (4, .int (nI 1)), (5, .int (nI (i + 1)))] rfl ?_
            rw [pt_next (a := ((pt w i).1) + 1) (b := 1) (by rw [if_neg (fun q => h43 q.2)]) (if_pos (Or.inl (by have := (pt_le w i).2; omega)))] at ih
            exact ih
          · refine V_iload (pc' := 60) 6 X dX6_put_58 rfl rfl ?_
            refine V_if_ne (pc' := 63) (C := 0 = 0) 79 X dX6_put_60 (by decide) rfl (z_eq0 (by omega)) (fun hz => absurd (by decide) hz) (fun _ => ?_)
            refine V_iload (pc' := 65) 5 X dX6_put_63 rfl rfl ?_
            refine V_bipush (pc' := 67) (nI 33) X dX6_put_65 kb_33 rfl ?_
            refine V_bipush (pc' := 69) (nI 126) X dX6_put_67 kb_126 rfl ?_
            refine V_callS (pc' := 72) (As := [.int (nI (w / 2 ^ (8 * i) % 256)), .int (nI 33), .int (nI 126)]) (st := []) [] [0, 1] (show (List.range 2).Perm ([] ++ [0, 1]) by decide) X (c_X6_in l G (w / 2 ^ (8 * i) % 256) 33 126 (Nat.lt_trans (Nat.mod_lt _ (by decide)) (by decide)) (by decide) (by decide)) rfl gX6_put_X6_in rfl rfl (Nat.le_of_ble_eq_true rfl) ⟨Nat.le_of_ble_eq_true rfl, Nat.le_of_ble_eq_true rfl⟩ ⟨Nat.le_of_ble_eq_true rfl, Nat.le_of_ble_eq_true rfl⟩ dX6_put_69 rfl (fun v_ u_ hp_ => ?_)
            obtain ⟨rfl, rfl⟩ := hp_
            show V E G A 8 [MO y t kn ln th, RW G (y 5) 60 f] 0 0 Q 72 [(0, .ref (y 0)), (1, .long (lN w)), (3, .int (nI ((pt w i).1))), (4, .int (nI ((pt w i).2))), (5, .int (nI i)), (6, .int (nI (w / 2 ^ (8 * i) % 256))), (7, .int (nI 0))] [.int (nI (if 33 ≤ (w / 2 ^ (8 * i) % 256) ∧ (w / 2 ^ (8 * i) % 256) ≤ 126 then 1 else 0))]
            refine V_if_ne (pc' := 75) (C := ¬ (33 ≤ (w / 2 ^ (8 * i) % 256) ∧ (w / 2 ^ (8 * i) % 256) ≤ 126)) 79 X dX6_put_72 (by decide) rfl z_ite0 (fun h72 => ?_) (fun h72 => ?_)
            · have h72 := Classical.not_not.mp h72
              refine V_iconst (pc' := 80) (nI 0) X dX6_put_79 ki_0 rfl ?_
              refine V_istore (pc' := 82) [(0, .ref (y 0)), (1, .long (lN w)), (3, .int (nI ((pt w i).1))), (4, .int (nI 0)), (5, .int (nI i)), (6, .int (nI (w / 2 ^ (8 * i) % 256))), (7, .int (nI 0))] [1, 2, 3, 0, 4, 5, 6] X dX6_put_80 (Nat.le_of_ble_eq_true rfl) rfl rfl ?_
              refine V_iload_n (pc' := 83) 2 X dX6_put_82 rfl rfl rfl ?_
              refine V_iload (pc' := 85) 6 X dX6_put_83 rfl rfl ?_
              refine V_if_eq (pc' := 88) (C := 0 = 0) 92 X dX6_put_85 (by decide) rfl (z_eq0 (by omega)) (fun _ => ?_) (fun hz => absurd (by decide) hz)
              refine V_iconst (pc' := 93) (nI 1) X dX6_put_92 ki_1 rfl ?_
              refine V_iadd (pc' := 94) (nI (((pt w i).1) + 1)) X dX6_put_93 (nI_add _ _) rfl ?_
              refine V_istore_n (pc' := 95) [(0, .ref (y 0)), (1, .long (lN w)), (3, .int (nI (((pt w i).1) + 1))), (4, .int (nI 0)), (5, .int (nI i)), (6, .int (nI (w / 2 ^ (8 * i) % 256))), (7, .int (nI 0))] [1, 2, 0, 3, 4, 5, 6] X dX6_put_94 rfl (Nat.le_of_ble_eq_true rfl) rfl rfl ?_
              refine V_iinc (pc' := 98) [(0, .ref (y 0)), (1, .long (lN w)), (3, .int (nI (((pt w i).1) + 1))), (4, .int (nI 0)), (5, .int (nI (i + 1))), (6, .int (nI (w / 2 ^ (8 * i) % 256))), (7, .int (nI 0))] 4 [1, 2, 3, 4, 0, 5, 6] X dX6_put_95 rfl (nI_i1 _) (Nat.le_of_ble_eq_true rfl) rfl rfl ?_
              refine V_goto (pc' := 8) X dX6_put_98 (by decide) ?_
              refine V_lv [0, 1, 2, 3, 4] [(0, .ref (y 0)), (1, .long (lN w)), (3, .int (nI (((pt w i).1) + 1))), (4, .int (nI 0)), (5, .int (nI (i + 1)))] rfl ?_
              rw [pt_next (a := ((pt w i).1) + 1) (b := 0) (by rw [if_neg (fun q => h43 q.2)]) (if_neg (fun q => q.elim (fun z => absurd z (by omega)) (fun z => z.2 h72)))] at ih
              exact ih
            · refine V_iconst (pc' := 76) (nI 1) X dX6_put_75 ki_1 rfl ?_
              refine V_goto (pc' := 80) X dX6_put_76 (by decide) ?_
              refine V_istore (pc' := 82) [(0, .ref (y 0)), (1, .long (lN w)), (3, .int (nI ((pt w i).1))), (4, .int (nI 1)), (5, .int (nI i)), (6, .int (nI (w / 2 ^ (8 * i) % 256))), (7, .int (nI 0))] [1, 2, 3, 0, 4, 5, 6] X dX6_put_80 (Nat.le_of_ble_eq_true rfl) rfl rfl ?_
              refine V_iload_n (pc' := 83) 2 X dX6_put_82 rfl rfl rfl ?_
              refine V_iload (pc' := 85) 6 X dX6_put_83 rfl rfl ?_
              refine V_if_eq (pc' := 88) (C := 0 = 0) 92 X dX6_put_85 (by decide) rfl (z_eq0 (by omega)) (fun _ => ?_) (fun hz => absurd (by decide) hz)
              refine V_iconst (pc' := 93) (nI 1) X dX6_put_92 ki_1 rfl ?_
              refine V_iadd (pc' := 94) (nI (((pt w i).1) + 1)) X dX6_put_93 (nI_add _ _) rfl ?_
              refine V_istore_n (pc' := 95) [(0, .ref (y 0)), (1, .long (lN w)), (3, .int (nI (((pt w i).1) + 1))), (4, .int (nI 1)), (5, .int (nI i)), (6, .int (nI (w / 2 ^ (8 * i) % 256))), (7, .int (nI 0))] [1, 2, 0, 3, 4, 5, 6] X dX6_put_94 rfl (Nat.le_of_ble_eq_true rfl) rfl rfl ?_
              refine V_iinc (pc' := 98) [(0, .ref (y 0)), (1, .long (lN w)), (3, .int (nI (((pt w i).1) + 1))), (4, .int (nI 1)), (5, .int (nI (i + 1))), (6, .int (nI (w / 2 ^ (8 * i) % 256))), (7, .int (nI 0))] 4 [1, 2, 3, 4, 0, 5, 6] X dX6_put_95 rfl (nI_i1 _) (Nat.le_of_ble_eq_true rfl) rfl rfl ?_
              refine V_goto (pc' := 8) X dX6_put_98 (by decide) ?_
              refine V_lv [0, 1, 2, 3, 4] [(0, .ref (y 0)), (1, .long (lN w)), (3, .int (nI (((pt w i).1) + 1))), (4, .int (nI 1)), (5, .int (nI (i + 1)))] rfl ?_
              rw [pt_next (a := ((pt w i).1) + 1) (b := 1) (by rw [if_neg (fun q => h43 q.2)]) (if_pos (Or.inr ⟨fun q => h43 q.2, h72⟩))] at ih
              exact ih
        · have h43 := (z_lc0 (div_lt64 hu _)).mp h43
          refine V_iconst (pc' := 47) (nI 1) X dX6_put_46 ki_1 rfl ?_
          refine V_goto (pc' := 51) X dX6_put_47 (by decide) ?_
          refine V_istore (pc' := 53) [(0, .ref (y 0)), (1, .long (lN w)), (3, .int (nI ((pt w i).1))), (4, .int (nI ((pt w i).2))), (5, .int (nI i)), (6, .int (nI (w / 2 ^ (8 * i) % 256))), (7, .int (nI 1))] [1, 2, 3, 4, 5, 6, 0] X dX6_put_51 (Nat.le_of_ble_eq_true rfl) rfl rfl ?_
          refine V_iload (pc' := 55) 3 X dX6_put_53 rfl rfl ?_
          refine V_if_ne (pc' := 58) (C := ((pt w i).2) = 0) 75 X dX6_put_55 (by decide) rfl (z_eq0 (by have := (pt_le w i).2; omega)) (fun h55 => ?_) (fun h55 => ?_)
          · refine V_iconst (pc' := 76) (nI 1) X dX6_put_75 ki_1 rfl ?_
            refine V_goto (pc' := 80) X dX6_put_76 (by decide) ?_
            refine V_istore (pc' := 82) [(0, .ref (y 0)), (1, .long (lN w)), (3, .int (nI ((pt w i).1))), (4, .int (nI 1)), (5, .int (nI i)), (6, .int (nI (w / 2 ^ (8 * i) % 256))), (7, .int (nI 1))] [1, 2, 3, 0, 4, 5, 6] X dX6_put_80 (Nat.le_of_ble_eq_true rfl) rfl rfl ?_
            refine V_iload_n (pc' := 83) 2 X dX6_put_82 rfl rfl rfl ?_
            refine V_iload (pc' := 85) 6 X dX6_put_83 rfl rfl ?_
            refine V_if_eq (pc' := 88) (C := 1 = 0) 92 X dX6_put_85 (by decide) rfl (z_eq0 (by omega)) (fun hz => absurd hz (by decide)) (fun _ => ?_)
            refine V_iconst (pc' := 89) (nI 0) X dX6_put_88 ki_0 rfl ?_
            refine V_goto (pc' := 93) X dX6_put_89 (by decide) ?_
            refine V_iadd (pc' := 94) (nI (((pt w i).1) + 0)) X dX6_put_93 (nI_add _ _) rfl ?_
            refine V_istore_n (pc' := 95) [(0, .ref (y 0)), (1, .long (lN w)), (3, .int (nI (((pt w i).1) + 0))), (4, .int (nI 1)), (5, .int (nI i)), (6, .int (nI (w / 2 ^ (8 * i) % 256))), (7, .int (nI 1))] [1, 2, 0, 3, 4, 5, 6] X dX6_put_94 rfl (Nat.le_of_ble_eq_true rfl) rfl rfl ?_
            refine V_iinc (pc' := 98) [(0, .ref (y 0)), (1, .long (lN w)), (3, .int (nI (((pt w i).1) + 0))), (4, .int (nI 1)), (5, .int (nI (i + 1))), (6, .int (nI (w / 2 ^ (8 * i) % 256))), (7, .int (nI 1))] 4 [1, 2, 3, 4, 0, 5, 6] X dX6_put_95 rfl (nI_i1 _) (Nat.le_of_ble_eq_true rfl) rfl rfl ?_
            refine V_goto (pc' := 8) X dX6_put_98 (by decide) ?_
            refine V_lv [0, 1, 2, 3, 4] [(0, .ref (y 0)), (1, .long (lN w)), (3, .int (nI (((pt w i).1) + 0))), (4, .int (nI 1)), (5, .int (nI (i + 1)))] rfl ?_
            rw [pt_next (a := ((pt w i).1) + 0) (b := 1) (by rw [if_pos ⟨by omega, h43⟩]) (if_pos (Or.inl (by have := (pt_le w i).2; omega)))] at ih
            exact ih
          · refine V_iload (pc' := 60) 6 X dX6_put_58 rfl rfl ?_
            refine V_if_ne (pc' := 63) (C := 1 = 0) 79 X dX6_put_60 (by decide) rfl (z_eq0 (by omega)) (fun _ => ?_) (fun hz => absurd hz (by decide))
            refine V_iconst (pc' := 80) (nI 0) X dX6_put_79 ki_0 rfl ?_
            refine V_istore (pc' := 82) [(0, .ref (y 0)), (1, .long (lN w)), (3, .int (nI ((pt w i).1))), (4, .int (nI 0)), (5, .int (nI i)), (6, .int (nI (w / 2 ^ (8 * i) % 256))), (7, .int (nI 1))] [1, 2, 3, 0, 4, 5, 6] X dX6_put_80 (Nat.le_of_ble_eq_true rfl) rfl rfl ?_
            refine V_iload_n (pc' := 83) 2 X dX6_put_82 rfl rfl rfl ?_
            refine V_iload (pc' := 85) 6 X dX6_put_83 rfl rfl ?_
            refine V_if_eq (pc' := 88) (C := 1 = 0) 92 X dX6_put_85 (by decide) rfl (z_eq0 (by omega)) (fun hz => absurd hz (by decide)) (fun _ => ?_)
            refine V_iconst (pc' := 89) (nI 0) X dX6_put_88 ki_0 rfl ?_
            refine V_goto (pc' := 93) X dX6_put_89 (by decide) ?_
            refine V_iadd (pc' := 94) (nI (((pt w i).1) + 0)) X dX6_put_93 (nI_add _ _) rfl ?_
            refine V_istore_n (pc' := 95) [(0, .ref (y 0)), (1, .long (lN w)), (3, .int (nI (((pt w i).1) + 0))), (4, .int (nI 0)), (5, .int (nI i)), (6, .int (nI (w / 2 ^ (8 * i) % 256))), (7, .int (nI 1))] [1, 2, 0, 3, 4, 5, 6] X dX6_put_94 rfl (Nat.le_of_ble_eq_true rfl) rfl rfl ?_
            refine V_iinc (pc' := 98) [(0, .ref (y 0)), (1, .long (lN w)), (3, .int (nI (((pt w i).1) + 0))), (4, .int (nI 0)), (5, .int (nI (i + 1))), (6, .int (nI (w / 2 ^ (8 * i) % 256))), (7, .int (nI 1))] 4 [1, 2, 3, 4, 0, 5, 6] X dX6_put_95 rfl (nI_i1 _) (Nat.le_of_ble_eq_true rfl) rfl rfl ?_
            refine V_goto (pc' := 8) X dX6_put_98 (by decide) ?_
            refine V_lv [0, 1, 2, 3, 4] [(0, .ref (y 0)), (1, .long (lN w)), (3, .int (nI (((pt w i).1) + 0))), (4, .int (nI 0)), (5, .int (nI (i + 1)))] rfl ?_
            rw [pt_next (a := ((pt w i).1) + 0) (b := 0) (by rw [if_pos ⟨by omega, h43⟩]) (if_neg (fun q => q.elim (fun z => absurd z (by omega)) (fun z => z.1 ⟨by omega, h43⟩)))] at ih
            exact ih
  exact lp_1 0 (Nat.zero_le _)

set_option maxHeartbeats 4000000 in
set_option maxRecDepth 100000 in
theorem c_X6_init (l : Launch) (G : gT) (q : Nat) : CM l G yX6_init wsX6_init 2 33 0 [.ref q] [[(q, .inr (6, [.int 0, .null, .null, .null, .null, .int 0, .null, .int 0, .null, .null, .int 0]))]] 7 734 (fun v u => ∃ y : Nat → Nat, y 0 = q ∧ v = none ∧ u = [MO y 0 0 0 0, RW G (y 1) 70 (S0 9), RW G (y 2) 140 (fun _ => 0), RZ G (y 3) 2 (fun _ => 0), RW G (y 4) 420 (fun _ => 0), RW G (y 5) 60 (fun _ => 0), RW G (y 6) 10 (fun _ => 0), RW G (y 7) 32 (fun _ => 0)]) := by
  refine CM_of RX6 1 12 rfl rfl (by decide) (by decide +kernel) (Nat.le_of_ble_eq_true rfl) (fun E A X hrt hnm => ?_)
  have hin : (e_h E).name = "<init>" := hnm
  have F7 := Fld_of (idx := 7) 6 1 X (by decide) (by decide) (by decide +kernel) (by decide +kernel)
  have F13 := Fld_of (idx := 13) 6 2 X (by decide) (by decide) (by decide +kernel) (by decide +kernel)
  have F16 := Fld_of (idx := 16) 6 3 X (by decide) (by decide) (by decide +kernel) (by decide +kernel)
  have F20 := Fld_of (idx := 20) 6 4 X (by decide) (by decide) (by decide +kernel) (by decide +kernel)
  have F23 := Fld_of (idx := 23) 6 6 X (by decide) (by decide) (by decide +kernel) (by decide +kernel)
  have F26 := Fld_of (idx := 26) 6 8 X (by decide) (by decide) (by decide +kernel) (by decide +kernel)
  have F29 := Fld_of (idx := 29) 6 9 X (by decide) (by decide) (by decide +kernel) (by decide +kernel)
  generalize hQ : QM E G A _ _ _ = Q
  show V E G A 2 [[(q, .inr (6, [.int 0, .null, .null, .null, .null, .int 0, .null, .int 0, .null, .null, .int 0]))]] 0 0 Q 0 [(0, .ref q)] []
  refine V_aload_n (pc' := 1) 0 X dX6_init_0 rfl rfl rfl ?_
  refine V_obj (pc' := 4) X (by decide +kernel) (by decide +kernel) (by decide +kernel) dX6_init_1 (Nat.le_of_ble_eq_true rfl) (Nat.le_of_ble_eq_true rfl) rfl ?_
  refine V_aload_n (pc' := 5) 0 X dX6_init_4 rfl rfl rfl ?_
  refine V_bipush (pc' := 7) (nI 70) X dX6_init_5 kb_70 rfl ?_
  refine V_newi (pc' := 9) (n := 70) X (by decide +kernel) (by decide) (Nat.le_of_ble_eq_true rfl) (Nat.le_of_ble_eq_true rfl) dX6_init_7 rfl (fun q_1 => ?_)
  show V E G A 2 [[(q, .inr (6, [.int 0, .null, .null, .null, .null, .int 0, .null, .int 0, .null, .null, .int 0]))], [(q_1, .inl (G.2 0, 70, .inl (fun _ => 0)))]] 1 70 Q 9 [(0, .ref q)] [.ref q_1, .ref q]
  refine V_putF (pc' := 12) 0 [[(q, .inr (6, [.int 0, .ref q_1, .null, .null, .null, .int 0, .null, .int 0, .null, .null, .int 0]))], [(q_1, .inl (G.2 0, 70, .inl (fun _ => 0)))]] X F7 rfl rfl hin rfl rfl rfl (Nat.le_of_ble_eq_true rfl) rfl dX6_init_9 rfl ?_
  refine V_aload_n (pc' := 13) 0 X dX6_init_12 rfl rfl rfl ?_
  refine V_sipush (pc' := 16) (nI 140) X dX6_init_13 ks_140 rfl ?_
  refine V_newi (pc' := 18) (n := 140) X (by decide +kernel) (by decide) (Nat.le_of_ble_eq_true rfl) (Nat.le_of_ble_eq_true rfl) dX6_init_16 rfl (fun q_2 => ?_)
  show V E G A 2 [[(q, .inr (6, [.int 0, .ref q_1, .null, .null, .null, .int 0, .null, .int 0, .null, .null, .int 0]))], [(q_1, .inl (G.2 0, 70, .inl (fun _ => 0)))], [(q_2, .inl (G.2 0, 140, .inl (fun _ => 0)))]] 2 210 Q 18 [(0, .ref q)] [.ref q_2, .ref q]
  refine V_putF (pc' := 21) 0 [[(q, .inr (6, [.int 0, .ref q_1, .ref q_2, .null, .null, .int 0, .null, .int 0, .null, .null, .int 0]))], [(q_1, .inl (G.2 0, 70, .inl (fun _ => 0)))], [(q_2, .inl (G.2 0, 140, .inl (fun _ => 0)))]] X F13 rfl rfl hin rfl rfl rfl (Nat.le_of_ble_eq_true rfl) rfl dX6_init_18 rfl ?_
  refine V_aload_n (pc' := 22) 0 X dX6_init_21 rfl rfl rfl ?_
  refine V_iconst (pc' := 23) (nI 2) X dX6_init_22 ki_2 rfl ?_
  refine V_newz (pc' := 25) (n := 2) X (by decide +kernel) (by decide) (Nat.le_of_ble_eq_true rfl) (Nat.le_of_ble_eq_true rfl) dX6_init_23 rfl (fun q_3 => ?_)
  show V E G A 2 [[(q, .inr (6, [.int 0, .ref q_1, .ref q_2, .null, .null, .int 0, .null, .int 0, .null, .null, .int 0]))], [(q_1, .inl (G.2 0, 70, .inl (fun _ => 0)))], [(q_2, .inl (G.2 0, 140, .inl (fun _ => 0)))], [(q_3, .inl (G.2 2, 2, .inl (fun _ => 0)))]] 3 212 Q 25 [(0, .ref q)] [.ref q_3, .ref q]
  refine V_putF (pc' := 28) 0 [[(q, .inr (6, [.int 0, .ref q_1, .ref q_2, .ref q_3, .null, .int 0, .null, .int 0, .null, .null, .int 0]))], [(q_1, .inl (G.2 0, 70, .inl (fun _ => 0)))], [(q_2, .inl (G.2 0, 140, .inl (fun _ => 0)))], [(q_3, .inl (G.2 2, 2, .inl (fun _ => 0)))]] X F16 rfl rfl hin rfl rfl rfl (Nat.le_of_ble_eq_true rfl) rfl dX6_init_25 rfl ?_
  refine V_aload_n (pc' := 29) 0 X dX6_init_28 rfl rfl rfl ?_
  refine V_sipush (pc' := 32) (nI 420) X dX6_init_29 ks_420 rfl ?_
  refine V_newi (pc' := 34) (n := 420) X (by decide +kernel) (by decide) (Nat.le_of_ble_eq_true rfl) (Nat.le_of_ble_eq_true rfl) dX6_init_32 rfl (fun q_4 => ?_)
  show V E G A 2 [[(q, .inr (6, [.int 0, .ref q_1, .ref q_2, .ref q_3, .null, .int 0, .null, .int 0, .null, .null, .int 0]))], [(q_1, .inl (G.2 0, 70, .inl (fun _ => 0)))], [(q_2, .inl (G.2 0, 140, .inl (fun _ => 0)))], [(q_3, .inl (G.2 2, 2, .inl (fun _ => 0)))], [(q_4, .inl (G.2 0, 420, .inl (fun _ => 0)))]] 4 632 Q 34 [(0, .ref q)] [.ref q_4, .ref q]
  refine V_putF (pc' := 37) 0 [[(q, .inr (6, [.int 0, .ref q_1, .ref q_2, .ref q_3, .ref q_4, .int 0, .null, .int 0, .null, .null, .int 0]))], [(q_1, .inl (G.2 0, 70, .inl (fun _ => 0)))], [(q_2, .inl (G.2 0, 140, .inl (fun _ => 0)))], [(q_3, .inl (G.2 2, 2, .inl (fun _ => 0)))], [(q_4, .inl (G.2 0, 420, .inl (fun _ => 0)))]] X F20 rfl rfl hin rfl rfl rfl (Nat.le_of_ble_eq_true rfl) rfl dX6_init_34 rfl ?_
  refine V_aload_n (pc' := 38) 0 X dX6_init_37 rfl rfl rfl ?_
  refine V_bipush (pc' := 40) (nI 60) X dX6_init_38 kb_60 rfl ?_
  refine V_newi (pc' := 42) (n := 60) X (by decide +kernel) (by decide) (Nat.le_of_ble_eq_true rfl) (Nat.le_of_ble_eq_true rfl) dX6_init_40 rfl (fun q_5 => ?_)
  show V E G A 2 [[(q, .inr (6, [.int 0, .ref q_1, .ref q_2, .ref q_3, .ref q_4, .int 0, .null, .int 0, .null, .null, .int 0]))], [(q_1, .inl (G.2 0, 70, .inl (fun _ => 0)))], [(q_2, .inl (G.2 0, 140, .inl (fun _ => 0)))], [(q_3, .inl (G.2 2, 2, .inl (fun _ => 0)))], [(q_4, .inl (G.2 0, 420, .inl (fun _ => 0)))], [(q_5, .inl (G.2 0, 60, .inl (fun _ => 0)))]] 5 692 Q 42 [(0, .ref q)] [.ref q_5, .ref q]
  refine V_putF (pc' := 45) 0 [[(q, .inr (6, [.int 0, .ref q_1, .ref q_2, .ref q_3, .ref q_4, .int 0, .ref q_5, .int 0, .null, .null, .int 0]))], [(q_1, .inl (G.2 0, 70, .inl (fun _ => 0)))], [(q_2, .inl (G.2 0, 140, .inl (fun _ => 0)))], [(q_3, .inl (G.2 2, 2, .inl (fun _ => 0)))], [(q_4, .inl (G.2 0, 420, .inl (fun _ => 0)))], [(q_5, .inl (G.2 0, 60, .inl (fun _ => 0)))]] X F23 rfl rfl hin rfl rfl rfl (Nat.le_of_ble_eq_true rfl) rfl dX6_init_42 rfl ?_
  refine V_aload_n (pc' := 46) 0 X dX6_init_45 rfl rfl rfl ?_
  refine V_bipush (pc' := 48) (nI 10) X dX6_init_46 kb_10 rfl ?_
  refine V_newi (pc' := 50) (n := 10) X (by decide +kernel) (by decide) (Nat.le_of_ble_eq_true rfl) (Nat.le_of_ble_eq_true rfl) dX6_init_48 rfl (fun q_6 => ?_)
  show V E G A 2 [[(q, .inr (6, [.int 0, .ref q_1, .ref q_2, .ref q_3, .ref q_4, .int 0, .ref q_5, .int 0, .null, .null, .int 0]))], [(q_1, .inl (G.2 0, 70, .inl (fun _ => 0)))], [(q_2, .inl (G.2 0, 140, .inl (fun _ => 0)))], [(q_3, .inl (G.2 2, 2, .inl (fun _ => 0)))], [(q_4, .inl (G.2 0, 420, .inl (fun _ => 0)))], [(q_5, .inl (G.2 0, 60, .inl (fun _ => 0)))], [(q_6, .inl (G.2 0, 10, .inl (fun _ => 0)))]] 6 702 Q 50 [(0, .ref q)] [.ref q_6, .ref q]
  refine V_putF (pc' := 53) 0 [[(q, .inr (6, [.int 0, .ref q_1, .ref q_2, .ref q_3, .ref q_4, .int 0, .ref q_5, .int 0, .ref q_6, .null, .int 0]))], [(q_1, .inl (G.2 0, 70, .inl (fun _ => 0)))], [(q_2, .inl (G.2 0, 140, .inl (fun _ => 0)))], [(q_3, .inl (G.2 2, 2, .inl (fun _ => 0)))], [(q_4, .inl (G.2 0, 420, .inl (fun _ => 0)))], [(q_5, .inl (G.2 0, 60, .inl (fun _ => 0)))], [(q_6, .inl (G.2 0, 10, .inl (fun _ => 0)))]] X F26 rfl rfl hin rfl rfl rfl (Nat.le_of_ble_eq_true rfl) rfl dX6_init_50 rfl ?_
  refine V_aload_n (pc' := 54) 0 X dX6_init_53 rfl rfl rfl ?_
  refine V_bipush (pc' := 56) (nI 32) X dX6_init_54 kb_32 rfl ?_
  refine V_newi (pc' := 58) (n := 32) X (by decide +kernel) (by decide) (Nat.le_of_ble_eq_true rfl) (Nat.le_of_ble_eq_true rfl) dX6_init_56 rfl (fun q_7 => ?_)
  show V E G A 2 [[(q, .inr (6, [.int 0, .ref q_1, .ref q_2, .ref q_3, .ref q_4, .int 0, .ref q_5, .int 0, .ref q_6, .null, .int 0]))], [(q_1, .inl (G.2 0, 70, .inl (fun _ => 0)))], [(q_2, .inl (G.2 0, 140, .inl (fun _ => 0)))], [(q_3, .inl (G.2 2, 2, .inl (fun _ => 0)))], [(q_4, .inl (G.2 0, 420, .inl (fun _ => 0)))], [(q_5, .inl (G.2 0, 60, .inl (fun _ => 0)))], [(q_6, .inl (G.2 0, 10, .inl (fun _ => 0)))], [(q_7, .inl (G.2 0, 32, .inl (fun _ => 0)))]] 7 734 Q 58 [(0, .ref q)] [.ref q_7, .ref q]
  refine V_putF (pc' := 61) 0 [[(q, .inr (6, [.int 0, .ref q_1, .ref q_2, .ref q_3, .ref q_4, .int 0, .ref q_5, .int 0, .ref q_6, .ref q_7, .int 0]))], [(q_1, .inl (G.2 0, 70, .inl (fun _ => 0)))], [(q_2, .inl (G.2 0, 140, .inl (fun _ => 0)))], [(q_3, .inl (G.2 2, 2, .inl (fun _ => 0)))], [(q_4, .inl (G.2 0, 420, .inl (fun _ => 0)))], [(q_5, .inl (G.2 0, 60, .inl (fun _ => 0)))], [(q_6, .inl (G.2 0, 10, .inl (fun _ => 0)))], [(q_7, .inl (G.2 0, 32, .inl (fun _ => 0)))]] X F29 rfl rfl hin rfl rfl rfl (Nat.le_of_ble_eq_true rfl) rfl dX6_init_58 rfl ?_
  refine V_iconst (pc' := 62) (nI 0) X dX6_init_61 ki_0 rfl ?_
  refine V_istore_n (pc' := 63) [(0, .ref q), (1, .int (nI 0))] [1, 0] X dX6_init_62 rfl (Nat.le_of_ble_eq_true rfl) rfl rfl ?_
  refine V_wsq [[(q, .inr (6, [.int 0, .ref q_1, .ref q_2, .ref q_3, .ref q_4, .int 0, .ref q_5, .int 0, .ref q_6, .ref q_7, .int 0]))], [(q_1, .inl (G.2 0, 70, .inl (nf (n1 0))))], [(q_2, .inl (G.2 0, 140, .inl (fun _ => 0)))], [(q_3, .inl (G.2 2, 2, .inl (fun _ => 0)))], [(q_4, .inl (G.2 0, 420, .inl (fun _ => 0)))], [(q_5, .inl (G.2 0, 60, .inl (fun _ => 0)))], [(q_6, .inl (G.2 0, 10, .inl (fun _ => 0)))], [(q_7, .inl (G.2 0, 32, .inl (fun _ => 0)))]] (wsq.app (wsq.cons (weq.rf _) (wsq.rf _)) (wsq.app (wsq.cons (weq.row (fun k hk => by show (0 : Int32) = nI (n1 0 k); unfold n1; rw [if_neg (by omega)]; exact nI_0.symm)) (wsq.rf _)) (wsq.rf _))) ?_
  have lp_8 : ∀ i, i ≤ 4 → V E G A 2 [[(q, .inr (6, [.int 0, .ref q_1, .ref q_2, .ref q_3, .ref q_4, .int 0, .ref q_5, .int 0, .ref q_6, .ref q_7, .int 0]))], [(q_1, .inl (G.2 0, 70, .inl (nf (n1 i))))], [(q_2, .inl (G.2 0, 140, .inl (fun _ => 0)))], [(q_3, .inl (G.2 2, 2, .inl (fun _ => 0)))], [(q_4, .inl (G.2 0, 420, .inl (fun _ => 0)))], [(q_5, .inl (G.2 0, 60, .inl (fun _ => 0)))], [(q_6, .inl (G.2 0, 10, .inl (fun _ => 0)))], [(q_7, .inl (G.2 0, 32, .inl (fun _ => 0)))]] 7 734 Q 63 [(0, .ref q), (1, .int (nI i))] [] := by
    refine loopD 4 ?_ ?_
    · show V E G A 2 [[(q, .inr (6, [.int 0, .ref q_1, .ref q_2, .ref q_3, .ref q_4, .int 0, .ref q_5, .int 0, .ref q_6, .ref q_7, .int 0]))], [(q_1, .inl (G.2 0, 70, .inl (nf (n1 4))))], [(q_2, .inl (G.2 0, 140, .inl (fun _ => 0)))], [(q_3, .inl (G.2 2, 2, .inl (fun _ => 0)))], [(q_4, .inl (G.2 0, 420, .inl (fun _ => 0)))], [(q_5, .inl (G.2 0, 60, .inl (fun _ => 0)))], [(q_6, .inl (G.2 0, 10, .inl (fun _ => 0)))], [(q_7, .inl (G.2 0, 32, .inl (fun _ => 0)))]] 7 734 Q 63 [(0, .ref q), (1, .int (nI 4))] []
      refine V_iload_n (pc' := 64) 1 X dX6_init_63 rfl rfl rfl ?_
      refine V_iconst (pc' := 65) (nI 4) X dX6_init_64 ki_4 rfl ?_
      refine V_icmp_ge (pc' := 68) (C := 4 ≤ 4) 84 X dX6_init_65 (by decide) rfl (nI_leI (by omega) (by omega)) (fun _ => ?_) (fun hz => absurd (by omega) hz)
      refine V_iconst (pc' := 85) (nI 0) X dX6_init_84 ki_0 rfl ?_
      refine V_istore_n (pc' := 86) [(0, .ref q), (1, .int (nI 0))] [1, 0] X dX6_init_85 rfl (Nat.le_of_ble_eq_true rfl) rfl rfl ?_
      refine V_wsq [[(q, .inr (6, [.int 0, .ref q_1, .ref q_2, .ref q_3, .ref q_4, .int 0, .ref q_5, .int 0, .ref q_6, .ref q_7, .int 0]))], [(q_1, .inl (G.2 0, 70, .inl (nf (n2 0))))], [(q_2, .inl (G.2 0, 140, .inl (fun _ => 0)))], [(q_3, .inl (G.2 2, 2, .inl (fun _ => 0)))], [(q_4, .inl (G.2 0, 420, .inl (fun _ => 0)))], [(q_5, .inl (G.2 0, 60, .inl (fun _ => 0)))], [(q_6, .inl (G.2 0, 10, .inl (fun _ => 0)))], [(q_7, .inl (G.2 0, 32, .inl (fun _ => 0)))]] (wsq.app (wsq.cons (weq.rf _) (wsq.rf _)) (wsq.app (wsq.cons (weq.row (fun k hk => congrArg nI (by unfold n2; rw [if_neg (by omega), if_neg (by omega)]))) (wsq.rf _)) (wsq.rf _))) ?_
      have lp_9 : ∀ i, i ≤ 10 → V E G A 2 [[(q, .inr (6, [.int 0, .ref q_1, .ref q_2, .ref q_3, .ref q_4, .int 0, .ref q_5, .int 0, .ref q_6, .ref q_7, .int 0]))], [(q_1, .inl (G.2 0, 70, .inl (nf (n2 i))))], [(q_2, .inl (G.2 0, 140, .inl (fun _ => 0)))], [(q_3, .inl (G.2 2, 2, .inl (fun _ => 0)))], [(q_4, .inl (G.2 0, 420, .inl (fun _ => 0)))], [(q_5, .inl (G.2 0, 60, .inl (fun _ => 0)))], [(q_6, .inl (G.2 0, 10, .inl (fun _ => 0)))], [(q_7, .inl (G.2 0, 32, .inl (fun _ => 0)))]] 7 734 Q 86 [(0, .ref q), (1, .int (nI i))] [] := by
        refine loopD 10 ?_ ?_
        · show V E G A 2 [[(q, .inr (6, [.int 0, .ref q_1, .ref q_2, .ref q_3, .ref q_4, .int 0, .ref q_5, .int 0, .ref q_6, .ref q_7, .int 0]))], [(q_1, .inl (G.2 0, 70, .inl (nf (n2 10))))], [(q_2, .inl (G.2 0, 140, .inl (fun _ => 0)))], [(q_3, .inl (G.2 2, 2, .inl (fun _ => 0)))], [(q_4, .inl (G.2 0, 420, .inl (fun _ => 0)))], [(q_5, .inl (G.2 0, 60, .inl (fun _ => 0)))], [(q_6, .inl (G.2 0, 10, .inl (fun _ => 0)))], [(q_7, .inl (G.2 0, 32, .inl (fun _ => 0)))]] 7 734 Q 86 [(0, .ref q), (1, .int (nI 10))] []
          refine V_iload_n (pc' := 87) 1 X dX6_init_86 rfl rfl rfl ?_
          refine V_bipush (pc' := 89) (nI 10) X dX6_init_87 kb_10 rfl ?_
          refine V_icmp_ge (pc' := 92) (C := 10 ≤ 10) 125 X dX6_init_89 (by decide) rfl (nI_leI (by omega) (by omega)) (fun _ => ?_) (fun hz => absurd (by omega) hz)
          refine V_aload_n (pc' := 126) 0 X dX6_init_125 rfl rfl rfl ?_
          refine V_get (pc' := 129) 0 X F7 rfl rfl dX6_init_126 rfl ?_
          refine V_bipush (pc' := 131) (nI 46) X dX6_init_129 kb_46 rfl ?_
          refine V_bipush (pc' := 133) (nI 120) X dX6_init_131 kb_120 rfl ?_
          refine V_iast (pc' := 134) 1 46 [[(q, .inr (6, [.int 0, .ref q_1, .ref q_2, .ref q_3, .ref q_4, .int 0, .ref q_5, .int 0, .ref q_6, .ref q_7, .int 0]))], [(q_1, .inl (G.2 0, 70, .inl (upd (nf (n2 10)) 46 (nI 120))))], [(q_2, .inl (G.2 0, 140, .inl (fun _ => 0)))], [(q_3, .inl (G.2 2, 2, .inl (fun _ => 0)))], [(q_4, .inl (G.2 0, 420, .inl (fun _ => 0)))], [(q_5, .inl (G.2 0, 60, .inl (fun _ => 0)))], [(q_6, .inl (G.2 0, 10, .inl (fun _ => 0)))], [(q_7, .inl (G.2 0, 32, .inl (fun _ => 0)))]] X rfl (by omega) (by decide) rfl dX6_init_133 rfl ?_
          refine V_ws [[(q, .inr (6, [.int 0, .ref q_1, .ref q_2, .ref q_3, .ref q_4, .int 0, .ref q_5, .int 0, .ref q_6, .ref q_7, .int 0]))], [(q_1, .inl (G.2 0, 70, .inl (nf (va_up (n2 10) 46 120))))], [(q_2, .inl (G.2 0, 140, .inl (fun _ => 0)))], [(q_3, .inl (G.2 2, 2, .inl (fun _ => 0)))], [(q_4, .inl (G.2 0, 420, .inl (fun _ => 0)))], [(q_5, .inl (G.2 0, 60, .inl (fun _ => 0)))], [(q_6, .inl (G.2 0, 10, .inl (fun _ => 0)))], [(q_7, .inl (G.2 0, 32, .inl (fun _ => 0)))]] (by simp only [nf_upd]) ?_
          refine V_ws [[(q, .inr (6, [.int 0, .ref q_1, .ref q_2, .ref q_3, .ref q_4, .int 0, .ref q_5, .int 0, .ref q_6, .ref q_7, .int 0]))], [(q_1, .inl (G.2 0, 70, .inl (nf (va_up (n2 10) 46 120))))], [(q_2, .inl (G.2 0, 140, .inl (fun _ => 0)))], [(q_3, .inl (G.2 2, 2, .inl (fun _ => 0)))], [(q_4, .inl (G.2 0, 420, .inl (fun _ => 0)))], [(q_5, .inl (G.2 0, 60, .inl (fun _ => 0)))], [(q_6, .inl (G.2 0, 10, .inl (fun _ => 0)))], [(q_7, .inl (G.2 0, 32, .inl (fun _ => 0)))]] rfl ?_
          refine V_ws [[(q, .inr (6, [.int 0, .ref q_1, .ref q_2, .ref q_3, .ref q_4, .int 0, .ref q_5, .int 0, .ref q_6, .ref q_7, .int 0]))], [(q_1, .inl (G.2 0, 70, .inl (nf (va_up (n2 10) 46 120))))], [(q_2, .inl (G.2 0, 140, .inl (fun _ => 0)))], [(q_3, .inl (G.2 2, 2, .inl (fun _ => 0)))], [(q_4, .inl (G.2 0, 420, .inl (fun _ => 0)))], [(q_5, .inl (G.2 0, 60, .inl (fun _ => 0)))], [(q_6, .inl (G.2 0, 10, .inl (fun _ => 0)))], [(q_7, .inl (G.2 0, 32, .inl (fun _ => 0)))]] rfl ?_
          refine V_wsq [MO (fun k => ([q, q_1, q_2, q_3, q_4, q_5, q_6, q_7].getD k 0)) 0 0 0 0, RW G ((fun k => ([q, q_1, q_2, q_3, q_4, q_5, q_6, q_7].getD k 0)) 1) 70 (S0 9), RW G ((fun k => ([q, q_1, q_2, q_3, q_4, q_5, q_6, q_7].getD k 0)) 2) 140 (fun _ => 0), RZ G ((fun k => ([q, q_1, q_2, q_3, q_4, q_5, q_6, q_7].getD k 0)) 3) 2 (fun _ => 0), RW G ((fun k => ([q, q_1, q_2, q_3, q_4, q_5, q_6, q_7].getD k 0)) 4) 420 (fun _ => 0), RW G ((fun k => ([q, q_1, q_2, q_3, q_4, q_5, q_6, q_7].getD k 0)) 5) 60 (fun _ => 0), RW G ((fun k => ([q, q_1, q_2, q_3, q_4, q_5, q_6, q_7].getD k 0)) 6) 10 (fun _ => 0), RW G ((fun k => ([q, q_1, q_2, q_3, q_4, q_5, q_6, q_7].getD k 0)) 7) 32 (fun _ => 0)] (wsq.app (wsq.cons (weq.rf _) (wsq.rf _)) (wsq.app (wsq.cons (weq.row (fun k hk => congrArg nI (n2_end hk))) (wsq.rf _)) (wsq.app (wsq.cons (weq.row (fun k hk => nI_0.symm)) (wsq.rf _)) (wsq.app (wsq.cons (weq.row (fun k hk => nI_0.symm)) (wsq.rf _)) (wsq.app (wsq.cons (weq.row (fun k hk => nI_0.symm)) (wsq.rf _)) (wsq.app (wsq.cons (weq.row (fun k hk => nI_0.symm)) (wsq.rf _)) (wsq.app (wsq.cons (weq.row (fun k hk => nI_0.symm)) (wsq.rf _)) (wsq.app (wsq.cons (weq.row (fun k hk => nI_0.symm)) (wsq.rf _)) (wsq.rf _))))))))) ?_
          exact V_return [MO (fun k => ([q, q_1, q_2, q_3, q_4, q_5, q_6, q_7].getD k 0)) 0 0 0 0, RW G ((fun k => ([q, q_1, q_2, q_3, q_4, q_5, q_6, q_7].getD k 0)) 1) 70 (S0 9), RW G ((fun k => ([q, q_1, q_2, q_3, q_4, q_5, q_6, q_7].getD k 0)) 2) 140 (fun _ => 0), RZ G ((fun k => ([q, q_1, q_2, q_3, q_4, q_5, q_6, q_7].getD k 0)) 3) 2 (fun _ => 0), RW G ((fun k => ([q, q_1, q_2, q_3, q_4, q_5, q_6, q_7].getD k 0)) 4) 420 (fun _ => 0), RW G ((fun k => ([q, q_1, q_2, q_3, q_4, q_5, q_6, q_7].getD k 0)) 5) 60 (fun _ => 0), RW G ((fun k => ([q, q_1, q_2, q_3, q_4, q_5, q_6, q_7].getD k 0)) 6) 10 (fun _ => 0), RW G ((fun k => ([q, q_1, q_2, q_3, q_4, q_5, q_6, q_7].getD k 0)) 7) 32 (fun _ => 0)] hQ X hrt dX6_init_134 (Nat.le_of_ble_eq_true rfl) (Nat.le_of_ble_eq_true rfl) (List.Perm.refl _) ⟨_, rfl, rfl, rfl⟩
        · intro i hi_i ih
          show V E G A 2 [[(q, .inr (6, [.int 0, .ref q_1, .ref q_2, .ref q_3, .ref q_4, .int 0, .ref q_5, .int 0, .ref q_6, .ref q_7, .int 0]))], [(q_1, .inl (G.2 0, 70, .inl (nf (n2 i))))], [(q_2, .inl (G.2 0, 140, .inl (fun _ => 0)))], [(q_3, .inl (G.2 2, 2, .inl (fun _ => 0)))], [(q_4, .inl (G.2 0, 420, .inl (fun _ => 0)))], [(q_5, .inl (G.2 0, 60, .inl (fun _ => 0)))], [(q_6, .inl (G.2 0, 10, .inl (fun _ => 0)))], [(q_7, .inl (G.2 0, 32, .inl (fun _ => 0)))]] 7 734 Q 86 [(0, .ref q), (1, .int (nI i))] []
          refine V_iload_n (pc' := 87) 1 X dX6_init_86 rfl rfl rfl ?_
          refine V_bipush (pc' := 89) (nI 10) X dX6_init_87 kb_10 rfl ?_
          refine V_icmp_ge (pc' := 92) (C := 10 ≤ i) 125 X dX6_init_89 (by decide) rfl (nI_leI (by omega) (by omega)) (fun hz => absurd hz (by omega)) (fun _ => ?_)
          refine V_aload_n (pc' := 93) 0 X dX6_init_92 rfl rfl rfl ?_
          refine V_get (pc' := 96) 0 X F7 rfl rfl dX6_init_93 rfl ?_
          refine V_bipush (pc' := 98) (nI 36) X dX6_init_96 kb_36 rfl ?_
          refine V_iload_n (pc' := 99) 1 X dX6_init_98 rfl rfl rfl ?_
          refine V_iadd (pc' := 100) (nI (36 + i)) X dX6_init_99 (nI_add _ _) rfl ?_
          refine V_bipush (pc' := 102) (nI 60) X dX6_init_100 kb_60 rfl ?_
          refine V_bipush (pc' := 104) (nI 6) X dX6_init_102 kb_6 rfl ?_
          refine V_iload_n (pc' := 105) 1 X dX6_init_104 rfl rfl rfl ?_
          refine V_imul (pc' := 106) (nI (6 * i)) X dX6_init_105 (pk_mul _ _) rfl ?_
          refine V_isub (pc' := 107) (nI (60 - (6 * i))) X dX6_init_106 (pk_sub (by omega)) rfl ?_
          refine V_iast (pc' := 108) 1 (36 + i) [[(q, .inr (6, [.int 0, .ref q_1, .ref q_2, .ref q_3, .ref q_4, .int 0, .ref q_5, .int 0, .ref q_6, .ref q_7, .int 0]))], [(q_1, .inl (G.2 0, 70, .inl (upd (nf (n2 i)) (36 + i) (nI (60 - (6 * i))))))], [(q_2, .inl (G.2 0, 140, .inl (fun _ => 0)))], [(q_3, .inl (G.2 2, 2, .inl (fun _ => 0)))], [(q_4, .inl (G.2 0, 420, .inl (fun _ => 0)))], [(q_5, .inl (G.2 0, 60, .inl (fun _ => 0)))], [(q_6, .inl (G.2 0, 10, .inl (fun _ => 0)))], [(q_7, .inl (G.2 0, 32, .inl (fun _ => 0)))]] X rfl (by omega) (by decide) rfl dX6_init_107 rfl ?_
          refine V_ws [[(q, .inr (6, [.int 0, .ref q_1, .ref q_2, .ref q_3, .ref q_4, .int 0, .ref q_5, .int 0, .ref q_6, .ref q_7, .int 0]))], [(q_1, .inl (G.2 0, 70, .inl (nf (va_up (n2 i) (36 + i) (60 - (6 * i))))))], [(q_2, .inl (G.2 0, 140, .inl (fun _ => 0)))], [(q_3, .inl (G.2 2, 2, .inl (fun _ => 0)))], [(q_4, .inl (G.2 0, 420, .inl (fun _ => 0)))], [(q_5, .inl (G.2 0, 60, .inl (fun _ => 0)))], [(q_6, .inl (G.2 0, 10, .inl (fun _ => 0)))], [(q_7, .inl (G.2 0, 32, .inl (fun _ => 0)))]] (by simp only [nf_upd]) ?_
          refine V_aload_n (pc' := 109) 0 X dX6_init_108 rfl rfl rfl ?_
          refine V_get (pc' := 112) 0 X F7 rfl rfl dX6_init_109 rfl ?_
          refine V_bipush (pc' := 114) (nI 60) X dX6_init_112 kb_60 rfl ?_
          refine V_iload_n (pc' := 115) 1 X dX6_init_114 rfl rfl rfl ?_
          refine V_iadd (pc' := 116) (nI (60 + i)) X dX6_init_115 (nI_add _ _) rfl ?_
          refine V_bipush (pc' := 118) (nI 9) X dX6_init_116 kb_9 rfl ?_
          refine V_iast (pc' := 119) 1 (60 + i) [[(q, .inr (6, [.int 0, .ref q_1, .ref q_2, .ref q_3, .ref q_4, .int 0, .ref q_5, .int 0, .ref q_6, .ref q_7, .int 0]))], [(q_1, .inl (G.2 0, 70, .inl (upd (nf (va_up (n2 i) (36 + i) (60 - (6 * i)))) (60 + i) (nI 9))))], [(q_2, .inl (G.2 0, 140, .inl (fun _ => 0)))], [(q_3, .inl (G.2 2, 2, .inl (fun _ => 0)))], [(q_4, .inl (G.2 0, 420, .inl (fun _ => 0)))], [(q_5, .inl (G.2 0, 60, .inl (fun _ => 0)))], [(q_6, .inl (G.2 0, 10, .inl (fun _ => 0)))], [(q_7, .inl (G.2 0, 32, .inl (fun _ => 0)))]] X rfl (by omega) (by decide) rfl dX6_init_118 rfl ?_
          refine V_ws [[(q, .inr (6, [.int 0, .ref q_1, .ref q_2, .ref q_3, .ref q_4, .int 0, .ref q_5, .int 0, .ref q_6, .ref q_7, .int 0]))], [(q_1, .inl (G.2 0, 70, .inl (nf (va_up (va_up (n2 i) (36 + i) (60 - (6 * i))) (60 + i) 9))))], [(q_2, .inl (G.2 0, 140, .inl (fun _ => 0)))], [(q_3, .inl (G.2 2, 2, .inl (fun _ => 0)))], [(q_4, .inl (G.2 0, 420, .inl (fun _ => 0)))], [(q_5, .inl (G.2 0, 60, .inl (fun _ => 0)))], [(q_6, .inl (G.2 0, 10, .inl (fun _ => 0)))], [(q_7, .inl (G.2 0, 32, .inl (fun _ => 0)))]] (by simp only [nf_upd]) ?_
          refine V_iinc (pc' := 122) [(0, .ref q), (1, .int (nI (i + 1)))] 1 [1, 0] X dX6_init_119 rfl (nI_i1 _) (Nat.le_of_ble_eq_true rfl) rfl rfl ?_
          refine V_goto (pc' := 86) X dX6_init_122 (by decide) ?_
          refine V_wsq [[(q, .inr (6, [.int 0, .ref q_1, .ref q_2, .ref q_3, .ref q_4, .int 0, .ref q_5, .int 0, .ref q_6, .ref q_7, .int 0]))], [(q_1, .inl (G.2 0, 70, .inl (nf (n2 (i + 1)))))], [(q_2, .inl (G.2 0, 140, .inl (fun _ => 0)))], [(q_3, .inl (G.2 2, 2, .inl (fun _ => 0)))], [(q_4, .inl (G.2 0, 420, .inl (fun _ => 0)))], [(q_5, .inl (G.2 0, 60, .inl (fun _ => 0)))], [(q_6, .inl (G.2 0, 10, .inl (fun _ => 0)))], [(q_7, .inl (G.2 0, 32, .inl (fun _ => 0)))]] (wsq.app (wsq.cons (weq.rf _) (wsq.rf _)) (wsq.app (wsq.cons (weq.row (fun k hk => congrArg nI (n2_step hi_i))) (wsq.rf _)) (wsq.rf _))) ?_
          exact ih
      exact lp_9 0 (Nat.zero_le _)
    · intro i hi_i ih
      show V E G A 2 [[(q, .inr (6, [.int 0, .ref q_1, .ref q_2, .ref q_3, .ref q_4, .int 0, .ref q_5, .int 0, .ref q_6, .ref q_7, .int 0]))], [(q_1, .inl (G.2 0, 70, .inl (nf (n1 i))))], [(q_2, .inl (G.2 0, 140, .inl (fun _ => 0)))], [(q_3, .inl (G.2 2, 2, .inl (fun _ => 0)))], [(q_4, .inl (G.2 0, 420, .inl (fun _ => 0)))], [(q_5, .inl (G.2 0, 60, .inl (fun _ => 0)))], [(q_6, .inl (G.2 0, 10, .inl (fun _ => 0)))], [(q_7, .inl (G.2 0, 32, .inl (fun _ => 0)))]] 7 734 Q 63 [(0, .ref q), (1, .int (nI i))] []
      refine V_iload_n (pc' := 64) 1 X dX6_init_63 rfl rfl rfl ?_
      refine V_iconst (pc' := 65) (nI 4) X dX6_init_64 ki_4 rfl ?_
      refine V_icmp_ge (pc' := 68) (C := 4 ≤ i) 84 X dX6_init_65 (by decide) rfl (nI_leI (by omega) (by omega)) (fun hz => absurd hz (by omega)) (fun _ => ?_)
      refine V_aload_n (pc' := 69) 0 X dX6_init_68 rfl rfl rfl ?_
      refine V_get (pc' := 72) 0 X F7 rfl rfl dX6_init_69 rfl ?_
      refine V_bipush (pc' := 74) (nI 32) X dX6_init_72 kb_32 rfl ?_
      refine V_iload_n (pc' := 75) 1 X dX6_init_74 rfl rfl rfl ?_
      refine V_iadd (pc' := 76) (nI (32 + i)) X dX6_init_75 (nI_add _ _) rfl ?_
      refine V_iconst (pc' := 77) (nI 4) X dX6_init_76 ki_4 rfl ?_
      refine V_iast (pc' := 78) 1 (32 + i) [[(q, .inr (6, [.int 0, .ref q_1, .ref q_2, .ref q_3, .ref q_4, .int 0, .ref q_5, .int 0, .ref q_6, .ref q_7, .int 0]))], [(q_1, .inl (G.2 0, 70, .inl (upd (nf (n1 i)) (32 + i) (nI 4))))], [(q_2, .inl (G.2 0, 140, .inl (fun _ => 0)))], [(q_3, .inl (G.2 2, 2, .inl (fun _ => 0)))], [(q_4, .inl (G.2 0, 420, .inl (fun _ => 0)))], [(q_5, .inl (G.2 0, 60, .inl (fun _ => 0)))], [(q_6, .inl (G.2 0, 10, .inl (fun _ => 0)))], [(q_7, .inl (G.2 0, 32, .inl (fun _ => 0)))]] X rfl (by omega) (by decide) rfl dX6_init_77 rfl ?_
      refine V_ws [[(q, .inr (6, [.int 0, .ref q_1, .ref q_2, .ref q_3, .ref q_4, .int 0, .ref q_5, .int 0, .ref q_6, .ref q_7, .int 0]))], [(q_1, .inl (G.2 0, 70, .inl (nf (va_up (n1 i) (32 + i) 4))))], [(q_2, .inl (G.2 0, 140, .inl (fun _ => 0)))], [(q_3, .inl (G.2 2, 2, .inl (fun _ => 0)))], [(q_4, .inl (G.2 0, 420, .inl (fun _ => 0)))], [(q_5, .inl (G.2 0, 60, .inl (fun _ => 0)))], [(q_6, .inl (G.2 0, 10, .inl (fun _ => 0)))], [(q_7, .inl (G.2 0, 32, .inl (fun _ => 0)))]] (by simp only [nf_upd]) ?_
      refine V_iinc (pc' := 81) [(0, .ref q), (1, .int (nI (i + 1)))] 1 [1, 0] X dX6_init_78 rfl (nI_i1 _) (Nat.le_of_ble_eq_true rfl) rfl rfl ?_
      refine V_goto (pc' := 63) X dX6_init_81 (by decide) ?_
      refine V_wsq [[(q, .inr (6, [.int 0, .ref q_1, .ref q_2, .ref q_3, .ref q_4, .int 0, .ref q_5, .int 0, .ref q_6, .ref q_7, .int 0]))], [(q_1, .inl (G.2 0, 70, .inl (nf (n1 (i + 1)))))], [(q_2, .inl (G.2 0, 140, .inl (fun _ => 0)))], [(q_3, .inl (G.2 2, 2, .inl (fun _ => 0)))], [(q_4, .inl (G.2 0, 420, .inl (fun _ => 0)))], [(q_5, .inl (G.2 0, 60, .inl (fun _ => 0)))], [(q_6, .inl (G.2 0, 10, .inl (fun _ => 0)))], [(q_7, .inl (G.2 0, 32, .inl (fun _ => 0)))]] (wsq.app (wsq.cons (weq.rf _) (wsq.rf _)) (wsq.app (wsq.cons (weq.row (fun k hk => congrArg nI n1_step)) (wsq.rf _)) (wsq.rf _))) ?_
      exact ih
  exact lp_8 0 (Nat.zero_le _)
