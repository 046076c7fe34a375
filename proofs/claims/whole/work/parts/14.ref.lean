/-! the reference: its object y 0, its rows y 1 .. y 7 -/
theorem nI_0add (a : Nat) : nI 0 + nI a = nI a := by rw [nI_add, Nat.zero_add]
theorem nI_add0 (a : Nat) : nI a + nI 0 = nI a := by rw [nI_add, Nat.add_zero]
theorem nar_if (c : Prop) [Decidable c] : narrow .boolean (.int (nI (if c then 1 else 0))) = .int (nI (if c then 1 else 0)) := by split <;> rfl
def MO (y : Nat → Nat) (t kn ln th : Nat) : va_W := [(y 0, .inr (6, [.int (nI t), .ref (y 1), .ref (y 2), .ref (y 3), .ref (y 4), .int (nI kn), .ref (y 5), .int (nI ln), .ref (y 6), .ref (y 7), .int (nI th)]))]
def RW (G : gT) (a n : Nat) (g : Nat → Nat) : va_W := [(a, .inl (G.2 0, n, .inl (nf g)))]
def RZ (G : gT) (a n : Nat) (g : Nat → Nat) : va_W := [(a, .inl (G.2 2, n, .inl (nf g)))]
/-- why a bell is missed, by the heard, the columns since, the bound -/
def mfv (s : Nat → Nat) (b h g B : Nat) : Nat := if g < 9 ∧ g + 1 < s (36 + b) / 20 + 1 then 1 else if B < wIn (fun k => s (36 + k)) h + s (36 + b) then 2 else 0
theorem mfv_le (s : Nat → Nat) (b h g B : Nat) : mfv s b h g B ≤ 2 := by unfold mfv; (repeat' split) <;> omega
theorem hr_bit (p : Nat) (g w : Nat → Nat) (B : Nat) : ∀ n i, i < n → bq (hr p g w B n).1 i = if bq p i = 1 ∧ w i / 20 ≤ g i ∧ (hr p g w B i).2 + w i ≤ B then 1 else 0
  | 0, i, h => absurd h (Nat.not_lt_zero _)
  | n + 1, i, h => by
    by_cases hc : bq p n = 1 ∧ w n / 20 ≤ g n ∧ (hr p g w B n).2 + w n ≤ B
    · rw [show hr p g w B (n + 1) = ((hr p g w B n).1 + 2 ^ n, (hr p g w B n).2 + w n) from if_pos hc]
      show bq ((hr p g w B n).1 + 2 ^ n) i = _
      rw [bq_add (hr_lt p g w B n)]
      by_cases e : i = n
      · rw [if_pos e, e, if_pos hc]
      · rw [if_neg e]; exact hr_bit p g w B n i (by omega)
    · rw [show hr p g w B (n + 1) = hr p g w B n from if_neg hc]
      by_cases e : i = n
      · rw [e, if_neg hc]
        unfold bq; rw [Nat.div_eq_of_lt (hr_lt p g w B n)]
      · exact hr_bit p g w B n i (by omega)
theorem wIn_add (w : Nat → Nat) {a k : Nat} (h : a < 2 ^ k) : ∀ n, sm (fun i => bq (a + 2 ^ k) i * w i) n = sm (fun i => bq a i * w i) n + (if k < n then w k else 0)
  | 0 => by rw [if_neg (Nat.not_lt_zero _)]; rfl
  | n + 1 => by
    rw [sm_succ, sm_succ, wIn_add w h n, bq_add h]
    by_cases e : n = k
    · rw [if_pos e, if_neg (by omega), if_pos (by omega), e, show bq a k = 0 by unfold bq; rw [Nat.div_eq_of_lt h]]; omega
    · rw [if_neg e]
      by_cases e2 : k < n
      · rw [if_pos e2, if_pos (by omega)]; omega
      · rw [if_neg e2, if_neg (by omega)]; omega
theorem hr_wIn (p : Nat) (g w : Nat → Nat) (B : Nat) : ∀ k, k ≤ 10 → wIn w (hr p g w B k).1 = (hr p g w B k).2
  | 0, _ => by
    show sm (fun i => bq 0 i * w i) 10 = 0
    have h : sm (fun i => bq 0 i * w i) 10 = sm (fun _ => 0) 10 := sm_congr (fun k _ => by show bq 0 k * w k = 0; rw [show bq 0 k = 0 by unfold bq; rw [Nat.zero_div], Nat.zero_mul])
    rw [h]; rfl
  | k + 1, hk => by
    by_cases hc : bq p k = 1 ∧ w k / 20 ≤ g k ∧ (hr p g w B k).2 + w k ≤ B
    · rw [show hr p g w B (k + 1) = ((hr p g w B k).1 + 2 ^ k, (hr p g w B k).2 + w k) from if_pos hc]
      show sm (fun i => bq ((hr p g w B k).1 + 2 ^ k) i * w i) 10 = (hr p g w B k).2 + w k
      rw [wIn_add w (hr_lt p g w B k), if_pos (by omega)]
      exact congrArg (· + w k) (hr_wIn p g w B k (by omega))
    · rw [show hr p g w B (k + 1) = hr p g w B k from if_neg hc]; exact hr_wIn p g w B k (by omega)
theorem mfv_0 {s : Nat → Nat} {p B b : Nat} {g : Nat → Nat} (hb : b < 10) (hw : s (36 + b) ≤ 60) (hg : g b ≤ 9) : mfv s b (hr p g (fun k => s (36 + k)) B b).1 (g b) B = 0 ↔ (s (36 + b) / 20 ≤ g b ∧ (hr p g (fun k => s (36 + k)) B b).2 + s (36 + b) ≤ B) := by
  unfold mfv
  rw [hr_wIn p g _ B b (by omega)]
  by_cases h1 : g b < 9 ∧ g b + 1 < s (36 + b) / 20 + 1
  · rw [if_pos h1]; omega
  · rw [if_neg h1]
    by_cases h2 : B < (hr p g (fun k => s (36 + k)) B b).2 + s (36 + b)
    · rw [if_pos h2]; omega
    · rw [if_neg h2]; omega
/-- striking: bells 0 .. i - 1 are done -/
def hq (s : Nat → Nat) (i : Nat) : Nat × Nat := hr (s (s 47)) (fun k => s (60 + k)) (fun k => s (36 + k)) (s 46) i
def sti (s : Nat → Nat) (i : Nat) : Nat → Nat := fun k => if 49 ≤ k ∧ k < 49 + i then s k + bq (hs s) (k - 49) else if k = 59 then s 59 + sm (fun j => bq (s (s 47)) j - bq (hs s) j) i else if 60 ≤ k ∧ k < 60 + i then swg 9 (fun j => s (60 + j)) (hs s) (k - 60) else s k
theorem sti_o {s : Nat → Nat} {i k : Nat} (h : k < 49 ∨ (49 + i ≤ k ∧ k < 59) ∨ 60 + i ≤ k) (hi : i ≤ 10) : sti s i k = s k := by
  unfold sti; rw [if_neg (by omega), if_neg (by omega), if_neg (by omega)]
theorem sti_0 {s : Nat → Nat} {k : Nat} : s k = sti s 0 k := by
  unfold sti
  rw [if_neg (by omega)]
  by_cases e : k = 59
  · rw [if_pos e, e]; rfl
  · rw [if_neg e, if_neg (by omega)]
theorem sti_59 {s : Nat → Nat} {i : Nat} (hi : i ≤ 10) : sti s i 59 = s 59 + sm (fun j => bq (s (s 47)) j - bq (hs s) j) i := by
  unfold sti; rw [if_neg (by omega), if_pos rfl]
theorem sti_step {s : Nat → Nat} {i b m v k : Nat} (hi : i < 10) (hb : b = bq (hs s) i) (hm : m = bq (s (s 47)) i - bq (hs s) i) (hv : v = swg 9 (fun j => s (60 + j)) (hs s) i) : va_up (va_up (va_up (sti s i) (49 + i) (s (49 + i) + b)) 59 (sti s i 59 + m)) (60 + i) v k = sti s (i + 1) k := by
  unfold va_up
  by_cases e1 : k = 60 + i
  · rw [if_pos e1]; unfold sti; rw [if_neg (by omega), if_neg (by omega), if_pos (by omega), hv, e1, Nat.add_sub_cancel_left]
  · rw [if_neg e1]
    by_cases e2 : k = 59
    · rw [if_pos e2, e2, sti_59 (by omega), sti_59 (by omega), sm_succ, hm, Nat.add_assoc]
    · rw [if_neg e2]
      by_cases e3 : k = 49 + i
      · rw [if_pos e3]; unfold sti; rw [if_pos (by omega), hb, e3, Nat.add_sub_cancel_left]
      · rw [if_neg e3]; unfold sti
        by_cases e4 : 49 ≤ k ∧ k < 49 + i
        · rw [if_pos e4, if_pos (by omega)]
        · rw [if_neg e4, if_neg e2, if_neg (show ¬ (49 ≤ k ∧ k < 49 + (i + 1)) by omega), if_neg e2]
          by_cases e5 : 60 ≤ k ∧ k < 60 + i
          · rw [if_pos e5, if_pos (by omega)]
          · rw [if_neg e5, if_neg (by omega)]
theorem cnt_diff {p h : Nat} (hb : ∀ i, bq h i ≤ bq p i) : sm (fun j => bq p j - bq h j) 10 = cnt p - cnt h := by
  have e : cnt p = sm (fun j => bq p j - bq h j) 10 + cnt h := sm_split (fun k _ => by have h1 := hb k; omega)
  omega
theorem stk_fin {s : Nat → Nat} {k : Nat} (hk : k < 70) : va_up (va_up (sti s 10) 48 (s 48 + s (32 + s 47 / 8))) 47 ((s 47 + 1) % 32) k = stk 9 s k := by
  unfold va_up stk
  by_cases e1 : k = 47
  · rw [if_pos e1, if_neg (by omega), if_pos e1]
  · rw [if_neg e1]
    by_cases e2 : k = 48
    · rw [if_pos e2, if_neg (by omega), if_neg e1, if_pos e2]
    · rw [if_neg e2]
      by_cases e3 : k < 47
      · rw [if_pos e3, sti_o (by omega) (by omega)]
      · rw [if_neg e3, if_neg e1, if_neg e2]
        by_cases e4 : k < 59
        · rw [if_pos e4]; unfold sti; rw [if_pos (by omega)]
        · rw [if_neg e4]
          by_cases e5 : k = 59
          · rw [if_pos e5, e5, sti_59 (by omega), cnt_diff (hs_bq s)]
          · rw [if_neg e5, if_pos hk]; unfold sti; rw [if_neg (by omega), if_neg e5, if_pos (by omega)]
theorem hq_le (s : Nat → Nat) (i : Nat) (hi : i ≤ 10) : (hq s i).1 < 1024 := Nat.lt_of_lt_of_le (hr_lt _ _ _ _ i) (Nat.pow_le_pow_right (by decide) hi)
theorem hq_yes {s : Nat → Nat} (hI : IV s) {i : Nat} (hi : i < 10) (h1 : bq (s (s 47)) i = 1) (h0 : mfv s i (hq s i).1 (s (60 + i)) (s 46) = 0) : hq s (i + 1) = ((hq s i).1 + 2 ^ i, (hq s i).2 + s (36 + i)) ∧ bq (hs s) i = 1 := by
  have hc := (mfv_0 (s := s) (p := s (s 47)) (B := s 46) (g := fun k => s (60 + k)) hi (hI.2.2.1 i hi) (hI.2.2.2.2.2 i hi)).mp h0
  exact ⟨if_pos ⟨h1, hc⟩, (hr_bit _ _ _ _ 10 i hi).trans (if_pos ⟨h1, hc⟩)⟩
theorem hq_no {s : Nat → Nat} (hI : IV s) {i : Nat} (hi : i < 10) (h1 : ¬ bq (s (s 47)) i = 1 ∨ ¬ mfv s i (hq s i).1 (s (60 + i)) (s 46) = 0) : hq s (i + 1) = hq s i ∧ bq (hs s) i = 0 := by
  have hc := (mfv_0 (s := s) (p := s (s 47)) (B := s 46) (g := fun k => s (60 + k)) hi (hI.2.2.1 i hi) (hI.2.2.2.2.2 i hi))
  have hn : ¬ (bq (s (s 47)) i = 1 ∧ s (36 + i) / 20 ≤ s (60 + i) ∧ (hr (s (s 47)) (fun k => s (60 + k)) (fun k => s (36 + k)) (s 46) i).2 + s (36 + i) ≤ s 46) := fun q => h1.elim (fun z => z q.1) (fun z => z (hc.mpr q.2))
  exact ⟨if_neg hn, (hr_bit _ _ _ _ 10 i hi).trans (if_neg hn)⟩
/-- how often a round is too heavy in a column, and together -/
def tw (s : Nat → Nat) (B i : Nat) : Nat → Nat | 0 => 0 | j + 1 => tw s B i j + (if bq (s i) j = 1 ∧ mfv s j (hr (s i) (rsp 9 s B i) (fun k => s (36 + k)) B j).1 (rsp 9 s B i j) B = 2 then 1 else 0)
def tv (s : Nat → Nat) (B : Nat) : Nat → Nat | 0 => 0 | i + 1 => tv s B i + tw s B i 10
theorem tw_le (s : Nat → Nat) (B i : Nat) : ∀ j, tw s B i j ≤ j
  | 0 => Nat.le_refl _
  | j + 1 => by have := tw_le s B i j; rw [tw]; split <;> omega
theorem tv_le (s : Nat → Nat) (B : Nat) : ∀ i, tv s B i ≤ i * 10
  | 0 => Nat.zero_le _
  | i + 1 => by have := tv_le s B i; have := tw_le s B i 10; rw [tv]; omega
def hj (s : Nat → Nat) (B i j : Nat) : Nat × Nat := hr (s i) (rsp 9 s B i) (fun k => s (36 + k)) B j
theorem hj_le (s : Nat → Nat) (B i j : Nat) (h : j ≤ 10) : (hj s B i j).1 < 1024 := Nat.lt_of_lt_of_le (hr_lt _ _ _ _ j) (Nat.pow_le_pow_right (by decide) h)
theorem hj_yes {s : Nat → Nat} (hI : IV s) {B i j : Nat} (hj_ : j < 10) (h1 : bq (s i) j = 1) (h0 : mfv s j (hj s B i j).1 (rsp 9 s B i j) B = 0) : hj s B i (j + 1) = ((hj s B i j).1 + 2 ^ j, (hj s B i j).2 + s (36 + j)) ∧ rsp 9 s B (i + 1) j = 0 ∧ tw s B i (j + 1) = tw s B i j + 0 := by
  have hc := (mfv_0 (s := s) (p := s i) (B := B) (g := rsp 9 s B i) hj_ (hI.2.2.1 j hj_) (rsp_le 9 s B i j)).mp h0
  have hb : bq (hr (s i) (rsp 9 s B i) (fun k => s (36 + k)) B 10).1 j = 1 := (hr_bit _ _ _ _ 10 j hj_).trans (if_pos ⟨h1, hc⟩)
  refine ⟨if_pos ⟨h1, hc⟩, if_pos hb, ?_⟩
  rw [tw, if_neg (fun q => by have h2 : mfv s j (hj s B i j).1 (rsp 9 s B i j) B = 2 := q.2; omega)]
theorem hj_no {s : Nat → Nat} (hI : IV s) {B i j : Nat} (hj_ : j < 10) (h1 : ¬ bq (s i) j = 1 ∨ ¬ mfv s j (hj s B i j).1 (rsp 9 s B i j) B = 0) : hj s B i (j + 1) = hj s B i j ∧ rsp 9 s B (i + 1) j = min (rsp 9 s B i j + 1) 9 := by
  have hc := (mfv_0 (s := s) (p := s i) (B := B) (g := rsp 9 s B i) hj_ (hI.2.2.1 j hj_) (rsp_le 9 s B i j))
  have hn : ¬ (bq (s i) j = 1 ∧ s (36 + j) / 20 ≤ rsp 9 s B i j ∧ (hr (s i) (rsp 9 s B i) (fun k => s (36 + k)) B j).2 + s (36 + j) ≤ B) := fun q => h1.elim (fun z => z q.1) (fun z => z (hc.mpr q.2))
  have hb : bq (hr (s i) (rsp 9 s B i) (fun k => s (36 + k)) B 10).1 j = 0 := (hr_bit _ _ _ _ 10 j hj_).trans (if_neg hn)
  exact ⟨if_neg hn, if_neg (fun q => by rw [hb] at q; exact absurd q (by decide))⟩
theorem tw_yes {s : Nat → Nat} {B i j : Nat} (h1 : bq (s i) j = 1) (h2 : mfv s j (hj s B i j).1 (rsp 9 s B i j) B = 2) : tw s B i (j + 1) = tw s B i j + 1 := by rw [tw, if_pos ⟨h1, h2⟩]
theorem tw_no {s : Nat → Nat} {B i j : Nat} (h : ¬ bq (s i) j = 1 ∨ ¬ mfv s j (hj s B i j).1 (rsp 9 s B i j) B = 2) : tw s B i (j + 1) = tw s B i j + 0 := by rw [tw, if_neg (fun q => h.elim (fun z => z q.1) (fun z => z q.2))]
/-- the states behind a new one, in the row of 420 -/
def shH (g : Nat → Nat) (i : Nat) : Nat → Nat := fun k => if k < i then g (70 + k) else g k
theorem shH_step {g : Nat → Nat} {i k : Nat} : va_up (shH g i) i (g (70 + i)) k = shH g (i + 1) k := by
  unfold va_up shH
  by_cases e : k = i
  · rw [if_pos e, if_pos (by omega), e]
  · rw [if_neg e]
    by_cases e2 : k < i
    · rw [if_pos e2, if_pos (by omega)]
    · rw [if_neg e2, if_neg (by omega)]
def wrH (g : Nat → Nat) (b : Nat) (s : Nat → Nat) (i : Nat) : Nat → Nat := fun k => if b ≤ k ∧ k < b + i then s (k - b) else g k
theorem wrH_step {g s : Nat → Nat} {b i k : Nat} : va_up (wrH g b s i) (b + i) (s i) k = wrH g b s (i + 1) k := by
  unfold va_up wrH
  by_cases e : k = b + i
  · rw [if_pos e, if_pos (by omega), e, Nat.add_sub_cancel_left]
  · rw [if_neg e]
    by_cases e2 : b ≤ k ∧ k < b + i
    · rw [if_pos e2, if_pos (by omega)]
    · rw [if_neg e2, if_neg (by omega)]
theorem wrH_0 {g s : Nat → Nat} {b k : Nat} : g k = wrH g b s 0 k := by unfold wrH; rw [if_neg (by omega)]
def rcH (kn : Nat) (s g : Nat → Nat) : Nat → Nat := wrH (if kn = 6 then shH g 350 else g) (70 * aM kn) s 70
theorem okr_in2 {lo hi : Nat} {x : Int32} (hl : lo < 2 ^ 31) (hh : hi < 2 ^ 31) (h1 : ¬ x < nI lo) (h2 : ¬ nI hi < x) : okr lo hi x :=
  okr_le hl hh h1 (by rw [Int32.le_iff_toInt_le]; rw [Int32.lt_iff_toInt_lt] at h2; omega)
theorem IV_sti {s : Nat → Nat} {i : Nat} (hI : IV s) (hi : i ≤ 10) : IV (sti s i) := by
  obtain ⟨i1, i2, i3, i4, i5, i6⟩ := hI
  refine ⟨fun k hk => by rw [sti_o (by omega) hi]; exact i1 k hk, fun k hk => by rw [sti_o (by omega) hi]; exact i2 k hk, fun k hk => by rw [sti_o (by omega) hi]; exact i3 k hk, by rw [sti_o (by omega) hi]; exact i4, by rw [sti_o (by omega) hi]; exact i5, fun k hk => ?_⟩
  unfold sti
  rw [if_neg (by omega), if_neg (by omega)]
  split
  · exact swg_le
  · exact i6 k hk
theorem mfv_sti {s : Nat → Nat} {i b h g B : Nat} (hb : b < 10) (hi : i ≤ 10) : mfv (sti s i) b h g B = mfv s b h g B := by
  unfold mfv
  rw [sti_o (by omega) hi, show wIn (fun k => sti s i (36 + k)) h = wIn (fun k => s (36 + k)) h from sm_congr (fun k hk => by show bq h k * sti s i (36 + k) = bq h k * s (36 + k); rw [sti_o (by omega) hi])]

set_option maxHeartbeats 4000000 in
set_option maxRecDepth 100000 in
theorem c_X6_in (l : Launch) (G : gT) (c a b : Nat) (hc : c < 2 ^ 31) (ha : a < 2 ^ 20) (hb : b < 2 ^ 20) : CM l G yX6_in wsX6_in 1 22 3 [.int (nI c), .int (nI a), .int (nI b)] [] 0 0 (fun v u => v = some (.int (nI (if a ≤ c ∧ c ≤ b then 1 else 0))) ∧ u = []) := by
  refine CM_of RX6 0 0 rfl rfl (by decide) (by decide +kernel) (Nat.le_of_ble_eq_true rfl) (fun E A X hrt hnm => ?_)
  generalize hQ : QM E G A _ _ _ = Q
  show V E G A 3 [] 0 0 Q 0 [(0, .int (nI c)), (1, .int (nI a)), (2, .int (nI b))] []
  refine V_iload_n (pc' := 1) 0 X dX6_in_0 rfl rfl rfl ?_
  refine V_iload_n (pc' := 2) 1 X dX6_in_1 rfl rfl rfl ?_
  refine V_icmp_lt (pc' := 5) (C := c < a) 14 X dX6_in_2 (by decide) rfl (nI_ltI (by omega) (by omega)) (fun h2 => ?_) (fun h2 => ?_)
  · refine V_iconst (pc' := 15) (nI 0) X dX6_in_14 ki_0 rfl ?_
    exact V_ireturn (v := nI 0) [] hQ X hrt rfl dX6_in_15 (Nat.le_of_ble_eq_true rfl) (Nat.le_of_ble_eq_true rfl) (List.Perm.refl _) ⟨by rw [if_neg (by omega)], rfl⟩
  · refine V_iload_n (pc' := 6) 0 X dX6_in_5 rfl rfl rfl ?_
    refine V_iload_n (pc' := 7) 2 X dX6_in_6 rfl rfl rfl ?_
    refine V_icmp_gt (pc' := 10) (C := b < c) 14 X dX6_in_7 (by decide) rfl (nI_ltI (by omega) (by omega)) (fun h7 => ?_) (fun h7 => ?_)
    · refine V_iconst (pc' := 15) (nI 0) X dX6_in_14 ki_0 rfl ?_
      exact V_ireturn (v := nI 0) [] hQ X hrt rfl dX6_in_15 (Nat.le_of_ble_eq_true rfl) (Nat.le_of_ble_eq_true rfl) (List.Perm.refl _) ⟨by rw [if_neg (by omega)], rfl⟩
    · refine V_iconst (pc' := 11) (nI 1) X dX6_in_10 ki_1 rfl ?_
      refine V_goto (pc' := 15) X dX6_in_11 (by decide) ?_
      exact V_ireturn (v := nI 1) [] hQ X hrt rfl dX6_in_15 (Nat.le_of_ble_eq_true rfl) (Nat.le_of_ble_eq_true rfl) (List.Perm.refl _) ⟨by rw [if_pos (by omega)], rfl⟩

set_option maxHeartbeats 4000000 in
set_option maxRecDepth 100000 in
theorem c_X6_in0 (l : Launch) (G : gT) (c : Int32) (a b : Nat) (ha : a < 2 ^ 20) (hb : b < 2 ^ 20) (hx : ¬ okr a b c) : CM l G yX6_in wsX6_in 1 22 3 [.int c, .int (nI a), .int (nI b)] [] 0 0 (fun v u => v = some (.int (nI 0)) ∧ u = []) := by
  refine CM_of RX6 0 0 rfl rfl (by decide) (by decide +kernel) (Nat.le_of_ble_eq_true rfl) (fun E A X hrt hnm => ?_)
  generalize hQ : QM E G A _ _ _ = Q
  show V E G A 3 [] 0 0 Q 0 [(0, .int c), (1, .int (nI a)), (2, .int (nI b))] []
  refine V_iload_n (pc' := 1) 0 X dX6_in_0 rfl rfl rfl ?_
  refine V_iload_n (pc' := 2) 1 X dX6_in_1 rfl rfl rfl ?_
  refine V_icmp_lt (pc' := 5) (C := c < (nI a)) 14 X dX6_in_2 (by decide) rfl Iff.rfl (fun h2 => ?_) (fun h2 => ?_)
  · refine V_iconst (pc' := 15) (nI 0) X dX6_in_14 ki_0 rfl ?_
    exact V_ireturn (v := nI 0) [] hQ X hrt rfl dX6_in_15 (Nat.le_of_ble_eq_true rfl) (Nat.le_of_ble_eq_true rfl) (List.Perm.refl _) ⟨rfl, rfl⟩
  · refine V_iload_n (pc' := 6) 0 X dX6_in_5 rfl rfl rfl ?_
    refine V_iload_n (pc' := 7) 2 X dX6_in_6 rfl rfl rfl ?_
    refine V_icmp_gt (pc' := 10) (C := (nI b) < c) 14 X dX6_in_7 (by decide) rfl Iff.rfl (fun h7 => ?_) (fun h7 => ?_)
    · refine V_iconst (pc' := 15) (nI 0) X dX6_in_14 ki_0 rfl ?_
      exact V_ireturn (v := nI 0) [] hQ X hrt rfl dX6_in_15 (Nat.le_of_ble_eq_true rfl) (Nat.le_of_ble_eq_true rfl) (List.Perm.refl _) ⟨rfl, rfl⟩
    · exact absurd (okr_in2 (by omega) (by omega) h2 h7) hx

set_option maxHeartbeats 4000000 in
set_option maxRecDepth 100000 in
theorem c_X6_isColumn1 (l : Launch) (G : gT) (c : Nat) (hc : c ≤ 31) : CM l G yX6_isColumn wsX6_isColumn 2 42 1 [.int (nI c)] [] 0 0 (fun v u => v = some (.int (nI 1)) ∧ u = []) := by
  refine CM_of RX6 1 22 rfl rfl (by decide) (by decide +kernel) (Nat.le_of_ble_eq_true rfl) (fun E A X hrt hnm => ?_)
  generalize hQ : QM E G A _ _ _ = Q
  show V E G A 1 [] 0 0 Q 0 [(0, .int (nI c))] []
  refine V_iload_n (pc' := 1) 0 X dX6_isColumn_0 rfl rfl rfl ?_
  refine V_iconst (pc' := 2) (nI 0) X dX6_isColumn_1 ki_0 rfl ?_
  refine V_bipush (pc' := 4) (nI 31) X dX6_isColumn_2 kb_31 rfl ?_
  refine V_callS (pc' := 7) (As := [.int (nI c), .int (nI 0), .int (nI 31)]) (st := []) [] [] (List.Perm.refl _) X (c_X6_in l G c 0 31 (by omega) (by decide) (by decide)) rfl gX6_isColumn_X6_in rfl rfl (Nat.le_of_ble_eq_true rfl) ⟨Nat.le_of_ble_eq_true rfl, Nat.le_of_ble_eq_true rfl⟩ ⟨Nat.le_of_ble_eq_true rfl, Nat.le_of_ble_eq_true rfl⟩ dX6_isColumn_4 rfl (fun v_ u_ hp_ => ?_)
  obtain ⟨rfl, rfl⟩ := hp_; rw [if_pos (by omega)]
  show V E G A 1 [] 0 0 Q 7 [(0, .int (nI c))] [.int (nI 1)]
  exact V_ireturn (v := nI 1) [] hQ X hrt rfl dX6_isColumn_7 (Nat.le_of_ble_eq_true rfl) (Nat.le_of_ble_eq_true rfl) (List.Perm.refl _) ⟨rfl, rfl⟩

set_option maxHeartbeats 4000000 in
set_option maxRecDepth 100000 in
theorem c_X6_isColumn0 (l : Launch) (G : gT) (c : Int32) (hx : ¬ okr 0 31 c) : CM l G yX6_isColumn wsX6_isColumn 2 42 1 [.int c] [] 0 0 (fun v u => v = some (.int (nI 0)) ∧ u = []) := by
  refine CM_of RX6 1 22 rfl rfl (by decide) (by decide +kernel) (Nat.le_of_ble_eq_true rfl) (fun E A X hrt hnm => ?_)
  generalize hQ : QM E G A _ _ _ = Q
  show V E G A 1 [] 0 0 Q 0 [(0, .int c)] []
  refine V_iload_n (pc' := 1) 0 X dX6_isColumn_0 rfl rfl rfl ?_
  refine V_iconst (pc' := 2) (nI 0) X dX6_isColumn_1 ki_0 rfl ?_
  refine V_bipush (pc' := 4) (nI 31) X dX6_isColumn_2 kb_31 rfl ?_
  refine V_callS (pc' := 7) (As := [.int c, .int (nI 0), .int (nI 31)]) (st := []) [] [] (List.Perm.refl _) X (c_X6_in0 l G c 0 31 (by decide) (by decide) hx) rfl gX6_isColumn_X6_in rfl rfl (Nat.le_of_ble_eq_true rfl) ⟨Nat.le_of_ble_eq_true rfl, Nat.le_of_ble_eq_true rfl⟩ ⟨Nat.le_of_ble_eq_true rfl, Nat.le_of_ble_eq_true rfl⟩ dX6_isColumn_4 rfl (fun v_ u_ hp_ => ?_)
  obtain ⟨rfl, rfl⟩ := hp_
  show V E G A 1 [] 0 0 Q 7 [(0, .int c)] [.int (nI 0)]
  exact V_ireturn (v := nI 0) [] hQ X hrt rfl dX6_isColumn_7 (Nat.le_of_ble_eq_true rfl) (Nat.le_of_ble_eq_true rfl) (List.Perm.refl _) ⟨rfl, rfl⟩

set_option maxHeartbeats 4000000 in
set_option maxRecDepth 100000 in
theorem c_X6_isBar1 (l : Launch) (G : gT) (c : Nat) (hc : c ≤ 3) : CM l G yX6_isBar wsX6_isBar 2 42 1 [.int (nI c)] [] 0 0 (fun v u => v = some (.int (nI 1)) ∧ u = []) := by
  refine CM_of RX6 1 22 rfl rfl (by decide) (by decide +kernel) (Nat.le_of_ble_eq_true rfl) (fun E A X hrt hnm => ?_)
  generalize hQ : QM E G A _ _ _ = Q
  show V E G A 1 [] 0 0 Q 0 [(0, .int (nI c))] []
  refine V_iload_n (pc' := 1) 0 X dX6_isBar_0 rfl rfl rfl ?_
  refine V_iconst (pc' := 2) (nI 0) X dX6_isBar_1 ki_0 rfl ?_
  refine V_iconst (pc' := 3) (nI 3) X dX6_isBar_2 ki_3 rfl ?_
  refine V_callS (pc' := 6) (As := [.int (nI c), .int (nI 0), .int (nI 3)]) (st := []) [] [] (List.Perm.refl _) X (c_X6_in l G c 0 3 (by omega) (by decide) (by decide)) rfl gX6_isBar_X6_in rfl rfl (Nat.le_of_ble_eq_true rfl) ⟨Nat.le_of_ble_eq_true rfl, Nat.le_of_ble_eq_true rfl⟩ ⟨Nat.le_of_ble_eq_true rfl, Nat.le_of_ble_eq_true rfl⟩ dX6_isBar_3 rfl (fun v_ u_ hp_ => ?_)
  obtain ⟨rfl, rfl⟩ := hp_; rw [if_pos (by omega)]
  show V E G A 1 [] 0 0 Q 6 [(0, .int (nI c))] [.int (nI 1)]
  exact V_ireturn (v := nI 1) [] hQ X hrt rfl dX6_isBar_6 (Nat.le_of_ble_eq_true rfl) (Nat.le_of_ble_eq_true rfl) (List.Perm.refl _) ⟨rfl, rfl⟩

set_option maxHeartbeats 4000000 in
set_option maxRecDepth 100000 in
theorem c_X6_isBar0 (l : Launch) (G : gT) (c : Int32) (hx : ¬ okr 0 3 c) : CM l G yX6_isBar wsX6_isBar 2 42 1 [.int c] [] 0 0 (fun v u => v = some (.int (nI 0)) ∧ u = []) := by
  refine CM_of RX6 1 22 rfl rfl (by decide) (by decide +kernel) (Nat.le_of_ble_eq_true rfl) (fun E A X hrt hnm => ?_)
  generalize hQ : QM E G A _ _ _ = Q
  show V E G A 1 [] 0 0 Q 0 [(0, .int c)] []
  refine V_iload_n (pc' := 1) 0 X dX6_isBar_0 rfl rfl rfl ?_
  refine V_iconst (pc' := 2) (nI 0) X dX6_isBar_1 ki_0 rfl ?_
  refine V_iconst (pc' := 3) (nI 3) X dX6_isBar_2 ki_3 rfl ?_
  refine V_callS (pc' := 6) (As := [.int c, .int (nI 0), .int (nI 3)]) (st := []) [] [] (List.Perm.refl _) X (c_X6_in0 l G c 0 3 (by decide) (by decide) hx) rfl gX6_isBar_X6_in rfl rfl (Nat.le_of_ble_eq_true rfl) ⟨Nat.le_of_ble_eq_true rfl, Nat.le_of_ble_eq_true rfl⟩ ⟨Nat.le_of_ble_eq_true rfl, Nat.le_of_ble_eq_true rfl⟩ dX6_isBar_3 rfl (fun v_ u_ hp_ => ?_)
  obtain ⟨rfl, rfl⟩ := hp_
  show V E G A 1 [] 0 0 Q 6 [(0, .int c)] [.int (nI 0)]
  exact V_ireturn (v := nI 0) [] hQ X hrt rfl dX6_isBar_6 (Nat.le_of_ble_eq_true rfl) (Nat.le_of_ble_eq_true rfl) (List.Perm.refl _) ⟨rfl, rfl⟩

set_option maxHeartbeats 4000000 in
set_option maxRecDepth 100000 in
theorem c_X6_isBell1 (l : Launch) (G : gT) (c : Nat) (hc : c ≤ 9) : CM l G yX6_isBell wsX6_isBell 2 42 1 [.int (nI c)] [] 0 0 (fun v u => v = some (.int (nI 1)) ∧ u = []) := by
  refine CM_of RX6 1 22 rfl rfl (by decide) (by decide +kernel) (Nat.le_of_ble_eq_true rfl) (fun E A X hrt hnm => ?_)
  generalize hQ : QM E G A _ _ _ = Q
  show V E G A 1 [] 0 0 Q 0 [(0, .int (nI c))] []
  refine V_iload_n (pc' := 1) 0 X dX6_isBell_0 rfl rfl rfl ?_
  refine V_iconst (pc' := 2) (nI 0) X dX6_isBell_1 ki_0 rfl ?_
  refine V_bipush (pc' := 4) (nI 9) X dX6_isBell_2 kb_9 rfl ?_
  refine V_callS (pc' := 7) (As := [.int (nI c), .int (nI 0), .int (nI 9)]) (st := []) [] [] (List.Perm.refl _) X (c_X6_in l G c 0 9 (by omega) (by decide) (by decide)) rfl gX6_isBell_X6_in rfl rfl (Nat.le_of_ble_eq_true rfl) ⟨Nat.le_of_ble_eq_true rfl, Nat.le_of_ble_eq_true rfl⟩ ⟨Nat.le_of_ble_eq_true rfl, Nat.le_of_ble_eq_true rfl⟩ dX6_isBell_4 rfl (fun v_ u_ hp_ => ?_)
  obtain ⟨rfl, rfl⟩ := hp_; rw [if_pos (by omega)]
  show V E G A 1 [] 0 0 Q 7 [(0, .int (nI c))] [.int (nI 1)]
  exact V_ireturn (v := nI 1) [] hQ X hrt rfl dX6_isBell_7 (Nat.le_of_ble_eq_true rfl) (Nat.le_of_ble_eq_true rfl) (List.Perm.refl _) ⟨rfl, rfl⟩

set_option maxHeartbeats 4000000 in
set_option maxRecDepth 100000 in
theorem c_X6_isBell0 (l : Launch) (G : gT) (c : Int32) (hx : ¬ okr 0 9 c) : CM l G yX6_isBell wsX6_isBell 2 42 1 [.int c] [] 0 0 (fun v u => v = some (.int (nI 0)) ∧ u = []) := by
  refine CM_of RX6 1 22 rfl rfl (by decide) (by decide +kernel) (Nat.le_of_ble_eq_true rfl) (fun E A X hrt hnm => ?_)
  generalize hQ : QM E G A _ _ _ = Q
  show V E G A 1 [] 0 0 Q 0 [(0, .int c)] []
  refine V_iload_n (pc' := 1) 0 X dX6_isBell_0 rfl rfl rfl ?_
  refine V_iconst (pc' := 2) (nI 0) X dX6_isBell_1 ki_0 rfl ?_
  refine V_bipush (pc' := 4) (nI 9) X dX6_isBell_2 kb_9 rfl ?_
  refine V_callS (pc' := 7) (As := [.int c, .int (nI 0), .int (nI 9)]) (st := []) [] [] (List.Perm.refl _) X (c_X6_in0 l G c 0 9 (by decide) (by decide) hx) rfl gX6_isBell_X6_in rfl rfl (Nat.le_of_ble_eq_true rfl) ⟨Nat.le_of_ble_eq_true rfl, Nat.le_of_ble_eq_true rfl⟩ ⟨Nat.le_of_ble_eq_true rfl, Nat.le_of_ble_eq_true rfl⟩ dX6_isBell_4 rfl (fun v_ u_ hp_ => ?_)
  obtain ⟨rfl, rfl⟩ := hp_
  show V E G A 1 [] 0 0 Q 7 [(0, .int c)] [.int (nI 0)]
  exact V_ireturn (v := nI 0) [] hQ X hrt rfl dX6_isBell_7 (Nat.le_of_ble_eq_true rfl) (Nat.le_of_ble_eq_true rfl) (List.Perm.refl _) ⟨rfl, rfl⟩

set_option maxHeartbeats 4000000 in
set_option maxRecDepth 100000 in
theorem c_X6_thrown (l : Launch) (G : gT) (y : Nat → Nat) (t kn ln th : Nat) : CM l G yX6_thrown wsX6_thrown 1 20 0 [.ref (y 0)] [MO y t kn ln th] 0 0 (fun v u => v = some (.int (nI t)) ∧ u = [MO y t kn ln th]) := by
  refine CM_of RX6 0 0 rfl rfl (by decide) (by decide +kernel) (Nat.le_of_ble_eq_true rfl) (fun E A X hrt hnm => ?_)
  have F32 := Fld_of (idx := 32) 6 0 X (by decide) (by decide) (by decide +kernel) (by decide +kernel)
  generalize hQ : QM E G A _ _ _ = Q
  show V E G A 1 [MO y t kn ln th] 0 0 Q 0 [(0, .ref (y 0))] []
  refine V_aload_n (pc' := 1) 0 X dX6_thrown_0 rfl rfl rfl ?_
  refine V_get (pc' := 4) 0 X F32 rfl rfl dX6_thrown_1 rfl ?_
  exact V_ireturn (v := nI t) [MO y t kn ln th] hQ X hrt rfl dX6_thrown_4 (Nat.le_of_ble_eq_true rfl) (Nat.le_of_ble_eq_true rfl) (List.Perm.refl _) ⟨rfl, rfl⟩

set_option maxHeartbeats 4000000 in
set_option maxRecDepth 100000 in
theorem c_X6_holds0 (l : Launch) (G : gT) (y : Nat → Nat) (t kn ln th : Nat) : CM l G yX6_holds wsX6_holds 1 21 1 [.ref (y 0), .int (nI 0)] [MO y t kn ln th] 0 0 (fun v u => v = some (.int (nI 1)) ∧ u = [MO y 0 kn ln th]) := by
  refine CM_of RX6 0 0 rfl rfl (by decide) (by decide +kernel) (Nat.le_of_ble_eq_true rfl) (fun E A X hrt hnm => ?_)
  have F32 := Fld_of (idx := 32) 6 0 X (by decide) (by decide) (by decide +kernel) (by decide +kernel)
  generalize hQ : QM E G A _ _ _ = Q
  show V E G A 2 [MO y t kn ln th] 0 0 Q 0 [(0, .ref (y 0)), (1, .int (nI 0))] []
  refine V_aload_n (pc' := 1) 0 X dX6_holds_0 rfl rfl rfl ?_
  refine V_iload_n (pc' := 2) 1 X dX6_holds_1 rfl rfl rfl ?_
  refine V_ws [[((y 0), .inr (6, [.int (nI t), .ref (y 1), .ref (y 2), .ref (y 3), .ref (y 4), .int (nI kn), .ref (y 5), .int (nI ln), .ref (y 6), .ref (y 7), .int (nI th)]))]] rfl ?_
  refine V_put (pc' := 5) 0 [[((y 0), .inr (6, [.int (nI 0), .ref (y 1), .ref (y 2), .ref (y 3), .ref (y 4), .int (nI kn), .ref (y 5), .int (nI ln), .ref (y 6), .ref (y 7), .int (nI th)]))]] X F32 rfl rfl rfl rfl (Nat.le_of_ble_eq_true rfl) rfl dX6_holds_2 rfl ?_
  refine V_iload_n (pc' := 6) 1 X dX6_holds_5 rfl rfl rfl ?_
  refine V_if_ne (pc' := 9) (C := 0 = 0) 13 X dX6_holds_6 (by decide) rfl (z_eq0 (by omega)) (fun hz => absurd (by decide) hz) (fun _ => ?_)
  refine V_iconst (pc' := 10) (nI 1) X dX6_holds_9 ki_1 rfl ?_
  refine V_goto (pc' := 14) X dX6_holds_10 (by decide) ?_
  refine V_ws [MO y 0 kn ln th] rfl ?_
  exact V_ireturn (v := nI 1) [MO y 0 kn ln th] hQ X hrt rfl dX6_holds_14 (Nat.le_of_ble_eq_true rfl) (Nat.le_of_ble_eq_true rfl) (List.Perm.refl _) ⟨rfl, rfl⟩

set_option maxHeartbeats 4000000 in
set_option maxRecDepth 100000 in
theorem c_X6_holds1 (l : Launch) (G : gT) (y : Nat → Nat) (t kn ln th : Nat) : CM l G yX6_holds wsX6_holds 1 21 1 [.ref (y 0), .int (nI 1)] [MO y t kn ln th] 0 0 (fun v u => v = some (.int (nI 0)) ∧ u = [MO y 1 kn ln th]) := by
  refine CM_of RX6 0 0 rfl rfl (by decide) (by decide +kernel) (Nat.le_of_ble_eq_true rfl) (fun E A X hrt hnm => ?_)
  have F32 := Fld_of (idx := 32) 6 0 X (by decide) (by decide) (by decide +kernel) (by decide +kernel)
  generalize hQ : QM E G A _ _ _ = Q
  show V E G A 2 [MO y t kn ln th] 0 0 Q 0 [(0, .ref (y 0)), (1, .int (nI 1))] []
  refine V_aload_n (pc' := 1) 0 X dX6_holds_0 rfl rfl rfl ?_
  refine V_iload_n (pc' := 2) 1 X dX6_holds_1 rfl rfl rfl ?_
  refine V_ws [[((y 0), .inr (6, [.int (nI t), .ref (y 1), .ref (y 2), .ref (y 3), .ref (y 4), .int (nI kn), .ref (y 5), .int (nI ln), .ref (y 6), .ref (y 7), .int (nI th)]))]] rfl ?_
  refine V_put (pc' := 5) 0 [[((y 0), .inr (6, [.int (nI 1), .ref (y 1), .ref (y 2), .ref (y 3), .ref (y 4), .int (nI kn), .ref (y 5), .int (nI ln), .ref (y 6), .ref (y 7), .int (nI th)]))]] X F32 rfl rfl rfl rfl (Nat.le_of_ble_eq_true rfl) rfl dX6_holds_2 rfl ?_
  refine V_iload_n (pc' := 6) 1 X dX6_holds_5 rfl rfl rfl ?_
  refine V_if_ne (pc' := 9) (C := 1 = 0) 13 X dX6_holds_6 (by decide) rfl (z_eq0 (by omega)) (fun _ => ?_) (fun hz => absurd hz (by decide))
  refine V_iconst (pc' := 14) (nI 0) X dX6_holds_13 ki_0 rfl ?_
  refine V_ws [MO y 1 kn ln th] rfl ?_
  exact V_ireturn (v := nI 0) [MO y 1 kn ln th] hQ X hrt rfl dX6_holds_14 (Nat.le_of_ble_eq_true rfl) (Nat.le_of_ble_eq_true rfl) (List.Perm.refl _) ⟨rfl, rfl⟩

set_option maxHeartbeats 4000000 in
set_option maxRecDepth 100000 in
theorem c_X6_holds2 (l : Launch) (G : gT) (y : Nat → Nat) (t kn ln th : Nat) : CM l G yX6_holds wsX6_holds 1 21 1 [.ref (y 0), .int (nI 2)] [MO y t kn ln th] 0 0 (fun v u => v = some (.int (nI 0)) ∧ u = [MO y 2 kn ln th]) := by
  refine CM_of RX6 0 0 rfl rfl (by decide) (by decide +kernel) (Nat.le_of_ble_eq_true rfl) (fun E A X hrt hnm => ?_)
  have F32 := Fld_of (idx := 32) 6 0 X (by decide) (by decide) (by decide +kernel) (by decide +kernel)
  generalize hQ : QM E G A _ _ _ = Q
  show V E G A 2 [MO y t kn ln th] 0 0 Q 0 [(0, .ref (y 0)), (1, .int (nI 2))] []
  refine V_aload_n (pc' := 1) 0 X dX6_holds_0 rfl rfl rfl ?_
  refine V_iload_n (pc' := 2) 1 X dX6_holds_1 rfl rfl rfl ?_
  refine V_ws [[((y 0), .inr (6, [.int (nI t), .ref (y 1), .ref (y 2), .ref (y 3), .ref (y 4), .int (nI kn), .ref (y 5), .int (nI ln), .ref (y 6), .ref (y 7), .int (nI th)]))]] rfl ?_
  refine V_put (pc' := 5) 0 [[((y 0), .inr (6, [.int (nI 2), .ref (y 1), .ref (y 2), .ref (y 3), .ref (y 4), .int (nI kn), .ref (y 5), .int (nI ln), .ref (y 6), .ref (y 7), .int (nI th)]))]] X F32 rfl rfl rfl rfl (Nat.le_of_ble_eq_true rfl) rfl dX6_holds_2 rfl ?_
  refine V_iload_n (pc' := 6) 1 X dX6_holds_5 rfl rfl rfl ?_
  refine V_if_ne (pc' := 9) (C := 2 = 0) 13 X dX6_holds_6 (by decide) rfl (z_eq0 (by omega)) (fun _ => ?_) (fun hz => absurd hz (by decide))
  refine V_iconst (pc' := 14) (nI 0) X dX6_holds_13 ki_0 rfl ?_
  refine V_ws [MO y 2 kn ln th] rfl ?_
  exact V_ireturn (v := nI 0) [MO y 2 kn ln th] hQ X hrt rfl dX6_holds_14 (Nat.le_of_ble_eq_true rfl) (Nat.le_of_ble_eq_true rfl) (List.Perm.refl _) ⟨rfl, rfl⟩

set_option maxHeartbeats 4000000 in
set_option maxRecDepth 100000 in
theorem c_X6_count (l : Launch) (G : gT) (a : Nat) (ha : a < 2 ^ 20) : CM l G yX6_count wsX6_count 1 22 1 [.int (nI a)] [] 0 0 (fun v u => v = some (.int (nI (cnt a))) ∧ u = []) := by
  refine CM_of RX6 0 0 rfl rfl (by decide) (by decide +kernel) (Nat.le_of_ble_eq_true rfl) (fun E A X hrt hnm => ?_)
  generalize hQ : QM E G A _ _ _ = Q
  show V E G A 3 [] 0 0 Q 0 [(0, .int (nI a))] []
  refine V_iconst (pc' := 1) (nI 0) X dX6_count_0 ki_0 rfl ?_
  refine V_istore_n (pc' := 2) [(0, .int (nI a)), (1, .int (nI 0))] [1, 0] X dX6_count_1 rfl (Nat.le_of_ble_eq_true rfl) rfl rfl ?_
  refine V_iconst (pc' := 3) (nI 0) X dX6_count_2 ki_0 rfl ?_
  refine V_istore_n (pc' := 4) [(0, .int (nI a)), (1, .int (nI 0)), (2, .int (nI 0))] [1, 2, 0] X dX6_count_3 rfl (Nat.le_of_ble_eq_true rfl) rfl rfl ?_
  have lp_1 : ∀ i, i ≤ 10 → V E G A 3 [] 0 0 Q 4 [(0, .int (nI a)), (1, .int (nI (sm (bq a) i))), (2, .int (nI i))] [] := by
    refine loopD 10 ?_ ?_
    · show V E G A 3 [] 0 0 Q 4 [(0, .int (nI a)), (1, .int (nI (sm (bq a) 10))), (2, .int (nI 10))] []
      refine V_iload_n (pc' := 5) 2 X dX6_count_4 rfl rfl rfl ?_
      refine V_bipush (pc' := 7) (nI 10) X dX6_count_5 kb_10 rfl ?_
      refine V_icmp_ge (pc' := 10) (C := 10 ≤ 10) 24 X dX6_count_7 (by decide) rfl (nI_leI (by omega) (by omega)) (fun _ => ?_) (fun hz => absurd (by omega) hz)
      refine V_iload_n (pc' := 25) 1 X dX6_count_24 rfl rfl rfl ?_
      exact V_ireturn (v := nI (sm (bq a) 10)) [] hQ X hrt rfl dX6_count_25 (Nat.le_of_ble_eq_true rfl) (Nat.le_of_ble_eq_true rfl) (List.Perm.refl _) ⟨rfl, rfl⟩
    · intro i hi_i ih
      show V E G A 3 [] 0 0 Q 4 [(0, .int (nI a)), (1, .int (nI (sm (bq a) i))), (2, .int (nI i))] []
      refine V_iload_n (pc' := 5) 2 X dX6_count_4 rfl rfl rfl ?_
      refine V_bipush (pc' := 7) (nI 10) X dX6_count_5 kb_10 rfl ?_
      refine V_icmp_ge (pc' := 10) (C := 10 ≤ i) 24 X dX6_count_7 (by decide) rfl (nI_leI (by omega) (by omega)) (fun hz => absurd hz (by omega)) (fun _ => ?_)
      refine V_iload_n (pc' := 11) 1 X dX6_count_10 rfl rfl rfl ?_
      refine V_iload_n (pc' := 12) 0 X dX6_count_11 rfl rfl rfl ?_
      refine V_iload_n (pc' := 13) 2 X dX6_count_12 rfl rfl rfl ?_
      refine V_ishr (pc' := 14) (nI (a / 2 ^ i)) X dX6_count_13 (z_shr (by omega) (by omega)) rfl ?_
      refine V_iconst (pc' := 15) (nI 1) X dX6_count_14 ki_1 rfl ?_
      refine V_iand (pc' := 16) (nI (bq a i)) X dX6_count_15 (z_and1 _) rfl ?_
      refine V_iadd (pc' := 17) (nI ((sm (bq a) i) + (bq a i))) X dX6_count_16 (nI_add _ _) rfl ?_
      refine V_istore_n (pc' := 18) [(0, .int (nI a)), (1, .int (nI ((sm (bq a) i) + (bq a i)))), (2, .int (nI i))] [1, 0, 2] X dX6_count_17 rfl (Nat.le_of_ble_eq_true rfl) rfl rfl ?_
      refine V_iinc (pc' := 21) [(0, .int (nI a)), (1, .int (nI ((sm (bq a) i) + (bq a i)))), (2, .int (nI (i + 1)))] 2 [1, 2, 0] X dX6_count_18 rfl (nI_i1 _) (Nat.le_of_ble_eq_true rfl) rfl rfl ?_
      refine V_goto (pc' := 4) X dX6_count_21 (by decide) ?_
      exact ih
  exact lp_1 0 (Nat.zero_le _)

set_option maxHeartbeats 4000000 in
set_option maxRecDepth 100000 in
theorem c_X6_allPegs (l : Launch) (G : gT) (y : Nat → Nat) (t kn ln th : Nat) (s : Nat → Nat) (hI : IV s) : CM l G yX6_allPegs wsX6_allPegs 2 44 0 [.ref (y 0)] [MO y t kn ln th, RW G (y 1) 70 s] 0 0 (fun v u => v = some (.int (nI (sm (fun k => cnt (s k)) 32))) ∧ u = [MO y t kn ln th, RW G (y 1) 70 s]) := by
  refine CM_of RX6 1 22 rfl rfl (by decide) (by decide +kernel) (Nat.le_of_ble_eq_true rfl) (fun E A X hrt hnm => ?_)
  have F7 := Fld_of (idx := 7) 6 1 X (by decide) (by decide) (by decide +kernel) (by decide +kernel)
  generalize hQ : QM E G A _ _ _ = Q
  obtain ⟨i1, i2, i3, i4, i5, i6⟩ := id hI
  show V E G A 3 [MO y t kn ln th, RW G (y 1) 70 s] 0 0 Q 0 [(0, .ref (y 0))] []
  refine V_iconst (pc' := 1) (nI 0) X dX6_allPegs_0 ki_0 rfl ?_
  refine V_istore_n (pc' := 2) [(0, .ref (y 0)), (1, .int (nI 0))] [1, 0] X dX6_allPegs_1 rfl (Nat.le_of_ble_eq_true rfl) rfl rfl ?_
  refine V_iconst (pc' := 3) (nI 0) X dX6_allPegs_2 ki_0 rfl ?_
  refine V_istore_n (pc' := 4) [(0, .ref (y 0)), (1, .int (nI 0)), (2, .int (nI 0))] [1, 2, 0] X dX6_allPegs_3 rfl (Nat.le_of_ble_eq_true rfl) rfl rfl ?_
  have lp_1 : ∀ i, i ≤ 32 → V E G A 3 [MO y t kn ln th, RW G (y 1) 70 s] 0 0 Q 4 [(0, .ref (y 0)), (1, .int (nI (sm (fun k => cnt (s k)) i))), (2, .int (nI i))] [] := by
    refine loopD 32 ?_ ?_
    · show V E G A 3 [MO y t kn ln th, RW G (y 1) 70 s] 0 0 Q 4 [(0, .ref (y 0)), (1, .int (nI (sm (fun k => cnt (s k)) 32))), (2, .int (nI 32))] []
      refine V_iload_n (pc' := 5) 2 X dX6_allPegs_4 rfl rfl rfl ?_
      refine V_bipush (pc' := 7) (nI 32) X dX6_allPegs_5 kb_32 rfl ?_
      refine V_icmp_ge (pc' := 10) (C := 32 ≤ 32) 30 X dX6_allPegs_7 (by decide) rfl (nI_leI (by omega) (by omega)) (fun _ => ?_) (fun hz => absurd (by omega) hz)
      refine V_iload_n (pc' := 31) 1 X dX6_allPegs_30 rfl rfl rfl ?_
      exact V_ireturn (v := nI (sm (fun k => cnt (s k)) 32)) [MO y t kn ln th, RW G (y 1) 70 s] hQ X hrt rfl dX6_allPegs_31 (Nat.le_of_ble_eq_true rfl) (Nat.le_of_ble_eq_true rfl) (List.Perm.refl _) ⟨rfl, rfl⟩
    · intro i hi_i ih
      show V E G A 3 [MO y t kn ln th, RW G (y 1) 70 s] 0 0 Q 4 [(0, .ref (y 0)), (1, .int (nI (sm (fun k => cnt (s k)) i))), (2, .int (nI i))] []
      refine V_iload_n (pc' := 5) 2 X dX6_allPegs_4 rfl rfl rfl ?_
      refine V_bipush (pc' := 7) (nI 32) X dX6_allPegs_5 kb_32 rfl ?_
      refine V_icmp_ge (pc' := 10) (C := 32 ≤ i) 30 X dX6_allPegs_7 (by decide) rfl (nI_leI (by omega) (by omega)) (fun hz => absurd hz (by omega)) (fun _ => ?_)
      refine V_iload_n (pc' := 11) 1 X dX6_allPegs_10 rfl rfl rfl ?_
      refine V_aload_n (pc' := 12) 0 X dX6_allPegs_11 rfl rfl rfl ?_
      refine V_get (pc' := 15) 0 X F7 rfl rfl dX6_allPegs_12 rfl ?_
      refine V_iconst (pc' := 16) (nI 0) X dX6_allPegs_15 ki_0 rfl ?_
      refine V_iload_n (pc' := 17) 2 X dX6_allPegs_16 rfl rfl rfl ?_
      refine V_iadd (pc' := 18) (nI i) X dX6_allPegs_17 (nI_0add _) rfl ?_
      refine V_iald (pc' := 19) (v := nI (s i)) 1 i X rfl (by omega) (by decide) rfl dX6_allPegs_18 rfl ?_
      refine V_callS (pc' := 22) (As := [.int (nI (s i))]) (st := [.int (nI (sm (fun k => cnt (s k)) i))]) [] [0, 1] (show (List.range 2).Perm ([] ++ [0, 1]) by decide) X (c_X6_count l G (s i) (Nat.lt_trans (i1 _ hi_i) (by decide))) rfl gX6_allPegs_X6_count rfl rfl (Nat.le_of_ble_eq_true rfl) ⟨Nat.le_of_ble_eq_true rfl, Nat.le_of_ble_eq_true rfl⟩ ⟨Nat.le_of_ble_eq_true rfl, Nat.le_of_ble_eq_true rfl⟩ dX6_allPegs_19 rfl (fun v_ u_ hp_ => ?_)
      obtain ⟨rfl, rfl⟩ := hp_
      show V E G A 3 [MO y t kn ln th, RW G (y 1) 70 s] 0 0 Q 22 [(0, .ref (y 0)), (1, .int (nI (sm (fun k => cnt (s k)) i))), (2, .int (nI i))] [.int (nI (cnt (s i))), .int (nI (sm (fun k => cnt (s k)) i))]
      refine V_iadd (pc' := 23) (nI ((sm (fun k => cnt (s k)) i) + (cnt (s i)))) X dX6_allPegs_22 (nI_add _ _) rfl ?_
      refine V_istore_n (pc' := 24) [(0, .ref (y 0)), (1, .int (nI ((sm (fun k => cnt (s k)) i) + (cnt (s i))))), (2, .int (nI i))] [1, 0, 2] X dX6_allPegs_23 rfl (Nat.le_of_ble_eq_true rfl) rfl rfl ?_
      refine V_iinc (pc' := 27) [(0, .ref (y 0)), (1, .int (nI ((sm (fun k => cnt (s k)) i) + (cnt (s i))))), (2, .int (nI (i + 1)))] 2 [1, 2, 0] X dX6_allPegs_24 rfl (nI_i1 _) (Nat.le_of_ble_eq_true rfl) rfl rfl ?_
      refine V_goto (pc' := 4) X dX6_allPegs_27 (by decide) ?_
      exact ih
  exact lp_1 0 (Nat.zero_le _)

set_option maxHeartbeats 4000000 in
set_option maxRecDepth 100000 in
theorem c_X6_weightIn (l : Launch) (G : gT) (y : Nat → Nat) (t kn ln th : Nat) (s : Nat → Nat) (hI : IV s) (h : Nat) (hh : h < 1024) : CM l G yX6_weightIn wsX6_weightIn 1 23 1 [.ref (y 0), .int (nI h)] [MO y t kn ln th, RW G (y 1) 70 s] 0 0 (fun v u => v = some (.int (nI (wIn (fun k => s (36 + k)) h))) ∧ u = [MO y t kn ln th, RW G (y 1) 70 s]) := by
  refine CM_of RX6 0 0 rfl rfl (by decide) (by decide +kernel) (Nat.le_of_ble_eq_true rfl) (fun E A X hrt hnm => ?_)
  have F7 := Fld_of (idx := 7) 6 1 X (by decide) (by decide) (by decide +kernel) (by decide +kernel)
  generalize hQ : QM E G A _ _ _ = Q
  obtain ⟨i1, i2, i3, i4, i5, i6⟩ := id hI
  show V E G A 4 [MO y t kn ln th, RW G (y 1) 70 s] 0 0 Q 0 [(0, .ref (y 0)), (1, .int (nI h))] []
  refine V_iconst (pc' := 1) (nI 0) X dX6_weightIn_0 ki_0 rfl ?_
  refine V_istore_n (pc' := 2) [(0, .ref (y 0)), (1, .int (nI h)), (2, .int (nI 0))] [1, 2, 0] X dX6_weightIn_1 rfl (Nat.le_of_ble_eq_true rfl) rfl rfl ?_
  refine V_iconst (pc' := 3) (nI 0) X dX6_weightIn_2 ki_0 rfl ?_
  refine V_istore_n (pc' := 4) [(0, .ref (y 0)), (1, .int (nI h)), (2, .int (nI 0)), (3, .int (nI 0))] [1, 2, 3, 0] X dX6_weightIn_3 rfl (Nat.le_of_ble_eq_true rfl) rfl rfl ?_
  have lp_1 : ∀ i, i ≤ 10 → V E G A 4 [MO y t kn ln th, RW G (y 1) 70 s] 0 0 Q 4 [(0, .ref (y 0)), (1, .int (nI h)), (2, .int (nI (sm (fun k => bq h k * s (36 + k)) i))), (3, .int (nI i))] [] := by
    refine loopD 10 ?_ ?_
    · show V E G A 4 [MO y t kn ln th, RW G (y 1) 70 s] 0 0 Q 4 [(0, .ref (y 0)), (1, .int (nI h)), (2, .int (nI (sm (fun k => bq h k * s (36 + k)) 10))), (3, .int (nI 10))] []
      refine V_iload_n (pc' := 5) 3 X dX6_weightIn_4 rfl rfl rfl ?_
      refine V_bipush (pc' := 7) (nI 10) X dX6_weightIn_5 kb_10 rfl ?_
      refine V_icmp_ge (pc' := 10) (C := 10 ≤ 10) 34 X dX6_weightIn_7 (by decide) rfl (nI_leI (by omega) (by omega)) (fun _ => ?_) (fun hz => absurd (by omega) hz)
      refine V_iload_n (pc' := 35) 2 X dX6_weightIn_34 rfl rfl rfl ?_
      exact V_ireturn (v := nI (sm (fun k => bq h k * s (36 + k)) 10)) [MO y t kn ln th, RW G (y 1) 70 s] hQ X hrt rfl dX6_weightIn_35 (Nat.le_of_ble_eq_true rfl) (Nat.le_of_ble_eq_true rfl) (List.Perm.refl _) ⟨rfl, rfl⟩
    · intro i hi_i ih
      show V E G A 4 [MO y t kn ln th, RW G (y 1) 70 s] 0 0 Q 4 [(0, .ref (y 0)), (1, .int (nI h)), (2, .int (nI (sm (fun k => bq h k * s (36 + k)) i))), (3, .int (nI i))] []
      refine V_iload_n (pc' := 5) 3 X dX6_weightIn_4 rfl rfl rfl ?_
      refine V_bipush (pc' := 7) (nI 10) X dX6_weightIn_5 kb_10 rfl ?_
      refine V_icmp_ge (pc' := 10) (C := 10 ≤ i) 34 X dX6_weightIn_7 (by decide) rfl (nI_leI (by omega) (by omega)) (fun hz => absurd hz (by omega)) (fun _ => ?_)
      refine V_iload_n (pc' := 11) 2 X dX6_weightIn_10 rfl rfl rfl ?_
      refine V_iload_n (pc' := 12) 1 X dX6_weightIn_11 rfl rfl rfl ?_
      refine V_iload_n (pc' := 13) 3 X dX6_weightIn_12 rfl rfl rfl ?_
      refine V_ishr (pc' := 14) (nI (h / 2 ^ i)) X dX6_weightIn_13 (z_shr (by omega) (by omega)) rfl ?_
      refine V_iconst (pc' := 15) (nI 1) X dX6_weightIn_14 ki_1 rfl ?_
      refine V_iand (pc' := 16) (nI (bq h i)) X dX6_weightIn_15 (z_and1 _) rfl ?_
      refine V_aload_n (pc' := 17) 0 X dX6_weightIn_16 rfl rfl rfl ?_
      refine V_get (pc' := 20) 0 X F7 rfl rfl dX6_weightIn_17 rfl ?_
      refine V_bipush (pc' := 22) (nI 36) X dX6_weightIn_20 kb_36 rfl ?_
      refine V_iload_n (pc' := 23) 3 X dX6_weightIn_22 rfl rfl rfl ?_
      refine V_iadd (pc' := 24) (nI (36 + i)) X dX6_weightIn_23 (nI_add _ _) rfl ?_
      refine V_iald (pc' := 25) (v := nI (s (36 + i))) 1 (36 + i) X rfl (by omega) (by decide) rfl dX6_weightIn_24 rfl ?_
      refine V_imul (pc' := 26) (nI ((bq h i) * (s (36 + i)))) X dX6_weightIn_25 (pk_mul _ _) rfl ?_
      refine V_iadd (pc' := 27) (nI ((sm (fun k => bq h k * s (36 + k)) i) + ((bq h i) * (s (36 + i))))) X dX6_weightIn_26 (nI_add _ _) rfl ?_
      refine V_istore_n (pc' := 28) [(0, .ref (y 0)), (1, .int (nI h)), (2, .int (nI ((sm (fun k => bq h k * s (36 + k)) i) + ((bq h i) * (s (36 + i)))))), (3, .int (nI i))] [1, 2, 0, 3] X dX6_weightIn_27 rfl (Nat.le_of_ble_eq_true rfl) rfl rfl ?_
      refine V_iinc (pc' := 31) [(0, .ref (y 0)), (1, .int (nI h)), (2, .int (nI ((sm (fun k => bq h k * s (36 + k)) i) + ((bq h i) * (s (36 + i)))))), (3, .int (nI (i + 1)))] 3 [1, 2, 3, 0] X dX6_weightIn_28 rfl (nI_i1 _) (Nat.le_of_ble_eq_true rfl) rfl rfl ?_
      refine V_goto (pc' := 4) X dX6_weightIn_31 (by decide) ?_
      exact ih
  exact lp_1 0 (Nat.zero_le _)

set_option maxHeartbeats 4000000 in
set_option maxRecDepth 100000 in
theorem c_X6_missedFor (l : Launch) (G : gT) (y : Nat → Nat) (t kn ln th : Nat) (s : Nat → Nat) (hI : IV s) (b h g B : Nat) (hb : b < 10) (hh : h < 1024) (hg : g < 2 ^ 20) (hB : B < 2 ^ 20) : CM l G yX6_missedFor wsX6_missedFor 2 47 4 [.ref (y 0), .int (nI b), .int (nI h), .int (nI g), .int (nI B)] [MO y t kn ln th, RW G (y 1) 70 s] 0 0 (fun v u => v = some (.int (nI (mfv s b h g B))) ∧ u = [MO y t kn ln th, RW G (y 1) 70 s]) := by
  refine CM_of RX6 1 23 rfl rfl (by decide) (by decide +kernel) (Nat.le_of_ble_eq_true rfl) (fun E A X hrt hnm => ?_)
  have F7 := Fld_of (idx := 7) 6 1 X (by decide) (by decide) (by decide +kernel) (by decide +kernel)
  generalize hQ : QM E G A _ _ _ = Q
  obtain ⟨i1, i2, i3, i4, i5, i6⟩ := id hI
  have hwb := i3 b hb
  have hwi := wIn_le (p := h) i3
  show V E G A 5 [MO y t kn ln th, RW G (y 1) 70 s] 0 0 Q 0 [(0, .ref (y 0)), (1, .int (nI b)), (2, .int (nI h)), (3, .int (nI g)), (4, .int (nI B))] []
  refine V_iload_n (pc' := 1) 3 X dX6_missedFor_0 rfl rfl rfl ?_
  refine V_bipush (pc' := 3) (nI 9) X dX6_missedFor_1 kb_9 rfl ?_
  refine V_icmp_ge (pc' := 6) (C := 9 ≤ g) 28 X dX6_missedFor_3 (by decide) rfl (nI_leI (by omega) (by omega)) (fun h3 => ?_) (fun h3 => ?_)
  · refine V_aload_n (pc' := 29) 0 X dX6_missedFor_28 rfl rfl rfl ?_
    refine V_iload_n (pc' := 30) 2 X dX6_missedFor_29 rfl rfl rfl ?_
    refine V_callV (pc' := 33) (As := [.int (nI h)]) (st := []) 6 0 [0, 1] [] (show (List.range 2).Perm ([0, 1] ++ []) by decide) X (c_X6_weightIn l G y t kn ln th s hI h (by omega)) rfl gX6_missedFor_X6_weightIn rfl (by decide) rfl rfl rfl (Nat.le_of_ble_eq_true rfl) ⟨Nat.le_of_ble_eq_true rfl, Nat.le_of_ble_eq_true rfl⟩ ⟨Nat.le_of_ble_eq_true rfl, Nat.le_of_ble_eq_true rfl⟩ dX6_missedFor_30 rfl (fun v_ u_ hp_ => ?_)
    obtain ⟨rfl, rfl⟩ := hp_
    show V E G A 5 [MO y t kn ln th, RW G (y 1) 70 s] 0 0 Q 33 [(0, .ref (y 0)), (1, .int (nI b)), (2, .int (nI h)), (3, .int (nI g)), (4, .int (nI B))] [.int (nI (wIn (fun k => s (36 + k)) h))]
    refine V_aload_n (pc' := 34) 0 X dX6_missedFor_33 rfl rfl rfl ?_
    refine V_get (pc' := 37) 0 X F7 rfl rfl dX6_missedFor_34 rfl ?_
    refine V_bipush (pc' := 39) (nI 36) X dX6_missedFor_37 kb_36 rfl ?_
    refine V_iload_n (pc' := 40) 1 X dX6_missedFor_39 rfl rfl rfl ?_
    refine V_iadd (pc' := 41) (nI (36 + b)) X dX6_missedFor_40 (nI_add _ _) rfl ?_
    refine V_iald (pc' := 42) (v := nI (s (36 + b))) 1 (36 + b) X rfl (by omega) (by decide) rfl dX6_missedFor_41 rfl ?_
    refine V_iadd (pc' := 43) (nI ((wIn (fun k => s (36 + k)) h) + (s (36 + b)))) X dX6_missedFor_42 (nI_add _ _) rfl ?_
    refine V_iload (pc' := 45) 4 X dX6_missedFor_43 rfl rfl ?_
    refine V_icmp_le (pc' := 48) (C := ((wIn (fun k => s (36 + k)) h) + (s (36 + b))) ≤ B) 52 X dX6_missedFor_45 (by decide) rfl (nI_leI (by omega) (by omega)) (fun h45 => ?_) (fun h45 => ?_)
    · refine V_iconst (pc' := 53) (nI 0) X dX6_missedFor_52 ki_0 rfl ?_
      exact V_ireturn (v := nI 0) [MO y t kn ln th, RW G (y 1) 70 s] hQ X hrt rfl dX6_missedFor_53 (Nat.le_of_ble_eq_true rfl) (Nat.le_of_ble_eq_true rfl) (List.Perm.refl _) ⟨by unfold mfv; rw [if_neg (by omega), if_neg (by omega)], rfl⟩
    · refine V_iconst (pc' := 49) (nI 2) X dX6_missedFor_48 ki_2 rfl ?_
      refine V_goto (pc' := 53) X dX6_missedFor_49 (by decide) ?_
      exact V_ireturn (v := nI 2) [MO y t kn ln th, RW G (y 1) 70 s] hQ X hrt rfl dX6_missedFor_53 (Nat.le_of_ble_eq_true rfl) (Nat.le_of_ble_eq_true rfl) (List.Perm.refl _) ⟨by unfold mfv; rw [if_neg (by omega), if_pos (by omega)], rfl⟩
  · refine V_iload_n (pc' := 7) 3 X dX6_missedFor_6 rfl rfl rfl ?_
    refine V_iconst (pc' := 8) (nI 1) X dX6_missedFor_7 ki_1 rfl ?_
    refine V_iadd (pc' := 9) (nI (g + 1)) X dX6_missedFor_8 (nI_add _ _) rfl ?_
    refine V_aload_n (pc' := 10) 0 X dX6_missedFor_9 rfl rfl rfl ?_
    refine V_get (pc' := 13) 0 X F7 rfl rfl dX6_missedFor_10 rfl ?_
    refine V_bipush (pc' := 15) (nI 36) X dX6_missedFor_13 kb_36 rfl ?_
    refine V_iload_n (pc' := 16) 1 X dX6_missedFor_15 rfl rfl rfl ?_
    refine V_iadd (pc' := 17) (nI (36 + b)) X dX6_missedFor_16 (nI_add _ _) rfl ?_
    refine V_iald (pc' := 18) (v := nI (s (36 + b))) 1 (36 + b) X rfl (by omega) (by decide) rfl dX6_missedFor_17 rfl ?_
    refine V_bipush (pc' := 20) (nI 20) X dX6_missedFor_18 kb_20 rfl ?_
    refine V_idiv (pc' := 21) (nI ((s (36 + b)) / 20)) X dX6_missedFor_20 (z_ne0 (by omega) (by omega)) (pk_div (by omega) (by omega) (by omega)) rfl ?_
    refine V_iconst (pc' := 22) (nI 1) X dX6_missedFor_21 ki_1 rfl ?_
    refine V_iadd (pc' := 23) (nI (((s (36 + b)) / 20) + 1)) X dX6_missedFor_22 (nI_add _ _) rfl ?_
    refine V_icmp_ge (pc' := 26) (C := (((s (36 + b)) / 20) + 1) ≤ (g + 1)) 28 X dX6_missedFor_23 (by decide) rfl (nI_leI (by omega) (by omega)) (fun h23 => ?_) (fun h23 => ?_)
    · refine V_aload_n (pc' := 29) 0 X dX6_missedFor_28 rfl rfl rfl ?_
      refine V_iload_n (pc' := 30) 2 X dX6_missedFor_29 rfl rfl rfl ?_
      refine V_callV (pc' := 33) (As := [.int (nI h)]) (st := []) 6 0 [0, 1] [] (show (List.range 2).Perm ([0, 1] ++ []) by decide) X (c_X6_weightIn l G y t kn ln th s hI h (by omega)) rfl gX6_missedFor_X6_weightIn rfl (by decide) rfl rfl rfl (Nat.le_of_ble_eq_true rfl) ⟨Nat.le_of_ble_eq_true rfl, Nat.le_of_ble_eq_true rfl⟩ ⟨Nat.le_of_ble_eq_true rfl, Nat.le_of_ble_eq_true rfl⟩ dX6_missedFor_30 rfl (fun v_ u_ hp_ => ?_)
      obtain ⟨rfl, rfl⟩ := hp_
      show V E G A 5 [MO y t kn ln th, RW G (y 1) 70 s] 0 0 Q 33 [(0, .ref (y 0)), (1, .int (nI b)), (2, .int (nI h)), (3, .int (nI g)), (4, .int (nI B))] [.int (nI (wIn (fun k => s (36 + k)) h))]
      refine V_aload_n (pc' := 34) 0 X dX6_missedFor_33 rfl rfl rfl ?_
      refine V_get (pc' := 37) 0 X F7 rfl rfl dX6_missedFor_34 rfl ?_
      refine V_bipush (pc' := 39) (nI 36) X dX6_missedFor_37 kb_36 rfl ?_
      refine V_iload_n (pc' := 40) 1 X dX6_missedFor_39 rfl rfl rfl ?_
      refine V_iadd (pc' := 41) (nI (36 + b)) X dX6_missedFor_40 (nI_add _ _) rfl ?_
      refine V_iald (pc' := 42) (v := nI (s (36 + b))) 1 (36 + b) X rfl (by omega) (by decide) rfl dX6_missedFor_41 rfl ?_
      refine V_iadd (pc' := 43) (nI ((wIn (fun k => s (36 + k)) h) + (s (36 + b)))) X dX6_missedFor_42 (nI_add _ _) rfl ?_
      refine V_iload (pc' := 45) 4 X dX6_missedFor_43 rfl rfl ?_
      refine V_icmp_le (pc' := 48) (C := ((wIn (fun k => s (36 + k)) h) + (s (36 + b))) ≤ B) 52 X dX6_missedFor_45 (by decide) rfl (nI_leI (by omega) (by omega)) (fun h45 => ?_) (fun h45 => ?_)
      · refine V_iconst (pc' := 53) (nI 0) X dX6_missedFor_52 ki_0 rfl ?_
        exact V_ireturn (v := nI 0) [MO y t kn ln th, RW G (y 1) 70 s] hQ X hrt rfl dX6_missedFor_53 (Nat.le_of_ble_eq_true rfl) (Nat.le_of_ble_eq_true rfl) (List.Perm.refl _) ⟨by unfold mfv; rw [if_neg (by omega), if_neg (by omega)], rfl⟩
      · refine V_iconst (pc' := 49) (nI 2) X dX6_missedFor_48 ki_2 rfl ?_
        refine V_goto (pc' := 53) X dX6_missedFor_49 (by decide) ?_
        exact V_ireturn (v := nI 2) [MO y t kn ln th, RW G (y 1) 70 s] hQ X hrt rfl dX6_missedFor_53 (Nat.le_of_ble_eq_true rfl) (Nat.le_of_ble_eq_true rfl) (List.Perm.refl _) ⟨by unfold mfv; rw [if_neg (by omega), if_pos (by omega)], rfl⟩
    · refine V_iconst (pc' := 27) (nI 1) X dX6_missedFor_26 ki_1 rfl ?_
      exact V_ireturn (v := nI 1) [MO y t kn ln th, RW G (y 1) 70 s] hQ X hrt rfl dX6_missedFor_27 (Nat.le_of_ble_eq_true rfl) (Nat.le_of_ble_eq_true rfl) (List.Perm.refl _) ⟨by unfold mfv; rw [if_pos (by omega)], rfl⟩

set_option maxHeartbeats 4000000 in
set_option maxRecDepth 100000 in
theorem c_X6_later (l : Launch) (G : gT) (g : Nat) (hg : g ≤ 9) : CM l G yX6_later wsX6_later 1 20 1 [.int (nI g)] [] 0 0 (fun v u => v = some (.int (nI (min (g + 1) 9))) ∧ u = []) := by
  refine CM_of RX6 0 0 rfl rfl (by decide) (by decide +kernel) (Nat.le_of_ble_eq_true rfl) (fun E A X hrt hnm => ?_)
  generalize hQ : QM E G A _ _ _ = Q
  show V E G A 1 [] 0 0 Q 0 [(0, .int (nI g))] []
  refine V_iload_n (pc' := 1) 0 X dX6_later_0 rfl rfl rfl ?_
  refine V_bipush (pc' := 3) (nI 9) X dX6_later_1 kb_9 rfl ?_
  refine V_icmp_ge (pc' := 6) (C := 9 ≤ g) 12 X dX6_later_3 (by decide) rfl (nI_leI (by omega) (by omega)) (fun h3 => ?_) (fun h3 => ?_)
  · refine V_bipush (pc' := 14) (nI 9) X dX6_later_12 kb_9 rfl ?_
    exact V_ireturn (v := nI 9) [] hQ X hrt rfl dX6_later_14 (Nat.le_of_ble_eq_true rfl) (Nat.le_of_ble_eq_true rfl) (List.Perm.refl _) ⟨by rw [show min (g + 1) 9 = 9 by omega], rfl⟩
  · refine V_iload_n (pc' := 7) 0 X dX6_later_6 rfl rfl rfl ?_
    refine V_iconst (pc' := 8) (nI 1) X dX6_later_7 ki_1 rfl ?_
    refine V_iadd (pc' := 9) (nI (g + 1)) X dX6_later_8 (nI_add _ _) rfl ?_
    refine V_goto (pc' := 14) X dX6_later_9 (by decide) ?_
    exact V_ireturn (v := nI (g + 1)) [] hQ X hrt rfl dX6_later_14 (Nat.le_of_ble_eq_true rfl) (Nat.le_of_ble_eq_true rfl) (List.Perm.refl _) ⟨by rw [show min (g + 1) 9 = g + 1 by omega], rfl⟩

set_option maxHeartbeats 4000000 in
set_option maxRecDepth 100000 in
theorem c_X6_strikes (l : Launch) (G : gT) (y : Nat → Nat) (t kn ln th : Nat) (s : Nat → Nat) (hI : IV s) : CM l G yX6_strikes wsX6_strikes 3 72 0 [.ref (y 0)] [MO y t kn ln th, RW G (y 1) 70 s] 0 0 (fun v u => v = some (.int (nI (cnt (hs s)))) ∧ u = [MO y t kn ln th, RW G (y 1) 70 (stk 9 s)]) := by
  refine CM_of RX6 2 47 rfl rfl (by decide) (by decide +kernel) (Nat.le_of_ble_eq_true rfl) (fun E A X hrt hnm => ?_)
  have F7 := Fld_of (idx := 7) 6 1 X (by decide) (by decide) (by decide +kernel) (by decide +kernel)
  generalize hQ : QM E G A _ _ _ = Q
  obtain ⟨i1, i2, i3, i4, i5, i6⟩ := id hI
  show V E G A 6 [MO y t kn ln th, RW G (y 1) 70 s] 0 0 Q 0 [(0, .ref (y 0))] []
  refine V_aload_n (pc' := 1) 0 X dX6_strikes_0 rfl rfl rfl ?_
  refine V_get (pc' := 4) 0 X F7 rfl rfl dX6_strikes_1 rfl ?_
  refine V_bipush (pc' := 6) (nI 47) X dX6_strikes_4 kb_47 rfl ?_
  refine V_iald (pc' := 7) (v := nI (s 47)) 1 47 X rfl (by omega) (by decide) rfl dX6_strikes_6 rfl ?_
  refine V_istore_n (pc' := 8) [(0, .ref (y 0)), (1, .int (nI (s 47)))] [1, 0] X dX6_strikes_7 rfl (Nat.le_of_ble_eq_true rfl) rfl rfl ?_
  refine V_iconst (pc' := 9) (nI 0) X dX6_strikes_8 ki_0 rfl ?_
  refine V_istore_n (pc' := 10) [(0, .ref (y 0)), (1, .int (nI (s 47))), (2, .int (nI 0))] [1, 2, 0] X dX6_strikes_9 rfl (Nat.le_of_ble_eq_true rfl) rfl rfl ?_
  refine V_iconst (pc' := 11) (nI 0) X dX6_strikes_10 ki_0 rfl ?_
  refine V_istore_n (pc' := 12) [(0, .ref (y 0)), (1, .int (nI (s 47))), (2, .int (nI 0)), (3, .int (nI 0))] [1, 2, 3, 0] X dX6_strikes_11 rfl (Nat.le_of_ble_eq_true rfl) rfl rfl ?_
  refine V_ws [MO y t kn ln th, [((y 1), .inl (G.2 0, 70, .inl (nf s)))]] rfl ?_
  refine V_wsq [MO y t kn ln th, [((y 1), .inl (G.2 0, 70, .inl (nf (sti s 0))))]] (wsq.app (wsq.rf _) (wsq.app (wsq.cons (weq.row (fun k hk => congrArg nI sti_0)) (wsq.rf _)) (wsq.rf _))) ?_
  refine V_ws [MO y t kn ln th, RW G (y 1) 70 (sti s 0)] rfl ?_
  have lp_1 : ∀ i, i ≤ 10 → V E G A 6 [MO y t kn ln th, RW G (y 1) 70 (sti s i)] 0 0 Q 12 [(0, .ref (y 0)), (1, .int (nI (s 47))), (2, .int (nI ((hq s i).1))), (3, .int (nI i))] [] := by
    refine loopD 10 ?_ ?_
    · show V E G A 6 [MO y t kn ln th, RW G (y 1) 70 (sti s 10)] 0 0 Q 12 [(0, .ref (y 0)), (1, .int (nI (s 47))), (2, .int (nI ((hq s 10).1))), (3, .int (nI 10))] []
      refine V_iload_n (pc' := 13) 3 X dX6_strikes_12 rfl rfl rfl ?_
      refine V_bipush (pc' := 15) (nI 10) X dX6_strikes_13 kb_10 rfl ?_
      refine V_icmp_ge (pc' := 18) (C := 10 ≤ 10) 176 X dX6_strikes_15 (by decide) rfl (nI_leI (by omega) (by omega)) (fun _ => ?_) (fun hz => absurd (by omega) hz)
      refine V_aload_n (pc' := 177) 0 X dX6_strikes_176 rfl rfl rfl ?_
      refine V_get (pc' := 180) 0 X F7 rfl rfl dX6_strikes_177 rfl ?_
      refine V_bipush (pc' := 182) (nI 48) X dX6_strikes_180 kb_48 rfl ?_
      refine V_dup2 (pc' := 183) X dX6_strikes_182 rfl rfl rfl ?_
      refine V_iald (pc' := 184) (v := nI (s 48)) 1 48 X rfl (by omega) (by decide) (congrArg nI (sti_o (by omega) (by omega))) dX6_strikes_183 rfl ?_
      refine V_aload_n (pc' := 185) 0 X dX6_strikes_184 rfl rfl rfl ?_
      refine V_get (pc' := 188) 0 X F7 rfl rfl dX6_strikes_185 rfl ?_
      refine V_bipush (pc' := 190) (nI 32) X dX6_strikes_188 kb_32 rfl ?_
      refine V_iload_n (pc' := 191) 1 X dX6_strikes_190 rfl rfl rfl ?_
      refine V_bipush (pc' := 193) (nI 8) X dX6_strikes_191 kb_8 rfl ?_
      refine V_idiv (pc' := 194) (nI ((s 47) / 8)) X dX6_strikes_193 (z_ne0 (by omega) (by omega)) (pk_div (by omega) (by omega) (by omega)) rfl ?_
      refine V_iadd (pc' := 195) (nI (32 + ((s 47) / 8))) X dX6_strikes_194 (nI_add _ _) rfl ?_
      refine V_iald (pc' := 196) (v := nI (s (32 + ((s 47) / 8)))) 1 (32 + ((s 47) / 8)) X rfl (by omega) (by decide) (congrArg nI (sti_o (by omega) (by omega))) dX6_strikes_195 rfl ?_
      refine V_iadd (pc' := 197) (nI ((s 48) + (s (32 + ((s 47) / 8))))) X dX6_strikes_196 (nI_add _ _) rfl ?_
      refine V_ws [MO y t kn ln th, [((y 1), .inl (G.2 0, 70, .inl (nf (sti s 10))))]] rfl ?_
      refine V_iast (pc' := 198) 1 48 [MO y t kn ln th, [((y 1), .inl (G.2 0, 70, .inl (upd (nf (sti s 10)) 48 (nI ((s 48) + (s (32 + ((s 47) / 8))))))))]] X rfl (by omega) (by decide) rfl dX6_strikes_197 rfl ?_
      refine V_ws [MO y t kn ln th, [((y 1), .inl (G.2 0, 70, .inl (nf (va_up (sti s 10) 48 ((s 48) + (s (32 + ((s 47) / 8))))))))]] (by simp only [nf_upd]) ?_
      refine V_aload_n (pc' := 199) 0 X dX6_strikes_198 rfl rfl rfl ?_
      refine V_get (pc' := 202) 0 X F7 rfl rfl dX6_strikes_199 rfl ?_
      refine V_bipush (pc' := 204) (nI 47) X dX6_strikes_202 kb_47 rfl ?_
      refine V_iload_n (pc' := 205) 1 X dX6_strikes_204 rfl rfl rfl ?_
      refine V_iconst (pc' := 206) (nI 1) X dX6_strikes_205 ki_1 rfl ?_
      refine V_iadd (pc' := 207) (nI ((s 47) + 1)) X dX6_strikes_206 (nI_add _ _) rfl ?_
      refine V_bipush (pc' := 209) (nI 32) X dX6_strikes_207 kb_32 rfl ?_
      refine V_irem (pc' := 210) (nI (((s 47) + 1) % 32)) X dX6_strikes_209 (z_ne0 (by omega) (by omega)) (pk_rem (by omega) (by omega) (by omega)) rfl ?_
      refine V_iast (pc' := 211) 1 47 [MO y t kn ln th, [((y 1), .inl (G.2 0, 70, .inl (upd (nf (va_up (sti s 10) 48 ((s 48) + (s (32 + ((s 47) / 8)))))) 47 (nI (((s 47) + 1) % 32)))))]] X rfl (by omega) (by decide) rfl dX6_strikes_210 rfl ?_
      refine V_ws [MO y t kn ln th, [((y 1), .inl (G.2 0, 70, .inl (nf (va_up (va_up (sti s 10) 48 ((s 48) + (s (32 + ((s 47) / 8))))) 47 (((s 47) + 1) % 32)))))]] (by simp only [nf_upd]) ?_
      refine V_iload_n (pc' := 212) 2 X dX6_strikes_211 rfl rfl rfl ?_
      refine V_callS (pc' := 215) (As := [.int (nI ((hq s 10).1))]) (st := []) [] [0, 1] (show (List.range 2).Perm ([] ++ [0, 1]) by decide) X (c_X6_count l G ((hq s 10).1) (Nat.lt_trans (hs_lt s) (by decide))) rfl gX6_strikes_X6_count rfl rfl (Nat.le_of_ble_eq_true rfl) ⟨Nat.le_of_ble_eq_true rfl, Nat.le_of_ble_eq_true rfl⟩ ⟨Nat.le_of_ble_eq_true rfl, Nat.le_of_ble_eq_true rfl⟩ dX6_strikes_212 rfl (fun v_ u_ hp_ => ?_)
      obtain ⟨rfl, rfl⟩ := hp_
      show V E G A 6 [MO y t kn ln th, [((y 1), .inl (G.2 0, 70, .inl (nf (va_up (va_up (sti s 10) 48 ((s 48) + (s (32 + ((s 47) / 8))))) 47 (((s 47) + 1) % 32)))))]] 0 0 Q 215 [(0, .ref (y 0)), (1, .int (nI (s 47))), (2, .int (nI ((hq s 10).1))), (3, .int (nI 10))] [.int (nI (cnt ((hq s 10).1)))]
      refine V_wsq [MO y t kn ln th, [((y 1), .inl (G.2 0, 70, .inl (nf (stk 9 s))))]] (wsq.app (wsq.rf _) (wsq.app (wsq.cons (weq.row (fun k hk => congrArg nI (stk_fin hk))) (wsq.rf _)) (wsq.rf _))) ?_
      refine V_ws [MO y t kn ln th, RW G (y 1) 70 (stk 9 s)] rfl ?_
      exact V_ireturn (v := nI (cnt ((hq s 10).1))) [MO y t kn ln th, RW G (y 1) 70 (stk 9 s)] hQ X hrt rfl dX6_strikes_215 (Nat.le_of_ble_eq_true rfl) (Nat.le_of_ble_eq_true rfl) (List.Perm.refl _) ⟨rfl, rfl⟩
    · intro i hi_i ih
      show V E G A 6 [MO y t kn ln th, RW G (y 1) 70 (sti s i)] 0 0 Q 12 [(0, .ref (y 0)), (1, .int (nI (s 47))), (2, .int (nI ((hq s i).1))), (3, .int (nI i))] []
      have hpp := i1 _ i5
      have h6 := i6 i hi_i
      have hq10 := hq_le s i (by omega)
      have hst59 := sti_59 (s := s) (i := i) (by omega)
      refine V_iload_n (pc' := 13) 3 X dX6_strikes_12 rfl rfl rfl ?_
      refine V_bipush (pc' := 15) (nI 10) X dX6_strikes_13 kb_10 rfl ?_
      refine V_icmp_ge (pc' := 18) (C := 10 ≤ i) 176 X dX6_strikes_15 (by decide) rfl (nI_leI (by omega) (by omega)) (fun hz => absurd hz (by omega)) (fun _ => ?_)
      refine V_aload_n (pc' := 19) 0 X dX6_strikes_18 rfl rfl rfl ?_
      refine V_get (pc' := 22) 0 X F7 rfl rfl dX6_strikes_19 rfl ?_
      refine V_iconst (pc' := 23) (nI 0) X dX6_strikes_22 ki_0 rfl ?_
      refine V_iload_n (pc' := 24) 1 X dX6_strikes_23 rfl rfl rfl ?_
      refine V_iadd (pc' := 25) (nI (s 47)) X dX6_strikes_24 (nI_0add _) rfl ?_
      refine V_iald (pc' := 26) (v := nI (s (s 47))) 1 (s 47) X rfl (by omega) (by decide) (congrArg nI (sti_o (by omega) (by omega))) dX6_strikes_25 rfl ?_
      refine V_iload_n (pc' := 27) 3 X dX6_strikes_26 rfl rfl rfl ?_
      refine V_ishr (pc' := 28) (nI ((s (s 47)) / 2 ^ i)) X dX6_strikes_27 (z_shr (by omega) (by omega)) rfl ?_
      refine V_iconst (pc' := 29) (nI 1) X dX6_strikes_28 ki_1 rfl ?_
      refine V_iand (pc' := 30) (nI (bq (s (s 47)) i)) X dX6_strikes_29 (z_and1 _) rfl ?_
      refine V_iconst (pc' := 31) (nI 1) X dX6_strikes_30 ki_1 rfl ?_
      refine V_icmp_ne (pc' := 34) (C := (bq (s (s 47)) i) = 1) 38 X dX6_strikes_31 (by decide) rfl (nI_eq (Nat.lt_trans (bq_lt _ _) (by decide)) (by decide)) (fun h31 => ?_) (fun h31 => ?_)
      · refine V_iconst (pc' := 39) (nI 0) X dX6_strikes_38 ki_0 rfl ?_
        refine V_istore (pc' := 41) [(0, .ref (y 0)), (1, .int (nI (s 47))), (2, .int (nI ((hq s i).1))), (3, .int (nI i)), (4, .int (nI 0))] [1, 2, 3, 4, 0] X dX6_strikes_39 (Nat.le_of_ble_eq_true rfl) rfl rfl ?_
        refine V_iload (pc' := 43) 4 X dX6_strikes_41 rfl rfl ?_
        refine V_if_eq (pc' := 46) (C := 0 = 0) 75 X dX6_strikes_43 (by decide) rfl (z_eq0 (by omega)) (fun _ => ?_) (fun hz => absurd (by decide) hz)
        refine V_iconst (pc' := 76) (nI 0) X dX6_strikes_75 ki_0 rfl ?_
        refine V_istore (pc' := 78) [(0, .ref (y 0)), (1, .int (nI (s 47))), (2, .int (nI ((hq s i).1))), (3, .int (nI i)), (4, .int (nI 0)), (5, .int (nI 0))] [1, 2, 3, 4, 5, 0] X dX6_strikes_76 (Nat.le_of_ble_eq_true rfl) rfl rfl ?_
        refine V_iload_n (pc' := 79) 2 X dX6_strikes_78 rfl rfl rfl ?_
        refine V_iload (pc' := 81) 5 X dX6_strikes_79 rfl rfl ?_
        refine V_if_eq (pc' := 84) (C := 0 = 0) 90 X dX6_strikes_81 (by decide) rfl (z_eq0 (by omega)) (fun _ => ?_) (fun hz => absurd (by decide) hz)
        refine V_iconst (pc' := 91) (nI 0) X dX6_strikes_90 ki_0 rfl ?_
        refine V_ior (pc' := 92) (nI ((hq s i).1)) X dX6_strikes_91 (by rw [z_or, Nat.or_zero]) rfl ?_
        refine V_istore_n (pc' := 93) [(0, .ref (y 0)), (1, .int (nI (s 47))), (2, .int (nI ((hq s i).1))), (3, .int (nI i)), (4, .int (nI 0)), (5, .int (nI 0))] [1, 2, 0, 3, 4, 5] X dX6_strikes_92 rfl (Nat.le_of_ble_eq_true rfl) rfl rfl ?_
        refine V_aload_n (pc' := 94) 0 X dX6_strikes_93 rfl rfl rfl ?_
        refine V_get (pc' := 97) 0 X F7 rfl rfl dX6_strikes_94 rfl ?_
        refine V_bipush (pc' := 99) (nI 49) X dX6_strikes_97 kb_49 rfl ?_
        refine V_iload_n (pc' := 100) 3 X dX6_strikes_99 rfl rfl rfl ?_
        refine V_iadd (pc' := 101) (nI (49 + i)) X dX6_strikes_100 (nI_add _ _) rfl ?_
        refine V_dup2 (pc' := 102) X dX6_strikes_101 rfl rfl rfl ?_
        refine V_iald (pc' := 103) (v := nI (s (49 + i))) 1 (49 + i) X rfl (by omega) (by decide) (congrArg nI (sti_o (by omega) (by omega))) dX6_strikes_102 rfl ?_
        refine V_iload (pc' := 105) 5 X dX6_strikes_103 rfl rfl ?_
        refine V_if_eq (pc' := 108) (C := 0 = 0) 112 X dX6_strikes_105 (by decide) rfl (z_eq0 (by omega)) (fun _ => ?_) (fun hz => absurd (by decide) hz)
        refine V_iconst (pc' := 113) (nI 0) X dX6_strikes_112 ki_0 rfl ?_
        refine V_iadd (pc' := 114) (nI ((s (49 + i)) + 0)) X dX6_strikes_113 (nI_add _ _) rfl ?_
        refine V_ws [MO y t kn ln th, [((y 1), .inl (G.2 0, 70, .inl (nf (sti s i))))]] rfl ?_
        refine V_iast (pc' := 115) 1 (49 + i) [MO y t kn ln th, [((y 1), .inl (G.2 0, 70, .inl (upd (nf (sti s i)) (49 + i) (nI ((s (49 + i)) + 0)))))]] X rfl (by omega) (by decide) rfl dX6_strikes_114 rfl ?_
        refine V_ws [MO y t kn ln th, [((y 1), .inl (G.2 0, 70, .inl (nf (va_up (sti s i) (49 + i) ((s (49 + i)) + 0)))))]] (by simp only [nf_upd]) ?_
        refine V_aload_n (pc' := 116) 0 X dX6_strikes_115 rfl rfl rfl ?_
        refine V_get (pc' := 119) 0 X F7 rfl rfl dX6_strikes_116 rfl ?_
        refine V_bipush (pc' := 121) (nI 59) X dX6_strikes_119 kb_59 rfl ?_
        refine V_dup2 (pc' := 122) X dX6_strikes_121 rfl rfl rfl ?_
        refine V_iald (pc' := 123) (v := nI (sti s i 59)) 1 59 X rfl (by omega) (by decide) (congrArg nI (va_up_ne _ _ (by omega))) dX6_strikes_122 rfl ?_
        refine V_iload (pc' := 125) 4 X dX6_strikes_123 rfl rfl ?_
        refine V_if_eq (pc' := 128) (C := 0 = 0) 137 X dX6_strikes_125 (by decide) rfl (z_eq0 (by omega)) (fun _ => ?_) (fun hz => absurd (by decide) hz)
        refine V_iconst (pc' := 138) (nI 0) X dX6_strikes_137 ki_0 rfl ?_
        refine V_iadd (pc' := 139) (nI ((sti s i 59) + 0)) X dX6_strikes_138 (nI_add _ _) rfl ?_
        refine V_iast (pc' := 140) 1 59 [MO y t kn ln th, [((y 1), .inl (G.2 0, 70, .inl (upd (nf (va_up (sti s i) (49 + i) ((s (49 + i)) + 0))) 59 (nI ((sti s i 59) + 0)))))]] X rfl (by omega) (by decide) rfl dX6_strikes_139 rfl ?_
        refine V_ws [MO y t kn ln th, [((y 1), .inl (G.2 0, 70, .inl (nf (va_up (va_up (sti s i) (49 + i) ((s (49 + i)) + 0)) 59 ((sti s i 59) + 0)))))]] (by simp only [nf_upd]) ?_
        refine V_aload_n (pc' := 141) 0 X dX6_strikes_140 rfl rfl rfl ?_
        refine V_get (pc' := 144) 0 X F7 rfl rfl dX6_strikes_141 rfl ?_
        refine V_bipush (pc' := 146) (nI 60) X dX6_strikes_144 kb_60 rfl ?_
        refine V_iload_n (pc' := 147) 3 X dX6_strikes_146 rfl rfl rfl ?_
        refine V_iadd (pc' := 148) (nI (60 + i)) X dX6_strikes_147 (nI_add _ _) rfl ?_
        refine V_iload (pc' := 150) 5 X dX6_strikes_148 rfl rfl ?_
        refine V_if_eq (pc' := 153) (C := 0 = 0) 157 X dX6_strikes_150 (by decide) rfl (z_eq0 (by omega)) (fun _ => ?_) (fun hz => absurd (by decide) hz)
        refine V_aload_n (pc' := 158) 0 X dX6_strikes_157 rfl rfl rfl ?_
        refine V_get (pc' := 161) 0 X F7 rfl rfl dX6_strikes_158 rfl ?_
        refine V_bipush (pc' := 163) (nI 60) X dX6_strikes_161 kb_60 rfl ?_
        refine V_iload_n (pc' := 164) 3 X dX6_strikes_163 rfl rfl rfl ?_
        refine V_iadd (pc' := 165) (nI (60 + i)) X dX6_strikes_164 (nI_add _ _) rfl ?_
        refine V_iald (pc' := 166) (v := nI (s (60 + i))) 1 (60 + i) X rfl (by omega) (by decide) (congrArg nI ((va_up_ne _ _ (by omega)).trans ((va_up_ne _ _ (by omega)).trans (sti_o (by omega) (by omega))))) dX6_strikes_165 rfl ?_
        refine V_callS (pc' := 169) (As := [.int (nI (s (60 + i)))]) (st := [.int (nI (60 + i)), .ref (y 1)]) [] [0, 1] (show (List.range 2).Perm ([] ++ [0, 1]) by decide) X (c_X6_later l G (s (60 + i)) (by omega)) rfl gX6_strikes_X6_later rfl rfl (Nat.le_of_ble_eq_true rfl) ⟨Nat.le_of_ble_eq_true rfl, Nat.le_of_ble_eq_true rfl⟩ ⟨Nat.le_of_ble_eq_true rfl, Nat.le_of_ble_eq_true rfl⟩ dX6_strikes_166 rfl (fun v_ u_ hp_ => ?_)
        obtain ⟨rfl, rfl⟩ := hp_
        show V E G A 6 [MO y t kn ln th, [((y 1), .inl (G.2 0, 70, .inl (nf (va_up (va_up (sti s i) (49 + i) ((s (49 + i)) + 0)) 59 ((sti s i 59) + 0)))))]] 0 0 Q 169 [(0, .ref (y 0)), (1, .int (nI (s 47))), (2, .int (nI ((hq s i).1))), (3, .int (nI i)), (4, .int (nI 0)), (5, .int (nI 0))] [.int (nI (min ((s (60 + i)) + 1) 9)), .int (nI (60 + i)), .ref (y 1)]
        refine V_iast (pc' := 170) 1 (60 + i) [MO y t kn ln th, [((y 1), .inl (G.2 0, 70, .inl (upd (nf (va_up (va_up (sti s i) (49 + i) ((s (49 + i)) + 0)) 59 ((sti s i 59) + 0))) (60 + i) (nI (min ((s (60 + i)) + 1) 9)))))]] X rfl (by omega) (by decide) rfl dX6_strikes_169 rfl ?_
        refine V_ws [MO y t kn ln th, [((y 1), .inl (G.2 0, 70, .inl (nf (va_up (va_up (va_up (sti s i) (49 + i) ((s (49 + i)) + 0)) 59 ((sti s i 59) + 0)) (60 + i) (min ((s (60 + i)) + 1) 9)))))]] (by simp only [nf_upd]) ?_
        refine V_iinc (pc' := 173) [(0, .ref (y 0)), (1, .int (nI (s 47))), (2, .int (nI ((hq s i).1))), (3, .int (nI (i + 1))), (4, .int (nI 0)), (5, .int (nI 0))] 3 [1, 2, 3, 0, 4, 5] X dX6_strikes_170 rfl (nI_i1 _) (Nat.le_of_ble_eq_true rfl) rfl rfl ?_
        refine V_goto (pc' := 12) X dX6_strikes_173 (by decide) ?_
        refine V_lv [0, 1, 2, 3] [(0, .ref (y 0)), (1, .int (nI (s 47))), (2, .int (nI ((hq s i).1))), (3, .int (nI (i + 1)))] rfl ?_
        obtain ⟨hq1, hb1⟩ := hq_no hI hi_i (Or.inl h31)
        refine V_wsq [MO y t kn ln th, [((y 1), .inl (G.2 0, 70, .inl (nf (sti s (i + 1)))))]] (wsq.app (wsq.rf _) (wsq.app (wsq.cons (weq.row (fun k hk => congrArg nI (sti_step (b := 0) (m := 0) (v := min (s (60 + i) + 1) 9) hi_i (by omega) (by have := bq_lt (s (s 47)) i; omega) (by unfold swg; rw [if_neg (by omega)])))) (wsq.rf _)) (wsq.rf _))) ?_
        refine V_ws [MO y t kn ln th, RW G (y 1) 70 (sti s (i + 1))] rfl ?_
        rw [hq1] at ih
        exact ih
      · refine V_iconst (pc' := 35) (nI 1) X dX6_strikes_34 ki_1 rfl ?_
        refine V_goto (pc' := 39) X dX6_strikes_35 (by decide) ?_
        refine V_istore (pc' := 41) [(0, .ref (y 0)), (1, .int (nI (s 47))), (2, .int (nI ((hq s i).1))), (3, .int (nI i)), (4, .int (nI 1))] [1, 2, 3, 4, 0] X dX6_strikes_39 (Nat.le_of_ble_eq_true rfl) rfl rfl ?_
        refine V_iload (pc' := 43) 4 X dX6_strikes_41 rfl rfl ?_
        refine V_if_eq (pc' := 46) (C := 1 = 0) 75 X dX6_strikes_43 (by decide) rfl (z_eq0 (by omega)) (fun hz => absurd hz (by decide)) (fun _ => ?_)
        refine V_aload_n (pc' := 47) 0 X dX6_strikes_46 rfl rfl rfl ?_
        refine V_iload_n (pc' := 48) 3 X dX6_strikes_47 rfl rfl rfl ?_
        refine V_iload_n (pc' := 49) 2 X dX6_strikes_48 rfl rfl rfl ?_
        refine V_aload_n (pc' := 50) 0 X dX6_strikes_49 rfl rfl rfl ?_
        refine V_get (pc' := 53) 0 X F7 rfl rfl dX6_strikes_50 rfl ?_
        refine V_bipush (pc' := 55) (nI 60) X dX6_strikes_53 kb_60 rfl ?_
        refine V_iload_n (pc' := 56) 3 X dX6_strikes_55 rfl rfl rfl ?_
        refine V_iadd (pc' := 57) (nI (60 + i)) X dX6_strikes_56 (nI_add _ _) rfl ?_
        refine V_iald (pc' := 58) (v := nI (s (60 + i))) 1 (60 + i) X rfl (by omega) (by decide) (congrArg nI (sti_o (by omega) (by omega))) dX6_strikes_57 rfl ?_
        refine V_aload_n (pc' := 59) 0 X dX6_strikes_58 rfl rfl rfl ?_
        refine V_get (pc' := 62) 0 X F7 rfl rfl dX6_strikes_59 rfl ?_
        refine V_bipush (pc' := 64) (nI 46) X dX6_strikes_62 kb_46 rfl ?_
        refine V_iald (pc' := 65) (v := nI (s 46)) 1 46 X rfl (by omega) (by decide) (congrArg nI (sti_o (by omega) (by omega))) dX6_strikes_64 rfl ?_
        refine V_callV (pc' := 68) (As := [.int (nI i), .int (nI ((hq s i).1)), .int (nI (s (60 + i))), .int (nI (s 46))]) (st := []) 6 0 [0, 1] [] (show (List.range 2).Perm ([0, 1] ++ []) by decide) X (c_X6_missedFor l G y t kn ln th (sti s i) (IV_sti hI (by omega)) i ((hq s i).1) (s (60 + i)) (s 46) hi_i hq10 (Nat.lt_of_le_of_lt h6 (by decide)) (by omega)) rfl gX6_strikes_X6_missedFor rfl (by decide) rfl rfl rfl (Nat.le_of_ble_eq_true rfl) ⟨Nat.le_of_ble_eq_true rfl, Nat.le_of_ble_eq_true rfl⟩ ⟨Nat.le_of_ble_eq_true rfl, Nat.le_of_ble_eq_true rfl⟩ dX6_strikes_65 rfl (fun v_ u_ hp_ => ?_)
        obtain ⟨rfl, rfl⟩ := hp_; rw [mfv_sti (by omega) (by omega)]
        show V E G A 6 [MO y t kn ln th, RW G (y 1) 70 (sti s i)] 0 0 Q 68 [(0, .ref (y 0)), (1, .int (nI (s 47))), (2, .int (nI ((hq s i).1))), (3, .int (nI i)), (4, .int (nI 1))] [.int (nI (mfv s i ((hq s i).1) (s (60 + i)) (s 46)))]
        refine V_if_ne (pc' := 71) (C := (mfv s i ((hq s i).1) (s (60 + i)) (s 46)) = 0) 75 X dX6_strikes_68 (by decide) rfl (z_eq0 (Nat.lt_of_le_of_lt (mfv_le _ _ _ _ _) (by decide))) (fun h68 => ?_) (fun h68 => ?_)
        · refine V_iconst (pc' := 76) (nI 0) X dX6_strikes_75 ki_0 rfl ?_
          refine V_istore (pc' := 78) [(0, .ref (y 0)), (1, .int (nI (s 47))), (2, .int (nI ((hq s i).1))), (3, .int (nI i)), (4, .int (nI 1)), (5, .int (nI 0))] [1, 2, 3, 4, 5, 0] X dX6_strikes_76 (Nat.le_of_ble_eq_true rfl) rfl rfl ?_
          refine V_iload_n (pc' := 79) 2 X dX6_strikes_78 rfl rfl rfl ?_
          refine V_iload (pc' := 81) 5 X dX6_strikes_79 rfl rfl ?_
          refine V_if_eq (pc' := 84) (C := 0 = 0) 90 X dX6_strikes_81 (by decide) rfl (z_eq0 (by omega)) (fun _ => ?_) (fun hz => absurd (by decide) hz)
          refine V_iconst (pc' := 91) (nI 0) X dX6_strikes_90 ki_0 rfl ?_
          refine V_ior (pc' := 92) (nI ((hq s i).1)) X dX6_strikes_91 (by rw [z_or, Nat.or_zero]) rfl ?_
          refine V_istore_n (pc' := 93) [(0, .ref (y 0)), (1, .int (nI (s 47))), (2, .int (nI ((hq s i).1))), (3, .int (nI i)), (4, .int (nI 1)), (5, .int (nI 0))] [1, 2, 0, 3, 4, 5] X dX6_strikes_92 rfl (Nat.le_of_ble_eq_true rfl) rfl rfl ?_
          refine V_aload_n (pc' := 94) 0 X dX6_strikes_93 rfl rfl rfl ?_
          refine V_get (pc' := 97) 0 X F7 rfl rfl dX6_strikes_94 rfl ?_
          refine V_bipush (pc' := 99) (nI 49) X dX6_strikes_97 kb_49 rfl ?_
          refine V_iload_n (pc' := 100) 3 X dX6_strikes_99 rfl rfl rfl ?_
          refine V_iadd (pc' := 101) (nI (49 + i)) X dX6_strikes_100 (nI_add _ _) rfl ?_
          refine V_dup2 (pc' := 102) X dX6_strikes_101 rfl rfl rfl ?_
          refine V_iald (pc' := 103) (v := nI (s (49 + i))) 1 (49 + i) X rfl (by omega) (by decide) (congrArg nI (sti_o (by omega) (by omega))) dX6_strikes_102 rfl ?_
          refine V_iload (pc' := 105) 5 X dX6_strikes_103 rfl rfl ?_
          refine V_if_eq (pc' := 108) (C := 0 = 0) 112 X dX6_strikes_105 (by decide) rfl (z_eq0 (by omega)) (fun _ => ?_) (fun hz => absurd (by decide) hz)
          refine V_iconst (pc' := 113) (nI 0) X dX6_strikes_112 ki_0 rfl ?_
          refine V_iadd (pc' := 114) (nI ((s (49 + i)) + 0)) X dX6_strikes_113 (nI_add _ _) rfl ?_
          refine V_ws [MO y t kn ln th, [((y 1), .inl (G.2 0, 70, .inl (nf (sti s i))))]] rfl ?_
          refine V_iast (pc' := 115) 1 (49 + i) [MO y t kn ln th, [((y 1), .inl (G.2 0, 70, .inl (upd (nf (sti s i)) (49 + i) (nI ((s (49 + i)) + 0)))))]] X rfl (by omega) (by decide) rfl dX6_strikes_114 rfl ?_
          refine V_ws [MO y t kn ln th, [((y 1), .inl (G.2 0, 70, .inl (nf (va_up (sti s i) (49 + i) ((s (49 + i)) + 0)))))]] (by simp only [nf_upd]) ?_
          refine V_aload_n (pc' := 116) 0 X dX6_strikes_115 rfl rfl rfl ?_
          refine V_get (pc' := 119) 0 X F7 rfl rfl dX6_strikes_116 rfl ?_
          refine V_bipush (pc' := 121) (nI 59) X dX6_strikes_119 kb_59 rfl ?_
          refine V_dup2 (pc' := 122) X dX6_strikes_121 rfl rfl rfl ?_
          refine V_iald (pc' := 123) (v := nI (sti s i 59)) 1 59 X rfl (by omega) (by decide) (congrArg nI (va_up_ne _ _ (by omega))) dX6_strikes_122 rfl ?_
          refine V_iload (pc' := 125) 4 X dX6_strikes_123 rfl rfl ?_
          refine V_if_eq (pc' := 128) (C := 1 = 0) 137 X dX6_strikes_125 (by decide) rfl (z_eq0 (by omega)) (fun hz => absurd hz (by decide)) (fun _ => ?_)
          refine V_iload (pc' := 130) 5 X dX6_strikes_128 rfl rfl ?_
          refine V_if_ne (pc' := 133) (C := 0 = 0) 137 X dX6_strikes_130 (by decide) rfl (z_eq0 (by omega)) (fun hz => absurd (by decide) hz) (fun _ => ?_)
          refine V_iconst (pc' := 134) (nI 1) X dX6_strikes_133 ki_1 rfl ?_
          refine V_goto (pc' := 138) X dX6_strikes_134 (by decide) ?_
          refine V_iadd (pc' := 139) (nI ((sti s i 59) + 1)) X dX6_strikes_138 (nI_add _ _) rfl ?_
          refine V_iast (pc' := 140) 1 59 [MO y t kn ln th, [((y 1), .inl (G.2 0, 70, .inl (upd (nf (va_up (sti s i) (49 + i) ((s (49 + i)) + 0))) 59 (nI ((sti s i 59) + 1)))))]] X rfl (by omega) (by decide) rfl dX6_strikes_139 rfl ?_
          refine V_ws [MO y t kn ln th, [((y 1), .inl (G.2 0, 70, .inl (nf (va_up (va_up (sti s i) (49 + i) ((s (49 + i)) + 0)) 59 ((sti s i 59) + 1)))))]] (by simp only [nf_upd]) ?_
          refine V_aload_n (pc' := 141) 0 X dX6_strikes_140 rfl rfl rfl ?_
          refine V_get (pc' := 144) 0 X F7 rfl rfl dX6_strikes_141 rfl ?_
          refine V_bipush (pc' := 146) (nI 60) X dX6_strikes_144 kb_60 rfl ?_
          refine V_iload_n (pc' := 147) 3 X dX6_strikes_146 rfl rfl rfl ?_
          refine V_iadd (pc' := 148) (nI (60 + i)) X dX6_strikes_147 (nI_add _ _) rfl ?_
          refine V_iload (pc' := 150) 5 X dX6_strikes_148 rfl rfl ?_
          refine V_if_eq (pc' := 153) (C := 0 = 0) 157 X dX6_strikes_150 (by decide) rfl (z_eq0 (by omega)) (fun _ => ?_) (fun hz => absurd (by decide) hz)
          refine V_aload_n (pc' := 158) 0 X dX6_strikes_157 rfl rfl rfl ?_
          refine V_get (pc' := 161) 0 X F7 rfl rfl dX6_strikes_158 rfl ?_
          refine V_bipush (pc' := 163) (nI 60) X dX6_strikes_161 kb_60 rfl ?_
          refine V_iload_n (pc' := 164) 3 X dX6_strikes_163 rfl rfl rfl ?_
          refine V_iadd (pc' := 165) (nI (60 + i)) X dX6_strikes_164 (nI_add _ _) rfl ?_
          refine V_iald (pc' := 166) (v := nI (s (60 + i))) 1 (60 + i) X rfl (by omega) (by decide) (congrArg nI ((va_up_ne _ _ (by omega)).trans ((va_up_ne _ _ (by omega)).trans (sti_o (by omega) (by omega))))) dX6_strikes_165 rfl ?_
          refine V_callS (pc' := 169) (As := [.int (nI (s (60 + i)))]) (st := [.int (nI (60 + i)), .ref (y 1)]) [] [0, 1] (show (List.range 2).Perm ([] ++ [0, 1]) by decide) X (c_X6_later l G (s (60 + i)) (by omega)) rfl gX6_strikes_X6_later rfl rfl (Nat.le_of_ble_eq_true rfl) ⟨Nat.le_of_ble_eq_true rfl, Nat.le_of_ble_eq_true rfl⟩ ⟨Nat.le_of_ble_eq_true rfl, Nat.le_of_ble_eq_true rfl⟩ dX6_strikes_166 rfl (fun v_ u_ hp_ => ?_)
          obtain ⟨rfl, rfl⟩ := hp_
          show V E G A 6 [MO y t kn ln th, [((y 1), .inl (G.2 0, 70, .inl (nf (va_up (va_up (sti s i) (49 + i) ((s (49 + i)) + 0)) 59 ((sti s i 59) + 1)))))]] 0 0 Q 169 [(0, .ref (y 0)), (1, .int (nI (s 47))), (2, .int (nI ((hq s i).1))), (3, .int (nI i)), (4, .int (nI 1)), (5, .int (nI 0))] [.int (nI (min ((s (60 + i)) + 1) 9)), .int (nI (60 + i)), .ref (y 1)]
          refine V_iast (pc' := 170) 1 (60 + i) [MO y t kn ln th, [((y 1), .inl (G.2 0, 70, .inl (upd (nf (va_up (va_up (sti s i) (49 + i) ((s (49 + i)) + 0)) 59 ((sti s i 59) + 1))) (60 + i) (nI (min ((s (60 + i)) + 1) 9)))))]] X rfl (by omega) (by decide) rfl dX6_strikes_169 rfl ?_
          refine V_ws [MO y t kn ln th, [((y 1), .inl (G.2 0, 70, .inl (nf (va_up (va_up (va_up (sti s i) (49 + i) ((s (49 + i)) + 0)) 59 ((sti s i 59) + 1)) (60 + i) (min ((s (60 + i)) + 1) 9)))))]] (by simp only [nf_upd]) ?_
          refine V_iinc (pc' := 173) [(0, .ref (y 0)), (1, .int (nI (s 47))), (2, .int (nI ((hq s i).1))), (3, .int (nI (i + 1))), (4, .int (nI 1)), (5, .int (nI 0))] 3 [1, 2, 3, 0, 4, 5] X dX6_strikes_170 rfl (nI_i1 _) (Nat.le_of_ble_eq_true rfl) rfl rfl ?_
          refine V_goto (pc' := 12) X dX6_strikes_173 (by decide) ?_
          refine V_lv [0, 1, 2, 3] [(0, .ref (y 0)), (1, .int (nI (s 47))), (2, .int (nI ((hq s i).1))), (3, .int (nI (i + 1)))] rfl ?_
          obtain ⟨hq1, hb1⟩ := hq_no hI hi_i (Or.inr h68)
          refine V_wsq [MO y t kn ln th, [((y 1), .inl (G.2 0, 70, .inl (nf (sti s (i + 1)))))]] (wsq.app (wsq.rf _) (wsq.app (wsq.cons (weq.row (fun k hk => congrArg nI (sti_step (b := 0) (m := 1) (v := min (s (60 + i) + 1) 9) hi_i (by omega) (by have := bq_lt (s (s 47)) i; omega) (by unfold swg; rw [if_neg (by omega)])))) (wsq.rf _)) (wsq.rf _))) ?_
          refine V_ws [MO y t kn ln th, RW G (y 1) 70 (sti s (i + 1))] rfl ?_
          rw [hq1] at ih
          exact ih
        · refine V_iconst (pc' := 72) (nI 1) X dX6_strikes_71 ki_1 rfl ?_
          refine V_goto (pc' := 76) X dX6_strikes_72 (by decide) ?_
          refine V_istore (pc' := 78) [(0, .ref (y 0)), (1, .int (nI (s 47))), (2, .int (nI ((hq s i).1))), (3, .int (nI i)), (4, .int (nI 1)), (5, .int (nI 1))] [1, 2, 3, 4, 5, 0] X dX6_strikes_76 (Nat.le_of_ble_eq_true rfl) rfl rfl ?_
          refine V_iload_n (pc' := 79) 2 X dX6_strikes_78 rfl rfl rfl ?_
          refine V_iload (pc' := 81) 5 X dX6_strikes_79 rfl rfl ?_
          refine V_if_eq (pc' := 84) (C := 1 = 0) 90 X dX6_strikes_81 (by decide) rfl (z_eq0 (by omega)) (fun hz => absurd hz (by decide)) (fun _ => ?_)
          refine V_iconst (pc' := 85) (nI 1) X dX6_strikes_84 ki_1 rfl ?_
          refine V_iload_n (pc' := 86) 3 X dX6_strikes_85 rfl rfl rfl ?_
          refine V_ishl (pc' := 87) (nI (2 ^ i)) X dX6_strikes_86 (z_shl1 (by omega)) rfl ?_
          refine V_goto (pc' := 91) X dX6_strikes_87 (by decide) ?_
          refine V_ior (pc' := 92) (nI ((hq s i).1 + 2 ^ i)) X dX6_strikes_91 (by rw [z_or]; exact congrArg nI (or_pow (hr_lt _ _ _ _ _))) rfl ?_
          refine V_istore_n (pc' := 93) [(0, .ref (y 0)), (1, .int (nI (s 47))), (2, .int (nI ((hq s i).1 + 2 ^ i))), (3, .int (nI i)), (4, .int (nI 1)), (5, .int (nI 1))] [1, 2, 0, 3, 4, 5] X dX6_strikes_92 rfl (Nat.le_of_ble_eq_true rfl) rfl rfl ?_
          refine V_aload_n (pc' := 94) 0 X dX6_strikes_93 rfl rfl rfl ?_
          refine V_get (pc' := 97) 0 X F7 rfl rfl dX6_strikes_94 rfl ?_
          refine V_bipush (pc' := 99) (nI 49) X dX6_strikes_97 kb_49 rfl ?_
          refine V_iload_n (pc' := 100) 3 X dX6_strikes_99 rfl rfl rfl ?_
          refine V_iadd (pc' := 101) (nI (49 + i)) X dX6_strikes_100 (nI_add _ _) rfl ?_
          refine V_dup2 (pc' := 102) X dX6_strikes_101 rfl rfl rfl ?_
          refine V_iald (pc' := 103) (v := nI (s (49 + i))) 1 (49 + i) X rfl (by omega) (by decide) (congrArg nI (sti_o (by omega) (by omega))) dX6_strikes_102 rfl ?_
          refine V_iload (pc' := 105) 5 X dX6_strikes_103 rfl rfl ?_
          refine V_if_eq (pc' := 108) (C := 1 = 0) 112 X dX6_strikes_105 (by decide) rfl (z_eq0 (by omega)) (fun hz => absurd hz (by decide)) (fun _ => ?_)
          refine V_iconst (pc' := 109) (nI 1) X dX6_strikes_108 ki_1 rfl ?_
          refine V_goto (pc' := 113) X dX6_strikes_109 (by decide) ?_
          refine V_iadd (pc' := 114) (nI ((s (49 + i)) + 1)) X dX6_strikes_113 (nI_add _ _) rfl ?_
          refine V_ws [MO y t kn ln th, [((y 1), .inl (G.2 0, 70, .inl (nf (sti s i))))]] rfl ?_
          refine V_iast (pc' := 115) 1 (49 + i) [MO y t kn ln th, [((y 1), .inl (G.2 0, 70, .inl (upd (nf (sti s i)) (49 + i) (nI ((s (49 + i)) + 1)))))]] X rfl (by omega) (by decide) rfl dX6_strikes_114 rfl ?_
          refine V_ws [MO y t kn ln th, [((y 1), .inl (G.2 0, 70, .inl (nf (va_up (sti s i) (49 + i) ((s (49 + i)) + 1)))))]] (by simp only [nf_upd]) ?_
          refine V_aload_n (pc' := 116) 0 X dX6_strikes_115 rfl rfl rfl ?_
          refine V_get (pc' := 119) 0 X F7 rfl rfl dX6_strikes_116 rfl ?_
          refine V_bipush (pc' := 121) (nI 59) X dX6_strikes_119 kb_59 rfl ?_
          refine V_dup2 (pc' := 122) X dX6_strikes_121 rfl rfl rfl ?_
          refine V_iald (pc' := 123) (v := nI (sti s i 59)) 1 59 X rfl (by omega) (by decide) (congrArg nI (va_up_ne _ _ (by omega))) dX6_strikes_122 rfl ?_
          refine V_iload (pc' := 125) 4 X dX6_strikes_123 rfl rfl ?_
          refine V_if_eq (pc' := 128) (C := 1 = 0) 137 X dX6_strikes_125 (by decide) rfl (z_eq0 (by omega)) (fun hz => absurd hz (by decide)) (fun _ => ?_)
          refine V_iload (pc' := 130) 5 X dX6_strikes_128 rfl rfl ?_
          refine V_if_ne (pc' := 133) (C := 1 = 0) 137 X dX6_strikes_130 (by decide) rfl (z_eq0 (by omega)) (fun _ => ?_) (fun hz => absurd hz (by decide))
          refine V_iconst (pc' := 138) (nI 0) X dX6_strikes_137 ki_0 rfl ?_
          refine V_iadd (pc' := 139) (nI ((sti s i 59) + 0)) X dX6_strikes_138 (nI_add _ _) rfl ?_
          refine V_iast (pc' := 140) 1 59 [MO y t kn ln th, [((y 1), .inl (G.2 0, 70, .inl (upd (nf (va_up (sti s i) (49 + i) ((s (49 + i)) + 1))) 59 (nI ((sti s i 59) + 0)))))]] X rfl (by omega) (by decide) rfl dX6_strikes_139 rfl ?_
          refine V_ws [MO y t kn ln th, [((y 1), .inl (G.2 0, 70, .inl (nf (va_up (va_up (sti s i) (49 + i) ((s (49 + i)) + 1)) 59 ((sti s i 59) + 0)))))]] (by simp only [nf_upd]) ?_
          refine V_aload_n (pc' := 141) 0 X dX6_strikes_140 rfl rfl rfl ?_
          refine V_get (pc' := 144) 0 X F7 rfl rfl dX6_strikes_141 rfl ?_
          refine V_bipush (pc' := 146) (nI 60) X dX6_strikes_144 kb_60 rfl ?_
          refine V_iload_n (pc' := 147) 3 X dX6_strikes_146 rfl rfl rfl ?_
          refine V_iadd (pc' := 148) (nI (60 + i)) X dX6_strikes_147 (nI_add _ _) rfl ?_
          refine V_iload (pc' := 150) 5 X dX6_strikes_148 rfl rfl ?_
          refine V_if_eq (pc' := 153) (C := 1 = 0) 157 X dX6_strikes_150 (by decide) rfl (z_eq0 (by omega)) (fun hz => absurd hz (by decide)) (fun _ => ?_)
          refine V_iconst (pc' := 154) (nI 0) X dX6_strikes_153 ki_0 rfl ?_
          refine V_goto (pc' := 169) X dX6_strikes_154 (by decide) ?_
          refine V_iast (pc' := 170) 1 (60 + i) [MO y t kn ln th, [((y 1), .inl (G.2 0, 70, .inl (upd (nf (va_up (va_up (sti s i) (49 + i) ((s (49 + i)) + 1)) 59 ((sti s i 59) + 0))) (60 + i) (nI 0))))]] X rfl (by omega) (by decide) rfl dX6_strikes_169 rfl ?_
          refine V_ws [MO y t kn ln th, [((y 1), .inl (G.2 0, 70, .inl (nf (va_up (va_up (va_up (sti s i) (49 + i) ((s (49 + i)) + 1)) 59 ((sti s i 59) + 0)) (60 + i) 0))))]] (by simp only [nf_upd]) ?_
          refine V_iinc (pc' := 173) [(0, .ref (y 0)), (1, .int (nI (s 47))), (2, .int (nI ((hq s i).1 + 2 ^ i))), (3, .int (nI (i + 1))), (4, .int (nI 1)), (5, .int (nI 1))] 3 [1, 2, 3, 0, 4, 5] X dX6_strikes_170 rfl (nI_i1 _) (Nat.le_of_ble_eq_true rfl) rfl rfl ?_
          refine V_goto (pc' := 12) X dX6_strikes_173 (by decide) ?_
          refine V_lv [0, 1, 2, 3] [(0, .ref (y 0)), (1, .int (nI (s 47))), (2, .int (nI ((hq s i).1 + 2 ^ i))), (3, .int (nI (i + 1)))] rfl ?_
          obtain ⟨hq1, hb1⟩ := hq_yes hI hi_i h31 h68
          refine V_wsq [MO y t kn ln th, [((y 1), .inl (G.2 0, 70, .inl (nf (sti s (i + 1)))))]] (wsq.app (wsq.rf _) (wsq.app (wsq.cons (weq.row (fun k hk => congrArg nI (sti_step (b := 1) (m := 0) (v := 0) hi_i (by omega) (by have := bq_lt (s (s 47)) i; omega) (by unfold swg; rw [if_pos (by omega)])))) (wsq.rf _)) (wsq.rf _))) ?_
          refine V_ws [MO y t kn ln th, RW G (y 1) 70 (sti s (i + 1))] rfl ?_
          rw [hq1] at ih
          exact ih
  exact lp_1 0 (Nat.zero_le _)

set_option maxHeartbeats 4000000 in
set_option maxRecDepth 100000 in
theorem c_X6_cranks (l : Launch) (G : gT) (y : Nat → Nat) (t kn ln th : Nat) (s : Nat → Nat) (hI : IV s) (m : Nat) (hm : m < 2 ^ 20) : CM l G yX6_cranks wsX6_cranks 4 95 1 [.ref (y 0), .int (nI m)] [MO y t kn ln th, RW G (y 1) 70 s] 0 0 (fun v u => v = some (.int (nI (stkN 9 s m 70 - s 70))) ∧ u = [MO y t kn ln th, RW G (y 1) 70 (stkN 9 s m)]) := by
  refine CM_of RX6 3 72 rfl rfl (by decide) (by decide +kernel) (Nat.le_of_ble_eq_true rfl) (fun E A X hrt hnm => ?_)
  generalize hQ : QM E G A _ _ _ = Q
  show V E G A 4 [MO y t kn ln th, RW G (y 1) 70 s] 0 0 Q 0 [(0, .ref (y 0)), (1, .int (nI m))] []
  refine V_iconst (pc' := 1) (nI 0) X dX6_cranks_0 ki_0 rfl ?_
  refine V_istore_n (pc' := 2) [(0, .ref (y 0)), (1, .int (nI m)), (2, .int (nI 0))] [1, 2, 0] X dX6_cranks_1 rfl (Nat.le_of_ble_eq_true rfl) rfl rfl ?_
  refine V_iconst (pc' := 3) (nI 0) X dX6_cranks_2 ki_0 rfl ?_
  refine V_istore_n (pc' := 4) [(0, .ref (y 0)), (1, .int (nI m)), (2, .int (nI 0)), (3, .int (nI 0))] [1, 2, 3, 0] X dX6_cranks_3 rfl (Nat.le_of_ble_eq_true rfl) rfl rfl ?_
  have lp_1 : ∀ i, i ≤ m → V E G A 4 [MO y t kn ln th, RW G (y 1) 70 (stkN 9 s i)] 0 0 Q 4 [(0, .ref (y 0)), (1, .int (nI m)), (2, .int (nI (stkN 9 s i 70 - s 70))), (3, .int (nI i))] [] := by
    refine loopD m ?_ ?_
    · show V E G A 4 [MO y t kn ln th, RW G (y 1) 70 (stkN 9 s m)] 0 0 Q 4 [(0, .ref (y 0)), (1, .int (nI m)), (2, .int (nI (stkN 9 s m 70 - s 70))), (3, .int (nI m))] []
      refine V_iload_n (pc' := 5) 3 X dX6_cranks_4 rfl rfl rfl ?_
      refine V_iload_n (pc' := 6) 1 X dX6_cranks_5 rfl rfl rfl ?_
      refine V_icmp_ge (pc' := 9) (C := m ≤ m) 22 X dX6_cranks_6 (by decide) rfl (nI_leI (by omega) (by omega)) (fun _ => ?_) (fun hz => absurd (by omega) hz)
      refine V_iload_n (pc' := 23) 2 X dX6_cranks_22 rfl rfl rfl ?_
      exact V_ireturn (v := nI (stkN 9 s m 70 - s 70)) [MO y t kn ln th, RW G (y 1) 70 (stkN 9 s m)] hQ X hrt rfl dX6_cranks_23 (Nat.le_of_ble_eq_true rfl) (Nat.le_of_ble_eq_true rfl) (List.Perm.refl _) ⟨rfl, rfl⟩
    · intro i hi_i ih
      show V E G A 4 [MO y t kn ln th, RW G (y 1) 70 (stkN 9 s i)] 0 0 Q 4 [(0, .ref (y 0)), (1, .int (nI m)), (2, .int (nI (stkN 9 s i 70 - s 70))), (3, .int (nI i))] []
      refine V_iload_n (pc' := 5) 3 X dX6_cranks_4 rfl rfl rfl ?_
      refine V_iload_n (pc' := 6) 1 X dX6_cranks_5 rfl rfl rfl ?_
      refine V_icmp_ge (pc' := 9) (C := m ≤ i) 22 X dX6_cranks_6 (by decide) rfl (nI_leI (by omega) (by omega)) (fun hz => absurd hz (by omega)) (fun _ => ?_)
      refine V_iload_n (pc' := 10) 2 X dX6_cranks_9 rfl rfl rfl ?_
      refine V_aload_n (pc' := 11) 0 X dX6_cranks_10 rfl rfl rfl ?_
      refine V_callV (pc' := 14) (As := []) (st := [.int (nI (stkN 9 s i 70 - s 70))]) 6 0 [0, 1] [] (show (List.range 2).Perm ([0, 1] ++ []) by decide) X (c_X6_strikes l G y t kn ln th (stkN 9 s i) (IV_stkN (by decide) hI i)) rfl gX6_cranks_X6_strikes rfl (by decide) rfl rfl rfl (Nat.le_of_ble_eq_true rfl) ⟨Nat.le_of_ble_eq_true rfl, Nat.le_of_ble_eq_true rfl⟩ ⟨Nat.le_of_ble_eq_true rfl, Nat.le_of_ble_eq_true rfl⟩ dX6_cranks_11 rfl (fun v_ u_ hp_ => ?_)
      obtain ⟨rfl, rfl⟩ := hp_
      show V E G A 4 [MO y t kn ln th, RW G (y 1) 70 (stk 9 (stkN 9 s i))] 0 0 Q 14 [(0, .ref (y 0)), (1, .int (nI m)), (2, .int (nI (stkN 9 s i 70 - s 70))), (3, .int (nI i))] [.int (nI (cnt (hs (stkN 9 s i)))), .int (nI (stkN 9 s i 70 - s 70))]
      refine V_iadd (pc' := 15) (nI ((stkN 9 s i 70 - s 70) + (cnt (hs (stkN 9 s i))))) X dX6_cranks_14 (nI_add _ _) rfl ?_
      refine V_istore_n (pc' := 16) [(0, .ref (y 0)), (1, .int (nI m)), (2, .int (nI ((stkN 9 s i 70 - s 70) + (cnt (hs (stkN 9 s i)))))), (3, .int (nI i))] [1, 2, 0, 3] X dX6_cranks_15 rfl (Nat.le_of_ble_eq_true rfl) rfl rfl ?_
      refine V_iinc (pc' := 19) [(0, .ref (y 0)), (1, .int (nI m)), (2, .int (nI ((stkN 9 s i 70 - s 70) + (cnt (hs (stkN 9 s i)))))), (3, .int (nI (i + 1)))] 3 [1, 2, 3, 0] X dX6_cranks_16 rfl (nI_i1 _) (Nat.le_of_ble_eq_true rfl) rfl rfl ?_
      refine V_goto (pc' := 4) X dX6_cranks_19 (by decide) ?_
      rw [show stkN 9 s (i + 1) 70 - s 70 = stkN 9 s i 70 - s 70 + cnt (hs (stkN 9 s i)) by have h1 := stkN_70 9 s i; have h2 : stkN 9 s (i + 1) 70 = stkN 9 s i 70 + cnt (hs (stkN 9 s i)) := rfl; omega] at ih
      exact ih
  have e0 := lp_1 0 (Nat.zero_le _)
  rw [show stkN 9 s 0 70 - s 70 = 0 from Nat.sub_self _] at e0
  exact e0

set_option maxHeartbeats 4000000 in
set_option maxRecDepth 100000 in
theorem c_X6_rounds (l : Launch) (G : gT) (y : Nat → Nat) (t kn ln th : Nat) (s : Nat → Nat) (hI : IV s) (B : Nat) (hB : B ≤ 300) (g d : Nat → Nat) : CM l G yX6_rounds wsX6_rounds 3 74 1 [.ref (y 0), .int (nI B)] [MO y t kn ln th, RW G (y 1) 70 s, RW G (y 6) 10 g, RW G (y 7) 32 d] 0 0 (fun v u => v = none ∧ ∃ g2, u = [MO y t kn ln (tv s B 32), RW G (y 1) 70 s, RW G (y 6) 10 g2, RW G (y 7) 32 (rh 9 s B)]) := by
  refine CM_of RX6 2 47 rfl rfl (by decide) (by decide +kernel) (Nat.le_of_ble_eq_true rfl) (fun E A X hrt hnm => ?_)
  have F7 := Fld_of (idx := 7) 6 1 X (by decide) (by decide) (by decide +kernel) (by decide +kernel)
  have F26 := Fld_of (idx := 26) 6 8 X (by decide) (by decide) (by decide +kernel) (by decide +kernel)
  have F29 := Fld_of (idx := 29) 6 9 X (by decide) (by decide) (by decide +kernel) (by decide +kernel)
  have F61 := Fld_of (idx := 61) 6 10 X (by decide) (by decide) (by decide +kernel) (by decide +kernel)
  generalize hQ : QM E G A _ _ _ = Q
  obtain ⟨i1, i2, i3, i4, i5, i6⟩ := id hI
  show V E G A 8 [MO y t kn ln th, RW G (y 1) 70 s, RW G (y 6) 10 g, RW G (y 7) 32 d] 0 0 Q 0 [(0, .ref (y 0)), (1, .int (nI B))] []
  refine V_aload_n (pc' := 1) 0 X dX6_rounds_0 rfl rfl rfl ?_
  refine V_iconst (pc' := 2) (nI 0) X dX6_rounds_1 ki_0 rfl ?_
  refine V_ws [[((y 0), .inr (6, [.int (nI t), .ref (y 1), .ref (y 2), .ref (y 3), .ref (y 4), .int (nI kn), .ref (y 5), .int (nI ln), .ref (y 6), .ref (y 7), .int (nI th)]))], RW G (y 1) 70 s, RW G (y 6) 10 g, RW G (y 7) 32 d] rfl ?_
  refine V_put (pc' := 5) 0 [[((y 0), .inr (6, [.int (nI t), .ref (y 1), .ref (y 2), .ref (y 3), .ref (y 4), .int (nI kn), .ref (y 5), .int (nI ln), .ref (y 6), .ref (y 7), .int (nI 0)]))], RW G (y 1) 70 s, RW G (y 6) 10 g, RW G (y 7) 32 d] X F61 rfl rfl rfl rfl (Nat.le_of_ble_eq_true rfl) rfl dX6_rounds_2 rfl ?_
  refine V_iconst (pc' := 6) (nI 0) X dX6_rounds_5 ki_0 rfl ?_
  refine V_istore_n (pc' := 7) [(0, .ref (y 0)), (1, .int (nI B)), (2, .int (nI 0))] [1, 2, 0] X dX6_rounds_6 rfl (Nat.le_of_ble_eq_true rfl) rfl rfl ?_
  have lp_1 : ∀ i, i ≤ 10 → V E G A 8 [MO y t kn ln 0, RW G (y 1) 70 s, RW G (y 6) 10 (upN g (fun _ => 9) i), RW G (y 7) 32 d] 0 0 Q 7 [(0, .ref (y 0)), (1, .int (nI B)), (2, .int (nI i))] [] := by
    refine loopD 10 ?_ ?_
    · show V E G A 8 [MO y t kn ln 0, RW G (y 1) 70 s, RW G (y 6) 10 (upN g (fun _ => 9) 10), RW G (y 7) 32 d] 0 0 Q 7 [(0, .ref (y 0)), (1, .int (nI B)), (2, .int (nI 10))] []
      refine V_iload_n (pc' := 8) 2 X dX6_rounds_7 rfl rfl rfl ?_
      refine V_bipush (pc' := 10) (nI 10) X dX6_rounds_8 kb_10 rfl ?_
      refine V_icmp_ge (pc' := 13) (C := 10 ≤ 10) 27 X dX6_rounds_10 (by decide) rfl (nI_leI (by omega) (by omega)) (fun _ => ?_) (fun hz => absurd (by omega) hz)
      refine V_iconst (pc' := 28) (nI 0) X dX6_rounds_27 ki_0 rfl ?_
      refine V_istore_n (pc' := 29) [(0, .ref (y 0)), (1, .int (nI B)), (2, .int (nI 0))] [1, 2, 0] X dX6_rounds_28 rfl (Nat.le_of_ble_eq_true rfl) rfl rfl ?_
      refine V_ws [MO y t kn ln 0, RW G (y 1) 70 s, [((y 6), .inl (G.2 0, 10, .inl (nf (upN g (fun _ => 9) 10))))], RW G (y 7) 32 d] rfl ?_
      refine V_wsq [MO y t kn ln 0, RW G (y 1) 70 s, [((y 6), .inl (G.2 0, 10, .inl (nf (rsp 9 s B 0))))], RW G (y 7) 32 d] (wsq.app (wsq.rf _) (wsq.app (wsq.rf _) (wsq.app (wsq.cons (weq.row (fun k hk => congrArg nI (upN_in hk))) (wsq.rf _)) (wsq.rf _)))) ?_
      refine V_ws [MO y t kn ln (tv s B 0), RW G (y 1) 70 s, RW G (y 6) 10 (rsp 9 s B 0), RW G (y 7) 32 (upN d (rh 9 s B) 0)] rfl ?_
      have lp_2 : ∀ i, i ≤ 32 → V E G A 8 [MO y t kn ln (tv s B i), RW G (y 1) 70 s, RW G (y 6) 10 (rsp 9 s B i), RW G (y 7) 32 (upN d (rh 9 s B) i)] 0 0 Q 29 [(0, .ref (y 0)), (1, .int (nI B)), (2, .int (nI i))] [] := by
        refine loopD 32 ?_ ?_
        · show V E G A 8 [MO y t kn ln (tv s B 32), RW G (y 1) 70 s, RW G (y 6) 10 (rsp 9 s B 32), RW G (y 7) 32 (upN d (rh 9 s B) 32)] 0 0 Q 29 [(0, .ref (y 0)), (1, .int (nI B)), (2, .int (nI 32))] []
          refine V_iload_n (pc' := 30) 2 X dX6_rounds_29 rfl rfl rfl ?_
          refine V_bipush (pc' := 32) (nI 32) X dX6_rounds_30 kb_32 rfl ?_
          refine V_icmp_ge (pc' := 35) (C := 32 ≤ 32) 191 X dX6_rounds_32 (by decide) rfl (nI_leI (by omega) (by omega)) (fun _ => ?_) (fun hz => absurd (by omega) hz)
          refine V_ws [MO y t kn ln (tv s B 32), RW G (y 1) 70 s, RW G (y 6) 10 (rsp 9 s B 32), [((y 7), .inl (G.2 0, 32, .inl (nf (upN d (rh 9 s B) 32))))]] rfl ?_
          refine V_wsq [MO y t kn ln (tv s B 32), RW G (y 1) 70 s, RW G (y 6) 10 (rsp 9 s B 32), [((y 7), .inl (G.2 0, 32, .inl (nf (rh 9 s B))))]] (wsq.app (wsq.rf _) (wsq.app (wsq.rf _) (wsq.app (wsq.rf _) (wsq.app (wsq.cons (weq.row (fun k hk => congrArg nI (upN_in hk))) (wsq.rf _)) (wsq.rf _))))) ?_
          refine V_ws [MO y t kn ln (tv s B 32), RW G (y 1) 70 s, RW G (y 6) 10 (rsp 9 s B 32), RW G (y 7) 32 (rh 9 s B)] rfl ?_
          exact V_return [MO y t kn ln (tv s B 32), RW G (y 1) 70 s, RW G (y 6) 10 (rsp 9 s B 32), RW G (y 7) 32 (rh 9 s B)] hQ X hrt dX6_rounds_191 (Nat.le_of_ble_eq_true rfl) (Nat.le_of_ble_eq_true rfl) (List.Perm.refl _) ⟨rfl, _, rfl⟩
        · intro i hi_i ih
          show V E G A 8 [MO y t kn ln (tv s B i), RW G (y 1) 70 s, RW G (y 6) 10 (rsp 9 s B i), RW G (y 7) 32 (upN d (rh 9 s B) i)] 0 0 Q 29 [(0, .ref (y 0)), (1, .int (nI B)), (2, .int (nI i))] []
          have hpi := i1 i hi_i
          have htv := tv_le s B i
          refine V_iload_n (pc' := 30) 2 X dX6_rounds_29 rfl rfl rfl ?_
          refine V_bipush (pc' := 32) (nI 32) X dX6_rounds_30 kb_32 rfl ?_
          refine V_icmp_ge (pc' := 35) (C := 32 ≤ i) 191 X dX6_rounds_32 (by decide) rfl (nI_leI (by omega) (by omega)) (fun hz => absurd hz (by omega)) (fun _ => ?_)
          refine V_iconst (pc' := 36) (nI 0) X dX6_rounds_35 ki_0 rfl ?_
          refine V_istore_n (pc' := 37) [(0, .ref (y 0)), (1, .int (nI B)), (2, .int (nI i)), (3, .int (nI 0))] [1, 2, 3, 0] X dX6_rounds_36 rfl (Nat.le_of_ble_eq_true rfl) rfl rfl ?_
          refine V_iconst (pc' := 38) (nI 0) X dX6_rounds_37 ki_0 rfl ?_
          refine V_istore (pc' := 40) [(0, .ref (y 0)), (1, .int (nI B)), (2, .int (nI i)), (3, .int (nI 0)), (4, .int (nI 0))] [1, 2, 3, 4, 0] X dX6_rounds_38 (Nat.le_of_ble_eq_true rfl) rfl rfl ?_
          refine V_ws [MO y t kn ln (tv s B i + tw s B i 0), RW G (y 1) 70 s, RW G (y 6) 10 (upN (rsp 9 s B i) (rsp 9 s B (i + 1)) 0), RW G (y 7) 32 (upN d (rh 9 s B) i)] rfl ?_
          have lp_3 : ∀ j, j ≤ 10 → V E G A 8 [MO y t kn ln (tv s B i + tw s B i j), RW G (y 1) 70 s, RW G (y 6) 10 (upN (rsp 9 s B i) (rsp 9 s B (i + 1)) j), RW G (y 7) 32 (upN d (rh 9 s B) i)] 0 0 Q 40 [(0, .ref (y 0)), (1, .int (nI B)), (2, .int (nI i)), (3, .int (nI ((hj s B i j).1))), (4, .int (nI j))] [] := by
            refine loopD 10 ?_ ?_
            · show V E G A 8 [MO y t kn ln (tv s B i + tw s B i 10), RW G (y 1) 70 s, RW G (y 6) 10 (upN (rsp 9 s B i) (rsp 9 s B (i + 1)) 10), RW G (y 7) 32 (upN d (rh 9 s B) i)] 0 0 Q 40 [(0, .ref (y 0)), (1, .int (nI B)), (2, .int (nI i)), (3, .int (nI ((hj s B i 10).1))), (4, .int (nI 10))] []
              refine V_iload (pc' := 42) 4 X dX6_rounds_40 rfl rfl ?_
              refine V_bipush (pc' := 44) (nI 10) X dX6_rounds_42 kb_10 rfl ?_
              refine V_icmp_ge (pc' := 47) (C := 10 ≤ 10) 178 X dX6_rounds_44 (by decide) rfl (nI_leI (by omega) (by omega)) (fun _ => ?_) (fun hz => absurd (by omega) hz)
              refine V_aload_n (pc' := 179) 0 X dX6_rounds_178 rfl rfl rfl ?_
              refine V_get (pc' := 182) 0 X F29 rfl rfl dX6_rounds_179 rfl ?_
              refine V_iload_n (pc' := 183) 2 X dX6_rounds_182 rfl rfl rfl ?_
              refine V_iload_n (pc' := 184) 3 X dX6_rounds_183 rfl rfl rfl ?_
              refine V_ws [MO y t kn ln (tv s B i + tw s B i 10), RW G (y 1) 70 s, RW G (y 6) 10 (upN (rsp 9 s B i) (rsp 9 s B (i + 1)) 10), [((y 7), .inl (G.2 0, 32, .inl (nf (upN d (rh 9 s B) i))))]] rfl ?_
              refine V_iast (pc' := 185) 3 i [MO y t kn ln (tv s B i + tw s B i 10), RW G (y 1) 70 s, RW G (y 6) 10 (upN (rsp 9 s B i) (rsp 9 s B (i + 1)) 10), [((y 7), .inl (G.2 0, 32, .inl (upd (nf (upN d (rh 9 s B) i)) i (nI ((hj s B i 10).1)))))]] X rfl (by omega) (by decide) rfl dX6_rounds_184 rfl ?_
              refine V_ws [MO y t kn ln (tv s B i + tw s B i 10), RW G (y 1) 70 s, RW G (y 6) 10 (upN (rsp 9 s B i) (rsp 9 s B (i + 1)) 10), [((y 7), .inl (G.2 0, 32, .inl (nf (va_up (upN d (rh 9 s B) i) i ((hj s B i 10).1)))))]] (by simp only [nf_upd]) ?_
              refine V_iinc (pc' := 188) [(0, .ref (y 0)), (1, .int (nI B)), (2, .int (nI (i + 1))), (3, .int (nI ((hj s B i 10).1))), (4, .int (nI 10))] 2 [1, 2, 0, 3, 4] X dX6_rounds_185 rfl (nI_i1 _) (Nat.le_of_ble_eq_true rfl) rfl rfl ?_
              refine V_goto (pc' := 29) X dX6_rounds_188 (by decide) ?_
              refine V_lv [0, 1, 2] [(0, .ref (y 0)), (1, .int (nI B)), (2, .int (nI (i + 1)))] rfl ?_
              refine V_ws [MO y t kn ln (tv s B i + tw s B i 10), RW G (y 1) 70 s, [((y 6), .inl (G.2 0, 10, .inl (nf (upN (rsp 9 s B i) (rsp 9 s B (i + 1)) 10))))], [((y 7), .inl (G.2 0, 32, .inl (nf (va_up (upN d (rh 9 s B) i) i ((hj s B i 10).1)))))]] rfl ?_
              refine V_wsq [MO y t kn ln (tv s B i + tw s B i 10), RW G (y 1) 70 s, [((y 6), .inl (G.2 0, 10, .inl (nf (rsp 9 s B (i + 1)))))], [((y 7), .inl (G.2 0, 32, .inl (nf (va_up (upN d (rh 9 s B) i) i ((hj s B i 10).1)))))]] (wsq.app (wsq.rf _) (wsq.app (wsq.rf _) (wsq.app (wsq.cons (weq.row (fun k hk => congrArg nI (upN_in hk))) (wsq.rf _)) (wsq.rf _)))) ?_
              refine V_ws [MO y t kn ln (tv s B i + tw s B i 10), RW G (y 1) 70 s, RW G (y 6) 10 (rsp 9 s B (i + 1)), RW G (y 7) 32 (va_up (upN d (rh 9 s B) i) i ((hj s B i 10).1))] rfl ?_
              refine V_ws [MO y t kn ln (tv s B (i + 1)), RW G (y 1) 70 s, RW G (y 6) 10 (rsp 9 s B (i + 1)), RW G (y 7) 32 (upN d (rh 9 s B) (i + 1))] rfl ?_
              exact ih
            · intro j hi_j ih
              show V E G A 8 [MO y t kn ln (tv s B i + tw s B i j), RW G (y 1) 70 s, RW G (y 6) 10 (upN (rsp 9 s B i) (rsp 9 s B (i + 1)) j), RW G (y 7) 32 (upN d (rh 9 s B) i)] 0 0 Q 40 [(0, .ref (y 0)), (1, .int (nI B)), (2, .int (nI i)), (3, .int (nI ((hj s B i j).1))), (4, .int (nI j))] []
              have hjl := hj_le s B i j (by omega)
              have hrl := rsp_le 9 s B i j
              have htwl := tw_le s B i j
              refine V_iload (pc' := 42) 4 X dX6_rounds_40 rfl rfl ?_
              refine V_bipush (pc' := 44) (nI 10) X dX6_rounds_42 kb_10 rfl ?_
              refine V_icmp_ge (pc' := 47) (C := 10 ≤ j) 178 X dX6_rounds_44 (by decide) rfl (nI_leI (by omega) (by omega)) (fun hz => absurd hz (by omega)) (fun _ => ?_)
              refine V_aload_n (pc' := 48) 0 X dX6_rounds_47 rfl rfl rfl ?_
              refine V_get (pc' := 51) 0 X F7 rfl rfl dX6_rounds_48 rfl ?_
              refine V_iconst (pc' := 52) (nI 0) X dX6_rounds_51 ki_0 rfl ?_
              refine V_iload_n (pc' := 53) 2 X dX6_rounds_52 rfl rfl rfl ?_
              refine V_iadd (pc' := 54) (nI i) X dX6_rounds_53 (nI_0add _) rfl ?_
              refine V_iald (pc' := 55) (v := nI (s i)) 1 i X rfl (by omega) (by decide) rfl dX6_rounds_54 rfl ?_
              refine V_iload (pc' := 57) 4 X dX6_rounds_55 rfl rfl ?_
              refine V_ishr (pc' := 58) (nI ((s i) / 2 ^ j)) X dX6_rounds_57 (z_shr (by omega) (by omega)) rfl ?_
              refine V_iconst (pc' := 59) (nI 1) X dX6_rounds_58 ki_1 rfl ?_
              refine V_iand (pc' := 60) (nI (bq (s i) j)) X dX6_rounds_59 (z_and1 _) rfl ?_
              refine V_iconst (pc' := 61) (nI 1) X dX6_rounds_60 ki_1 rfl ?_
              refine V_icmp_ne (pc' := 64) (C := (bq (s i) j) = 1) 68 X dX6_rounds_61 (by decide) rfl (nI_eq (Nat.lt_trans (bq_lt _ _) (by decide)) (by decide)) (fun h61 => ?_) (fun h61 => ?_)
              · refine V_iconst (pc' := 69) (nI 0) X dX6_rounds_68 ki_0 rfl ?_
                refine V_istore (pc' := 71) [(0, .ref (y 0)), (1, .int (nI B)), (2, .int (nI i)), (3, .int (nI ((hj s B i j).1))), (4, .int (nI j)), (5, .int (nI 0))] [1, 2, 3, 4, 5, 0] X dX6_rounds_69 (Nat.le_of_ble_eq_true rfl) rfl rfl ?_
                refine V_aload_n (pc' := 72) 0 X dX6_rounds_71 rfl rfl rfl ?_
                refine V_iload (pc' := 74) 4 X dX6_rounds_72 rfl rfl ?_
                refine V_iload_n (pc' := 75) 3 X dX6_rounds_74 rfl rfl rfl ?_
                refine V_aload_n (pc' := 76) 0 X dX6_rounds_75 rfl rfl rfl ?_
                refine V_get (pc' := 79) 0 X F26 rfl rfl dX6_rounds_76 rfl ?_
                refine V_iload (pc' := 81) 4 X dX6_rounds_79 rfl rfl ?_
                refine V_iald (pc' := 82) (v := nI (rsp 9 s B i j)) 2 j X rfl (by omega) (by decide) (congrArg nI (upN_out (Nat.le_refl _))) dX6_rounds_81 rfl ?_
                refine V_iload_n (pc' := 83) 1 X dX6_rounds_82 rfl rfl rfl ?_
                refine V_callV (pc' := 86) (As := [.int (nI j), .int (nI ((hj s B i j).1)), .int (nI (rsp 9 s B i j)), .int (nI B)]) (st := []) 6 0 [0, 1] [2, 3] (show (List.range 4).Perm ([0, 1] ++ [2, 3]) by decide) X (c_X6_missedFor l G y t kn ln (tv s B i + tw s B i j) s hI j ((hj s B i j).1) (rsp 9 s B i j) B hi_j hjl (Nat.lt_of_le_of_lt hrl (by decide)) (by omega)) rfl gX6_rounds_X6_missedFor rfl (by decide) rfl rfl rfl (Nat.le_of_ble_eq_true rfl) ⟨Nat.le_of_ble_eq_true rfl, Nat.le_of_ble_eq_true rfl⟩ ⟨Nat.le_of_ble_eq_true rfl, Nat.le_of_ble_eq_true rfl⟩ dX6_rounds_83 rfl (fun v_ u_ hp_ => ?_)
                obtain ⟨rfl, rfl⟩ := hp_
                show V E G A 8 [RW G (y 6) 10 (upN (rsp 9 s B i) (rsp 9 s B (i + 1)) j), RW G (y 7) 32 (upN d (rh 9 s B) i), MO y t kn ln (tv s B i + tw s B i j), RW G (y 1) 70 s] 0 0 Q 86 [(0, .ref (y 0)), (1, .int (nI B)), (2, .int (nI i)), (3, .int (nI ((hj s B i j).1))), (4, .int (nI j)), (5, .int (nI 0))] [.int (nI (mfv s j ((hj s B i j).1) (rsp 9 s B i j) B))]
                refine V_ord [2, 3, 0, 1] [MO y t kn ln (tv s B i + tw s B i j), RW G (y 1) 70 s, RW G (y 6) 10 (upN (rsp 9 s B i) (rsp 9 s B (i + 1)) j), RW G (y 7) 32 (upN d (rh 9 s B) i)] (show (List.range 4).Perm [2, 3, 0, 1] by decide) rfl ?_
                refine V_istore (pc' := 88) [(0, .ref (y 0)), (1, .int (nI B)), (2, .int (nI i)), (3, .int (nI ((hj s B i j).1))), (4, .int (nI j)), (5, .int (nI 0)), (6, .int (nI (mfv s j ((hj s B i j).1) (rsp 9 s B i j) B)))] [1, 2, 3, 4, 5, 6, 0] X dX6_rounds_86 (Nat.le_of_ble_eq_true rfl) rfl rfl ?_
                refine V_iload (pc' := 90) 5 X dX6_rounds_88 rfl rfl ?_
                refine V_if_eq (pc' := 93) (C := 0 = 0) 102 X dX6_rounds_90 (by decide) rfl (z_eq0 (by omega)) (fun _ => ?_) (fun hz => absurd (by decide) hz)
                refine V_iconst (pc' := 103) (nI 0) X dX6_rounds_102 ki_0 rfl ?_
                refine V_istore (pc' := 105) [(0, .ref (y 0)), (1, .int (nI B)), (2, .int (nI i)), (3, .int (nI ((hj s B i j).1))), (4, .int (nI j)), (5, .int (nI 0)), (6, .int (nI (mfv s j ((hj s B i j).1) (rsp 9 s B i j) B))), (7, .int (nI 0))] [1, 2, 3, 4, 5, 6, 7, 0] X dX6_rounds_103 (Nat.le_of_ble_eq_true rfl) rfl rfl ?_
                refine V_iload_n (pc' := 106) 3 X dX6_rounds_105 rfl rfl rfl ?_
                refine V_iload (pc' := 108) 7 X dX6_rounds_106 rfl rfl ?_
                refine V_if_eq (pc' := 111) (C := 0 = 0) 118 X dX6_rounds_108 (by decide) rfl (z_eq0 (by omega)) (fun _ => ?_) (fun hz => absurd (by decide) hz)
                refine V_iconst (pc' := 119) (nI 0) X dX6_rounds_118 ki_0 rfl ?_
                refine V_ior (pc' := 120) (nI ((hj s B i j).1)) X dX6_rounds_119 (by rw [z_or, Nat.or_zero]) rfl ?_
                refine V_istore_n (pc' := 121) [(0, .ref (y 0)), (1, .int (nI B)), (2, .int (nI i)), (3, .int (nI ((hj s B i j).1))), (4, .int (nI j)), (5, .int (nI 0)), (6, .int (nI (mfv s j ((hj s B i j).1) (rsp 9 s B i j) B))), (7, .int (nI 0))] [1, 2, 3, 0, 4, 5, 6, 7] X dX6_rounds_120 rfl (Nat.le_of_ble_eq_true rfl) rfl rfl ?_
                refine V_aload_n (pc' := 122) 0 X dX6_rounds_121 rfl rfl rfl ?_
                refine V_dup (pc' := 123) X dX6_rounds_122 rfl rfl ?_
                refine V_get (pc' := 126) 0 X F61 rfl rfl dX6_rounds_123 rfl ?_
                refine V_iload (pc' := 128) 5 X dX6_rounds_126 rfl rfl ?_
                refine V_if_eq (pc' := 131) (C := 0 = 0) 141 X dX6_rounds_128 (by decide) rfl (z_eq0 (by omega)) (fun _ => ?_) (fun hz => absurd (by decide) hz)
                refine V_iconst (pc' := 142) (nI 0) X dX6_rounds_141 ki_0 rfl ?_
                refine V_iadd (pc' := 143) (nI (tv s B i + (tw s B i j + 0))) X dX6_rounds_142 (by rw [nI_add, Nat.add_assoc]) rfl ?_
                refine V_ws [[((y 0), .inr (6, [.int (nI t), .ref (y 1), .ref (y 2), .ref (y 3), .ref (y 4), .int (nI kn), .ref (y 5), .int (nI ln), .ref (y 6), .ref (y 7), .int (nI (tv s B i + tw s B i j))]))], RW G (y 1) 70 s, RW G (y 6) 10 (upN (rsp 9 s B i) (rsp 9 s B (i + 1)) j), RW G (y 7) 32 (upN d (rh 9 s B) i)] rfl ?_
                refine V_put (pc' := 146) 0 [[((y 0), .inr (6, [.int (nI t), .ref (y 1), .ref (y 2), .ref (y 3), .ref (y 4), .int (nI kn), .ref (y 5), .int (nI ln), .ref (y 6), .ref (y 7), .int (nI (tv s B i + (tw s B i j + 0)))]))], RW G (y 1) 70 s, RW G (y 6) 10 (upN (rsp 9 s B i) (rsp 9 s B (i + 1)) j), RW G (y 7) 32 (upN d (rh 9 s B) i)] X F61 rfl rfl rfl rfl (Nat.le_of_ble_eq_true rfl) rfl dX6_rounds_143 rfl ?_
                refine V_aload_n (pc' := 147) 0 X dX6_rounds_146 rfl rfl rfl ?_
                refine V_get (pc' := 150) 0 X F26 rfl rfl dX6_rounds_147 rfl ?_
                refine V_iload (pc' := 152) 4 X dX6_rounds_150 rfl rfl ?_
                refine V_iload (pc' := 154) 7 X dX6_rounds_152 rfl rfl ?_
                refine V_if_eq (pc' := 157) (C := 0 = 0) 161 X dX6_rounds_154 (by decide) rfl (z_eq0 (by omega)) (fun _ => ?_) (fun hz => absurd (by decide) hz)
                refine V_aload_n (pc' := 162) 0 X dX6_rounds_161 rfl rfl rfl ?_
                refine V_get (pc' := 165) 0 X F26 rfl rfl dX6_rounds_162 rfl ?_
                refine V_iload (pc' := 167) 4 X dX6_rounds_165 rfl rfl ?_
                refine V_iald (pc' := 168) (v := nI (rsp 9 s B i j)) 2 j X rfl (by omega) (by decide) (congrArg nI (upN_out (Nat.le_refl _))) dX6_rounds_167 rfl ?_
                refine V_callS (pc' := 171) (As := [.int (nI (rsp 9 s B i j))]) (st := [.int (nI j), .ref (y 6)]) [] [0, 1, 2, 3] (show (List.range 4).Perm ([] ++ [0, 1, 2, 3]) by decide) X (c_X6_later l G (rsp 9 s B i j) (by omega)) rfl gX6_rounds_X6_later rfl rfl (Nat.le_of_ble_eq_true rfl) ⟨Nat.le_of_ble_eq_true rfl, Nat.le_of_ble_eq_true rfl⟩ ⟨Nat.le_of_ble_eq_true rfl, Nat.le_of_ble_eq_true rfl⟩ dX6_rounds_168 rfl (fun v_ u_ hp_ => ?_)
                obtain ⟨rfl, rfl⟩ := hp_
                show V E G A 8 [[((y 0), .inr (6, [.int (nI t), .ref (y 1), .ref (y 2), .ref (y 3), .ref (y 4), .int (nI kn), .ref (y 5), .int (nI ln), .ref (y 6), .ref (y 7), .int (nI (tv s B i + (tw s B i j + 0)))]))], RW G (y 1) 70 s, RW G (y 6) 10 (upN (rsp 9 s B i) (rsp 9 s B (i + 1)) j), RW G (y 7) 32 (upN d (rh 9 s B) i)] 0 0 Q 171 [(0, .ref (y 0)), (1, .int (nI B)), (2, .int (nI i)), (3, .int (nI ((hj s B i j).1))), (4, .int (nI j)), (5, .int (nI 0)), (6, .int (nI (mfv s j ((hj s B i j).1) (rsp 9 s B i j) B))), (7, .int (nI 0))] [.int (nI (min ((rsp 9 s B i j) + 1) 9)), .int (nI j), .ref (y 6)]
                refine V_ws [[((y 0), .inr (6, [.int (nI t), .ref (y 1), .ref (y 2), .ref (y 3), .ref (y 4), .int (nI kn), .ref (y 5), .int (nI ln), .ref (y 6), .ref (y 7), .int (nI (tv s B i + (tw s B i j + 0)))]))], RW G (y 1) 70 s, [((y 6), .inl (G.2 0, 10, .inl (nf (upN (rsp 9 s B i) (rsp 9 s B (i + 1)) j))))], RW G (y 7) 32 (upN d (rh 9 s B) i)] rfl ?_
                refine V_iast (pc' := 172) 2 j [[((y 0), .inr (6, [.int (nI t), .ref (y 1), .ref (y 2), .ref (y 3), .ref (y 4), .int (nI kn), .ref (y 5), .int (nI ln), .ref (y 6), .ref (y 7), .int (nI (tv s B i + (tw s B i j + 0)))]))], RW G (y 1) 70 s, [((y 6), .inl (G.2 0, 10, .inl (upd (nf (upN (rsp 9 s B i) (rsp 9 s B (i + 1)) j)) j (nI (min ((rsp 9 s B i j) + 1) 9)))))], RW G (y 7) 32 (upN d (rh 9 s B) i)] X rfl (by omega) (by decide) rfl dX6_rounds_171 rfl ?_
                refine V_ws [[((y 0), .inr (6, [.int (nI t), .ref (y 1), .ref (y 2), .ref (y 3), .ref (y 4), .int (nI kn), .ref (y 5), .int (nI ln), .ref (y 6), .ref (y 7), .int (nI (tv s B i + (tw s B i j + 0)))]))], RW G (y 1) 70 s, [((y 6), .inl (G.2 0, 10, .inl (nf (va_up (upN (rsp 9 s B i) (rsp 9 s B (i + 1)) j) j (min ((rsp 9 s B i j) + 1) 9)))))], RW G (y 7) 32 (upN d (rh 9 s B) i)] (by simp only [nf_upd]) ?_
                refine V_iinc (pc' := 175) [(0, .ref (y 0)), (1, .int (nI B)), (2, .int (nI i)), (3, .int (nI ((hj s B i j).1))), (4, .int (nI (j + 1))), (5, .int (nI 0)), (6, .int (nI (mfv s j ((hj s B i j).1) (rsp 9 s B i j) B))), (7, .int (nI 0))] 4 [1, 2, 3, 4, 0, 5, 6, 7] X dX6_rounds_172 rfl (nI_i1 _) (Nat.le_of_ble_eq_true rfl) rfl rfl ?_
                refine V_goto (pc' := 40) X dX6_rounds_175 (by decide) ?_
                refine V_lv [0, 1, 2, 3, 4] [(0, .ref (y 0)), (1, .int (nI B)), (2, .int (nI i)), (3, .int (nI ((hj s B i j).1))), (4, .int (nI (j + 1)))] rfl ?_
                obtain ⟨hq1, hb1⟩ := hj_no hI hi_j (Or.inl h61) (B := B)
                have htw := tw_no (B := B) (s := s) (Or.inl h61)
                rw [hq1, htw, upN_succ, hb1] at ih
                refine V_ws [MO y t kn ln (tv s B i + (tw s B i j + 0)), RW G (y 1) 70 s, RW G (y 6) 10 (va_up (upN (rsp 9 s B i) (rsp 9 s B (i + 1)) j) j (min ((rsp 9 s B i j) + 1) 9)), RW G (y 7) 32 (upN d (rh 9 s B) i)] rfl ?_
                exact ih
              · refine V_iconst (pc' := 65) (nI 1) X dX6_rounds_64 ki_1 rfl ?_
                refine V_goto (pc' := 69) X dX6_rounds_65 (by decide) ?_
                refine V_istore (pc' := 71) [(0, .ref (y 0)), (1, .int (nI B)), (2, .int (nI i)), (3, .int (nI ((hj s B i j).1))), (4, .int (nI j)), (5, .int (nI 1))] [1, 2, 3, 4, 5, 0] X dX6_rounds_69 (Nat.le_of_ble_eq_true rfl) rfl rfl ?_
                refine V_aload_n (pc' := 72) 0 X dX6_rounds_71 rfl rfl rfl ?_
                refine V_iload (pc' := 74) 4 X dX6_rounds_72 rfl rfl ?_
                refine V_iload_n (pc' := 75) 3 X dX6_rounds_74 rfl rfl rfl ?_
                refine V_aload_n (pc' := 76) 0 X dX6_rounds_75 rfl rfl rfl ?_
                refine V_get (pc' := 79) 0 X F26 rfl rfl dX6_rounds_76 rfl ?_
                refine V_iload (pc' := 81) 4 X dX6_rounds_79 rfl rfl ?_
                refine V_iald (pc' := 82) (v := nI (rsp 9 s B i j)) 2 j X rfl (by omega) (by decide) (congrArg nI (upN_out (Nat.le_refl _))) dX6_rounds_81 rfl ?_
                refine V_iload_n (pc' := 83) 1 X dX6_rounds_82 rfl rfl rfl ?_
                refine V_callV (pc' := 86) (As := [.int (nI j), .int (nI ((hj s B i j).1)), .int (nI (rsp 9 s B i j)), .int (nI B)]) (st := []) 6 0 [0, 1] [2, 3] (show (List.range 4).Perm ([0, 1] ++ [2, 3]) by decide) X (c_X6_missedFor l G y t kn ln (tv s B i + tw s B i j) s hI j ((hj s B i j).1) (rsp 9 s B i j) B hi_j hjl (Nat.lt_of_le_of_lt hrl (by decide)) (by omega)) rfl gX6_rounds_X6_missedFor rfl (by decide) rfl rfl rfl (Nat.le_of_ble_eq_true rfl) ⟨Nat.le_of_ble_eq_true rfl, Nat.le_of_ble_eq_true rfl⟩ ⟨Nat.le_of_ble_eq_true rfl, Nat.le_of_ble_eq_true rfl⟩ dX6_rounds_83 rfl (fun v_ u_ hp_ => ?_)
                obtain ⟨rfl, rfl⟩ := hp_
                show V E G A 8 [RW G (y 6) 10 (upN (rsp 9 s B i) (rsp 9 s B (i + 1)) j), RW G (y 7) 32 (upN d (rh 9 s B) i), MO y t kn ln (tv s B i + tw s B i j), RW G (y 1) 70 s] 0 0 Q 86 [(0, .ref (y 0)), (1, .int (nI B)), (2, .int (nI i)), (3, .int (nI ((hj s B i j).1))), (4, .int (nI j)), (5, .int (nI 1))] [.int (nI (mfv s j ((hj s B i j).1) (rsp 9 s B i j) B))]
                refine V_ord [2, 3, 0, 1] [MO y t kn ln (tv s B i + tw s B i j), RW G (y 1) 70 s, RW G (y 6) 10 (upN (rsp 9 s B i) (rsp 9 s B (i + 1)) j), RW G (y 7) 32 (upN d (rh 9 s B) i)] (show (List.range 4).Perm [2, 3, 0, 1] by decide) rfl ?_
                refine V_istore (pc' := 88) [(0, .ref (y 0)), (1, .int (nI B)), (2, .int (nI i)), (3, .int (nI ((hj s B i j).1))), (4, .int (nI j)), (5, .int (nI 1)), (6, .int (nI (mfv s j ((hj s B i j).1) (rsp 9 s B i j) B)))] [1, 2, 3, 4, 5, 6, 0] X dX6_rounds_86 (Nat.le_of_ble_eq_true rfl) rfl rfl ?_
                refine V_iload (pc' := 90) 5 X dX6_rounds_88 rfl rfl ?_
                refine V_if_eq (pc' := 93) (C := 1 = 0) 102 X dX6_rounds_90 (by decide) rfl (z_eq0 (by omega)) (fun hz => absurd hz (by decide)) (fun _ => ?_)
                refine V_iload (pc' := 95) 6 X dX6_rounds_93 rfl rfl ?_
                refine V_if_ne (pc' := 98) (C := (mfv s j ((hj s B i j).1) (rsp 9 s B i j) B) = 0) 102 X dX6_rounds_95 (by decide) rfl (z_eq0 (Nat.lt_of_le_of_lt (mfv_le _ _ _ _ _) (by decide))) (fun h95 => ?_) (fun h95 => ?_)
                · refine V_iconst (pc' := 103) (nI 0) X dX6_rounds_102 ki_0 rfl ?_
                  refine V_istore (pc' := 105) [(0, .ref (y 0)), (1, .int (nI B)), (2, .int (nI i)), (3, .int (nI ((hj s B i j).1))), (4, .int (nI j)), (5, .int (nI 1)), (6, .int (nI (mfv s j ((hj s B i j).1) (rsp 9 s B i j) B))), (7, .int (nI 0))] [1, 2, 3, 4, 5, 6, 7, 0] X dX6_rounds_103 (Nat.le_of_ble_eq_true rfl) rfl rfl ?_
                  refine V_iload_n (pc' := 106) 3 X dX6_rounds_105 rfl rfl rfl ?_
                  refine V_iload (pc' := 108) 7 X dX6_rounds_106 rfl rfl ?_
                  refine V_if_eq (pc' := 111) (C := 0 = 0) 118 X dX6_rounds_108 (by decide) rfl (z_eq0 (by omega)) (fun _ => ?_) (fun hz => absurd (by decide) hz)
                  refine V_iconst (pc' := 119) (nI 0) X dX6_rounds_118 ki_0 rfl ?_
                  refine V_ior (pc' := 120) (nI ((hj s B i j).1)) X dX6_rounds_119 (by rw [z_or, Nat.or_zero]) rfl ?_
                  refine V_istore_n (pc' := 121) [(0, .ref (y 0)), (1, .int (nI B)), (2, .int (nI i)), (3, .int (nI ((hj s B i j).1))), (4, .int (nI j)), (5, .int (nI 1)), (6, .int (nI (mfv s j ((hj s B i j).1) (rsp 9 s B i j) B))), (7, .int (nI 0))] [1, 2, 3, 0, 4, 5, 6, 7] X dX6_rounds_120 rfl (Nat.le_of_ble_eq_true rfl) rfl rfl ?_
                  refine V_aload_n (pc' := 122) 0 X dX6_rounds_121 rfl rfl rfl ?_
                  refine V_dup (pc' := 123) X dX6_rounds_122 rfl rfl ?_
                  refine V_get (pc' := 126) 0 X F61 rfl rfl dX6_rounds_123 rfl ?_
                  refine V_iload (pc' := 128) 5 X dX6_rounds_126 rfl rfl ?_
                  refine V_if_eq (pc' := 131) (C := 1 = 0) 141 X dX6_rounds_128 (by decide) rfl (z_eq0 (by omega)) (fun hz => absurd hz (by decide)) (fun _ => ?_)
                  refine V_iload (pc' := 133) 6 X dX6_rounds_131 rfl rfl ?_
                  refine V_iconst (pc' := 134) (nI 2) X dX6_rounds_133 ki_2 rfl ?_
                  refine V_icmp_ne (pc' := 137) (C := (mfv s j ((hj s B i j).1) (rsp 9 s B i j) B) = 2) 141 X dX6_rounds_134 (by decide) rfl (nI_eq (Nat.lt_of_le_of_lt (mfv_le _ _ _ _ _) (by decide)) (by decide)) (fun h134 => ?_) (fun h134 => ?_)
                  · refine V_iconst (pc' := 142) (nI 0) X dX6_rounds_141 ki_0 rfl ?_
                    refine V_iadd (pc' := 143) (nI (tv s B i + (tw s B i j + 0))) X dX6_rounds_142 (by rw [nI_add, Nat.add_assoc]) rfl ?_
                    refine V_ws [[((y 0), .inr (6, [.int (nI t), .ref (y 1), .ref (y 2), .ref (y 3), .ref (y 4), .int (nI kn), .ref (y 5), .int (nI ln), .ref (y 6), .ref (y 7), .int (nI (tv s B i + tw s B i j))]))], RW G (y 1) 70 s, RW G (y 6) 10 (upN (rsp 9 s B i) (rsp 9 s B (i + 1)) j), RW G (y 7) 32 (upN d (rh 9 s B) i)] rfl ?_
                    refine V_put (pc' := 146) 0 [[((y 0), .inr (6, [.int (nI t), .ref (y 1), .ref (y 2), .ref (y 3), .ref (y 4), .int (nI kn), .ref (y 5), .int (nI ln), .ref (y 6), .ref (y 7), .int (nI (tv s B i + (tw s B i j + 0)))]))], RW G (y 1) 70 s, RW G (y 6) 10 (upN (rsp 9 s B i) (rsp 9 s B (i + 1)) j), RW G (y 7) 32 (upN d (rh 9 s B) i)] X F61 rfl rfl rfl rfl (Nat.le_of_ble_eq_true rfl) rfl dX6_rounds_143 rfl ?_
                    refine V_aload_n (pc' := 147) 0 X dX6_rounds_146 rfl rfl rfl ?_
                    refine V_get (pc' := 150) 0 X F26 rfl rfl dX6_rounds_147 rfl ?_
                    refine V_iload (pc' := 152) 4 X dX6_rounds_150 rfl rfl ?_
                    refine V_iload (pc' := 154) 7 X dX6_rounds_152 rfl rfl ?_
                    refine V_if_eq (pc' := 157) (C := 0 = 0) 161 X dX6_rounds_154 (by decide) rfl (z_eq0 (by omega)) (fun _ => ?_) (fun hz => absurd (by decide) hz)
                    refine V_aload_n (pc' := 162) 0 X dX6_rounds_161 rfl rfl rfl ?_
                    refine V_get (pc' := 165) 0 X F26 rfl rfl dX6_rounds_162 rfl ?_
                    refine V_iload (pc' := 167) 4 X dX6_rounds_165 rfl rfl ?_
                    refine V_iald (pc' := 168) (v := nI (rsp 9 s B i j)) 2 j X rfl (by omega) (by decide) (congrArg nI (upN_out (Nat.le_refl _))) dX6_rounds_167 rfl ?_
                    refine V_callS (pc' := 171) (As := [.int (nI (rsp 9 s B i j))]) (st := [.int (nI j), .ref (y 6)]) [] [0, 1, 2, 3] (show (List.range 4).Perm ([] ++ [0, 1, 2, 3]) by decide) X (c_X6_later l G (rsp 9 s B i j) (by omega)) rfl gX6_rounds_X6_later rfl rfl (Nat.le_of_ble_eq_true rfl) ⟨Nat.le_of_ble_eq_true rfl, Nat.le_of_ble_eq_true rfl⟩ ⟨Nat.le_of_ble_eq_true rfl, Nat.le_of_ble_eq_true rfl⟩ dX6_rounds_168 rfl (fun v_ u_ hp_ => ?_)
                    obtain ⟨rfl, rfl⟩ := hp_
                    show V E G A 8 [[((y 0), .inr (6, [.int (nI t), .ref (y 1), .ref (y 2), .ref (y 3), .ref (y 4), .int (nI kn), .ref (y 5), .int (nI ln), .ref (y 6), .ref (y 7), .int (nI (tv s B i + (tw s B i j + 0)))]))], RW G (y 1) 70 s, RW G (y 6) 10 (upN (rsp 9 s B i) (rsp 9 s B (i + 1)) j), RW G (y 7) 32 (upN d (rh 9 s B) i)] 0 0 Q 171 [(0, .ref (y 0)), (1, .int (nI B)), (2, .int (nI i)), (3, .int (nI ((hj s B i j).1))), (4, .int (nI j)), (5, .int (nI 1)), (6, .int (nI (mfv s j ((hj s B i j).1) (rsp 9 s B i j) B))), (7, .int (nI 0))] [.int (nI (min ((rsp 9 s B i j) + 1) 9)), .int (nI j), .ref (y 6)]
                    refine V_ws [[((y 0), .inr (6, [.int (nI t), .ref (y 1), .ref (y 2), .ref (y 3), .ref (y 4), .int (nI kn), .ref (y 5), .int (nI ln), .ref (y 6), .ref (y 7), .int (nI (tv s B i + (tw s B i j + 0)))]))], RW G (y 1) 70 s, [((y 6), .inl (G.2 0, 10, .inl (nf (upN (rsp 9 s B i) (rsp 9 s B (i + 1)) j))))], RW G (y 7) 32 (upN d (rh 9 s B) i)] rfl ?_
                    refine V_iast (pc' := 172) 2 j [[((y 0), .inr (6, [.int (nI t), .ref (y 1), .ref (y 2), .ref (y 3), .ref (y 4), .int (nI kn), .ref (y 5), .int (nI ln), .ref (y 6), .ref (y 7), .int (nI (tv s B i + (tw s B i j + 0)))]))], RW G (y 1) 70 s, [((y 6), .inl (G.2 0, 10, .inl (upd (nf (upN (rsp 9 s B i) (rsp 9 s B (i + 1)) j)) j (nI (min ((rsp 9 s B i j) + 1) 9)))))], RW G (y 7) 32 (upN d (rh 9 s B) i)] X rfl (by omega) (by decide) rfl dX6_rounds_171 rfl ?_
                    refine V_ws [[((y 0), .inr (6, [.int (nI t), .ref (y 1), .ref (y 2), .ref (y 3), .ref (y 4), .int (nI kn), .ref (y 5), .int (nI ln), .ref (y 6), .ref (y 7), .int (nI (tv s B i + (tw s B i j + 0)))]))], RW G (y 1) 70 s, [((y 6), .inl (G.2 0, 10, .inl (nf (va_up (upN (rsp 9 s B i) (rsp 9 s B (i + 1)) j) j (min ((rsp 9 s B i j) + 1) 9)))))], RW G (y 7) 32 (upN d (rh 9 s B) i)] (by simp only [nf_upd]) ?_
                    refine V_iinc (pc' := 175) [(0, .ref (y 0)), (1, .int (nI B)), (2, .int (nI i)), (3, .int (nI ((hj s B i j).1))), (4, .int (nI (j + 1))), (5, .int (nI 1)), (6, .int (nI (mfv s j ((hj s B i j).1) (rsp 9 s B i j) B))), (7, .int (nI 0))] 4 [1, 2, 3, 4, 0, 5, 6, 7] X dX6_rounds_172 rfl (nI_i1 _) (Nat.le_of_ble_eq_true rfl) rfl rfl ?_
                    refine V_goto (pc' := 40) X dX6_rounds_175 (by decide) ?_
                    refine V_lv [0, 1, 2, 3, 4] [(0, .ref (y 0)), (1, .int (nI B)), (2, .int (nI i)), (3, .int (nI ((hj s B i j).1))), (4, .int (nI (j + 1)))] rfl ?_
                    obtain ⟨hq1, hb1⟩ := hj_no hI hi_j (Or.inr h95)
                    have htw := tw_no (s := s) (Or.inr h134)
                    rw [hq1, htw, upN_succ, hb1] at ih
                    refine V_ws [MO y t kn ln (tv s B i + (tw s B i j + 0)), RW G (y 1) 70 s, RW G (y 6) 10 (va_up (upN (rsp 9 s B i) (rsp 9 s B (i + 1)) j) j (min ((rsp 9 s B i j) + 1) 9)), RW G (y 7) 32 (upN d (rh 9 s B) i)] rfl ?_
                    exact ih
                  · refine V_iconst (pc' := 138) (nI 1) X dX6_rounds_137 ki_1 rfl ?_
                    refine V_goto (pc' := 142) X dX6_rounds_138 (by decide) ?_
                    refine V_iadd (pc' := 143) (nI (tv s B i + (tw s B i j + 1))) X dX6_rounds_142 (by rw [nI_add, Nat.add_assoc]) rfl ?_
                    refine V_ws [[((y 0), .inr (6, [.int (nI t), .ref (y 1), .ref (y 2), .ref (y 3), .ref (y 4), .int (nI kn), .ref (y 5), .int (nI ln), .ref (y 6), .ref (y 7), .int (nI (tv s B i + tw s B i j))]))], RW G (y 1) 70 s, RW G (y 6) 10 (upN (rsp 9 s B i) (rsp 9 s B (i + 1)) j), RW G (y 7) 32 (upN d (rh 9 s B) i)] rfl ?_
                    refine V_put (pc' := 146) 0 [[((y 0), .inr (6, [.int (nI t), .ref (y 1), .ref (y 2), .ref (y 3), .ref (y 4), .int (nI kn), .ref (y 5), .int (nI ln), .ref (y 6), .ref (y 7), .int (nI (tv s B i + (tw s B i j + 1)))]))], RW G (y 1) 70 s, RW G (y 6) 10 (upN (rsp 9 s B i) (rsp 9 s B (i + 1)) j), RW G (y 7) 32 (upN d (rh 9 s B) i)] X F61 rfl rfl rfl rfl (Nat.le_of_ble_eq_true rfl) rfl dX6_rounds_143 rfl ?_
                    refine V_aload_n (pc' := 147) 0 X dX6_rounds_146 rfl rfl rfl ?_
                    refine V_get (pc' := 150) 0 X F26 rfl rfl dX6_rounds_147 rfl ?_
                    refine V_iload (pc' := 152) 4 X dX6_rounds_150 rfl rfl ?_
                    refine V_iload (pc' := 154) 7 X dX6_rounds_152 rfl rfl ?_
                    refine V_if_eq (pc' := 157) (C := 0 = 0) 161 X dX6_rounds_154 (by decide) rfl (z_eq0 (by omega)) (fun _ => ?_) (fun hz => absurd (by decide) hz)
                    refine V_aload_n (pc' := 162) 0 X dX6_rounds_161 rfl rfl rfl ?_
                    refine V_get (pc' := 165) 0 X F26 rfl rfl dX6_rounds_162 rfl ?_
                    refine V_iload (pc' := 167) 4 X dX6_rounds_165 rfl rfl ?_
                    refine V_iald (pc' := 168) (v := nI (rsp 9 s B i j)) 2 j X rfl (by omega) (by decide) (congrArg nI (upN_out (Nat.le_refl _))) dX6_rounds_167 rfl ?_
                    refine V_callS (pc' := 171) (As := [.int (nI (rsp 9 s B i j))]) (st := [.int (nI j), .ref (y 6)]) [] [0, 1, 2, 3] (show (List.range 4).Perm ([] ++ [0, 1, 2, 3]) by decide) X (c_X6_later l G (rsp 9 s B i j) (by omega)) rfl gX6_rounds_X6_later rfl rfl (Nat.le_of_ble_eq_true rfl) ⟨Nat.le_of_ble_eq_true rfl, Nat.le_of_ble_eq_true rfl⟩ ⟨Nat.le_of_ble_eq_true rfl, Nat.le_of_ble_eq_true rfl⟩ dX6_rounds_168 rfl (fun v_ u_ hp_ => ?_)
                    obtain ⟨rfl, rfl⟩ := hp_
                    show V E G A 8 [[((y 0), .inr (6, [.int (nI t), .ref (y 1), .ref (y 2), .ref (y 3), .ref (y 4), .int (nI kn), .ref (y 5), .int (nI ln), .ref (y 6), .ref (y 7), .int (nI (tv s B i + (tw s B i j + 1)))]))], RW G (y 1) 70 s, RW G (y 6) 10 (upN (rsp 9 s B i) (rsp 9 s B (i + 1)) j), RW G (y 7) 32 (upN d (rh 9 s B) i)] 0 0 Q 171 [(0, .ref (y 0)), (1, .int (nI B)), (2, .int (nI i)), (3, .int (nI ((hj s B i j).1))), (4, .int (nI j)), (5, .int (nI 1)), (6, .int (nI (mfv s j ((hj s B i j).1) (rsp 9 s B i j) B))), (7, .int (nI 0))] [.int (nI (min ((rsp 9 s B i j) + 1) 9)), .int (nI j), .ref (y 6)]
                    refine V_ws [[((y 0), .inr (6, [.int (nI t), .ref (y 1), .ref (y 2), .ref (y 3), .ref (y 4), .int (nI kn), .ref (y 5), .int (nI ln), .ref (y 6), .ref (y 7), .int (nI (tv s B i + (tw s B i j + 1)))]))], RW G (y 1) 70 s, [((y 6), .inl (G.2 0, 10, .inl (nf (upN (rsp 9 s B i) (rsp 9 s B (i + 1)) j))))], RW G (y 7) 32 (upN d (rh 9 s B) i)] rfl ?_
                    refine V_iast (pc' := 172) 2 j [[((y 0), .inr (6, [.int (nI t), .ref (y 1), .ref (y 2), .ref (y 3), .ref (y 4), .int (nI kn), .ref (y 5), .int (nI ln), .ref (y 6), .ref (y 7), .int (nI (tv s B i + (tw s B i j + 1)))]))], RW G (y 1) 70 s, [((y 6), .inl (G.2 0, 10, .inl (upd (nf (upN (rsp 9 s B i) (rsp 9 s B (i + 1)) j)) j (nI (min ((rsp 9 s B i j) + 1) 9)))))], RW G (y 7) 32 (upN d (rh 9 s B) i)] X rfl (by omega) (by decide) rfl dX6_rounds_171 rfl ?_
                    refine V_ws [[((y 0), .inr (6, [.int (nI t), .ref (y 1), .ref (y 2), .ref (y 3), .ref (y 4), .int (nI kn), .ref (y 5), .int (nI ln), .ref (y 6), .ref (y 7), .int (nI (tv s B i + (tw s B i j + 1)))]))], RW G (y 1) 70 s, [((y 6), .inl (G.2 0, 10, .inl (nf (va_up (upN (rsp 9 s B i) (rsp 9 s B (i + 1)) j) j (min ((rsp 9 s B i j) + 1) 9)))))], RW G (y 7) 32 (upN d (rh 9 s B) i)] (by simp only [nf_upd]) ?_
                    refine V_iinc (pc' := 175) [(0, .ref (y 0)), (1, .int (nI B)), (2, .int (nI i)), (3, .int (nI ((hj s B i j).1))), (4, .int (nI (j + 1))), (5, .int (nI 1)), (6, .int (nI (mfv s j ((hj s B i j).1) (rsp 9 s B i j) B))), (7, .int (nI 0))] 4 [1, 2, 3, 4, 0, 5, 6, 7] X dX6_rounds_172 rfl (nI_i1 _) (Nat.le_of_ble_eq_true rfl) rfl rfl ?_
                    refine V_goto (pc' := 40) X dX6_rounds_175 (by decide) ?_
                    refine V_lv [0, 1, 2, 3, 4] [(0, .ref (y 0)), (1, .int (nI B)), (2, .int (nI i)), (3, .int (nI ((hj s B i j).1))), (4, .int (nI (j + 1)))] rfl ?_
                    obtain ⟨hq1, hb1⟩ := hj_no hI hi_j (Or.inr h95)
                    have htw := tw_yes (s := s) h61 h134
                    rw [hq1, htw, upN_succ, hb1] at ih
                    refine V_ws [MO y t kn ln (tv s B i + (tw s B i j + 1)), RW G (y 1) 70 s, RW G (y 6) 10 (va_up (upN (rsp 9 s B i) (rsp 9 s B (i + 1)) j) j (min ((rsp 9 s B i j) + 1) 9)), RW G (y 7) 32 (upN d (rh 9 s B) i)] rfl ?_
                    exact ih
                · refine V_iconst (pc' := 99) (nI 1) X dX6_rounds_98 ki_1 rfl ?_
                  refine V_goto (pc' := 103) X dX6_rounds_99 (by decide) ?_
                  refine V_istore (pc' := 105) [(0, .ref (y 0)), (1, .int (nI B)), (2, .int (nI i)), (3, .int (nI ((hj s B i j).1))), (4, .int (nI j)), (5, .int (nI 1)), (6, .int (nI (mfv s j ((hj s B i j).1) (rsp 9 s B i j) B))), (7, .int (nI 1))] [1, 2, 3, 4, 5, 6, 7, 0] X dX6_rounds_103 (Nat.le_of_ble_eq_true rfl) rfl rfl ?_
                  refine V_iload_n (pc' := 106) 3 X dX6_rounds_105 rfl rfl rfl ?_
                  refine V_iload (pc' := 108) 7 X dX6_rounds_106 rfl rfl ?_
                  refine V_if_eq (pc' := 111) (C := 1 = 0) 118 X dX6_rounds_108 (by decide) rfl (z_eq0 (by omega)) (fun hz => absurd hz (by decide)) (fun _ => ?_)
                  refine V_iconst (pc' := 112) (nI 1) X dX6_rounds_111 ki_1 rfl ?_
                  refine V_iload (pc' := 114) 4 X dX6_rounds_112 rfl rfl ?_
                  refine V_ishl (pc' := 115) (nI (2 ^ j)) X dX6_rounds_114 (z_shl1 (by omega)) rfl ?_
                  refine V_goto (pc' := 119) X dX6_rounds_115 (by decide) ?_
                  refine V_ior (pc' := 120) (nI ((hj s B i j).1 + 2 ^ j)) X dX6_rounds_119 (by rw [z_or]; exact congrArg nI (or_pow (hr_lt _ _ _ _ _))) rfl ?_
                  refine V_istore_n (pc' := 121) [(0, .ref (y 0)), (1, .int (nI B)), (2, .int (nI i)), (3, .int (nI ((hj s B i j).1 + 2 ^ j))), (4, .int (nI j)), (5, .int (nI 1)), (6, .int (nI (mfv s j ((hj s B i j).1) (rsp 9 s B i j) B))), (7, .int (nI 1))] [1, 2, 3, 0, 4, 5, 6, 7] X dX6_rounds_120 rfl (Nat.le_of_ble_eq_true rfl) rfl rfl ?_
                  refine V_aload_n (pc' := 122) 0 X dX6_rounds_121 rfl rfl rfl ?_
                  refine V_dup (pc' := 123) X dX6_rounds_122 rfl rfl ?_
                  refine V_get (pc' := 126) 0 X F61 rfl rfl dX6_rounds_123 rfl ?_
                  refine V_iload (pc' := 128) 5 X dX6_rounds_126 rfl rfl ?_
                  refine V_if_eq (pc' := 131) (C := 1 = 0) 141 X dX6_rounds_128 (by decide) rfl (z_eq0 (by omega)) (fun hz => absurd hz (by decide)) (fun _ => ?_)
                  refine V_iload (pc' := 133) 6 X dX6_rounds_131 rfl rfl ?_
                  refine V_iconst (pc' := 134) (nI 2) X dX6_rounds_133 ki_2 rfl ?_
                  refine V_icmp_ne (pc' := 137) (C := (mfv s j ((hj s B i j).1) (rsp 9 s B i j) B) = 2) 141 X dX6_rounds_134 (by decide) rfl (nI_eq (Nat.lt_of_le_of_lt (mfv_le _ _ _ _ _) (by decide)) (by decide)) (fun _ => ?_) (fun hz => absurd hz (by rw [h95]; decide))
                  refine V_iconst (pc' := 142) (nI 0) X dX6_rounds_141 ki_0 rfl ?_
                  refine V_iadd (pc' := 143) (nI (tv s B i + (tw s B i j + 0))) X dX6_rounds_142 (by rw [nI_add, Nat.add_assoc]) rfl ?_
                  refine V_ws [[((y 0), .inr (6, [.int (nI t), .ref (y 1), .ref (y 2), .ref (y 3), .ref (y 4), .int (nI kn), .ref (y 5), .int (nI ln), .ref (y 6), .ref (y 7), .int (nI (tv s B i + tw s B i j))]))], RW G (y 1) 70 s, RW G (y 6) 10 (upN (rsp 9 s B i) (rsp 9 s B (i + 1)) j), RW G (y 7) 32 (upN d (rh 9 s B) i)] rfl ?_
                  refine V_put (pc' := 146) 0 [[((y 0), .inr (6, [.int (nI t), .ref (y 1), .ref (y 2), .ref (y 3), .ref (y 4), .int (nI kn), .ref (y 5), .int (nI ln), .ref (y 6), .ref (y 7), .int (nI (tv s B i + (tw s B i j + 0)))]))], RW G (y 1) 70 s, RW G (y 6) 10 (upN (rsp 9 s B i) (rsp 9 s B (i + 1)) j), RW G (y 7) 32 (upN d (rh 9 s B) i)] X F61 rfl rfl rfl rfl (Nat.le_of_ble_eq_true rfl) rfl dX6_rounds_143 rfl ?_
                  refine V_aload_n (pc' := 147) 0 X dX6_rounds_146 rfl rfl rfl ?_
                  refine V_get (pc' := 150) 0 X F26 rfl rfl dX6_rounds_147 rfl ?_
                  refine V_iload (pc' := 152) 4 X dX6_rounds_150 rfl rfl ?_
                  refine V_iload (pc' := 154) 7 X dX6_rounds_152 rfl rfl ?_
                  refine V_if_eq (pc' := 157) (C := 1 = 0) 161 X dX6_rounds_154 (by decide) rfl (z_eq0 (by omega)) (fun hz => absurd hz (by decide)) (fun _ => ?_)
                  refine V_iconst (pc' := 158) (nI 0) X dX6_rounds_157 ki_0 rfl ?_
                  refine V_goto (pc' := 171) X dX6_rounds_158 (by decide) ?_
                  refine V_ws [[((y 0), .inr (6, [.int (nI t), .ref (y 1), .ref (y 2), .ref (y 3), .ref (y 4), .int (nI kn), .ref (y 5), .int (nI ln), .ref (y 6), .ref (y 7), .int (nI (tv s B i + (tw s B i j + 0)))]))], RW G (y 1) 70 s, [((y 6), .inl (G.2 0, 10, .inl (nf (upN (rsp 9 s B i) (rsp 9 s B (i + 1)) j))))], RW G (y 7) 32 (upN d (rh 9 s B) i)] rfl ?_
                  refine V_iast (pc' := 172) 2 j [[((y 0), .inr (6, [.int (nI t), .ref (y 1), .ref (y 2), .ref (y 3), .ref (y 4), .int (nI kn), .ref (y 5), .int (nI ln), .ref (y 6), .ref (y 7), .int (nI (tv s B i + (tw s B i j + 0)))]))], RW G (y 1) 70 s, [((y 6), .inl (G.2 0, 10, .inl (upd (nf (upN (rsp 9 s B i) (rsp 9 s B (i + 1)) j)) j (nI 0))))], RW G (y 7) 32 (upN d (rh 9 s B) i)] X rfl (by omega) (by decide) rfl dX6_rounds_171 rfl ?_
                  refine V_ws [[((y 0), .inr (6, [.int (nI t), .ref (y 1), .ref (y 2), .ref (y 3), .ref (y 4), .int (nI kn), .ref (y 5), .int (nI ln), .ref (y 6), .ref (y 7), .int (nI (tv s B i + (tw s B i j + 0)))]))], RW G (y 1) 70 s, [((y 6), .inl (G.2 0, 10, .inl (nf (va_up (upN (rsp 9 s B i) (rsp 9 s B (i + 1)) j) j 0))))], RW G (y 7) 32 (upN d (rh 9 s B) i)] (by simp only [nf_upd]) ?_
                  refine V_iinc (pc' := 175) [(0, .ref (y 0)), (1, .int (nI B)), (2, .int (nI i)), (3, .int (nI ((hj s B i j).1 + 2 ^ j))), (4, .int (nI (j + 1))), (5, .int (nI 1)), (6, .int (nI (mfv s j ((hj s B i j).1) (rsp 9 s B i j) B))), (7, .int (nI 1))] 4 [1, 2, 3, 4, 0, 5, 6, 7] X dX6_rounds_172 rfl (nI_i1 _) (Nat.le_of_ble_eq_true rfl) rfl rfl ?_
                  refine V_goto (pc' := 40) X dX6_rounds_175 (by decide) ?_
                  refine V_lv [0, 1, 2, 3, 4] [(0, .ref (y 0)), (1, .int (nI B)), (2, .int (nI i)), (3, .int (nI ((hj s B i j).1 + 2 ^ j))), (4, .int (nI (j + 1)))] rfl ?_
                  obtain ⟨hq1, hb1, htw⟩ := hj_yes hI hi_j h61 h95
                  rw [hq1, htw, upN_succ, hb1] at ih
                  refine V_ws [MO y t kn ln (tv s B i + (tw s B i j + 0)), RW G (y 1) 70 s, RW G (y 6) 10 (va_up (upN (rsp 9 s B i) (rsp 9 s B (i + 1)) j) j 0), RW G (y 7) 32 (upN d (rh 9 s B) i)] rfl ?_
                  exact ih
          exact lp_3 0 (Nat.zero_le _)
      exact lp_2 0 (Nat.zero_le _)
    · intro i hi_i ih
      show V E G A 8 [MO y t kn ln 0, RW G (y 1) 70 s, RW G (y 6) 10 (upN g (fun _ => 9) i), RW G (y 7) 32 d] 0 0 Q 7 [(0, .ref (y 0)), (1, .int (nI B)), (2, .int (nI i))] []
      refine V_iload_n (pc' := 8) 2 X dX6_rounds_7 rfl rfl rfl ?_
      refine V_bipush (pc' := 10) (nI 10) X dX6_rounds_8 kb_10 rfl ?_
      refine V_icmp_ge (pc' := 13) (C := 10 ≤ i) 27 X dX6_rounds_10 (by decide) rfl (nI_leI (by omega) (by omega)) (fun hz => absurd hz (by omega)) (fun _ => ?_)
      refine V_aload_n (pc' := 14) 0 X dX6_rounds_13 rfl rfl rfl ?_
      refine V_get (pc' := 17) 0 X F26 rfl rfl dX6_rounds_14 rfl ?_
      refine V_iload_n (pc' := 18) 2 X dX6_rounds_17 rfl rfl rfl ?_
      refine V_bipush (pc' := 20) (nI 9) X dX6_rounds_18 kb_9 rfl ?_
      refine V_ws [MO y t kn ln 0, RW G (y 1) 70 s, [((y 6), .inl (G.2 0, 10, .inl (nf (upN g (fun _ => 9) i))))], RW G (y 7) 32 d] rfl ?_
      refine V_iast (pc' := 21) 2 i [MO y t kn ln 0, RW G (y 1) 70 s, [((y 6), .inl (G.2 0, 10, .inl (upd (nf (upN g (fun _ => 9) i)) i (nI 9))))], RW G (y 7) 32 d] X rfl (by omega) (by decide) rfl dX6_rounds_20 rfl ?_
      refine V_ws [MO y t kn ln 0, RW G (y 1) 70 s, [((y 6), .inl (G.2 0, 10, .inl (nf (va_up (upN g (fun _ => 9) i) i 9))))], RW G (y 7) 32 d] (by simp only [nf_upd]) ?_
      refine V_iinc (pc' := 24) [(0, .ref (y 0)), (1, .int (nI B)), (2, .int (nI (i + 1)))] 2 [1, 2, 0] X dX6_rounds_21 rfl (nI_i1 _) (Nat.le_of_ble_eq_true rfl) rfl rfl ?_
      refine V_goto (pc' := 7) X dX6_rounds_24 (by decide) ?_
      refine V_ws [MO y t kn ln 0, RW G (y 1) 70 s, RW G (y 6) 10 (va_up (upN g (fun _ => 9) i) i 9), RW G (y 7) 32 d] rfl ?_
      exact ih
  exact lp_1 0 (Nat.zero_le _)

set_option maxHeartbeats 4000000 in
set_option maxRecDepth 100000 in
theorem c_X6_records6 (l : Launch) (G : gT) (y : Nat → Nat) (t ln th : Nat) (s g : Nat → Nat) : CM l G yX6_records wsX6_records 1 21 0 [.ref (y 0)] [MO y t 6 ln th, RW G (y 1) 70 s, RW G (y 4) 420 g] 0 0 (fun v u => v = none ∧ u = [MO y t 6 ln th, RW G (y 1) 70 s, RW G (y 4) 420 (rcH 6 s g)]) := by
  refine CM_of RX6 0 0 rfl rfl (by decide) (by decide +kernel) (Nat.le_of_ble_eq_true rfl) (fun E A X hrt hnm => ?_)
  have F7 := Fld_of (idx := 7) 6 1 X (by decide) (by decide) (by decide +kernel) (by decide +kernel)
  have F20 := Fld_of (idx := 20) 6 4 X (by decide) (by decide) (by decide +kernel) (by decide +kernel)
  have F40 := Fld_of (idx := 40) 6 5 X (by decide) (by decide) (by decide +kernel) (by decide +kernel)
  generalize hQ : QM E G A _ _ _ = Q
  show V E G A 2 [MO y t 6 ln th, RW G (y 1) 70 s, RW G (y 4) 420 g] 0 0 Q 0 [(0, .ref (y 0))] []
  refine V_aload_n (pc' := 1) 0 X dX6_records_0 rfl rfl rfl ?_
  refine V_get (pc' := 4) 0 X F40 rfl rfl dX6_records_1 rfl ?_
  refine V_bipush (pc' := 6) (nI 6) X dX6_records_4 kb_6 rfl ?_
  refine V_icmp_ne (pc' := 9) (C := 6 = 6) 49 X dX6_records_6 (by decide) rfl (nI_eq (by omega) (by omega)) (fun hz => absurd (by decide) hz) (fun _ => ?_)
  refine V_iconst (pc' := 10) (nI 0) X dX6_records_9 ki_0 rfl ?_
  refine V_istore_n (pc' := 11) [(0, .ref (y 0)), (1, .int (nI 0))] [1, 0] X dX6_records_10 rfl (Nat.le_of_ble_eq_true rfl) rfl rfl ?_
  refine V_ws [MO y t 6 ln th, RW G (y 1) 70 s, [((y 4), .inl (G.2 0, 420, .inl (nf g)))]] rfl ?_
  refine V_wsq [MO y t 6 ln th, RW G (y 1) 70 s, [((y 4), .inl (G.2 0, 420, .inl (nf (shH g 0))))]] (wsq.app (wsq.rf _) (wsq.app (wsq.rf _) (wsq.app (wsq.cons (weq.row (fun k hk => rfl)) (wsq.rf _)) (wsq.rf _)))) ?_
  refine V_ws [MO y t 6 ln th, RW G (y 1) 70 s, RW G (y 4) 420 (shH g 0)] rfl ?_
  have lp_1 : ∀ i, i ≤ 350 → V E G A 2 [MO y t 6 ln th, RW G (y 1) 70 s, RW G (y 4) 420 (shH g i)] 0 0 Q 11 [(0, .ref (y 0)), (1, .int (nI i))] [] := by
    refine loopD 350 ?_ ?_
    · show V E G A 2 [MO y t 6 ln th, RW G (y 1) 70 s, RW G (y 4) 420 (shH g 350)] 0 0 Q 11 [(0, .ref (y 0)), (1, .int (nI 350))] []
      refine V_iload_n (pc' := 12) 1 X dX6_records_11 rfl rfl rfl ?_
      refine V_sipush (pc' := 15) (nI 350) X dX6_records_12 ks_350 rfl ?_
      refine V_icmp_ge (pc' := 18) (C := 350 ≤ 350) 39 X dX6_records_15 (by decide) rfl (nI_leI (by omega) (by omega)) (fun _ => ?_) (fun hz => absurd (by omega) hz)
      refine V_aload_n (pc' := 40) 0 X dX6_records_39 rfl rfl rfl ?_
      refine V_dup (pc' := 41) X dX6_records_40 rfl rfl ?_
      refine V_get (pc' := 44) 0 X F40 rfl rfl dX6_records_41 rfl ?_
      refine V_iconst (pc' := 45) (nI 1) X dX6_records_44 ki_1 rfl ?_
      refine V_isub (pc' := 46) (nI 5) X dX6_records_45 (pk_sub (a := 6) (b := 1) (by decide)) rfl ?_
      refine V_ws [[((y 0), .inr (6, [.int (nI t), .ref (y 1), .ref (y 2), .ref (y 3), .ref (y 4), .int (nI 6), .ref (y 5), .int (nI ln), .ref (y 6), .ref (y 7), .int (nI th)]))], RW G (y 1) 70 s, RW G (y 4) 420 (shH g 350)] rfl ?_
      refine V_put (pc' := 49) 0 [[((y 0), .inr (6, [.int (nI t), .ref (y 1), .ref (y 2), .ref (y 3), .ref (y 4), .int (nI 5), .ref (y 5), .int (nI ln), .ref (y 6), .ref (y 7), .int (nI th)]))], RW G (y 1) 70 s, RW G (y 4) 420 (shH g 350)] X F40 rfl rfl rfl rfl (Nat.le_of_ble_eq_true rfl) rfl dX6_records_46 rfl ?_
      refine V_iconst (pc' := 50) (nI 0) X dX6_records_49 ki_0 rfl ?_
      refine V_istore_n (pc' := 51) [(0, .ref (y 0)), (1, .int (nI 0))] [1, 0] X dX6_records_50 rfl (Nat.le_of_ble_eq_true rfl) rfl rfl ?_
      refine V_ws [[((y 0), .inr (6, [.int (nI t), .ref (y 1), .ref (y 2), .ref (y 3), .ref (y 4), .int (nI 5), .ref (y 5), .int (nI ln), .ref (y 6), .ref (y 7), .int (nI th)]))], RW G (y 1) 70 s, [((y 4), .inl (G.2 0, 420, .inl (nf (shH g 350))))]] rfl ?_
      refine V_wsq [[((y 0), .inr (6, [.int (nI t), .ref (y 1), .ref (y 2), .ref (y 3), .ref (y 4), .int (nI 5), .ref (y 5), .int (nI ln), .ref (y 6), .ref (y 7), .int (nI th)]))], RW G (y 1) 70 s, [((y 4), .inl (G.2 0, 420, .inl (nf (wrH (shH g 350) (70 * 5) s 0))))]] (wsq.app (wsq.cons (weq.rf _) (wsq.rf _)) (wsq.app (wsq.rf _) (wsq.app (wsq.cons (weq.row (fun k hk => congrArg nI wrH_0)) (wsq.rf _)) (wsq.rf _)))) ?_
      refine V_ws [MO y t 5 ln th, RW G (y 1) 70 s, RW G (y 4) 420 (wrH (shH g 350) (70 * 5) s 0)] rfl ?_
      have lp_2 : ∀ i, i ≤ 70 → V E G A 2 [MO y t 5 ln th, RW G (y 1) 70 s, RW G (y 4) 420 (wrH (shH g 350) (70 * 5) s i)] 0 0 Q 51 [(0, .ref (y 0)), (1, .int (nI i))] [] := by
        refine loopD 70 ?_ ?_
        · show V E G A 2 [MO y t 5 ln th, RW G (y 1) 70 s, RW G (y 4) 420 (wrH (shH g 350) (70 * 5) s 70)] 0 0 Q 51 [(0, .ref (y 0)), (1, .int (nI 70))] []
          refine V_iload_n (pc' := 52) 1 X dX6_records_51 rfl rfl rfl ?_
          refine V_bipush (pc' := 54) (nI 70) X dX6_records_52 kb_70 rfl ?_
          refine V_icmp_ge (pc' := 57) (C := 70 ≤ 70) 83 X dX6_records_54 (by decide) rfl (nI_leI (by omega) (by omega)) (fun _ => ?_) (fun hz => absurd (by omega) hz)
          refine V_aload_n (pc' := 84) 0 X dX6_records_83 rfl rfl rfl ?_
          refine V_dup (pc' := 85) X dX6_records_84 rfl rfl ?_
          refine V_get (pc' := 88) 0 X F40 rfl rfl dX6_records_85 rfl ?_
          refine V_iconst (pc' := 89) (nI 1) X dX6_records_88 ki_1 rfl ?_
          refine V_iadd (pc' := 90) (nI 6) X dX6_records_89 (nI_add 5 1) rfl ?_
          refine V_ws [[((y 0), .inr (6, [.int (nI t), .ref (y 1), .ref (y 2), .ref (y 3), .ref (y 4), .int (nI 5), .ref (y 5), .int (nI ln), .ref (y 6), .ref (y 7), .int (nI th)]))], RW G (y 1) 70 s, RW G (y 4) 420 (wrH (shH g 350) (70 * 5) s 70)] rfl ?_
          refine V_put (pc' := 93) 0 [[((y 0), .inr (6, [.int (nI t), .ref (y 1), .ref (y 2), .ref (y 3), .ref (y 4), .int (nI 6), .ref (y 5), .int (nI ln), .ref (y 6), .ref (y 7), .int (nI th)]))], RW G (y 1) 70 s, RW G (y 4) 420 (wrH (shH g 350) (70 * 5) s 70)] X F40 rfl rfl rfl rfl (Nat.le_of_ble_eq_true rfl) rfl dX6_records_90 rfl ?_
          refine V_ws [MO y t 6 ln th, RW G (y 1) 70 s, RW G (y 4) 420 (wrH (shH g 350) (70 * 5) s 70)] rfl ?_
          refine V_ws [MO y t 6 ln th, RW G (y 1) 70 s, RW G (y 4) 420 (rcH 6 s g)] rfl ?_
          exact V_return [MO y t 6 ln th, RW G (y 1) 70 s, RW G (y 4) 420 (rcH 6 s g)] hQ X hrt dX6_records_93 (Nat.le_of_ble_eq_true rfl) (Nat.le_of_ble_eq_true rfl) (List.Perm.refl _) ⟨rfl, rfl⟩
        · intro i hi_i ih
          show V E G A 2 [MO y t 5 ln th, RW G (y 1) 70 s, RW G (y 4) 420 (wrH (shH g 350) (70 * 5) s i)] 0 0 Q 51 [(0, .ref (y 0)), (1, .int (nI i))] []
          refine V_iload_n (pc' := 52) 1 X dX6_records_51 rfl rfl rfl ?_
          refine V_bipush (pc' := 54) (nI 70) X dX6_records_52 kb_70 rfl ?_
          refine V_icmp_ge (pc' := 57) (C := 70 ≤ i) 83 X dX6_records_54 (by decide) rfl (nI_leI (by omega) (by omega)) (fun hz => absurd hz (by omega)) (fun _ => ?_)
          refine V_aload_n (pc' := 58) 0 X dX6_records_57 rfl rfl rfl ?_
          refine V_get (pc' := 61) 0 X F20 rfl rfl dX6_records_58 rfl ?_
          refine V_bipush (pc' := 63) (nI 70) X dX6_records_61 kb_70 rfl ?_
          refine V_aload_n (pc' := 64) 0 X dX6_records_63 rfl rfl rfl ?_
          refine V_get (pc' := 67) 0 X F40 rfl rfl dX6_records_64 rfl ?_
          refine V_imul (pc' := 68) (nI (70 * 5)) X dX6_records_67 (pk_mul 70 5) rfl ?_
          refine V_iload_n (pc' := 69) 1 X dX6_records_68 rfl rfl rfl ?_
          refine V_iadd (pc' := 70) (nI ((70 * 5) + i)) X dX6_records_69 (nI_add _ _) rfl ?_
          refine V_aload_n (pc' := 71) 0 X dX6_records_70 rfl rfl rfl ?_
          refine V_get (pc' := 74) 0 X F7 rfl rfl dX6_records_71 rfl ?_
          refine V_iload_n (pc' := 75) 1 X dX6_records_74 rfl rfl rfl ?_
          refine V_iald (pc' := 76) (v := nI (s i)) 1 i X rfl (by omega) (by decide) rfl dX6_records_75 rfl ?_
          refine V_ws [MO y t 5 ln th, RW G (y 1) 70 s, [((y 4), .inl (G.2 0, 420, .inl (nf (wrH (shH g 350) (70 * 5) s i))))]] rfl ?_
          refine V_iast (pc' := 77) 2 ((70 * 5) + i) [MO y t 5 ln th, RW G (y 1) 70 s, [((y 4), .inl (G.2 0, 420, .inl (upd (nf (wrH (shH g 350) (70 * 5) s i)) ((70 * 5) + i) (nI (s i)))))]] X rfl (by omega) (by decide) rfl dX6_records_76 rfl ?_
          refine V_ws [MO y t 5 ln th, RW G (y 1) 70 s, [((y 4), .inl (G.2 0, 420, .inl (nf (va_up (wrH (shH g 350) (70 * 5) s i) ((70 * 5) + i) (s i)))))]] (by simp only [nf_upd]) ?_
          refine V_iinc (pc' := 80) [(0, .ref (y 0)), (1, .int (nI (i + 1)))] 1 [1, 0] X dX6_records_77 rfl (nI_i1 _) (Nat.le_of_ble_eq_true rfl) rfl rfl ?_
          refine V_goto (pc' := 51) X dX6_records_80 (by decide) ?_
          refine V_wsq [MO y t 5 ln th, RW G (y 1) 70 s, [((y 4), .inl (G.2 0, 420, .inl (nf (wrH (shH g 350) (70 * 5) s (i + 1)))))]] (wsq.app (wsq.rf _) (wsq.app (wsq.rf _) (wsq.app (wsq.cons (weq.row (fun k hk => congrArg nI wrH_step)) (wsq.rf _)) (wsq.rf _)))) ?_
          refine V_ws [MO y t 5 ln th, RW G (y 1) 70 s, RW G (y 4) 420 (wrH (shH g 350) (70 * 5) s (i + 1))] rfl ?_
          exact ih
      exact lp_2 0 (Nat.zero_le _)
    · intro i hi_i ih
      show V E G A 2 [MO y t 6 ln th, RW G (y 1) 70 s, RW G (y 4) 420 (shH g i)] 0 0 Q 11 [(0, .ref (y 0)), (1, .int (nI i))] []
      refine V_iload_n (pc' := 12) 1 X dX6_records_11 rfl rfl rfl ?_
      refine V_sipush (pc' := 15) (nI 350) X dX6_records_12 ks_350 rfl ?_
      refine V_icmp_ge (pc' := 18) (C := 350 ≤ i) 39 X dX6_records_15 (by decide) rfl (nI_leI (by omega) (by omega)) (fun hz => absurd hz (by omega)) (fun _ => ?_)
      refine V_aload_n (pc' := 19) 0 X dX6_records_18 rfl rfl rfl ?_
      refine V_get (pc' := 22) 0 X F20 rfl rfl dX6_records_19 rfl ?_
      refine V_iload_n (pc' := 23) 1 X dX6_records_22 rfl rfl rfl ?_
      refine V_aload_n (pc' := 24) 0 X dX6_records_23 rfl rfl rfl ?_
      refine V_get (pc' := 27) 0 X F20 rfl rfl dX6_records_24 rfl ?_
      refine V_bipush (pc' := 29) (nI 70) X dX6_records_27 kb_70 rfl ?_
      refine V_iload_n (pc' := 30) 1 X dX6_records_29 rfl rfl rfl ?_
      refine V_iadd (pc' := 31) (nI (70 + i)) X dX6_records_30 (nI_add _ _) rfl ?_
      refine V_iald (pc' := 32) (v := nI (g (70 + i))) 2 (70 + i) X rfl (by omega) (by decide) (congrArg nI (if_neg (by omega))) dX6_records_31 rfl ?_
      refine V_ws [MO y t 6 ln th, RW G (y 1) 70 s, [((y 4), .inl (G.2 0, 420, .inl (nf (shH g i))))]] rfl ?_
      refine V_iast (pc' := 33) 2 i [MO y t 6 ln th, RW G (y 1) 70 s, [((y 4), .inl (G.2 0, 420, .inl (upd (nf (shH g i)) i (nI (g (70 + i))))))]] X rfl (by omega) (by decide) rfl dX6_records_32 rfl ?_
      refine V_ws [MO y t 6 ln th, RW G (y 1) 70 s, [((y 4), .inl (G.2 0, 420, .inl (nf (va_up (shH g i) i (g (70 + i))))))]] (by simp only [nf_upd]) ?_
      refine V_iinc (pc' := 36) [(0, .ref (y 0)), (1, .int (nI (i + 1)))] 1 [1, 0] X dX6_records_33 rfl (nI_i1 _) (Nat.le_of_ble_eq_true rfl) rfl rfl ?_
      refine V_goto (pc' := 11) X dX6_records_36 (by decide) ?_
      refine V_wsq [MO y t 6 ln th, RW G (y 1) 70 s, [((y 4), .inl (G.2 0, 420, .inl (nf (shH g (i + 1)))))]] (wsq.app (wsq.rf _) (wsq.app (wsq.rf _) (wsq.app (wsq.cons (weq.row (fun k hk => congrArg nI shH_step)) (wsq.rf _)) (wsq.rf _)))) ?_
      refine V_ws [MO y t 6 ln th, RW G (y 1) 70 s, RW G (y 4) 420 (shH g (i + 1))] rfl ?_
      exact ih
  exact lp_1 0 (Nat.zero_le _)

set_option maxHeartbeats 4000000 in
set_option maxRecDepth 100000 in
theorem c_X6_records5 (l : Launch) (G : gT) (y : Nat → Nat) (t kn ln th : Nat) (s g : Nat → Nat) (hn : kn < 6) : CM l G yX6_records wsX6_records 1 21 0 [.ref (y 0)] [MO y t kn ln th, RW G (y 1) 70 s, RW G (y 4) 420 g] 0 0 (fun v u => v = none ∧ u = [MO y t (kn + 1) ln th, RW G (y 1) 70 s, RW G (y 4) 420 (rcH kn s g)]) := by
  refine CM_of RX6 0 0 rfl rfl (by decide) (by decide +kernel) (Nat.le_of_ble_eq_true rfl) (fun E A X hrt hnm => ?_)
  have F7 := Fld_of (idx := 7) 6 1 X (by decide) (by decide) (by decide +kernel) (by decide +kernel)
  have F20 := Fld_of (idx := 20) 6 4 X (by decide) (by decide) (by decide +kernel) (by decide +kernel)
  have F40 := Fld_of (idx := 40) 6 5 X (by decide) (by decide) (by decide +kernel) (by decide +kernel)
  generalize hQ : QM E G A _ _ _ = Q
  show V E G A 2 [MO y t kn ln th, RW G (y 1) 70 s, RW G (y 4) 420 g] 0 0 Q 0 [(0, .ref (y 0))] []
  refine V_aload_n (pc' := 1) 0 X dX6_records_0 rfl rfl rfl ?_
  refine V_get (pc' := 4) 0 X F40 rfl rfl dX6_records_1 rfl ?_
  refine V_bipush (pc' := 6) (nI 6) X dX6_records_4 kb_6 rfl ?_
  refine V_icmp_ne (pc' := 9) (C := kn = 6) 49 X dX6_records_6 (by decide) rfl (nI_eq (by omega) (by omega)) (fun _ => ?_) (fun hz => absurd hz (by omega))
  refine V_iconst (pc' := 50) (nI 0) X dX6_records_49 ki_0 rfl ?_
  refine V_istore_n (pc' := 51) [(0, .ref (y 0)), (1, .int (nI 0))] [1, 0] X dX6_records_50 rfl (Nat.le_of_ble_eq_true rfl) rfl rfl ?_
  refine V_ws [MO y t kn ln th, RW G (y 1) 70 s, [((y 4), .inl (G.2 0, 420, .inl (nf g)))]] rfl ?_
  refine V_wsq [MO y t kn ln th, RW G (y 1) 70 s, [((y 4), .inl (G.2 0, 420, .inl (nf (wrH g (70 * kn) s 0))))]] (wsq.app (wsq.rf _) (wsq.app (wsq.rf _) (wsq.app (wsq.cons (weq.row (fun k hk => congrArg nI wrH_0)) (wsq.rf _)) (wsq.rf _)))) ?_
  refine V_ws [MO y t kn ln th, RW G (y 1) 70 s, RW G (y 4) 420 (wrH g (70 * kn) s 0)] rfl ?_
  have lp_1 : ∀ i, i ≤ 70 → V E G A 2 [MO y t kn ln th, RW G (y 1) 70 s, RW G (y 4) 420 (wrH g (70 * kn) s i)] 0 0 Q 51 [(0, .ref (y 0)), (1, .int (nI i))] [] := by
    refine loopD 70 ?_ ?_
    · show V E G A 2 [MO y t kn ln th, RW G (y 1) 70 s, RW G (y 4) 420 (wrH g (70 * kn) s 70)] 0 0 Q 51 [(0, .ref (y 0)), (1, .int (nI 70))] []
      refine V_iload_n (pc' := 52) 1 X dX6_records_51 rfl rfl rfl ?_
      refine V_bipush (pc' := 54) (nI 70) X dX6_records_52 kb_70 rfl ?_
      refine V_icmp_ge (pc' := 57) (C := 70 ≤ 70) 83 X dX6_records_54 (by decide) rfl (nI_leI (by omega) (by omega)) (fun _ => ?_) (fun hz => absurd (by omega) hz)
      refine V_aload_n (pc' := 84) 0 X dX6_records_83 rfl rfl rfl ?_
      refine V_dup (pc' := 85) X dX6_records_84 rfl rfl ?_
      refine V_get (pc' := 88) 0 X F40 rfl rfl dX6_records_85 rfl ?_
      refine V_iconst (pc' := 89) (nI 1) X dX6_records_88 ki_1 rfl ?_
      refine V_iadd (pc' := 90) (nI (kn + 1)) X dX6_records_89 (nI_add _ _) rfl ?_
      refine V_ws [[((y 0), .inr (6, [.int (nI t), .ref (y 1), .ref (y 2), .ref (y 3), .ref (y 4), .int (nI kn), .ref (y 5), .int (nI ln), .ref (y 6), .ref (y 7), .int (nI th)]))], RW G (y 1) 70 s, RW G (y 4) 420 (wrH g (70 * kn) s 70)] rfl ?_
      refine V_put (pc' := 93) 0 [[((y 0), .inr (6, [.int (nI t), .ref (y 1), .ref (y 2), .ref (y 3), .ref (y 4), .int (nI (kn + 1)), .ref (y 5), .int (nI ln), .ref (y 6), .ref (y 7), .int (nI th)]))], RW G (y 1) 70 s, RW G (y 4) 420 (wrH g (70 * kn) s 70)] X F40 rfl rfl rfl rfl (Nat.le_of_ble_eq_true rfl) rfl dX6_records_90 rfl ?_
      refine V_ws [MO y t (kn + 1) ln th, RW G (y 1) 70 s, RW G (y 4) 420 (wrH g (70 * kn) s 70)] rfl ?_
      refine V_ws [MO y t (kn + 1) ln th, RW G (y 1) 70 s, RW G (y 4) 420 (rcH kn s g)] (by rw [show rcH kn s g = wrH g (70 * kn) s 70 by unfold rcH; rw [if_neg (by omega), show aM kn = kn from if_neg (by omega)]]) ?_
      exact V_return [MO y t (kn + 1) ln th, RW G (y 1) 70 s, RW G (y 4) 420 (rcH kn s g)] hQ X hrt dX6_records_93 (Nat.le_of_ble_eq_true rfl) (Nat.le_of_ble_eq_true rfl) (List.Perm.refl _) ⟨rfl, rfl⟩
    · intro i hi_i ih
      show V E G A 2 [MO y t kn ln th, RW G (y 1) 70 s, RW G (y 4) 420 (wrH g (70 * kn) s i)] 0 0 Q 51 [(0, .ref (y 0)), (1, .int (nI i))] []
      refine V_iload_n (pc' := 52) 1 X dX6_records_51 rfl rfl rfl ?_
      refine V_bipush (pc' := 54) (nI 70) X dX6_records_52 kb_70 rfl ?_
      refine V_icmp_ge (pc' := 57) (C := 70 ≤ i) 83 X dX6_records_54 (by decide) rfl (nI_leI (by omega) (by omega)) (fun hz => absurd hz (by omega)) (fun _ => ?_)
      refine V_aload_n (pc' := 58) 0 X dX6_records_57 rfl rfl rfl ?_
      refine V_get (pc' := 61) 0 X F20 rfl rfl dX6_records_58 rfl ?_
      refine V_bipush (pc' := 63) (nI 70) X dX6_records_61 kb_70 rfl ?_
      refine V_aload_n (pc' := 64) 0 X dX6_records_63 rfl rfl rfl ?_
      refine V_get (pc' := 67) 0 X F40 rfl rfl dX6_records_64 rfl ?_
      refine V_imul (pc' := 68) (nI (70 * kn)) X dX6_records_67 (pk_mul _ _) rfl ?_
      refine V_iload_n (pc' := 69) 1 X dX6_records_68 rfl rfl rfl ?_
      refine V_iadd (pc' := 70) (nI ((70 * kn) + i)) X dX6_records_69 (nI_add _ _) rfl ?_
      refine V_aload_n (pc' := 71) 0 X dX6_records_70 rfl rfl rfl ?_
      refine V_get (pc' := 74) 0 X F7 rfl rfl dX6_records_71 rfl ?_
      refine V_iload_n (pc' := 75) 1 X dX6_records_74 rfl rfl rfl ?_
      refine V_iald (pc' := 76) (v := nI (s i)) 1 i X rfl (by omega) (by decide) rfl dX6_records_75 rfl ?_
      refine V_ws [MO y t kn ln th, RW G (y 1) 70 s, [((y 4), .inl (G.2 0, 420, .inl (nf (wrH g (70 * kn) s i))))]] rfl ?_
      refine V_iast (pc' := 77) 2 ((70 * kn) + i) [MO y t kn ln th, RW G (y 1) 70 s, [((y 4), .inl (G.2 0, 420, .inl (upd (nf (wrH g (70 * kn) s i)) ((70 * kn) + i) (nI (s i)))))]] X rfl (by omega) (by decide) rfl dX6_records_76 rfl ?_
      refine V_ws [MO y t kn ln th, RW G (y 1) 70 s, [((y 4), .inl (G.2 0, 420, .inl (nf (va_up (wrH g (70 * kn) s i) ((70 * kn) + i) (s i)))))]] (by simp only [nf_upd]) ?_
      refine V_iinc (pc' := 80) [(0, .ref (y 0)), (1, .int (nI (i + 1)))] 1 [1, 0] X dX6_records_77 rfl (nI_i1 _) (Nat.le_of_ble_eq_true rfl) rfl rfl ?_
      refine V_goto (pc' := 51) X dX6_records_80 (by decide) ?_
      refine V_wsq [MO y t kn ln th, RW G (y 1) 70 s, [((y 4), .inl (G.2 0, 420, .inl (nf (wrH g (70 * kn) s (i + 1)))))]] (wsq.app (wsq.rf _) (wsq.app (wsq.rf _) (wsq.app (wsq.cons (weq.row (fun k hk => congrArg nI wrH_step)) (wsq.rf _)) (wsq.rf _)))) ?_
      refine V_ws [MO y t kn ln th, RW G (y 1) 70 s, RW G (y 4) 420 (wrH g (70 * kn) s (i + 1))] rfl ?_
      exact ih
  exact lp_1 0 (Nat.zero_le _)

theorem c_X6_records (l : Launch) (G : gT) (y : Nat → Nat) (t kn ln th : Nat) (s g : Nat → Nat) (hn : kn ≤ 6) : CM l G yX6_records wsX6_records 1 21 0 [.ref (y 0)] [MO y t kn ln th, RW G (y 1) 70 s, RW G (y 4) 420 g] 0 0 (fun v u => v = none ∧ u = [MO y t (aM kn + 1) ln th, RW G (y 1) 70 s, RW G (y 4) 420 (rcH kn s g)]) := by
  by_cases e : kn = 6
  · subst e; exact c_X6_records6 l G y t ln th s g
  · rw [show aM kn = kn from if_neg e]; exact c_X6_records5 l G y t kn ln th s g (by omega)
