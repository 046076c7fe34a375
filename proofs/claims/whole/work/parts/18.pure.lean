/-! both sides tied: the class's numbers are the reference's, the columns since capped at 3 -/
def c3 (s : Nat → Nat) : Nat → Nat := fun k => if 60 ≤ k ∧ k < 70 then min (s k) 3 else s k
theorem c3_o {s : Nat → Nat} {k : Nat} (h : k < 60 ∨ 70 ≤ k) : c3 s k = s k := if_neg (by omega)
theorem c3_r {s : Nat → Nat} {k : Nat} (h : k < 10) : c3 s (60 + k) = min (s (60 + k)) 3 := if_pos (by omega)
theorem IV_c3 {s : Nat → Nat} (h : IV s) : IV (c3 s) := by
  obtain ⟨h1, h2, h3, h4, h5, h6⟩ := h
  refine ⟨fun k hk => by rw [c3_o (by omega)]; exact h1 k hk, fun k hk => by rw [c3_o (by omega)]; exact h2 k hk, fun k hk => by rw [c3_o (by omega)]; exact h3 k hk, by rw [c3_o (by decide)]; exact h4, by rw [c3_o (by decide)]; exact h5, fun k hk => by rw [c3_r hk]; have := h6 k hk; omega⟩
theorem hr_congr {p : Nat} {g g' w w' : Nat → Nat} {B : Nat} : ∀ n, (∀ k, k < n → (w k / 20 ≤ g k ↔ w' k / 20 ≤ g' k) ∧ w k = w' k) → hr p g w B n = hr p g' w' B n
  | 0, _ => rfl
  | n + 1, h => by
    have ih := hr_congr (p := p) (B := B) n (fun k hk => h k (by omega))
    obtain ⟨h1, h2⟩ := h n (by omega)
    rw [hr, hr, ih, h2]
    rw [h2] at h1
    by_cases c : bq p n = 1 ∧ w' n / 20 ≤ g n ∧ (hr p g' w' B n).2 + w' n ≤ B
    · rw [if_pos c, if_pos ⟨c.1, h1.mp c.2.1, c.2.2⟩]
    · rw [if_neg c, if_neg (fun q => c ⟨q.1, h1.mpr q.2.1, q.2.2⟩)]
theorem hr_cap {s : Nat → Nat} (hI : IV s) {p B : Nat} {g g' : Nat → Nat} (hg : ∀ k, k < 10 → g k = min (g' k) 3) : hr p g (fun k => c3 s (36 + k)) B 10 = hr p g' (fun k => s (36 + k)) B 10 :=
  hr_congr 10 (fun k hk => by
    have h3 := hI.2.2.1 k hk
    have e : c3 s (36 + k) = s (36 + k) := c3_o (by omega)
    have e2 := hg k hk
    refine ⟨?_, e⟩
    show c3 s (36 + k) / 20 ≤ g k ↔ _
    rw [e, e2]; omega)
theorem hs_c3 {s : Nat → Nat} (hI : IV s) : hs (c3 s) = hs s := by
  unfold hs
  rw [c3_o (k := 46) (by decide), c3_o (k := 47) (by decide), c3_o (k := s 47) (by have := hI.2.2.2.2.1; omega), hr_cap hI (g' := fun k => s (60 + k)) (fun k hk => c3_r hk)]
theorem swg_cap (g g' : Nat → Nat) (h k : Nat) (e : g k = min (g' k) 3) : swg 3 g h k = min (swg 9 g' h k) 3 := by
  unfold swg
  split
  · rfl
  · rw [e]; omega
theorem stk_c3 {s : Nat → Nat} (hI : IV s) : stk 3 (c3 s) = c3 (stk 9 s) := by
  funext k
  have h5 := hI.2.2.2.2.1
  have e47 : c3 s 47 = s 47 := c3_o (by decide)
  by_cases h1 : 60 ≤ k ∧ k < 70
  · obtain ⟨j, rfl⟩ : ∃ j, k = 60 + j := ⟨k - 60, by omega⟩
    rw [stk_rs (by omega), c3_r (by omega), stk_rs (by omega), hs_c3 hI]
    exact swg_cap _ _ _ _ (c3_r (by omega))
  · rw [show c3 (stk 9 s) k = stk 9 s k from if_neg h1]
    unfold stk
    by_cases a1 : k < 47
    · rw [if_pos a1, if_pos a1, c3_o (by omega)]
    rw [if_neg a1, if_neg a1]
    by_cases a2 : k = 47
    · rw [if_pos a2, if_pos a2, e47]
    rw [if_neg a2, if_neg a2]
    by_cases a3 : k = 48
    · rw [if_pos a3, if_pos a3, e47, c3_o (by decide), c3_o (by omega)]
    rw [if_neg a3, if_neg a3]
    by_cases a4 : k < 59
    · rw [if_pos a4, if_pos a4, c3_o (by omega), hs_c3 hI]
    rw [if_neg a4, if_neg a4]
    by_cases a5 : k = 59
    · rw [if_pos a5, if_pos a5, c3_o (by decide), e47, c3_o (by omega), hs_c3 hI]
    have h70 : ¬ k < 70 := by omega
    rw [if_neg a5, if_neg a5, if_neg h70, if_neg h70]
    by_cases a6 : k = 70
    · rw [if_pos a6, if_pos a6, c3_o (by decide), hs_c3 hI]
    · rw [if_neg a6, if_neg a6, c3_o (by omega)]
theorem stkN_c3 {s : Nat → Nat} (hI : IV s) : ∀ i, stkN 3 (c3 s) i = c3 (stkN 9 s i)
  | 0 => rfl
  | i + 1 => by
    show stk 3 (stkN 3 (c3 s) i) = c3 (stk 9 (stkN 9 s i))
    rw [stkN_c3 hI i, stk_c3 (IV_stkN (by decide) hI i)]
theorem c3_70 (s : Nat → Nat) : c3 s 70 = s 70 := c3_o (by decide)
theorem c3_up {s : Nat → Nat} {j v : Nat} (h : j < 60) : va_up (c3 s) j v = c3 (va_up s j v) := by
  funext k
  by_cases e : k = j
  · rw [e, va_up_self, c3_o (by omega), va_up_self]
  · rw [va_up_ne _ _ e]
    by_cases h1 : 60 ≤ k ∧ k < 70
    · rw [show c3 s k = min (s k) 3 from if_pos h1, show c3 (va_up s j v) k = min (va_up s j v k) 3 from if_pos h1, va_up_ne _ _ e]
    · rw [show c3 s k = s k from if_neg h1, show c3 (va_up s j v) k = va_up s j v k from if_neg h1, va_up_ne _ _ e]
/-- the pegs alone told otherwise -/
theorem c3_pegs {s S' s' : Nat → Nat} (h1 : sameB 0 32 (c3 s) S') (h2 : sameB 0 32 s s') (h : ∀ k, k < 32 → S' k = s' k) : S' = c3 s' := by
  funext k
  by_cases hk : k < 32
  · rw [h k hk, c3_o (by omega)]
  · rw [h1 k (by omega)]
    by_cases h3 : 60 ≤ k ∧ k < 70
    · rw [show c3 s k = min (s k) 3 from if_pos h3, show c3 s' k = min (s' k) 3 from if_pos h3, h2 k (by omega)]
    · rw [show c3 s k = s k from if_neg h3, show c3 s' k = s' k from if_neg h3, h2 k (by omega)]
theorem c3_p {s : Nat → Nat} {k : Nat} (h : k < 32) : c3 s k = s k := c3_o (by omega)
theorem trn_c3 (s : Nat → Nat) : trn (c3 s) = c3 (trn s) := c3_pegs (sameB_trn _) (sameB_trn _) (fun k hk => by unfold trn; rw [if_pos hk, if_pos hk, c3_p (by omega)])
theorem mvd_c3 (m : Nat) (s : Nat → Nat) : mvd m (c3 s) = c3 (mvd m s) := c3_pegs (sameB_mvd _ _) (sameB_mvd _ _) (fun k hk => by unfold mvd; rw [if_pos hk, if_pos hk, c3_p (Nat.mod_lt _ (by decide))])
theorem rsd_c3 (s : Nat → Nat) : rsd (c3 s) = c3 (rsd s) := c3_pegs (sameB_rsd _) (sameB_rsd _) (fun k hk => by unfold rsd; rw [if_pos hk, if_pos hk, c3_p hk])
theorem tbk_c3 (s : Nat → Nat) : tbk 3 (c3 s) = c3 (tbk 9 s) := by
  funext k
  by_cases h1 : k = 47
  · rw [show c3 (tbk 9 s) k = tbk 9 s k from c3_o (by omega)]; unfold tbk; rw [if_pos h1, if_pos h1]
  · by_cases h2 : 60 ≤ k ∧ k < 70
    · rw [show c3 (tbk 9 s) k = min (tbk 9 s k) 3 from if_pos h2]; unfold tbk; rw [if_neg h1, if_pos h2, if_neg h1, if_pos h2]; rfl
    · rw [show c3 (tbk 9 s) k = tbk 9 s k from if_neg h2]; unfold tbk; rw [if_neg h1, if_neg h2, if_neg h1, if_neg h2]; exact if_neg h2
theorem pgN_c3 {s : Nat → Nat} {c : Nat} (t : Nat → Nat) (hc : c < 32) : ∀ m, pgN (c3 s) c t m = c3 (pgN s c t m)
  | 0 => rfl
  | m + 1 => by
    show va_up (pgN (c3 s) c t m) c (pgN (c3 s) c t m c ^^^ 2 ^ t m) = c3 (va_up (pgN s c t m) c (pgN s c t m c ^^^ 2 ^ t m))
    rw [pgN_c3 t hc m, c3_up (by omega), c3_p hc]
theorem doP_c3 {f : Nat → Nat} {n p e : Nat} {s : Nat → Nat} (hI : IV s) (hp : Pt f n p e) : doP 3 f n p e (c3 s) = (c3 (doP 9 f n p e s).1, (doP 9 f n p e s).2) := by
  obtain ⟨p1, p2, p3⟩ := hp
  unfold doP
  by_cases h46 : f p = 46
  · rw [if_pos h46, if_pos h46, stkN_c3 hI, c3_70, c3_70]
  · rw [if_neg h46, if_neg h46]
    by_cases h116 : f p = 116
    · rw [if_pos h116, if_pos h116]
      rcases p3 with q | q | q
      · exact absurd q.1 h46
      · rw [c3_up (by omega)]
      · exact absurd h116 q.2.1
    · rw [if_neg h116, if_neg h116]
      rcases p3 with q | q | q
      · exact absurd q.1 h46
      · exact absurd q.1 h116
      · obtain ⟨_, _, g, g1, g2, g3, g4, g5, g6, g7⟩ := q
        rw [g7] at g5
        rw [pgN_c3 _ g5]
theorem rdS_c3 {f : Nat → Nat} {n : Nat} {s : Nat → Nat} (hv : ff f n = none) (hI : IV s) : ∀ i, i ≤ n + 1 → rdS 3 f n (c3 s) i = (c3 (rdS 9 f n s i).1, (rdS 9 f n s i).2.1, (rdS 9 f n s i).2.2)
  | 0, _ => rfl
  | i + 1, hi => by
    have ih := rdS_c3 hv hI i (by omega)
    by_cases hb : i = n ∨ f i = 59
    · have hp := rd_at (c := 9) (by decide) hv hI (show i ≤ n by omega) hb
      have hIi := (rd_inv (c := 9) (by decide) hv hI i (by omega)).1
      rw [show rdS 3 f n (c3 s) (i + 1) = ((doP 3 f n (rdS 3 f n (c3 s) i).2.1 i (rdS 3 f n (c3 s) i).1).1, i + 1, (rdS 3 f n (c3 s) i).2.2 + (doP 3 f n (rdS 3 f n (c3 s) i).2.1 i (rdS 3 f n (c3 s) i).1).2) from if_pos hb,
        show rdS 9 f n s (i + 1) = ((doP 9 f n (rdS 9 f n s i).2.1 i (rdS 9 f n s i).1).1, i + 1, (rdS 9 f n s i).2.2 + (doP 9 f n (rdS 9 f n s i).2.1 i (rdS 9 f n s i).1).2) from if_pos hb, ih]
      dsimp only
      rw [doP_c3 hIi hp]
    · rw [show rdS 3 f n (c3 s) (i + 1) = rdS 3 f n (c3 s) i from if_neg hb, show rdS 9 f n s (i + 1) = rdS 9 f n s i from if_neg hb]
      exact ih
theorem rsp_c3 {s : Nat → Nat} (hI : IV s) (B : Nat) : ∀ i, i ≤ 32 → ∀ k, rsp 3 (c3 s) B i k = min (rsp 9 s B i k) 3
  | 0, _, _ => rfl
  | i + 1, hi, k => by
    have ih := rsp_c3 hI B i (by omega)
    show swg 3 (rsp 3 (c3 s) B i) (hr (c3 s i) (rsp 3 (c3 s) B i) (fun k => c3 s (36 + k)) B 10).1 k = min (swg 9 (rsp 9 s B i) (hr (s i) (rsp 9 s B i) (fun k => s (36 + k)) B 10).1 k) 3
    rw [hr_cap hI (fun k _ => ih k), c3_p (by omega)]
    exact swg_cap _ _ _ _ (ih k)
theorem rh_c3 {s : Nat → Nat} (hI : IV s) (B : Nat) {i : Nat} (hi : i < 32) : rh 3 (c3 s) B i = rh 9 s B i := by
  unfold rh
  rw [hr_cap hI (fun k _ => rsp_c3 hI B i (by omega) k), c3_p hi]
theorem wIn_c3 (s : Nat → Nat) (h : Nat) : wIn (fun k => c3 s (36 + k)) h = wIn (fun k => s (36 + k)) h := sm_congr (fun k hk => by show bq h k * c3 s (36 + k) = bq h k * s (36 + k); rw [c3_o (by omega)])
theorem why_c3 {s : Nat → Nat} (hI : IV s) {b : Nat} (hb : b < 10) : why (c3 s) b = why s b := by
  have h5 := hI.2.2.2.2.1
  have h3 := hI.2.2.1 b hb
  unfold why
  rw [c3_o (k := 47) (by decide), c3_p h5, c3_o (k := 36 + b) (by omega), c3_r hb, hs_c3 hI]
  have e : (¬ s (36 + b) / 20 ≤ min (s (60 + b)) 3) ↔ (¬ s (36 + b) / 20 ≤ s (60 + b)) := by omega
  by_cases c : ¬ s (36 + b) / 20 ≤ s (60 + b)
  · rw [if_pos (e.mpr c), if_pos c]
  · rw [if_neg (fun q => c (e.mp q)), if_neg c]
theorem bz_congr {t t' : Nat → Nat} : ∀ n, (∀ k, k < n → t k = t' k) → bz t n = bz t' n
  | 0, _ => rfl
  | n + 1, h => by rw [bz, bz, bz_congr n (fun k hk => h k (by omega)), h n (by omega)]
theorem lsn_congr {t t' : Nat → Nat} : ∀ n, (∀ k, k < n → t k = t' k) → lsn t n = lsn t' n
  | 0, _ => rfl
  | n + 1, h => by rw [lsn, lsn, lsn_congr n (fun k hk => h k (by omega)), h n (by omega)]
theorem mxs_congr {t t' : Nat → Nat} : ∀ n, (∀ k, k < n → t k = t' k) → mxs t n = mxs t' n
  | 0, _ => rfl
  | n + 1, h => by rw [mxs, mxs, mxs_congr n (fun k hk => h k (by omega)), h n (by omega)]
/-! answers alike -/
theorem eq_pegs (s : Nat → Nat) : sm (fun k => cnt (c3 s k)) 32 = sm (fun k => cnt (s k)) 32 := sm_congr (fun k hk => by show cnt (c3 s k) = cnt (s k); rw [c3_p hk])
theorem eq_peg {s : Nat → Nat} {c b : Nat} (hc : c < 32) : bq (c3 s c ^^^ 2 ^ b) b = bq (s c ^^^ 2 ^ b) b := by rw [c3_p hc]
theorem sm_one {g : Nat → Nat} {c : Nat} (h : ∀ k, ¬ k = c → g k = 0) : ∀ n, sm g n = if c < n then g c else 0
  | 0 => by rw [if_neg (Nat.not_lt_zero _)]; rfl
  | n + 1 => by
    rw [sm_succ, sm_one h n]
    by_cases e : n = c
    · rw [if_neg (by omega), if_pos (by omega), e]; omega
    · rw [h n e]
      by_cases e2 : c < n
      · rw [if_pos e2, if_pos (by omega)]; rfl
      · rw [if_neg e2, if_neg (by omega)]
theorem cnt_0 : cnt 0 = 0 := by decide
theorem eq_setColumn {s : Nat → Nat} {c w : Nat} (hc : c < 32) : sm (fun k => cnt (va_up (c3 s) c w k ^^^ c3 s k)) 32 = cnt (s c ^^^ w) := by
  rw [sm_one (c := c) (fun k hk => by show cnt (va_up (c3 s) c w k ^^^ c3 s k) = 0; rw [va_up_ne _ _ hk, Nat.xor_self]; exact cnt_0), if_pos hc]
  show cnt (va_up (c3 s) c w c ^^^ c3 s c) = _
  rw [va_up_self, c3_p hc, Nat.xor_comm]
theorem eq_turnRound (s : Nat → Nat) : sm (fun k => cnt (trn (c3 s) k ^^^ c3 s k)) 32 = sm (fun k => cnt (trn s k ^^^ s k)) 32 := sm_congr (fun k hk => by show cnt (trn (c3 s) k ^^^ c3 s k) = cnt (trn s k ^^^ s k); rw [trn_c3, c3_p hk, c3_p hk])
theorem eq_move (m : Nat) (s : Nat → Nat) : sm (fun k => cnt (mvd m (c3 s) k ^^^ c3 s k)) 32 = sm (fun k => cnt (mvd m s k ^^^ s k)) 32 := sm_congr (fun k hk => by show cnt (mvd m (c3 s) k ^^^ c3 s k) = cnt (mvd m s k ^^^ s k); rw [mvd_c3, c3_p hk, c3_p hk])
theorem eq_raise (s : Nat → Nat) : sm (fun k => bq (c3 s k) 9) 32 = sm (fun k => bq (s k) 9) 32 := sm_congr (fun k hk => by show bq (c3 s k) 9 = bq (s k) 9; rw [c3_p hk])
theorem eq_crank {s : Nat → Nat} (hI : IV s) (m : Nat) : stkN 3 (c3 s) m 70 - c3 s 70 = stkN 9 s m 70 - s 70 := by rw [stkN_c3 hI, c3_70, c3_70]
theorem eq_cols {s : Nat → Nat} (hI : IV s) (B : Nat) : sm (fun k => cnt (rh 3 (c3 s) B k)) 32 = sm (fun k => cnt (rh 9 s B k)) 32 := sm_congr (fun k hk => by show cnt (rh 3 (c3 s) B k) = cnt (rh 9 s B k); rw [rh_c3 hI B hk])
theorem eq_c46 (s : Nat → Nat) : c3 s 46 = s 46 := c3_o (by decide)
theorem eq_ticks (s : Nat → Nat) : sm (fun k => c3 s (32 + k / 8)) 32 = sm (fun k => 8 * s (32 + k)) 4 := by
  have e : sm (fun k => c3 s (32 + k / 8)) 32 = sm (fun k => s (32 + k / 8)) 32 := sm_congr (fun k hk => by show c3 s (32 + k / 8) = s (32 + k / 8); rw [c3_o (by omega)])
  rw [e]
  simp only [sm]
  show _ = 0 + 8 * s (32 + 0) + 8 * s (32 + 1) + 8 * s (32 + 2) + 8 * s (32 + 3)
  simp only [Nat.reduceDiv, Nat.reduceAdd]
  omega
theorem eq_bars (s : Nat → Nat) : sm (fun k => 8 * c3 s (32 + k)) 4 = sm (fun k => 8 * s (32 + k)) 4 := sm_congr (fun k hk => by show 8 * c3 s (32 + k) = 8 * s (32 + k); rw [c3_o (by omega)])
theorem eq_heard (s : Nat → Nat) : sm (fun k => c3 s (49 + k)) 10 = sm (fun k => s (49 + k)) 10 := sm_congr (fun k hk => by show c3 s (49 + k) = s (49 + k); rw [c3_o (by omega)])
theorem eq_busiest {s : Nat → Nat} (hI : IV s) (B n : Nat) : bz (fun k => sm (fun j => bq (rh 3 (c3 s) B j) k) 32) n = bz (fun k => sm (fun j => bq (rh 9 s B j) k) 32) n :=
  bz_congr n (fun k _ => sm_congr (fun j hj => by show bq (rh 3 (c3 s) B j) k = bq (rh 9 s B j) k; rw [rh_c3 hI B hj]))
theorem eq_heaviest {s : Nat → Nat} (hI : IV s) (B : Nat) : bz (fun k => wIn (fun k => c3 s (36 + k)) (rh 3 (c3 s) B k)) 32 = bz (fun k => wIn (fun k => s (36 + k)) (rh 9 s B k)) 32 :=
  bz_congr 32 (fun k hk => by show wIn _ (rh 3 (c3 s) B k) = wIn _ (rh 9 s B k); rw [wIn_c3, rh_c3 hI B hk])
theorem eq_silence {s : Nat → Nat} (hI : IV s) (B : Nat) : lsn (rh 3 (c3 s) B) 32 = lsn (rh 9 s B) 32 := lsn_congr 32 (fun k hk => rh_c3 hI B hk)
theorem eq_enough {s : Nat → Nat} (hI : IV s) : mxs (fun k => wIn (fun k => c3 s (36 + k)) (rh 3 (c3 s) 601 k)) 32 = mxs (tE 9 s) 32 :=
  mxs_congr 32 (fun k hk => by show wIn _ (rh 3 (c3 s) 601 k) = wIn _ (rh 9 s 601 k); rw [wIn_c3, rh_c3 hI 601 hk])
/-! the heard of all bells together -/
def HV (s : Nat → Nat) : Prop := s 70 = sm (fun k => s (49 + k)) 10
theorem HV_same {s s' : Nat → Nat} (h : ∀ k, 49 ≤ k → k < 59 ∨ k = 70 → s' k = s k) (hv : HV s) : HV s' := by
  unfold HV
  rw [h 70 (by decide) (Or.inr rfl), hv]
  exact sm_congr (fun k hk => by show s (49 + k) = s' (49 + k); rw [h (49 + k) (by omega) (by omega)])
theorem sm_addf (f g : Nat → Nat) : ∀ n, sm (fun k => f k + g k) n = sm f n + sm g n
  | 0 => rfl
  | n + 1 => by rw [sm_succ, sm_succ, sm_succ, sm_addf f g n]; omega
theorem HV_stk {c : Nat} {s : Nat → Nat} (hv : HV s) : HV (stk c s) := by
  have e : sm (fun k => stk c s (49 + k)) 10 = sm (fun k => s (49 + k) + bq (hs s) k) 10 := sm_congr (fun k hk => stk_th hk)
  unfold HV
  rw [e, sm_addf, ← hv]
  rfl
theorem HV_stkN {c : Nat} {s : Nat → Nat} (hv : HV s) : ∀ i, HV (stkN c s i)
  | 0 => hv
  | i + 1 => HV_stk (HV_stkN hv i)
theorem HV_sameB {lo hi : Nat} {s s' : Nat → Nat} (h : sameB lo hi s s') (h1 : hi ≤ 49) (hv : HV s) : HV s' := HV_same (fun k h49 _ => h k (Or.inr (by omega))) hv
theorem HV_tbk {c : Nat} {s : Nat → Nat} (hv : HV s) : HV (tbk c s) := HV_same (fun k h1 h2 => by unfold tbk; rw [if_neg (by omega), if_neg (by omega)]) hv
theorem HV_doP {f : Nat → Nat} {n p e : Nat} {s : Nat → Nat} (hp : Pt f n p e) (hv : HV s) : HV (doP 9 f n p e s).1 := by
  obtain ⟨p1, p2, p3⟩ := hp
  unfold doP
  by_cases h46 : f p = 46
  · rw [if_pos h46]; exact HV_stkN hv _
  · rw [if_neg h46]
    by_cases h116 : f p = 116
    · rw [if_pos h116]
      rcases p3 with q | q | q
      · exact absurd q.1 h46
      · exact HV_sameB (sameB_up (lo := 0) (hi := 49) (by omega) (by omega)) (by decide) hv
      · exact absurd h116 q.2.1
    · rw [if_neg h116]
      rcases p3 with q | q | q
      · exact absurd q.1 h46
      · exact absurd q.1 h116
      · obtain ⟨_, _, g, g1, g2, g3, g4, g5, g6, g7⟩ := q
        rw [g7] at g5
        exact HV_sameB (sameB_pgN s _ g5 _) (by decide) hv
theorem HV_rdS {f : Nat → Nat} {n : Nat} {s : Nat → Nat} (hv : ff f n = none) (hI : IV s) (hh : HV s) : ∀ i, i ≤ n + 1 → HV (rdS 9 f n s i).1
  | 0, _ => hh
  | i + 1, hi => by
    have ih := HV_rdS hv hI hh i (by omega)
    by_cases hb : i = n ∨ f i = 59
    · rw [show rdS 9 f n s (i + 1) = ((doP 9 f n (rdS 9 f n s i).2.1 i (rdS 9 f n s i).1).1, i + 1, (rdS 9 f n s i).2.2 + (doP 9 f n (rdS 9 f n s i).2.1 i (rdS 9 f n s i).1).2) from if_pos hb]
      exact HV_doP (rd_at (c := 9) (by decide) hv hI (by omega) hb) ih
    · rw [show rdS 9 f n s (i + 1) = rdS 9 f n s i from if_neg hb]; exact ih
theorem S0_c3 : S0 3 = c3 (S0 9) := by
  funext k
  by_cases h : 60 ≤ k ∧ k < 70
  · have e : ∀ c, S0 c k = c := fun c => by unfold S0; rw [if_neg (by omega), if_neg (by omega), if_neg (by omega), if_neg (by omega), if_neg (by omega), if_pos (by omega)]
    rw [show c3 (S0 9) k = min (S0 9 k) 3 from if_pos h, e, e]; rfl
  · rw [show c3 (S0 9) k = S0 9 k from if_neg h]; unfold S0
    (repeat' split) <;> omega
theorem HV_S0 (c : Nat) : HV (S0 c) := by
  unfold HV
  have e : sm (fun k => S0 c (49 + k)) 10 = sm (fun _ => 0) 10 := sm_congr (fun k hk => by show S0 c (49 + k) = 0; unfold S0; rw [if_neg (by omega), if_neg (by omega), if_neg (by omega), if_neg (by omega), if_pos (by omega)])
  rw [e]; rfl
/-! the history on both sides: kn states t k -/
def HR2 (kn : Nat) (T t : Nat → Nat → Nat) (g : Nat → Nat) : Prop := ∀ k, k < kn → T k = c3 (t k) ∧ IV (t k) ∧ HV (t k) ∧ ∀ j, j < 70 → g (70 * k + j) = t k j
theorem HR2_rec {kn : Nat} {T t : Nat → Nat → Nat} {g s : Nat → Nat} (hkn : kn ≤ 6) (hI : IV s) (hH : HV s) (h : HR2 kn T t g) : HR2 (aM kn + 1) (hT kn (c3 s) T) (hT kn s t) (rcH kn s g) := by
  intro k hk
  have hm : aM kn ≤ kn := by unfold aM; split <;> omega
  by_cases e : k = aM kn
  · have e1 : hT kn (c3 s) T k = c3 s := if_pos e
    have e2 : hT kn s t k = s := if_pos e
    rw [e1, e2]
    refine ⟨rfl, hI, hH, fun j hj => ?_⟩
    unfold rcH wrH
    rw [if_pos (by omega), e, Nat.add_sub_cancel_left]
  · have e1 : hT kn (c3 s) T k = aD kn T k := if_neg e
    have e2 : hT kn s t k = aD kn t k := if_neg e
    rw [e1, e2]
    by_cases h6 : kn = 6
    · have m5 : aM kn = 5 := if_pos h6
      have d1 : ∀ (f : Nat → Nat → Nat), aD kn f k = f (k + 1) := fun f => by
        rw [show aD kn f = rot f from if_pos h6]
        rcases (show k = 0 ∨ k = 1 ∨ k = 2 ∨ k = 3 ∨ k = 4 by omega) with rfl | rfl | rfl | rfl | rfl <;> rfl
      rw [d1, d1]
      obtain ⟨a1, a2, a3, a4⟩ := h (k + 1) (by omega)
      refine ⟨a1, a2, a3, fun j hj => ?_⟩
      unfold rcH wrH
      rw [if_neg (by omega), if_pos h6]
      unfold shH
      rw [if_pos (by omega), show 70 + (70 * k + j) = 70 * (k + 1) + j by omega]
      exact a4 j hj
    · have m5 : aM kn = kn := if_neg h6
      rw [show aD kn T = T from if_neg h6, show aD kn t = t from if_neg h6]
      obtain ⟨a1, a2, a3, a4⟩ := h k (by omega)
      refine ⟨a1, a2, a3, fun j hj => ?_⟩
      unfold rcH wrH
      rw [if_neg (by omega), if_neg h6]
      exact a4 j hj
theorem HR2_less {kn : Nat} {T t : Nat → Nat → Nat} {g : Nat → Nat} (h : HR2 (kn + 1) T t g) : HR2 kn T t g := fun k hk => h k (by omega)
/-! the slots on both sides -/
def SL2 (o : Nat → Option (Nat → Nat)) (O w : Nat → Nat → Nat) (sl z : Nat → Nat) : Prop := ∀ c, c < 2 → (o c = none ∧ z c = 0) ∨ (∃ b, o c = some b ∧ z c = 1 ∧ O c = c3 (w c) ∧ IV (w c) ∧ HV (w c) ∧ ∀ j, j < 70 → sl (70 * c + j) = w c j)
theorem SL2_save {o : Nat → Option (Nat → Nat)} {O w : Nat → Nat → Nat} {sl z s : Nat → Nat} {c : Nat} {b : Nat → Nat} (hc : c < 2) (hI : IV s) (hH : HV s) (h : SL2 o O w sl z) : SL2 (va_up o c (some b)) (va_up O c (c3 s)) (va_up w c s) (wrH sl (70 * c) s 70) (va_up z c 1) := by
  intro k hk
  by_cases e : k = c
  · subst e
    refine Or.inr ⟨b, va_up_self _ _ _, va_up_self _ _ _, by rw [va_up_self, va_up_self], by rw [va_up_self]; exact hI, by rw [va_up_self]; exact hH, fun j hj => ?_⟩
    rw [va_up_self]; unfold wrH; rw [if_pos (by omega), Nat.add_sub_cancel_left]
  · rcases h k hk with ⟨h1, h2⟩ | ⟨b', h1, h2, h3, h4, h5, h6⟩
    · exact Or.inl ⟨by rw [va_up_ne _ _ e]; exact h1, by rw [va_up_ne _ _ e]; exact h2⟩
    · refine Or.inr ⟨b', by rw [va_up_ne _ _ e]; exact h1, by rw [va_up_ne _ _ e]; exact h2, by rw [va_up_ne _ _ e, va_up_ne _ _ e]; exact h3, by rw [va_up_ne _ _ e]; exact h4, by rw [va_up_ne _ _ e]; exact h5, fun j hj => ?_⟩
      rw [va_up_ne _ _ e]; unfold wrH; rw [if_neg (by omega)]; exact h6 j hj
theorem IV_row {s s' : Nat → Nat} (h : ∀ j, j < 70 → s' j = s j) (hI : IV s) : IV s' := by
  obtain ⟨h1, h2, h3, h4, h5, h6⟩ := hI
  exact ⟨fun k hk => by rw [h k (by omega)]; exact h1 k hk, fun k hk => by rw [h _ (by omega)]; exact h2 k hk, fun k hk => by rw [h _ (by omega)]; exact h3 k hk, by rw [h 46 (by decide)]; exact h4, by rw [h 47 (by decide)]; exact h5, fun k hk => by rw [h _ (by omega)]; exact h6 k hk⟩
theorem ap_lt {f : Nat → Nat} {n u c : Nat} (hu : cin u = c) (hc : ¬ c = 0) (hf : ∀ k, k < n → f k < 128) : ∀ k, k < n + c → ap f n u c k < 128 := by
  intro k hk
  unfold ap
  by_cases h : n ≤ k ∧ k < n + c
  · rw [if_pos h]
    -- every byte ahead of the end is a character
    have key : ∀ m i, i + m = 8 → cinF u m i = c → ∀ j, i ≤ j → j < c → u / 2 ^ (j * 8) % 256 ≤ 126 := by
      intro m
      induction m with
      | zero => intro i hi hq j h1 h2; have : c ≤ 8 := by rw [← hu]; exact cin_le u
                omega
      | succ m ih =>
        intro i hi hq j h1 h2
        rw [cinF] at hq
        by_cases z : u / 2 ^ (i * 8) = 0
        · rw [if_pos z] at hq; omega
        · rw [if_neg z] at hq
          by_cases bd : u / 2 ^ (i * 8) % 256 < 33 ∨ 126 < u / 2 ^ (i * 8) % 256
          · rw [if_pos bd] at hq; omega
          · rw [if_neg bd] at hq
            by_cases e : j = i
            · rw [e]; omega
            · exact ih (i + 1) (by omega) hq j (by omega) h2
    have := key 8 0 rfl hu (c - (k - n) - 1) (Nat.zero_le _) (by omega)
    omega
  · rw [if_neg h]; exact hf k (by omega)
