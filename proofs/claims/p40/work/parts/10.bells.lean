/-! the class: its cell x, and what its methods do to the drum's numbers -/
def XB (x a r p h q : Nat) : va_W := [(x, .inr (5, [.ref a, .ref r, .ref p, .ref h, .ref q]))]
theorem DW_of {G : gT} {a S' : Nat → Nat} {x46 x47 x48 x70 x59 : Int32} {F1 F2 F3 F4 F6 : Nat → Int32} (e46 : x46 = nI (S' 46)) (e47 : x47 = nI (S' 47)) (e48 : x48 = nI (S' 48)) (e70 : x70 = nI (S' 70)) (e59 : x59 = nI (S' 59))
    (r1 : ∀ k, k < 32 → F1 k = nI (S' k)) (r2 : ∀ k, k < 4 → F2 k = nI (S' (32 + k))) (r3 : ∀ k, k < 10 → F3 k = nI (S' (36 + k))) (r4 : ∀ k, k < 10 → F4 k = nI (S' (49 + k))) (r6 : ∀ k, k < 10 → F6 k = nI (S' (60 + k))) :
    wsq [(a 0, .inr (0, [.ref (a 1), .ref (a 2), .ref (a 3), .ref (a 4), .ref (a 5), .int x46, .int x47, .int x48, .int x70, .int x59])), (a 1, .inl (G.2 0, 32, .inl F1)), (a 2, .inl (G.2 0, 4, .inl F2)), (a 3, .inl (G.2 0, 10, .inl F3)), (a 4, .inl (G.2 0, 10, .inl F4)), (a 5, .inr (1, [.ref (a 6)])), (a 6, .inl (G.2 0, 10, .inl F6))] (DW G a S') := by
  subst e46; subst e47; subst e48; subst e70; subst e59
  exact wsq.cons (weq.rf _) (wsq.cons (weq.row r1) (wsq.cons (weq.row r2) (wsq.cons (weq.row r3) (wsq.cons (weq.row r4) (wsq.cons (weq.rf _) (wsq.cons (weq.row r6) (wsq.rf _)))))))
/-- the numbers but those of lo .. hi - 1 stay -/
def sameB (lo hi : Nat) (S S' : Nat → Nat) : Prop := ∀ k, k < lo ∨ hi ≤ k → S' k = S k
theorem sameB_up {lo hi j v : Nat} {S : Nat → Nat} (h1 : lo ≤ j) (h2 : j < hi) : sameB lo hi S (va_up S j v) := fun k hk => va_up_ne S v (by omega)
theorem DW_pegs {G : gT} {a S S' : Nat → Nat} {F : Nat → Int32} (h : sameB 0 32 S S') (r : ∀ k, k < 32 → F k = nI (S' k)) :
    wsq [(a 0, .inr (0, [.ref (a 1), .ref (a 2), .ref (a 3), .ref (a 4), .ref (a 5), .int (nI (S 46)), .int (nI (S 47)), .int (nI (S 48)), .int (nI (S 70)), .int (nI (S 59))])), (a 1, .inl (G.2 0, 32, .inl F)), (a 2, .inl (G.2 0, 4, .inl (nf (fun k => S (32 + k))))), (a 3, .inl (G.2 0, 10, .inl (nf (fun k => S (36 + k))))), (a 4, .inl (G.2 0, 10, .inl (nf (fun k => S (49 + k))))), (a 5, .inr (1, [.ref (a 6)])), (a 6, .inl (G.2 0, 10, .inl (nf (fun k => S (60 + k)))))] (DW G a S') :=
  DW_of (by rw [h 46 (by decide)]) (by rw [h 47 (by decide)]) (by rw [h 48 (by decide)]) (by rw [h 70 (by decide)]) (by rw [h 59 (by decide)]) r
    (fun k _ => congrArg nI (h (32 + k) (by omega)).symm) (fun k _ => congrArg nI (h (36 + k) (by omega)).symm) (fun k _ => congrArg nI (h (49 + k) (by omega)).symm) (fun k _ => congrArg nI (h (60 + k) (by omega)).symm)
theorem DW_tempos {G : gT} {a S S' : Nat → Nat} {F : Nat → Int32} (h : sameB 32 36 S S') (r : ∀ k, k < 4 → F k = nI (S' (32 + k))) :
    wsq [(a 0, .inr (0, [.ref (a 1), .ref (a 2), .ref (a 3), .ref (a 4), .ref (a 5), .int (nI (S 46)), .int (nI (S 47)), .int (nI (S 48)), .int (nI (S 70)), .int (nI (S 59))])), (a 1, .inl (G.2 0, 32, .inl (nf S))), (a 2, .inl (G.2 0, 4, .inl F)), (a 3, .inl (G.2 0, 10, .inl (nf (fun k => S (36 + k))))), (a 4, .inl (G.2 0, 10, .inl (nf (fun k => S (49 + k))))), (a 5, .inr (1, [.ref (a 6)])), (a 6, .inl (G.2 0, 10, .inl (nf (fun k => S (60 + k)))))] (DW G a S') :=
  DW_of (by rw [h 46 (by decide)]) (by rw [h 47 (by decide)]) (by rw [h 48 (by decide)]) (by rw [h 70 (by decide)]) (by rw [h 59 (by decide)]) (fun k _ => congrArg nI (h k (by omega)).symm)
    r (fun k _ => congrArg nI (h (36 + k) (by omega)).symm) (fun k _ => congrArg nI (h (49 + k) (by omega)).symm) (fun k _ => congrArg nI (h (60 + k) (by omega)).symm)
theorem DW_weights {G : gT} {a S S' : Nat → Nat} {F : Nat → Int32} (h : sameB 36 46 S S') (r : ∀ k, k < 10 → F k = nI (S' (36 + k))) :
    wsq [(a 0, .inr (0, [.ref (a 1), .ref (a 2), .ref (a 3), .ref (a 4), .ref (a 5), .int (nI (S 46)), .int (nI (S 47)), .int (nI (S 48)), .int (nI (S 70)), .int (nI (S 59))])), (a 1, .inl (G.2 0, 32, .inl (nf S))), (a 2, .inl (G.2 0, 4, .inl (nf (fun k => S (32 + k))))), (a 3, .inl (G.2 0, 10, .inl F)), (a 4, .inl (G.2 0, 10, .inl (nf (fun k => S (49 + k))))), (a 5, .inr (1, [.ref (a 6)])), (a 6, .inl (G.2 0, 10, .inl (nf (fun k => S (60 + k)))))] (DW G a S') :=
  DW_of (by rw [h 46 (by decide)]) (by rw [h 47 (by decide)]) (by rw [h 48 (by decide)]) (by rw [h 70 (by decide)]) (by rw [h 59 (by decide)]) (fun k _ => congrArg nI (h k (by omega)).symm)
    (fun k _ => congrArg nI (h (32 + k) (by omega)).symm) r (fun k _ => congrArg nI (h (49 + k) (by omega)).symm) (fun k _ => congrArg nI (h (60 + k) (by omega)).symm)
theorem DW_bound {G : gT} {a S S' : Nat → Nat} {x46 : Int32} (h : sameB 46 47 S S') (r : x46 = nI (S' 46)) :
    wsq [(a 0, .inr (0, [.ref (a 1), .ref (a 2), .ref (a 3), .ref (a 4), .ref (a 5), .int x46, .int (nI (S 47)), .int (nI (S 48)), .int (nI (S 70)), .int (nI (S 59))])), (a 1, .inl (G.2 0, 32, .inl (nf S))), (a 2, .inl (G.2 0, 4, .inl (nf (fun k => S (32 + k))))), (a 3, .inl (G.2 0, 10, .inl (nf (fun k => S (36 + k))))), (a 4, .inl (G.2 0, 10, .inl (nf (fun k => S (49 + k))))), (a 5, .inr (1, [.ref (a 6)])), (a 6, .inl (G.2 0, 10, .inl (nf (fun k => S (60 + k)))))] (DW G a S') :=
  DW_of r (by rw [h 47 (by decide)]) (by rw [h 48 (by decide)]) (by rw [h 70 (by decide)]) (by rw [h 59 (by decide)]) (fun k _ => congrArg nI (h k (by omega)).symm)
    (fun k _ => congrArg nI (h (32 + k) (by omega)).symm) (fun k _ => congrArg nI (h (36 + k) (by omega)).symm) (fun k _ => congrArg nI (h (49 + k) (by omega)).symm) (fun k _ => congrArg nI (h (60 + k) (by omega)).symm)
theorem nar_z {v : Nat} (h : v < 2) : narrow .boolean (.int (nI v)) = .int (nI v) := by rcases (show v = 0 ∨ v = 1 by omega) with rfl | rfl <;> rfl
theorem up_row {S : Nat → Nat} {o b v k : Nat} : va_up (fun k => S (o + k)) b v k = va_up S (o + b) v (o + k) := by
  unfold va_up
  by_cases e : k = b
  · rw [if_pos e, if_pos (by omega)]
  · rw [if_neg e, if_neg (by omega)]
theorem IV_pegs {S S' : Nat → Nat} (h : sameB 0 32 S S') (h1 : ∀ k, k < 32 → S' k < 1024) (hI : IV S) : IV S' := by
  obtain ⟨_, i2, i3, i4, i5, i6⟩ := hI
  exact ⟨h1, fun k hk => by rw [h _ (by omega)]; exact i2 k hk, fun k hk => by rw [h _ (by omega)]; exact i3 k hk, by rw [h _ (by decide)]; exact i4, by rw [h _ (by decide)]; exact i5, fun k hk => by rw [h _ (by omega)]; exact i6 k hk⟩
theorem IV_peg {S : Nat → Nat} {c v : Nat} (hc : c < 32) (hv : v < 1024) (hI : IV S) : IV (va_up S c v) :=
  IV_pegs (sameB_up (Nat.zero_le _) hc) (fun k hk => by unfold va_up; split; exact hv; exact hI.1 k hk) hI
/-- the history behind a new state: which states -/
def hT (n : Nat) (S : Nat → Nat) (T : Nat → Nat → Nat) : Nat → Nat → Nat := fun k => if k = aM n then S else aD n T k
theorem okr_in {lo hi : Nat} {x : Int32} (hl : lo < 2 ^ 31) (hh : hi + 1 < 2 ^ 31) (h1 : ¬ x < nI lo) (h2 : ¬ nI (hi + 1) ≤ x) : okr lo hi x := by
  refine okr_of hl (by omega) ?_ ?_
  · rw [Int32.le_iff_toInt_le]; rw [Int32.lt_iff_toInt_lt] at h1; omega
  · rw [Int32.le_iff_toInt_le]; rw [Int32.le_iff_toInt_le] at h2
    rw [nI_toInt hh] at h2; rw [nI_toInt (by omega)]; omega
theorem okr_in0 {hi : Nat} {x : Int32} (hh : hi + 1 < 2 ^ 31) (h1 : ¬ x < 0) (h2 : ¬ nI (hi + 1) ≤ x) : okr 0 hi x := okr_in (by decide) hh h1 h2
theorem okr_le {lo hi : Nat} {x : Int32} (hl : lo < 2 ^ 31) (hh : hi < 2 ^ 31) (h1 : ¬ x < nI lo) (h2 : x ≤ nI hi) : okr lo hi x :=
  okr_of hl hh (by rw [Int32.le_iff_toInt_le]; rw [Int32.lt_iff_toInt_lt] at h1; omega) h2
theorem okr_lt {lo hi : Nat} {x : Int32} (hl : lo < 2 ^ 31) (hh : hi + 1 < 2 ^ 31) (h1 : ¬ x < nI lo) (h2 : x < nI (hi + 1)) : okr lo hi x := by
  refine okr_le hl (by omega) h1 ?_
  rw [Int32.lt_iff_toInt_lt, nI_toInt hh] at h2
  rw [Int32.le_iff_toInt_le, nI_toInt (by omega)]; omega
/-- the drum turned round, by i columns -/
def trF (S : Nat → Nat) (i : Nat) : Nat → Nat := fun k => if 31 - k < i then S (31 - k) else S k
def trn (S : Nat → Nat) : Nat → Nat := fun k => if k < 32 then S (31 - k) else S k
theorem tr_step {S : Nat → Nat} {i k : Nat} (hi : i < 32) (hk : k < 32) : va_up (trF S i) (31 - i) (S i) k = trF S (i + 1) k := by
  unfold va_up
  by_cases e : k = 31 - i
  · rw [if_pos e]; unfold trF; rw [if_pos (by omega), show 31 - k = i by omega]
  · rw [if_neg e]; unfold trF
    by_cases e2 : 31 - k < i
    · rw [if_pos e2, if_pos (by omega)]
    · rw [if_neg e2, if_neg (by omega)]
theorem sameB_trn (S : Nat → Nat) : sameB 0 32 S (trn S) := fun k hk => if_neg (by omega)
/-- moved by m columns -/
def mvF (S : Nat → Nat) (m i : Nat) : Nat → Nat := fun k => if (k + 32 - m) % 32 < i then S ((k + 32 - m) % 32) else S k
def mvd (m : Nat) (S : Nat → Nat) : Nat → Nat := fun k => if k < 32 then S ((k + 32 - m) % 32) else S k
theorem mv_step {S : Nat → Nat} {m i k : Nat} (hm1 : 1 ≤ m) (hm : m < 32) (hi : i < 32) (hk : k < 32) : va_up (mvF S m i) ((i + m) % 32) (S i) k = mvF S m (i + 1) k := by
  unfold va_up
  by_cases e : k = (i + m) % 32
  · have e2 : (k + 32 - m) % 32 = i := by omega
    rw [if_pos e]; unfold mvF; rw [e2, if_pos (by omega)]
  · have e2 : ¬ (k + 32 - m) % 32 = i := by omega
    rw [if_neg e]; unfold mvF
    by_cases e3 : (k + 32 - m) % 32 < i
    · rw [if_pos e3, if_pos (by omega)]
    · rw [if_neg e3, if_neg (by omega)]
theorem sameB_mvd (m : Nat) (S : Nat → Nat) : sameB 0 32 S (mvd m S) := fun k hk => if_neg (by omega)
/-- raised -/
def rsd (S : Nat → Nat) : Nat → Nat := fun k => if k < 32 then S k * 2 ^ 1 % 1024 else S k
theorem sameB_rsd (S : Nat → Nat) : sameB 0 32 S (rsd S) := fun k hk => if_neg (by omega)
/-- turned back -/
def tbk (c : Nat) (S : Nat → Nat) : Nat → Nat := fun k => if k = 47 then 0 else if 60 ≤ k ∧ k < 70 then c else S k
/-- why a bell is missed -/
def why (S : Nat → Nat) (b : Nat) : Nat := if bq (S (S 47)) b = 0 then 3 else if ¬ S (36 + b) / 20 ≤ S (60 + b) then 1 else if bq (hs S) b = 1 then 0 else 2
/-- the first greatest of t 0 .. t (n - 1), if one is above 0 -/
def bz (t : Nat → Nat) : Nat → Option Nat × Nat | 0 => (none, 0) | k + 1 => if (bz t k).2 < t k then (some k, t k) else bz t k
theorem bz_le {t : Nat → Nat} {c : Nat} (h : ∀ k, t k ≤ c) : ∀ n, (bz t n).2 ≤ c
  | 0 => Nat.zero_le _
  | n + 1 => by rw [bz]; split; exact h n; exact bz_le h n
/-- silent columns: the longest row so far, the row at hand -/
def lsn (H : Nat → Nat) : Nat → Nat × Nat | 0 => (0, 0) | k + 1 => (max (lsn H k).1 (if H k = 0 then (lsn H k).2 + 1 else 0), if H k = 0 then (lsn H k).2 + 1 else 0)
theorem lsn_le (H : Nat → Nat) : ∀ k, (lsn H k).1 ≤ k ∧ (lsn H k).2 ≤ k
  | 0 => ⟨Nat.le_refl _, Nat.le_refl _⟩
  | k + 1 => by
    obtain ⟨h1, h2⟩ := lsn_le H k
    have h3 : (if H k = 0 then (lsn H k).2 + 1 else 0) ≤ k + 1 := by split <;> omega
    exact ⟨Nat.max_le.mpr ⟨by omega, h3⟩, h3⟩
/-- the greatest of 1 and t 0 .. t (n - 1) -/
def mxs (t : Nat → Nat) : Nat → Nat | 0 => 1 | k + 1 => max (mxs t k) (t k)
theorem mxs_le {t : Nat → Nat} {c : Nat} (hc : 1 ≤ c) (h : ∀ k, t k ≤ c) : ∀ n, mxs t n ≤ c
  | 0 => hc
  | n + 1 => Nat.max_le.mpr ⟨mxs_le hc h n, h n⟩
theorem wIn_le {w : Nat → Nat} {p : Nat} (hw : ∀ k, k < 10 → w k ≤ 60) : wIn w p ≤ 600 := by
  refine sm_le (c := 60) (fun k hk => ?_)
  have h1 := bq_lt p k
  have h2 := hw k hk
  rcases (show bq p k = 0 ∨ bq p k = 1 by omega) with e | e
  · rw [e, Nat.zero_mul]; omega
  · rw [e, Nat.one_mul]; exact h2
theorem sm_bq_le (H : Nat → Nat) (b n : Nat) : sm (fun k => bq (H k) b) n ≤ n := by
  have := sm_le (f := fun k => bq (H k) b) (c := 1) (n := n) (fun k _ => by have := bq_lt (H k) b; omega)
  omega
theorem sm_cnt_le (H : Nat → Nat) (n : Nat) : sm (fun k => cnt (H k)) n ≤ n * 10 := sm_le (fun k _ => cnt_le _)
theorem sm_cnt_mono {H K : Nat → Nat} (h : ∀ k i, bq (H k) i ≤ bq (K k) i) : ∀ n, sm (fun k => cnt (H k)) n ≤ sm (fun k => cnt (K k)) n
  | 0 => Nat.le_refl _
  | n + 1 => by
    have h1 := sm_cnt_mono h n
    have h2 : ∀ m, sm (bq (H n)) m ≤ sm (bq (K n)) m := fun m => by
      induction m with
      | zero => exact Nat.le_refl _
      | succ m ih => have := h n m; rw [sm_succ, sm_succ]; omega
    have h3 : cnt (H n) ≤ cnt (K n) := h2 10
    rw [sm_succ, sm_succ]; exact Nat.add_le_add h1 h3

set_option maxHeartbeats 4000000 in
set_option maxRecDepth 100000 in
theorem c_X5_isColumn1 (l : Launch) (G : gT) (c : Nat) (hc : c ≤ 31) : CM l G yX5_isColumn wsX5_isColumn 1 20 1 [.int (nI c)] [] 0 0 (fun v u => v = some (.int (nI 1)) ∧ u = []) := by
  refine CM_of RX5 0 0 rfl rfl (by decide) (by decide +kernel) (Nat.le_of_ble_eq_true rfl) (fun E A X hrt hnm => ?_)
  generalize hQ : QM E G A _ _ _ = Q
  show V E G A 1 [] 0 0 Q 0 [(0, .int (nI c))] []
  refine V_iload_n (pc' := 1) 0 X dX5_isColumn_0 rfl rfl rfl ?_
  refine V_if_lt (pc' := 4) (C := False) 14 X dX5_isColumn_1 (by decide) rfl (z_lt0 (by omega)) (fun hz => absurd hz (by decide)) (fun _ => ?_)
  refine V_iload_n (pc' := 5) 0 X dX5_isColumn_4 rfl rfl rfl ?_
  refine V_bipush (pc' := 7) (nI 32) X dX5_isColumn_5 kb_32 rfl ?_
  refine V_icmp_ge (pc' := 10) (C := 32 ≤ c) 14 X dX5_isColumn_7 (by decide) rfl (nI_leI (by omega) (by omega)) (fun hz => absurd hz (by omega)) (fun _ => ?_)
  refine V_iconst (pc' := 11) (nI 1) X dX5_isColumn_10 ki_1 rfl ?_
  refine V_goto (pc' := 15) X dX5_isColumn_11 (by decide) ?_
  exact V_ireturn (v := nI 1) [] hQ X hrt rfl dX5_isColumn_15 (Nat.le_of_ble_eq_true rfl) (Nat.le_of_ble_eq_true rfl) (List.Perm.refl _) ⟨rfl, rfl⟩

set_option maxHeartbeats 4000000 in
set_option maxRecDepth 100000 in
theorem c_X5_isColumn0 (l : Launch) (G : gT) (c : Int32) (hc : ¬ okr 0 31 c) : CM l G yX5_isColumn wsX5_isColumn 1 20 1 [.int c] [] 0 0 (fun v u => v = some (.int (nI 0)) ∧ u = []) := by
  refine CM_of RX5 0 0 rfl rfl (by decide) (by decide +kernel) (Nat.le_of_ble_eq_true rfl) (fun E A X hrt hnm => ?_)
  generalize hQ : QM E G A _ _ _ = Q
  show V E G A 1 [] 0 0 Q 0 [(0, .int c)] []
  refine V_iload_n (pc' := 1) 0 X dX5_isColumn_0 rfl rfl rfl ?_
  refine V_if_lt (pc' := 4) (C := c < 0) 14 X dX5_isColumn_1 (by decide) rfl Iff.rfl (fun h1 => ?_) (fun h1 => ?_)
  · refine V_iconst (pc' := 15) (nI 0) X dX5_isColumn_14 ki_0 rfl ?_
    exact V_ireturn (v := nI 0) [] hQ X hrt rfl dX5_isColumn_15 (Nat.le_of_ble_eq_true rfl) (Nat.le_of_ble_eq_true rfl) (List.Perm.refl _) ⟨rfl, rfl⟩
  · refine V_iload_n (pc' := 5) 0 X dX5_isColumn_4 rfl rfl rfl ?_
    refine V_bipush (pc' := 7) (nI 32) X dX5_isColumn_5 kb_32 rfl ?_
    refine V_icmp_ge (pc' := 10) (C := (nI 32) ≤ c) 14 X dX5_isColumn_7 (by decide) rfl Iff.rfl (fun h7 => ?_) (fun h7 => ?_)
    · refine V_iconst (pc' := 15) (nI 0) X dX5_isColumn_14 ki_0 rfl ?_
      exact V_ireturn (v := nI 0) [] hQ X hrt rfl dX5_isColumn_15 (Nat.le_of_ble_eq_true rfl) (Nat.le_of_ble_eq_true rfl) (List.Perm.refl _) ⟨rfl, rfl⟩
    · exact absurd (okr_in0 (by decide) h1 h7) hc

set_option maxHeartbeats 4000000 in
set_option maxRecDepth 100000 in
theorem c_X5_isBar1 (l : Launch) (G : gT) (c : Nat) (hc : c ≤ 3) : CM l G yX5_isBar wsX5_isBar 1 20 1 [.int (nI c)] [] 0 0 (fun v u => v = some (.int (nI 1)) ∧ u = []) := by
  refine CM_of RX5 0 0 rfl rfl (by decide) (by decide +kernel) (Nat.le_of_ble_eq_true rfl) (fun E A X hrt hnm => ?_)
  generalize hQ : QM E G A _ _ _ = Q
  show V E G A 1 [] 0 0 Q 0 [(0, .int (nI c))] []
  refine V_iload_n (pc' := 1) 0 X dX5_isBar_0 rfl rfl rfl ?_
  refine V_if_lt (pc' := 4) (C := False) 13 X dX5_isBar_1 (by decide) rfl (z_lt0 (by omega)) (fun hz => absurd hz (by decide)) (fun _ => ?_)
  refine V_iload_n (pc' := 5) 0 X dX5_isBar_4 rfl rfl rfl ?_
  refine V_iconst (pc' := 6) (nI 4) X dX5_isBar_5 ki_4 rfl ?_
  refine V_icmp_ge (pc' := 9) (C := 4 ≤ c) 13 X dX5_isBar_6 (by decide) rfl (nI_leI (by omega) (by omega)) (fun hz => absurd hz (by omega)) (fun _ => ?_)
  refine V_iconst (pc' := 10) (nI 1) X dX5_isBar_9 ki_1 rfl ?_
  refine V_goto (pc' := 14) X dX5_isBar_10 (by decide) ?_
  exact V_ireturn (v := nI 1) [] hQ X hrt rfl dX5_isBar_14 (Nat.le_of_ble_eq_true rfl) (Nat.le_of_ble_eq_true rfl) (List.Perm.refl _) ⟨rfl, rfl⟩

set_option maxHeartbeats 4000000 in
set_option maxRecDepth 100000 in
theorem c_X5_isBar0 (l : Launch) (G : gT) (c : Int32) (hc : ¬ okr 0 3 c) : CM l G yX5_isBar wsX5_isBar 1 20 1 [.int c] [] 0 0 (fun v u => v = some (.int (nI 0)) ∧ u = []) := by
  refine CM_of RX5 0 0 rfl rfl (by decide) (by decide +kernel) (Nat.le_of_ble_eq_true rfl) (fun E A X hrt hnm => ?_)
  generalize hQ : QM E G A _ _ _ = Q
  show V E G A 1 [] 0 0 Q 0 [(0, .int c)] []
  refine V_iload_n (pc' := 1) 0 X dX5_isBar_0 rfl rfl rfl ?_
  refine V_if_lt (pc' := 4) (C := c < 0) 13 X dX5_isBar_1 (by decide) rfl Iff.rfl (fun h1 => ?_) (fun h1 => ?_)
  · refine V_iconst (pc' := 14) (nI 0) X dX5_isBar_13 ki_0 rfl ?_
    exact V_ireturn (v := nI 0) [] hQ X hrt rfl dX5_isBar_14 (Nat.le_of_ble_eq_true rfl) (Nat.le_of_ble_eq_true rfl) (List.Perm.refl _) ⟨rfl, rfl⟩
  · refine V_iload_n (pc' := 5) 0 X dX5_isBar_4 rfl rfl rfl ?_
    refine V_iconst (pc' := 6) (nI 4) X dX5_isBar_5 ki_4 rfl ?_
    refine V_icmp_ge (pc' := 9) (C := (nI 4) ≤ c) 13 X dX5_isBar_6 (by decide) rfl Iff.rfl (fun h6 => ?_) (fun h6 => ?_)
    · refine V_iconst (pc' := 14) (nI 0) X dX5_isBar_13 ki_0 rfl ?_
      exact V_ireturn (v := nI 0) [] hQ X hrt rfl dX5_isBar_14 (Nat.le_of_ble_eq_true rfl) (Nat.le_of_ble_eq_true rfl) (List.Perm.refl _) ⟨rfl, rfl⟩
    · exact absurd (okr_in0 (by decide) h1 h6) hc

set_option maxHeartbeats 4000000 in
set_option maxRecDepth 100000 in
theorem c_X5_isBell1 (l : Launch) (G : gT) (c : Nat) (hc : c ≤ 9) : CM l G yX5_isBell wsX5_isBell 1 20 1 [.int (nI c)] [] 0 0 (fun v u => v = some (.int (nI 1)) ∧ u = []) := by
  refine CM_of RX5 0 0 rfl rfl (by decide) (by decide +kernel) (Nat.le_of_ble_eq_true rfl) (fun E A X hrt hnm => ?_)
  generalize hQ : QM E G A _ _ _ = Q
  show V E G A 1 [] 0 0 Q 0 [(0, .int (nI c))] []
  refine V_iload_n (pc' := 1) 0 X dX5_isBell_0 rfl rfl rfl ?_
  refine V_if_lt (pc' := 4) (C := False) 14 X dX5_isBell_1 (by decide) rfl (z_lt0 (by omega)) (fun hz => absurd hz (by decide)) (fun _ => ?_)
  refine V_iload_n (pc' := 5) 0 X dX5_isBell_4 rfl rfl rfl ?_
  refine V_bipush (pc' := 7) (nI 10) X dX5_isBell_5 kb_10 rfl ?_
  refine V_icmp_ge (pc' := 10) (C := 10 ≤ c) 14 X dX5_isBell_7 (by decide) rfl (nI_leI (by omega) (by omega)) (fun hz => absurd hz (by omega)) (fun _ => ?_)
  refine V_iconst (pc' := 11) (nI 1) X dX5_isBell_10 ki_1 rfl ?_
  refine V_goto (pc' := 15) X dX5_isBell_11 (by decide) ?_
  exact V_ireturn (v := nI 1) [] hQ X hrt rfl dX5_isBell_15 (Nat.le_of_ble_eq_true rfl) (Nat.le_of_ble_eq_true rfl) (List.Perm.refl _) ⟨rfl, rfl⟩

set_option maxHeartbeats 4000000 in
set_option maxRecDepth 100000 in
theorem c_X5_isBell0 (l : Launch) (G : gT) (c : Int32) (hc : ¬ okr 0 9 c) : CM l G yX5_isBell wsX5_isBell 1 20 1 [.int c] [] 0 0 (fun v u => v = some (.int (nI 0)) ∧ u = []) := by
  refine CM_of RX5 0 0 rfl rfl (by decide) (by decide +kernel) (Nat.le_of_ble_eq_true rfl) (fun E A X hrt hnm => ?_)
  generalize hQ : QM E G A _ _ _ = Q
  show V E G A 1 [] 0 0 Q 0 [(0, .int c)] []
  refine V_iload_n (pc' := 1) 0 X dX5_isBell_0 rfl rfl rfl ?_
  refine V_if_lt (pc' := 4) (C := c < 0) 14 X dX5_isBell_1 (by decide) rfl Iff.rfl (fun h1 => ?_) (fun h1 => ?_)
  · refine V_iconst (pc' := 15) (nI 0) X dX5_isBell_14 ki_0 rfl ?_
    exact V_ireturn (v := nI 0) [] hQ X hrt rfl dX5_isBell_15 (Nat.le_of_ble_eq_true rfl) (Nat.le_of_ble_eq_true rfl) (List.Perm.refl _) ⟨rfl, rfl⟩
  · refine V_iload_n (pc' := 5) 0 X dX5_isBell_4 rfl rfl rfl ?_
    refine V_bipush (pc' := 7) (nI 10) X dX5_isBell_5 kb_10 rfl ?_
    refine V_icmp_ge (pc' := 10) (C := (nI 10) ≤ c) 14 X dX5_isBell_7 (by decide) rfl Iff.rfl (fun h7 => ?_) (fun h7 => ?_)
    · refine V_iconst (pc' := 15) (nI 0) X dX5_isBell_14 ki_0 rfl ?_
      exact V_ireturn (v := nI 0) [] hQ X hrt rfl dX5_isBell_15 (Nat.le_of_ble_eq_true rfl) (Nat.le_of_ble_eq_true rfl) (List.Perm.refl _) ⟨rfl, rfl⟩
    · exact absurd (okr_in0 (by decide) h1 h7) hc

set_option maxHeartbeats 4000000 in
set_option maxRecDepth 100000 in
theorem c_X5_isSlot1 (l : Launch) (G : gT) (c : Nat) (hc : c ≤ 1) : CM l G yX5_isSlot wsX5_isSlot 1 20 1 [.int (nI c)] [] 0 0 (fun v u => v = some (.int (nI 1)) ∧ u = []) := by
  refine CM_of RX5 0 0 rfl rfl (by decide) (by decide +kernel) (Nat.le_of_ble_eq_true rfl) (fun E A X hrt hnm => ?_)
  generalize hQ : QM E G A _ _ _ = Q
  show V E G A 1 [] 0 0 Q 0 [(0, .int (nI c))] []
  refine V_iload_n (pc' := 1) 0 X dX5_isSlot_0 rfl rfl rfl ?_
  refine V_if_lt (pc' := 4) (C := False) 13 X dX5_isSlot_1 (by decide) rfl (z_lt0 (by omega)) (fun hz => absurd hz (by decide)) (fun _ => ?_)
  refine V_iload_n (pc' := 5) 0 X dX5_isSlot_4 rfl rfl rfl ?_
  refine V_iconst (pc' := 6) (nI 2) X dX5_isSlot_5 ki_2 rfl ?_
  refine V_icmp_ge (pc' := 9) (C := 2 ≤ c) 13 X dX5_isSlot_6 (by decide) rfl (nI_leI (by omega) (by omega)) (fun hz => absurd hz (by omega)) (fun _ => ?_)
  refine V_iconst (pc' := 10) (nI 1) X dX5_isSlot_9 ki_1 rfl ?_
  refine V_goto (pc' := 14) X dX5_isSlot_10 (by decide) ?_
  exact V_ireturn (v := nI 1) [] hQ X hrt rfl dX5_isSlot_14 (Nat.le_of_ble_eq_true rfl) (Nat.le_of_ble_eq_true rfl) (List.Perm.refl _) ⟨rfl, rfl⟩

set_option maxHeartbeats 4000000 in
set_option maxRecDepth 100000 in
theorem c_X5_isSlot0 (l : Launch) (G : gT) (c : Int32) (hc : ¬ okr 0 1 c) : CM l G yX5_isSlot wsX5_isSlot 1 20 1 [.int c] [] 0 0 (fun v u => v = some (.int (nI 0)) ∧ u = []) := by
  refine CM_of RX5 0 0 rfl rfl (by decide) (by decide +kernel) (Nat.le_of_ble_eq_true rfl) (fun E A X hrt hnm => ?_)
  generalize hQ : QM E G A _ _ _ = Q
  show V E G A 1 [] 0 0 Q 0 [(0, .int c)] []
  refine V_iload_n (pc' := 1) 0 X dX5_isSlot_0 rfl rfl rfl ?_
  refine V_if_lt (pc' := 4) (C := c < 0) 13 X dX5_isSlot_1 (by decide) rfl Iff.rfl (fun h1 => ?_) (fun h1 => ?_)
  · refine V_iconst (pc' := 14) (nI 0) X dX5_isSlot_13 ki_0 rfl ?_
    exact V_ireturn (v := nI 0) [] hQ X hrt rfl dX5_isSlot_14 (Nat.le_of_ble_eq_true rfl) (Nat.le_of_ble_eq_true rfl) (List.Perm.refl _) ⟨rfl, rfl⟩
  · refine V_iload_n (pc' := 5) 0 X dX5_isSlot_4 rfl rfl rfl ?_
    refine V_iconst (pc' := 6) (nI 2) X dX5_isSlot_5 ki_2 rfl ?_
    refine V_icmp_ge (pc' := 9) (C := (nI 2) ≤ c) 13 X dX5_isSlot_6 (by decide) rfl Iff.rfl (fun h6 => ?_) (fun h6 => ?_)
    · refine V_iconst (pc' := 14) (nI 0) X dX5_isSlot_13 ki_0 rfl ?_
      exact V_ireturn (v := nI 0) [] hQ X hrt rfl dX5_isSlot_14 (Nat.le_of_ble_eq_true rfl) (Nat.le_of_ble_eq_true rfl) (List.Perm.refl _) ⟨rfl, rfl⟩
    · exact absurd (okr_in0 (by decide) h1 h6) hc

set_option maxHeartbeats 4000000 in
set_option maxRecDepth 100000 in
theorem c_X5_turnPeg (l : Launch) (G : gT) (x r p q : Nat) (a S h : Nat → Nat) (n : Nat) (d T : Nat → Nat → Nat) (hn : n ≤ 6) (hI : IV S) (c b : Nat) (hc : c < 32) (hb : b < 10) : CM l G yX5_turnPeg wsX5_turnPeg 5 126 2 [.ref x, .int (nI c), .int (nI b)] [XB x (a 0) r p (h 0) q, DW G a S, HI G h n d, HD G d T] 0 0 (fun v u => v = some (.int (nI (bq (S c ^^^ 2 ^ b) b))) ∧ u = [XB x (a 0) r p (h 0) q, DW G a (va_up S c (S c ^^^ 2 ^ b)), HI G h (aM n + 1) (aD n d), HD G (aD n d) (hT n S T)]) := by
  refine CM_of RX5 4 104 rfl rfl (by decide) (by decide +kernel) (Nat.le_of_ble_eq_true rfl) (fun E A X hrt hnm => ?_)
  have F10 := Fld_of (idx := 10) 5 0 X (by decide) (by decide) (by decide +kernel) (by decide +kernel)
  have F33 := Fld_of (idx := 33) 5 3 X (by decide) (by decide) (by decide +kernel) (by decide +kernel)
  have F59 := Fld_of (idx := 59) 0 0 X (by decide) (by decide) (by decide +kernel) (by decide +kernel)
  generalize hQ : QM E G A _ _ _ = Q
  obtain ⟨i1, i2, i3, i4, i5, i6⟩ := id hI
  have hcp := i1 c hc
  have hx10 : S c ^^^ 2 ^ b < 1024 := Nat.xor_lt_two_pow (n := 10) hcp (Nat.pow_lt_pow_right (by decide) hb)
  show V E G A 3 [XB x (a 0) r p (h 0) q, DW G a S, HI G h n d, HD G d T] 0 0 Q 0 [(0, .ref x), (1, .int (nI c)), (2, .int (nI b))] []
  refine V_iload_n (pc' := 1) 1 X dX5_turnPeg_0 rfl rfl rfl ?_
  refine V_callS (pc' := 4) (As := [.int (nI c)]) (st := []) [] [0, 1, 2, 3] (show (List.range 4).Perm ([] ++ [0, 1, 2, 3]) by decide) X (c_X5_isColumn1 l G c (by omega)) rfl gX5_turnPeg_X5_isColumn rfl rfl (Nat.le_of_ble_eq_true rfl) ⟨Nat.le_of_ble_eq_true rfl, Nat.le_of_ble_eq_true rfl⟩ ⟨Nat.le_of_ble_eq_true rfl, Nat.le_of_ble_eq_true rfl⟩ dX5_turnPeg_1 rfl (fun v_ u_ hp_ => ?_)
  obtain ⟨rfl, rfl⟩ := hp_
  show V E G A 3 [XB x (a 0) r p (h 0) q, DW G a S, HI G h n d, HD G d T] 0 0 Q 4 [(0, .ref x), (1, .int (nI c)), (2, .int (nI b))] [.int (nI 1)]
  refine V_if_eq (pc' := 7) (C := 1 = 0) 14 X dX5_turnPeg_4 (by decide) rfl (z_eq0 (by omega)) (fun hz => absurd hz (by decide)) (fun _ => ?_)
  refine V_iload_n (pc' := 8) 2 X dX5_turnPeg_7 rfl rfl rfl ?_
  refine V_callS (pc' := 11) (As := [.int (nI b)]) (st := []) [] [0, 1, 2, 3] (show (List.range 4).Perm ([] ++ [0, 1, 2, 3]) by decide) X (c_X5_isBell1 l G b (by omega)) rfl gX5_turnPeg_X5_isBell rfl rfl (Nat.le_of_ble_eq_true rfl) ⟨Nat.le_of_ble_eq_true rfl, Nat.le_of_ble_eq_true rfl⟩ ⟨Nat.le_of_ble_eq_true rfl, Nat.le_of_ble_eq_true rfl⟩ dX5_turnPeg_8 rfl (fun v_ u_ hp_ => ?_)
  obtain ⟨rfl, rfl⟩ := hp_
  show V E G A 3 [XB x (a 0) r p (h 0) q, DW G a S, HI G h n d, HD G d T] 0 0 Q 11 [(0, .ref x), (1, .int (nI c)), (2, .int (nI b))] [.int (nI 1)]
  refine V_if_ne (pc' := 14) (C := 1 = 0) 24 X dX5_turnPeg_11 (by decide) rfl (z_eq0 (by omega)) (fun _ => ?_) (fun hz => absurd hz (by decide))
  refine V_aload_n (pc' := 25) 0 X dX5_turnPeg_24 rfl rfl rfl ?_
  refine V_get (pc' := 28) 0 X F33 rfl rfl dX5_turnPeg_25 rfl ?_
  refine V_aload_n (pc' := 29) 0 X dX5_turnPeg_28 rfl rfl rfl ?_
  refine V_get (pc' := 32) 0 X F10 rfl rfl dX5_turnPeg_29 rfl ?_
  refine V_callV (pc' := 35) (As := [.ref (a 0)]) (st := []) 2 8 [2, 3, 1] [0] (show (List.range 4).Perm ([2, 3, 1] ++ [0]) by decide) X (c_X2_add l G h d T a S n hn) rfl gX5_turnPeg_X2_add rfl (by decide) rfl rfl rfl (Nat.le_of_ble_eq_true rfl) ⟨Nat.le_of_ble_eq_true rfl, Nat.le_of_ble_eq_true rfl⟩ ⟨Nat.le_of_ble_eq_true rfl, Nat.le_of_ble_eq_true rfl⟩ dX5_turnPeg_32 rfl (fun v_ u_ hp_ => ?_)
  obtain ⟨rfl, rfl⟩ := hp_
  show V E G A 3 [XB x (a 0) r p (h 0) q, HI G h (aM n + 1) (aD n d), DW G ((aD n d) (aM n)) S, DW G a S, HR G (aD n d) (aD n T) (aM n)] 0 0 Q 35 [(0, .ref x), (1, .int (nI c)), (2, .int (nI b))] [.ref (((aD n d) (aM n)) 0)]
  refine V_pop (pc' := 36) X dX5_turnPeg_35 rfl rfl ?_
  refine V_aload_n (pc' := 37) 0 X dX5_turnPeg_36 rfl rfl rfl ?_
  refine V_get (pc' := 40) 0 X F10 rfl rfl dX5_turnPeg_37 rfl ?_
  refine V_get (pc' := 43) 10 X F59 rfl rfl dX5_turnPeg_40 rfl ?_
  refine V_iload_n (pc' := 44) 1 X dX5_turnPeg_43 rfl rfl rfl ?_
  refine V_dup2 (pc' := 45) X dX5_turnPeg_44 rfl rfl rfl ?_
  refine V_iald (pc' := 46) (v := nI (S c)) 11 c X rfl (by omega) (by decide) rfl dX5_turnPeg_45 rfl ?_
  refine V_iconst (pc' := 47) (nI 1) X dX5_turnPeg_46 ki_1 rfl ?_
  refine V_iload_n (pc' := 48) 2 X dX5_turnPeg_47 rfl rfl rfl ?_
  refine V_ishl (pc' := 49) (nI (2 ^ b)) X dX5_turnPeg_48 (z_shl1 (by omega)) rfl ?_
  refine V_ixor (pc' := 50) (nI ((S c) ^^^ (2 ^ b))) X dX5_turnPeg_49 (z_xor _ _) rfl ?_
  refine V_ws [XB x (a 0) r p (h 0) q, HI G h (aM n + 1) (aD n d), DW G ((aD n d) (aM n)) S, [((a 0), .inr (0, [.ref (a 1), .ref (a 2), .ref (a 3), .ref (a 4), .ref (a 5), .int (nI (S 46)), .int (nI (S 47)), .int (nI (S 48)), .int (nI (S 70)), .int (nI (S 59))])), ((a 1), .inl (G.2 0, 32, .inl (nf S))), ((a 2), .inl (G.2 0, 4, .inl (nf (fun k => S (32 + k))))), ((a 3), .inl (G.2 0, 10, .inl (nf (fun k => S (36 + k))))), ((a 4), .inl (G.2 0, 10, .inl (nf (fun k => S (49 + k))))), ((a 5), .inr (1, [.ref (a 6)])), ((a 6), .inl (G.2 0, 10, .inl (nf (fun k => S (60 + k)))))], HR G (aD n d) (aD n T) (aM n)] rfl ?_
  refine V_iast (pc' := 51) 11 c [XB x (a 0) r p (h 0) q, HI G h (aM n + 1) (aD n d), DW G ((aD n d) (aM n)) S, [((a 0), .inr (0, [.ref (a 1), .ref (a 2), .ref (a 3), .ref (a 4), .ref (a 5), .int (nI (S 46)), .int (nI (S 47)), .int (nI (S 48)), .int (nI (S 70)), .int (nI (S 59))])), ((a 1), .inl (G.2 0, 32, .inl (upd (nf S) c (nI ((S c) ^^^ (2 ^ b)))))), ((a 2), .inl (G.2 0, 4, .inl (nf (fun k => S (32 + k))))), ((a 3), .inl (G.2 0, 10, .inl (nf (fun k => S (36 + k))))), ((a 4), .inl (G.2 0, 10, .inl (nf (fun k => S (49 + k))))), ((a 5), .inr (1, [.ref (a 6)])), ((a 6), .inl (G.2 0, 10, .inl (nf (fun k => S (60 + k)))))], HR G (aD n d) (aD n T) (aM n)] X rfl (by omega) (by decide) rfl dX5_turnPeg_50 rfl ?_
  refine V_ws [XB x (a 0) r p (h 0) q, HI G h (aM n + 1) (aD n d), DW G ((aD n d) (aM n)) S, [((a 0), .inr (0, [.ref (a 1), .ref (a 2), .ref (a 3), .ref (a 4), .ref (a 5), .int (nI (S 46)), .int (nI (S 47)), .int (nI (S 48)), .int (nI (S 70)), .int (nI (S 59))])), ((a 1), .inl (G.2 0, 32, .inl (nf (va_up S c ((S c) ^^^ (2 ^ b)))))), ((a 2), .inl (G.2 0, 4, .inl (nf (fun k => S (32 + k))))), ((a 3), .inl (G.2 0, 10, .inl (nf (fun k => S (36 + k))))), ((a 4), .inl (G.2 0, 10, .inl (nf (fun k => S (49 + k))))), ((a 5), .inr (1, [.ref (a 6)])), ((a 6), .inl (G.2 0, 10, .inl (nf (fun k => S (60 + k)))))], HR G (aD n d) (aD n T) (aM n)] (by simp only [nf_upd]) ?_
  refine V_aload_n (pc' := 52) 0 X dX5_turnPeg_51 rfl rfl rfl ?_
  refine V_get (pc' := 55) 0 X F10 rfl rfl dX5_turnPeg_52 rfl ?_
  refine V_get (pc' := 58) 10 X F59 rfl rfl dX5_turnPeg_55 rfl ?_
  refine V_iload_n (pc' := 59) 1 X dX5_turnPeg_58 rfl rfl rfl ?_
  refine V_iald (pc' := 60) (v := nI (S c ^^^ 2 ^ b)) 11 c X rfl (by omega) (by decide) (congrArg nI (va_up_self S c _)) dX5_turnPeg_59 rfl ?_
  refine V_iload_n (pc' := 61) 2 X dX5_turnPeg_60 rfl rfl rfl ?_
  refine V_callS (pc' := 64) (As := [.int (nI (S c ^^^ 2 ^ b)), .int (nI b)]) (st := []) [] [0, 1, 2, 3, 4] (show (List.range 5).Perm ([] ++ [0, 1, 2, 3, 4]) by decide) X (c_X5_holds l G (S c ^^^ 2 ^ b) b (Nat.lt_trans hx10 (by decide)) (by omega)) rfl gX5_turnPeg_X5_holds rfl rfl (Nat.le_of_ble_eq_true rfl) ⟨Nat.le_of_ble_eq_true rfl, Nat.le_of_ble_eq_true rfl⟩ ⟨Nat.le_of_ble_eq_true rfl, Nat.le_of_ble_eq_true rfl⟩ dX5_turnPeg_61 rfl (fun v_ u_ hp_ => ?_)
  obtain ⟨rfl, rfl⟩ := hp_
  show V E G A 3 [XB x (a 0) r p (h 0) q, HI G h (aM n + 1) (aD n d), DW G ((aD n d) (aM n)) S, [((a 0), .inr (0, [.ref (a 1), .ref (a 2), .ref (a 3), .ref (a 4), .ref (a 5), .int (nI (S 46)), .int (nI (S 47)), .int (nI (S 48)), .int (nI (S 70)), .int (nI (S 59))])), ((a 1), .inl (G.2 0, 32, .inl (nf (va_up S c ((S c) ^^^ (2 ^ b)))))), ((a 2), .inl (G.2 0, 4, .inl (nf (fun k => S (32 + k))))), ((a 3), .inl (G.2 0, 10, .inl (nf (fun k => S (36 + k))))), ((a 4), .inl (G.2 0, 10, .inl (nf (fun k => S (49 + k))))), ((a 5), .inr (1, [.ref (a 6)])), ((a 6), .inl (G.2 0, 10, .inl (nf (fun k => S (60 + k)))))], HR G (aD n d) (aD n T) (aM n)] 0 0 Q 64 [(0, .ref x), (1, .int (nI c)), (2, .int (nI b))] [.int (nI (bq (S c ^^^ 2 ^ b) b))]
  refine V_wsq [XB x (a 0) r p (h 0) q, HI G h (aM n + 1) (aD n d), DW G ((aD n d) (aM n)) S, DW G a (va_up S c (S c ^^^ 2 ^ b)), HR G (aD n d) (aD n T) (aM n)] (wsq.app (wsq.rf _) (wsq.app (wsq.rf _) (wsq.app (wsq.rf _) (wsq.app (DW_pegs (sameB_up (Nat.zero_le _) hc) (fun _ _ => rfl)) (wsq.rf _))))) ?_
  refine V_ord [0, 3, 1, 2, 4] [XB x (a 0) r p (h 0) q, DW G a (va_up S c (S c ^^^ 2 ^ b)), HI G h (aM n + 1) (aD n d), DW G ((aD n d) (aM n)) S, HR G (aD n d) (aD n T) (aM n)] (show (List.range 5).Perm [0, 3, 1, 2, 4] by decide) rfl ?_
  refine V_join (bs' := [XB x (a 0) r p (h 0) q, DW G a (va_up S c (S c ^^^ 2 ^ b)), HI G h (aM n + 1) (aD n d), HD G (aD n d) (hT n S T)]) 3 rfl (HD_perm' G (aD n d) (aD n T) S (aM_lt hn)) rfl ?_
  exact V_ireturn (v := nI (bq (S c ^^^ 2 ^ b) b)) [XB x (a 0) r p (h 0) q, DW G a (va_up S c (S c ^^^ 2 ^ b)), HI G h (aM n + 1) (aD n d), HD G (aD n d) (hT n S T)] hQ X hrt (nar_z (bq_lt _ _)) dX5_turnPeg_64 (Nat.le_of_ble_eq_true rfl) (Nat.le_of_ble_eq_true rfl) (List.Perm.refl _) ⟨rfl, rfl⟩

set_option maxHeartbeats 4000000 in
set_option maxRecDepth 100000 in
theorem c_X5_setColumn (l : Launch) (G : gT) (x r p q : Nat) (a S h : Nat → Nat) (n : Nat) (d T : Nat → Nat → Nat) (hn : n ≤ 6) (hI : IV S) (c w : Nat) (hc : c < 32) (hw : w < 1024) : CM l G yX5_setColumn wsX5_setColumn 5 127 2 [.ref x, .int (nI c), .int (nI w)] [XB x (a 0) r p (h 0) q, DW G a S, HI G h n d, HD G d T] 0 0 (fun v u => v = some (.int (nI (sm (fun k => cnt (va_up S c w k ^^^ S k)) 32))) ∧ u = [XB x (a 0) r p (h 0) q, DW G a (va_up S c w), HI G h (aM n + 1) (aD n d), HD G (aD n d) (hT n S T)]) := by
  refine CM_of RX5 4 104 rfl rfl (by decide) (by decide +kernel) (Nat.le_of_ble_eq_true rfl) (fun E A X hrt hnm => ?_)
  have F10 := Fld_of (idx := 10) 5 0 X (by decide) (by decide) (by decide +kernel) (by decide +kernel)
  have F33 := Fld_of (idx := 33) 5 3 X (by decide) (by decide) (by decide +kernel) (by decide +kernel)
  have F59 := Fld_of (idx := 59) 0 0 X (by decide) (by decide) (by decide +kernel) (by decide +kernel)
  generalize hQ : QM E G A _ _ _ = Q
  obtain ⟨i1, i2, i3, i4, i5, i6⟩ := id hI
  show V E G A 4 [XB x (a 0) r p (h 0) q, DW G a S, HI G h n d, HD G d T] 0 0 Q 0 [(0, .ref x), (1, .int (nI c)), (2, .int (nI w))] []
  refine V_iload_n (pc' := 1) 1 X dX5_setColumn_0 rfl rfl rfl ?_
  refine V_callS (pc' := 4) (As := [.int (nI c)]) (st := []) [] [0, 1, 2, 3] (show (List.range 4).Perm ([] ++ [0, 1, 2, 3]) by decide) X (c_X5_isColumn1 l G c (by omega)) rfl gX5_setColumn_X5_isColumn rfl rfl (Nat.le_of_ble_eq_true rfl) ⟨Nat.le_of_ble_eq_true rfl, Nat.le_of_ble_eq_true rfl⟩ ⟨Nat.le_of_ble_eq_true rfl, Nat.le_of_ble_eq_true rfl⟩ dX5_setColumn_1 rfl (fun v_ u_ hp_ => ?_)
  obtain ⟨rfl, rfl⟩ := hp_
  show V E G A 4 [XB x (a 0) r p (h 0) q, DW G a S, HI G h n d, HD G d T] 0 0 Q 4 [(0, .ref x), (1, .int (nI c)), (2, .int (nI w))] [.int (nI 1)]
  refine V_if_ne (pc' := 7) (C := 1 = 0) 17 X dX5_setColumn_4 (by decide) rfl (z_eq0 (by omega)) (fun _ => ?_) (fun hz => absurd hz (by decide))
  refine V_iload_n (pc' := 18) 2 X dX5_setColumn_17 rfl rfl rfl ?_
  refine V_if_lt (pc' := 21) (C := False) 28 X dX5_setColumn_18 (by decide) rfl (z_lt0 (by omega)) (fun hz => absurd hz (by decide)) (fun _ => ?_)
  refine V_iload_n (pc' := 22) 2 X dX5_setColumn_21 rfl rfl rfl ?_
  refine V_sipush (pc' := 25) (nI 1023) X dX5_setColumn_22 ks_1023 rfl ?_
  refine V_icmp_le (pc' := 28) (C := w ≤ 1023) 38 X dX5_setColumn_25 (by decide) rfl (nI_leI (by omega) (by omega)) (fun _ => ?_) (fun hz => absurd (by omega) hz)
  refine V_aload_n (pc' := 39) 0 X dX5_setColumn_38 rfl rfl rfl ?_
  refine V_get (pc' := 42) 0 X F33 rfl rfl dX5_setColumn_39 rfl ?_
  refine V_aload_n (pc' := 43) 0 X dX5_setColumn_42 rfl rfl rfl ?_
  refine V_get (pc' := 46) 0 X F10 rfl rfl dX5_setColumn_43 rfl ?_
  refine V_callV (pc' := 49) (As := [.ref (a 0)]) (st := []) 2 8 [2, 3, 1] [0] (show (List.range 4).Perm ([2, 3, 1] ++ [0]) by decide) X (c_X2_add l G h d T a S n hn) rfl gX5_setColumn_X2_add rfl (by decide) rfl rfl rfl (Nat.le_of_ble_eq_true rfl) ⟨Nat.le_of_ble_eq_true rfl, Nat.le_of_ble_eq_true rfl⟩ ⟨Nat.le_of_ble_eq_true rfl, Nat.le_of_ble_eq_true rfl⟩ dX5_setColumn_46 rfl (fun v_ u_ hp_ => ?_)
  obtain ⟨rfl, rfl⟩ := hp_
  show V E G A 4 [XB x (a 0) r p (h 0) q, HI G h (aM n + 1) (aD n d), DW G ((aD n d) (aM n)) S, DW G a S, HR G (aD n d) (aD n T) (aM n)] 0 0 Q 49 [(0, .ref x), (1, .int (nI c)), (2, .int (nI w))] [.ref (((aD n d) (aM n)) 0)]
  refine V_astore_n (pc' := 50) [(0, .ref x), (1, .int (nI c)), (2, .int (nI w)), (3, .ref (((aD n d) (aM n)) 0))] [1, 2, 3, 0] X dX5_setColumn_49 rfl (Nat.le_of_ble_eq_true rfl) rfl rfl ?_
  refine V_aload_n (pc' := 51) 0 X dX5_setColumn_50 rfl rfl rfl ?_
  refine V_get (pc' := 54) 0 X F10 rfl rfl dX5_setColumn_51 rfl ?_
  refine V_get (pc' := 57) 10 X F59 rfl rfl dX5_setColumn_54 rfl ?_
  refine V_iload_n (pc' := 58) 1 X dX5_setColumn_57 rfl rfl rfl ?_
  refine V_iload_n (pc' := 59) 2 X dX5_setColumn_58 rfl rfl rfl ?_
  refine V_ws [XB x (a 0) r p (h 0) q, HI G h (aM n + 1) (aD n d), DW G ((aD n d) (aM n)) S, [((a 0), .inr (0, [.ref (a 1), .ref (a 2), .ref (a 3), .ref (a 4), .ref (a 5), .int (nI (S 46)), .int (nI (S 47)), .int (nI (S 48)), .int (nI (S 70)), .int (nI (S 59))])), ((a 1), .inl (G.2 0, 32, .inl (nf S))), ((a 2), .inl (G.2 0, 4, .inl (nf (fun k => S (32 + k))))), ((a 3), .inl (G.2 0, 10, .inl (nf (fun k => S (36 + k))))), ((a 4), .inl (G.2 0, 10, .inl (nf (fun k => S (49 + k))))), ((a 5), .inr (1, [.ref (a 6)])), ((a 6), .inl (G.2 0, 10, .inl (nf (fun k => S (60 + k)))))], HR G (aD n d) (aD n T) (aM n)] rfl ?_
  refine V_iast (pc' := 60) 11 c [XB x (a 0) r p (h 0) q, HI G h (aM n + 1) (aD n d), DW G ((aD n d) (aM n)) S, [((a 0), .inr (0, [.ref (a 1), .ref (a 2), .ref (a 3), .ref (a 4), .ref (a 5), .int (nI (S 46)), .int (nI (S 47)), .int (nI (S 48)), .int (nI (S 70)), .int (nI (S 59))])), ((a 1), .inl (G.2 0, 32, .inl (upd (nf S) c (nI w)))), ((a 2), .inl (G.2 0, 4, .inl (nf (fun k => S (32 + k))))), ((a 3), .inl (G.2 0, 10, .inl (nf (fun k => S (36 + k))))), ((a 4), .inl (G.2 0, 10, .inl (nf (fun k => S (49 + k))))), ((a 5), .inr (1, [.ref (a 6)])), ((a 6), .inl (G.2 0, 10, .inl (nf (fun k => S (60 + k)))))], HR G (aD n d) (aD n T) (aM n)] X rfl (by omega) (by decide) rfl dX5_setColumn_59 rfl ?_
  refine V_ws [XB x (a 0) r p (h 0) q, HI G h (aM n + 1) (aD n d), DW G ((aD n d) (aM n)) S, [((a 0), .inr (0, [.ref (a 1), .ref (a 2), .ref (a 3), .ref (a 4), .ref (a 5), .int (nI (S 46)), .int (nI (S 47)), .int (nI (S 48)), .int (nI (S 70)), .int (nI (S 59))])), ((a 1), .inl (G.2 0, 32, .inl (nf (va_up S c w)))), ((a 2), .inl (G.2 0, 4, .inl (nf (fun k => S (32 + k))))), ((a 3), .inl (G.2 0, 10, .inl (nf (fun k => S (36 + k))))), ((a 4), .inl (G.2 0, 10, .inl (nf (fun k => S (49 + k))))), ((a 5), .inr (1, [.ref (a 6)])), ((a 6), .inl (G.2 0, 10, .inl (nf (fun k => S (60 + k)))))], HR G (aD n d) (aD n T) (aM n)] (by simp only [nf_upd]) ?_
  refine V_wsq [XB x (a 0) r p (h 0) q, HI G h (aM n + 1) (aD n d), DW G ((aD n d) (aM n)) S, DW G a (va_up S c w), HR G (aD n d) (aD n T) (aM n)] (wsq.app (wsq.rf _) (wsq.app (wsq.rf _) (wsq.app (wsq.rf _) (wsq.app (DW_pegs (sameB_up (Nat.zero_le _) hc) (fun _ _ => rfl)) (wsq.rf _))))) ?_
  have hI2 : IV (va_up S c w) := IV_peg hc hw hI
  refine V_aload_n (pc' := 61) 0 X dX5_setColumn_60 rfl rfl rfl ?_
  refine V_get (pc' := 64) 0 X F10 rfl rfl dX5_setColumn_61 rfl ?_
  refine V_aload_n (pc' := 65) 3 X dX5_setColumn_64 rfl rfl rfl ?_
  refine V_callV (pc' := 68) (As := [.ref (((aD n d) (aM n)) 0)]) (st := []) 0 10 [3, 2] [0, 1, 4] (show (List.range 5).Perm ([3, 2] ++ [0, 1, 4]) by decide) X (c_X0_pegsOtherThan l G a (va_up S c w) ((aD n d) (aM n)) S hI2 hI) rfl gX5_setColumn_X0_pegsOtherThan rfl (by decide) rfl rfl rfl (Nat.le_of_ble_eq_true rfl) ⟨Nat.le_of_ble_eq_true rfl, Nat.le_of_ble_eq_true rfl⟩ ⟨Nat.le_of_ble_eq_true rfl, Nat.le_of_ble_eq_true rfl⟩ dX5_setColumn_65 rfl (fun v_ u_ hp_ => ?_)
  obtain ⟨rfl, rfl⟩ := hp_
  show V E G A 4 [XB x (a 0) r p (h 0) q, HI G h (aM n + 1) (aD n d), HR G (aD n d) (aD n T) (aM n), DW G a (va_up S c w), DW G ((aD n d) (aM n)) S] 0 0 Q 68 [(0, .ref x), (1, .int (nI c)), (2, .int (nI w)), (3, .ref (((aD n d) (aM n)) 0))] [.int (nI (sm (fun k => cnt ((va_up S c w) k ^^^ S k)) 32))]
  refine V_ord [0, 1, 4, 3, 2] [XB x (a 0) r p (h 0) q, HI G h (aM n + 1) (aD n d), DW G ((aD n d) (aM n)) S, DW G a (va_up S c w), HR G (aD n d) (aD n T) (aM n)] (show (List.range 5).Perm [0, 1, 4, 3, 2] by decide) rfl ?_
  refine V_ord [0, 3, 1, 2, 4] [XB x (a 0) r p (h 0) q, DW G a (va_up S c w), HI G h (aM n + 1) (aD n d), DW G ((aD n d) (aM n)) S, HR G (aD n d) (aD n T) (aM n)] (show (List.range 5).Perm [0, 3, 1, 2, 4] by decide) rfl ?_
  refine V_join (bs' := [XB x (a 0) r p (h 0) q, DW G a (va_up S c w), HI G h (aM n + 1) (aD n d), HD G (aD n d) (hT n S T)]) 3 rfl (HD_perm' G (aD n d) (aD n T) S (aM_lt hn)) rfl ?_
  exact V_ireturn (v := nI (sm (fun k => cnt ((va_up S c w) k ^^^ S k)) 32)) [XB x (a 0) r p (h 0) q, DW G a (va_up S c w), HI G h (aM n + 1) (aD n d), HD G (aD n d) (hT n S T)] hQ X hrt rfl dX5_setColumn_68 (Nat.le_of_ble_eq_true rfl) (Nat.le_of_ble_eq_true rfl) (List.Perm.refl _) ⟨rfl, rfl⟩

set_option maxHeartbeats 4000000 in
set_option maxRecDepth 100000 in
theorem c_X5_setTempo (l : Launch) (G : gT) (x r p q : Nat) (a S h : Nat → Nat) (n : Nat) (d T : Nat → Nat → Nat) (hn : n ≤ 6) (hI : IV S) (c w : Nat) (hc : c < 4) (hw1 : 1 ≤ w) (hw : w ≤ 9) : CM l G yX5_setTempo wsX5_setTempo 5 127 2 [.ref x, .int (nI c), .int (nI w)] [XB x (a 0) r p (h 0) q, DW G a S, HI G h n d, HD G d T] 0 0 (fun v u => v = some (.int (nI (S (32 + c)))) ∧ u = [XB x (a 0) r p (h 0) q, DW G a (va_up S (32 + c) w), HI G h (aM n + 1) (aD n d), HD G (aD n d) (hT n S T)]) := by
  refine CM_of RX5 4 104 rfl rfl (by decide) (by decide +kernel) (Nat.le_of_ble_eq_true rfl) (fun E A X hrt hnm => ?_)
  have F10 := Fld_of (idx := 10) 5 0 X (by decide) (by decide) (by decide +kernel) (by decide +kernel)
  have F33 := Fld_of (idx := 33) 5 3 X (by decide) (by decide) (by decide +kernel) (by decide +kernel)
  have F85 := Fld_of (idx := 85) 0 1 X (by decide) (by decide) (by decide +kernel) (by decide +kernel)
  generalize hQ : QM E G A _ _ _ = Q
  obtain ⟨i1, i2, i3, i4, i5, i6⟩ := id hI
  show V E G A 4 [XB x (a 0) r p (h 0) q, DW G a S, HI G h n d, HD G d T] 0 0 Q 0 [(0, .ref x), (1, .int (nI c)), (2, .int (nI w))] []
  refine V_iload_n (pc' := 1) 1 X dX5_setTempo_0 rfl rfl rfl ?_
  refine V_callS (pc' := 4) (As := [.int (nI c)]) (st := []) [] [0, 1, 2, 3] (show (List.range 4).Perm ([] ++ [0, 1, 2, 3]) by decide) X (c_X5_isBar1 l G c (by omega)) rfl gX5_setTempo_X5_isBar rfl rfl (Nat.le_of_ble_eq_true rfl) ⟨Nat.le_of_ble_eq_true rfl, Nat.le_of_ble_eq_true rfl⟩ ⟨Nat.le_of_ble_eq_true rfl, Nat.le_of_ble_eq_true rfl⟩ dX5_setTempo_1 rfl (fun v_ u_ hp_ => ?_)
  obtain ⟨rfl, rfl⟩ := hp_
  show V E G A 4 [XB x (a 0) r p (h 0) q, DW G a S, HI G h n d, HD G d T] 0 0 Q 4 [(0, .ref x), (1, .int (nI c)), (2, .int (nI w))] [.int (nI 1)]
  refine V_if_ne (pc' := 7) (C := 1 = 0) 17 X dX5_setTempo_4 (by decide) rfl (z_eq0 (by omega)) (fun _ => ?_) (fun hz => absurd hz (by decide))
  refine V_iload_n (pc' := 18) 2 X dX5_setTempo_17 rfl rfl rfl ?_
  refine V_iconst (pc' := 19) (nI 1) X dX5_setTempo_18 ki_1 rfl ?_
  refine V_icmp_lt (pc' := 22) (C := w < 1) 28 X dX5_setTempo_19 (by decide) rfl (nI_ltI (by omega) (by omega)) (fun hz => absurd hz (by omega)) (fun _ => ?_)
  refine V_iload_n (pc' := 23) 2 X dX5_setTempo_22 rfl rfl rfl ?_
  refine V_bipush (pc' := 25) (nI 9) X dX5_setTempo_23 kb_9 rfl ?_
  refine V_icmp_le (pc' := 28) (C := w ≤ 9) 38 X dX5_setTempo_25 (by decide) rfl (nI_leI (by omega) (by omega)) (fun _ => ?_) (fun hz => absurd (by omega) hz)
  refine V_aload_n (pc' := 39) 0 X dX5_setTempo_38 rfl rfl rfl ?_
  refine V_get (pc' := 42) 0 X F33 rfl rfl dX5_setTempo_39 rfl ?_
  refine V_aload_n (pc' := 43) 0 X dX5_setTempo_42 rfl rfl rfl ?_
  refine V_get (pc' := 46) 0 X F10 rfl rfl dX5_setTempo_43 rfl ?_
  refine V_callV (pc' := 49) (As := [.ref (a 0)]) (st := []) 2 8 [2, 3, 1] [0] (show (List.range 4).Perm ([2, 3, 1] ++ [0]) by decide) X (c_X2_add l G h d T a S n hn) rfl gX5_setTempo_X2_add rfl (by decide) rfl rfl rfl (Nat.le_of_ble_eq_true rfl) ⟨Nat.le_of_ble_eq_true rfl, Nat.le_of_ble_eq_true rfl⟩ ⟨Nat.le_of_ble_eq_true rfl, Nat.le_of_ble_eq_true rfl⟩ dX5_setTempo_46 rfl (fun v_ u_ hp_ => ?_)
  obtain ⟨rfl, rfl⟩ := hp_
  show V E G A 4 [XB x (a 0) r p (h 0) q, HI G h (aM n + 1) (aD n d), DW G ((aD n d) (aM n)) S, DW G a S, HR G (aD n d) (aD n T) (aM n)] 0 0 Q 49 [(0, .ref x), (1, .int (nI c)), (2, .int (nI w))] [.ref (((aD n d) (aM n)) 0)]
  refine V_astore_n (pc' := 50) [(0, .ref x), (1, .int (nI c)), (2, .int (nI w)), (3, .ref (((aD n d) (aM n)) 0))] [1, 2, 3, 0] X dX5_setTempo_49 rfl (Nat.le_of_ble_eq_true rfl) rfl rfl ?_
  refine V_aload_n (pc' := 51) 0 X dX5_setTempo_50 rfl rfl rfl ?_
  refine V_get (pc' := 54) 0 X F10 rfl rfl dX5_setTempo_51 rfl ?_
  refine V_get (pc' := 57) 10 X F85 rfl rfl dX5_setTempo_54 rfl ?_
  refine V_iload_n (pc' := 58) 1 X dX5_setTempo_57 rfl rfl rfl ?_
  refine V_iload_n (pc' := 59) 2 X dX5_setTempo_58 rfl rfl rfl ?_
  refine V_ws [XB x (a 0) r p (h 0) q, HI G h (aM n + 1) (aD n d), DW G ((aD n d) (aM n)) S, [((a 0), .inr (0, [.ref (a 1), .ref (a 2), .ref (a 3), .ref (a 4), .ref (a 5), .int (nI (S 46)), .int (nI (S 47)), .int (nI (S 48)), .int (nI (S 70)), .int (nI (S 59))])), ((a 1), .inl (G.2 0, 32, .inl (nf S))), ((a 2), .inl (G.2 0, 4, .inl (nf (fun k => S (32 + k))))), ((a 3), .inl (G.2 0, 10, .inl (nf (fun k => S (36 + k))))), ((a 4), .inl (G.2 0, 10, .inl (nf (fun k => S (49 + k))))), ((a 5), .inr (1, [.ref (a 6)])), ((a 6), .inl (G.2 0, 10, .inl (nf (fun k => S (60 + k)))))], HR G (aD n d) (aD n T) (aM n)] rfl ?_
  refine V_iast (pc' := 60) 12 c [XB x (a 0) r p (h 0) q, HI G h (aM n + 1) (aD n d), DW G ((aD n d) (aM n)) S, [((a 0), .inr (0, [.ref (a 1), .ref (a 2), .ref (a 3), .ref (a 4), .ref (a 5), .int (nI (S 46)), .int (nI (S 47)), .int (nI (S 48)), .int (nI (S 70)), .int (nI (S 59))])), ((a 1), .inl (G.2 0, 32, .inl (nf S))), ((a 2), .inl (G.2 0, 4, .inl (upd (nf (fun k => S (32 + k))) c (nI w)))), ((a 3), .inl (G.2 0, 10, .inl (nf (fun k => S (36 + k))))), ((a 4), .inl (G.2 0, 10, .inl (nf (fun k => S (49 + k))))), ((a 5), .inr (1, [.ref (a 6)])), ((a 6), .inl (G.2 0, 10, .inl (nf (fun k => S (60 + k)))))], HR G (aD n d) (aD n T) (aM n)] X rfl (by omega) (by decide) rfl dX5_setTempo_59 rfl ?_
  refine V_ws [XB x (a 0) r p (h 0) q, HI G h (aM n + 1) (aD n d), DW G ((aD n d) (aM n)) S, [((a 0), .inr (0, [.ref (a 1), .ref (a 2), .ref (a 3), .ref (a 4), .ref (a 5), .int (nI (S 46)), .int (nI (S 47)), .int (nI (S 48)), .int (nI (S 70)), .int (nI (S 59))])), ((a 1), .inl (G.2 0, 32, .inl (nf S))), ((a 2), .inl (G.2 0, 4, .inl (nf (va_up (fun k => S (32 + k)) c w)))), ((a 3), .inl (G.2 0, 10, .inl (nf (fun k => S (36 + k))))), ((a 4), .inl (G.2 0, 10, .inl (nf (fun k => S (49 + k))))), ((a 5), .inr (1, [.ref (a 6)])), ((a 6), .inl (G.2 0, 10, .inl (nf (fun k => S (60 + k)))))], HR G (aD n d) (aD n T) (aM n)] (by simp only [nf_upd]) ?_
  refine V_aload_n (pc' := 61) 3 X dX5_setTempo_60 rfl rfl rfl ?_
  refine V_get (pc' := 64) 3 X F85 rfl rfl dX5_setTempo_61 rfl ?_
  refine V_iload_n (pc' := 65) 1 X dX5_setTempo_64 rfl rfl rfl ?_
  refine V_iald (pc' := 66) (v := nI (S (32 + c))) 5 c X rfl (by omega) (by decide) rfl dX5_setTempo_65 rfl ?_
  refine V_wsq [XB x (a 0) r p (h 0) q, HI G h (aM n + 1) (aD n d), DW G ((aD n d) (aM n)) S, DW G a (va_up S (32 + c) w), HR G (aD n d) (aD n T) (aM n)] (wsq.app (wsq.rf _) (wsq.app (wsq.rf _) (wsq.app (wsq.rf _) (wsq.app (DW_tempos (sameB_up (by omega) (by omega)) (fun k _ => congrArg nI up_row)) (wsq.rf _))))) ?_
  refine V_ord [0, 3, 1, 2, 4] [XB x (a 0) r p (h 0) q, DW G a (va_up S (32 + c) w), HI G h (aM n + 1) (aD n d), DW G ((aD n d) (aM n)) S, HR G (aD n d) (aD n T) (aM n)] (show (List.range 5).Perm [0, 3, 1, 2, 4] by decide) rfl ?_
  refine V_join (bs' := [XB x (a 0) r p (h 0) q, DW G a (va_up S (32 + c) w), HI G h (aM n + 1) (aD n d), HD G (aD n d) (hT n S T)]) 3 rfl (HD_perm' G (aD n d) (aD n T) S (aM_lt hn)) rfl ?_
  exact V_ireturn (v := nI (S (32 + c))) [XB x (a 0) r p (h 0) q, DW G a (va_up S (32 + c) w), HI G h (aM n + 1) (aD n d), HD G (aD n d) (hT n S T)] hQ X hrt rfl dX5_setTempo_66 (Nat.le_of_ble_eq_true rfl) (Nat.le_of_ble_eq_true rfl) (List.Perm.refl _) ⟨rfl, rfl⟩

set_option maxHeartbeats 4000000 in
set_option maxRecDepth 100000 in
theorem c_X5_setWeight (l : Launch) (G : gT) (x r p q : Nat) (a S h : Nat → Nat) (n : Nat) (d T : Nat → Nat → Nat) (hn : n ≤ 6) (hI : IV S) (c w : Nat) (hc : c < 10) (hw1 : 1 ≤ w) (hw : w ≤ 60) : CM l G yX5_setWeight wsX5_setWeight 5 127 2 [.ref x, .int (nI c), .int (nI w)] [XB x (a 0) r p (h 0) q, DW G a S, HI G h n d, HD G d T] 0 0 (fun v u => v = some (.int (nI (S (36 + c)))) ∧ u = [XB x (a 0) r p (h 0) q, DW G a (va_up S (36 + c) w), HI G h (aM n + 1) (aD n d), HD G (aD n d) (hT n S T)]) := by
  refine CM_of RX5 4 104 rfl rfl (by decide) (by decide +kernel) (Nat.le_of_ble_eq_true rfl) (fun E A X hrt hnm => ?_)
  have F10 := Fld_of (idx := 10) 5 0 X (by decide) (by decide) (by decide +kernel) (by decide +kernel)
  have F33 := Fld_of (idx := 33) 5 3 X (by decide) (by decide) (by decide +kernel) (by decide +kernel)
  have F92 := Fld_of (idx := 92) 0 2 X (by decide) (by decide) (by decide +kernel) (by decide +kernel)
  generalize hQ : QM E G A _ _ _ = Q
  obtain ⟨i1, i2, i3, i4, i5, i6⟩ := id hI
  show V E G A 4 [XB x (a 0) r p (h 0) q, DW G a S, HI G h n d, HD G d T] 0 0 Q 0 [(0, .ref x), (1, .int (nI c)), (2, .int (nI w))] []
  refine V_iload_n (pc' := 1) 1 X dX5_setWeight_0 rfl rfl rfl ?_
  refine V_callS (pc' := 4) (As := [.int (nI c)]) (st := []) [] [0, 1, 2, 3] (show (List.range 4).Perm ([] ++ [0, 1, 2, 3]) by decide) X (c_X5_isBell1 l G c (by omega)) rfl gX5_setWeight_X5_isBell rfl rfl (Nat.le_of_ble_eq_true rfl) ⟨Nat.le_of_ble_eq_true rfl, Nat.le_of_ble_eq_true rfl⟩ ⟨Nat.le_of_ble_eq_true rfl, Nat.le_of_ble_eq_true rfl⟩ dX5_setWeight_1 rfl (fun v_ u_ hp_ => ?_)
  obtain ⟨rfl, rfl⟩ := hp_
  show V E G A 4 [XB x (a 0) r p (h 0) q, DW G a S, HI G h n d, HD G d T] 0 0 Q 4 [(0, .ref x), (1, .int (nI c)), (2, .int (nI w))] [.int (nI 1)]
  refine V_if_ne (pc' := 7) (C := 1 = 0) 17 X dX5_setWeight_4 (by decide) rfl (z_eq0 (by omega)) (fun _ => ?_) (fun hz => absurd hz (by decide))
  refine V_iload_n (pc' := 18) 2 X dX5_setWeight_17 rfl rfl rfl ?_
  refine V_iconst (pc' := 19) (nI 1) X dX5_setWeight_18 ki_1 rfl ?_
  refine V_icmp_lt (pc' := 22) (C := w < 1) 28 X dX5_setWeight_19 (by decide) rfl (nI_ltI (by omega) (by omega)) (fun hz => absurd hz (by omega)) (fun _ => ?_)
  refine V_iload_n (pc' := 23) 2 X dX5_setWeight_22 rfl rfl rfl ?_
  refine V_bipush (pc' := 25) (nI 60) X dX5_setWeight_23 kb_60 rfl ?_
  refine V_icmp_le (pc' := 28) (C := w ≤ 60) 38 X dX5_setWeight_25 (by decide) rfl (nI_leI (by omega) (by omega)) (fun _ => ?_) (fun hz => absurd (by omega) hz)
  refine V_aload_n (pc' := 39) 0 X dX5_setWeight_38 rfl rfl rfl ?_
  refine V_get (pc' := 42) 0 X F33 rfl rfl dX5_setWeight_39 rfl ?_
  refine V_aload_n (pc' := 43) 0 X dX5_setWeight_42 rfl rfl rfl ?_
  refine V_get (pc' := 46) 0 X F10 rfl rfl dX5_setWeight_43 rfl ?_
  refine V_callV (pc' := 49) (As := [.ref (a 0)]) (st := []) 2 8 [2, 3, 1] [0] (show (List.range 4).Perm ([2, 3, 1] ++ [0]) by decide) X (c_X2_add l G h d T a S n hn) rfl gX5_setWeight_X2_add rfl (by decide) rfl rfl rfl (Nat.le_of_ble_eq_true rfl) ⟨Nat.le_of_ble_eq_true rfl, Nat.le_of_ble_eq_true rfl⟩ ⟨Nat.le_of_ble_eq_true rfl, Nat.le_of_ble_eq_true rfl⟩ dX5_setWeight_46 rfl (fun v_ u_ hp_ => ?_)
  obtain ⟨rfl, rfl⟩ := hp_
  show V E G A 4 [XB x (a 0) r p (h 0) q, HI G h (aM n + 1) (aD n d), DW G ((aD n d) (aM n)) S, DW G a S, HR G (aD n d) (aD n T) (aM n)] 0 0 Q 49 [(0, .ref x), (1, .int (nI c)), (2, .int (nI w))] [.ref (((aD n d) (aM n)) 0)]
  refine V_astore_n (pc' := 50) [(0, .ref x), (1, .int (nI c)), (2, .int (nI w)), (3, .ref (((aD n d) (aM n)) 0))] [1, 2, 3, 0] X dX5_setWeight_49 rfl (Nat.le_of_ble_eq_true rfl) rfl rfl ?_
  refine V_aload_n (pc' := 51) 0 X dX5_setWeight_50 rfl rfl rfl ?_
  refine V_get (pc' := 54) 0 X F10 rfl rfl dX5_setWeight_51 rfl ?_
  refine V_get (pc' := 57) 10 X F92 rfl rfl dX5_setWeight_54 rfl ?_
  refine V_iload_n (pc' := 58) 1 X dX5_setWeight_57 rfl rfl rfl ?_
  refine V_iload_n (pc' := 59) 2 X dX5_setWeight_58 rfl rfl rfl ?_
  refine V_ws [XB x (a 0) r p (h 0) q, HI G h (aM n + 1) (aD n d), DW G ((aD n d) (aM n)) S, [((a 0), .inr (0, [.ref (a 1), .ref (a 2), .ref (a 3), .ref (a 4), .ref (a 5), .int (nI (S 46)), .int (nI (S 47)), .int (nI (S 48)), .int (nI (S 70)), .int (nI (S 59))])), ((a 1), .inl (G.2 0, 32, .inl (nf S))), ((a 2), .inl (G.2 0, 4, .inl (nf (fun k => S (32 + k))))), ((a 3), .inl (G.2 0, 10, .inl (nf (fun k => S (36 + k))))), ((a 4), .inl (G.2 0, 10, .inl (nf (fun k => S (49 + k))))), ((a 5), .inr (1, [.ref (a 6)])), ((a 6), .inl (G.2 0, 10, .inl (nf (fun k => S (60 + k)))))], HR G (aD n d) (aD n T) (aM n)] rfl ?_
  refine V_iast (pc' := 60) 13 c [XB x (a 0) r p (h 0) q, HI G h (aM n + 1) (aD n d), DW G ((aD n d) (aM n)) S, [((a 0), .inr (0, [.ref (a 1), .ref (a 2), .ref (a 3), .ref (a 4), .ref (a 5), .int (nI (S 46)), .int (nI (S 47)), .int (nI (S 48)), .int (nI (S 70)), .int (nI (S 59))])), ((a 1), .inl (G.2 0, 32, .inl (nf S))), ((a 2), .inl (G.2 0, 4, .inl (nf (fun k => S (32 + k))))), ((a 3), .inl (G.2 0, 10, .inl (upd (nf (fun k => S (36 + k))) c (nI w)))), ((a 4), .inl (G.2 0, 10, .inl (nf (fun k => S (49 + k))))), ((a 5), .inr (1, [.ref (a 6)])), ((a 6), .inl (G.2 0, 10, .inl (nf (fun k => S (60 + k)))))], HR G (aD n d) (aD n T) (aM n)] X rfl (by omega) (by decide) rfl dX5_setWeight_59 rfl ?_
  refine V_ws [XB x (a 0) r p (h 0) q, HI G h (aM n + 1) (aD n d), DW G ((aD n d) (aM n)) S, [((a 0), .inr (0, [.ref (a 1), .ref (a 2), .ref (a 3), .ref (a 4), .ref (a 5), .int (nI (S 46)), .int (nI (S 47)), .int (nI (S 48)), .int (nI (S 70)), .int (nI (S 59))])), ((a 1), .inl (G.2 0, 32, .inl (nf S))), ((a 2), .inl (G.2 0, 4, .inl (nf (fun k => S (32 + k))))), ((a 3), .inl (G.2 0, 10, .inl (nf (va_up (fun k => S (36 + k)) c w)))), ((a 4), .inl (G.2 0, 10, .inl (nf (fun k => S (49 + k))))), ((a 5), .inr (1, [.ref (a 6)])), ((a 6), .inl (G.2 0, 10, .inl (nf (fun k => S (60 + k)))))], HR G (aD n d) (aD n T) (aM n)] (by simp only [nf_upd]) ?_
  refine V_aload_n (pc' := 61) 3 X dX5_setWeight_60 rfl rfl rfl ?_
  refine V_get (pc' := 64) 3 X F92 rfl rfl dX5_setWeight_61 rfl ?_
  refine V_iload_n (pc' := 65) 1 X dX5_setWeight_64 rfl rfl rfl ?_
  refine V_iald (pc' := 66) (v := nI (S (36 + c))) 6 c X rfl (by omega) (by decide) rfl dX5_setWeight_65 rfl ?_
  refine V_wsq [XB x (a 0) r p (h 0) q, HI G h (aM n + 1) (aD n d), DW G ((aD n d) (aM n)) S, DW G a (va_up S (36 + c) w), HR G (aD n d) (aD n T) (aM n)] (wsq.app (wsq.rf _) (wsq.app (wsq.rf _) (wsq.app (wsq.rf _) (wsq.app (DW_weights (sameB_up (by omega) (by omega)) (fun k _ => congrArg nI up_row)) (wsq.rf _))))) ?_
  refine V_ord [0, 3, 1, 2, 4] [XB x (a 0) r p (h 0) q, DW G a (va_up S (36 + c) w), HI G h (aM n + 1) (aD n d), DW G ((aD n d) (aM n)) S, HR G (aD n d) (aD n T) (aM n)] (show (List.range 5).Perm [0, 3, 1, 2, 4] by decide) rfl ?_
  refine V_join (bs' := [XB x (a 0) r p (h 0) q, DW G a (va_up S (36 + c) w), HI G h (aM n + 1) (aD n d), HD G (aD n d) (hT n S T)]) 3 rfl (HD_perm' G (aD n d) (aD n T) S (aM_lt hn)) rfl ?_
  exact V_ireturn (v := nI (S (36 + c))) [XB x (a 0) r p (h 0) q, DW G a (va_up S (36 + c) w), HI G h (aM n + 1) (aD n d), HD G (aD n d) (hT n S T)] hQ X hrt rfl dX5_setWeight_66 (Nat.le_of_ble_eq_true rfl) (Nat.le_of_ble_eq_true rfl) (List.Perm.refl _) ⟨rfl, rfl⟩

set_option maxHeartbeats 4000000 in
set_option maxRecDepth 100000 in
theorem c_X5_setBound (l : Launch) (G : gT) (x r p q : Nat) (a S h : Nat → Nat) (n : Nat) (d T : Nat → Nat → Nat) (hn : n ≤ 6) (hI : IV S) (w : Nat) (hw1 : 1 ≤ w) (hw : w ≤ 300) : CM l G yX5_setBound wsX5_setBound 5 126 1 [.ref x, .int (nI w)] [XB x (a 0) r p (h 0) q, DW G a S, HI G h n d, HD G d T] 0 0 (fun v u => v = some (.int (nI (S 46))) ∧ u = [XB x (a 0) r p (h 0) q, DW G a (va_up S 46 w), HI G h (aM n + 1) (aD n d), HD G (aD n d) (hT n S T)]) := by
  refine CM_of RX5 4 104 rfl rfl (by decide) (by decide +kernel) (Nat.le_of_ble_eq_true rfl) (fun E A X hrt hnm => ?_)
  have F10 := Fld_of (idx := 10) 5 0 X (by decide) (by decide) (by decide +kernel) (by decide +kernel)
  have F33 := Fld_of (idx := 33) 5 3 X (by decide) (by decide) (by decide +kernel) (by decide +kernel)
  have F97 := Fld_of (idx := 97) 0 5 X (by decide) (by decide) (by decide +kernel) (by decide +kernel)
  generalize hQ : QM E G A _ _ _ = Q
  obtain ⟨i1, i2, i3, i4, i5, i6⟩ := id hI
  show V E G A 3 [XB x (a 0) r p (h 0) q, DW G a S, HI G h n d, HD G d T] 0 0 Q 0 [(0, .ref x), (1, .int (nI w))] []
  refine V_iload_n (pc' := 1) 1 X dX5_setBound_0 rfl rfl rfl ?_
  refine V_iconst (pc' := 2) (nI 1) X dX5_setBound_1 ki_1 rfl ?_
  refine V_icmp_lt (pc' := 5) (C := w < 1) 12 X dX5_setBound_2 (by decide) rfl (nI_ltI (by omega) (by omega)) (fun hz => absurd hz (by omega)) (fun _ => ?_)
  refine V_iload_n (pc' := 6) 1 X dX5_setBound_5 rfl rfl rfl ?_
  refine V_sipush (pc' := 9) (nI 300) X dX5_setBound_6 ks_300 rfl ?_
  refine V_icmp_le (pc' := 12) (C := w ≤ 300) 22 X dX5_setBound_9 (by decide) rfl (nI_leI (by omega) (by omega)) (fun _ => ?_) (fun hz => absurd (by omega) hz)
  refine V_aload_n (pc' := 23) 0 X dX5_setBound_22 rfl rfl rfl ?_
  refine V_get (pc' := 26) 0 X F33 rfl rfl dX5_setBound_23 rfl ?_
  refine V_aload_n (pc' := 27) 0 X dX5_setBound_26 rfl rfl rfl ?_
  refine V_get (pc' := 30) 0 X F10 rfl rfl dX5_setBound_27 rfl ?_
  refine V_callV (pc' := 33) (As := [.ref (a 0)]) (st := []) 2 8 [2, 3, 1] [0] (show (List.range 4).Perm ([2, 3, 1] ++ [0]) by decide) X (c_X2_add l G h d T a S n hn) rfl gX5_setBound_X2_add rfl (by decide) rfl rfl rfl (Nat.le_of_ble_eq_true rfl) ⟨Nat.le_of_ble_eq_true rfl, Nat.le_of_ble_eq_true rfl⟩ ⟨Nat.le_of_ble_eq_true rfl, Nat.le_of_ble_eq_true rfl⟩ dX5_setBound_30 rfl (fun v_ u_ hp_ => ?_)
  obtain ⟨rfl, rfl⟩ := hp_
  show V E G A 3 [XB x (a 0) r p (h 0) q, HI G h (aM n + 1) (aD n d), DW G ((aD n d) (aM n)) S, DW G a S, HR G (aD n d) (aD n T) (aM n)] 0 0 Q 33 [(0, .ref x), (1, .int (nI w))] [.ref (((aD n d) (aM n)) 0)]
  refine V_astore_n (pc' := 34) [(0, .ref x), (1, .int (nI w)), (2, .ref (((aD n d) (aM n)) 0))] [1, 2, 0] X dX5_setBound_33 rfl (Nat.le_of_ble_eq_true rfl) rfl rfl ?_
  refine V_aload_n (pc' := 35) 0 X dX5_setBound_34 rfl rfl rfl ?_
  refine V_get (pc' := 38) 0 X F10 rfl rfl dX5_setBound_35 rfl ?_
  refine V_iload_n (pc' := 39) 1 X dX5_setBound_38 rfl rfl rfl ?_
  refine V_ws [XB x (a 0) r p (h 0) q, HI G h (aM n + 1) (aD n d), DW G ((aD n d) (aM n)) S, [((a 0), .inr (0, [.ref (a 1), .ref (a 2), .ref (a 3), .ref (a 4), .ref (a 5), .int (nI (S 46)), .int (nI (S 47)), .int (nI (S 48)), .int (nI (S 70)), .int (nI (S 59))])), ((a 1), .inl (G.2 0, 32, .inl (nf S))), ((a 2), .inl (G.2 0, 4, .inl (nf (fun k => S (32 + k))))), ((a 3), .inl (G.2 0, 10, .inl (nf (fun k => S (36 + k))))), ((a 4), .inl (G.2 0, 10, .inl (nf (fun k => S (49 + k))))), ((a 5), .inr (1, [.ref (a 6)])), ((a 6), .inl (G.2 0, 10, .inl (nf (fun k => S (60 + k)))))], HR G (aD n d) (aD n T) (aM n)] rfl ?_
  refine V_put (pc' := 42) 10 [XB x (a 0) r p (h 0) q, HI G h (aM n + 1) (aD n d), DW G ((aD n d) (aM n)) S, [((a 0), .inr (0, [.ref (a 1), .ref (a 2), .ref (a 3), .ref (a 4), .ref (a 5), .int (nI w), .int (nI (S 47)), .int (nI (S 48)), .int (nI (S 70)), .int (nI (S 59))])), ((a 1), .inl (G.2 0, 32, .inl (nf S))), ((a 2), .inl (G.2 0, 4, .inl (nf (fun k => S (32 + k))))), ((a 3), .inl (G.2 0, 10, .inl (nf (fun k => S (36 + k))))), ((a 4), .inl (G.2 0, 10, .inl (nf (fun k => S (49 + k))))), ((a 5), .inr (1, [.ref (a 6)])), ((a 6), .inl (G.2 0, 10, .inl (nf (fun k => S (60 + k)))))], HR G (aD n d) (aD n T) (aM n)] X F97 rfl rfl rfl rfl (Nat.le_of_ble_eq_true rfl) rfl dX5_setBound_39 rfl ?_
  refine V_aload_n (pc' := 43) 2 X dX5_setBound_42 rfl rfl rfl ?_
  refine V_get (pc' := 46) 3 X F97 rfl rfl dX5_setBound_43 rfl ?_
  refine V_wsq [XB x (a 0) r p (h 0) q, HI G h (aM n + 1) (aD n d), DW G ((aD n d) (aM n)) S, DW G a (va_up S 46 w), HR G (aD n d) (aD n T) (aM n)] (wsq.app (wsq.rf _) (wsq.app (wsq.rf _) (wsq.app (wsq.rf _) (wsq.app (DW_bound (sameB_up (by decide) (by decide)) rfl) (wsq.rf _))))) ?_
  refine V_ord [0, 3, 1, 2, 4] [XB x (a 0) r p (h 0) q, DW G a (va_up S 46 w), HI G h (aM n + 1) (aD n d), DW G ((aD n d) (aM n)) S, HR G (aD n d) (aD n T) (aM n)] (show (List.range 5).Perm [0, 3, 1, 2, 4] by decide) rfl ?_
  refine V_join (bs' := [XB x (a 0) r p (h 0) q, DW G a (va_up S 46 w), HI G h (aM n + 1) (aD n d), HD G (aD n d) (hT n S T)]) 3 rfl (HD_perm' G (aD n d) (aD n T) S (aM_lt hn)) rfl ?_
  exact V_ireturn (v := nI (S 46)) [XB x (a 0) r p (h 0) q, DW G a (va_up S 46 w), HI G h (aM n + 1) (aD n d), HD G (aD n d) (hT n S T)] hQ X hrt rfl dX5_setBound_46 (Nat.le_of_ble_eq_true rfl) (Nat.le_of_ble_eq_true rfl) (List.Perm.refl _) ⟨rfl, rfl⟩

set_option maxHeartbeats 4000000 in
set_option maxRecDepth 100000 in
theorem c_X5_turnRound (l : Launch) (G : gT) (x r p q : Nat) (a S h : Nat → Nat) (n : Nat) (d T : Nat → Nat → Nat) (hn : n ≤ 6) (hI : IV S) : CM l G yX5_turnRound wsX5_turnRound 5 126 0 [.ref x] [XB x (a 0) r p (h 0) q, DW G a S, HI G h n d, HD G d T] 0 0 (fun v u => v = some (.int (nI (sm (fun k => cnt (trn S k ^^^ S k)) 32))) ∧ u = [XB x (a 0) r p (h 0) q, DW G a (trn S), HI G h (aM n + 1) (aD n d), HD G (aD n d) (hT n S T)]) := by
  refine CM_of RX5 4 104 rfl rfl (by decide) (by decide +kernel) (Nat.le_of_ble_eq_true rfl) (fun E A X hrt hnm => ?_)
  have F10 := Fld_of (idx := 10) 5 0 X (by decide) (by decide) (by decide +kernel) (by decide +kernel)
  have F33 := Fld_of (idx := 33) 5 3 X (by decide) (by decide) (by decide +kernel) (by decide +kernel)
  have F59 := Fld_of (idx := 59) 0 0 X (by decide) (by decide) (by decide +kernel) (by decide +kernel)
  generalize hQ : QM E G A _ _ _ = Q
  obtain ⟨i1, i2, i3, i4, i5, i6⟩ := id hI
  show V E G A 3 [XB x (a 0) r p (h 0) q, DW G a S, HI G h n d, HD G d T] 0 0 Q 0 [(0, .ref x)] []
  refine V_aload_n (pc' := 1) 0 X dX5_turnRound_0 rfl rfl rfl ?_
  refine V_get (pc' := 4) 0 X F33 rfl rfl dX5_turnRound_1 rfl ?_
  refine V_aload_n (pc' := 5) 0 X dX5_turnRound_4 rfl rfl rfl ?_
  refine V_get (pc' := 8) 0 X F10 rfl rfl dX5_turnRound_5 rfl ?_
  refine V_callV (pc' := 11) (As := [.ref (a 0)]) (st := []) 2 8 [2, 3, 1] [0] (show (List.range 4).Perm ([2, 3, 1] ++ [0]) by decide) X (c_X2_add l G h d T a S n hn) rfl gX5_turnRound_X2_add rfl (by decide) rfl rfl rfl (Nat.le_of_ble_eq_true rfl) ⟨Nat.le_of_ble_eq_true rfl, Nat.le_of_ble_eq_true rfl⟩ ⟨Nat.le_of_ble_eq_true rfl, Nat.le_of_ble_eq_true rfl⟩ dX5_turnRound_8 rfl (fun v_ u_ hp_ => ?_)
  obtain ⟨rfl, rfl⟩ := hp_
  show V E G A 3 [XB x (a 0) r p (h 0) q, HI G h (aM n + 1) (aD n d), DW G ((aD n d) (aM n)) S, DW G a S, HR G (aD n d) (aD n T) (aM n)] 0 0 Q 11 [(0, .ref x)] [.ref (((aD n d) (aM n)) 0)]
  refine V_astore_n (pc' := 12) [(0, .ref x), (1, .ref (((aD n d) (aM n)) 0))] [1, 0] X dX5_turnRound_11 rfl (Nat.le_of_ble_eq_true rfl) rfl rfl ?_
  refine V_iconst (pc' := 13) (nI 0) X dX5_turnRound_12 ki_0 rfl ?_
  refine V_istore_n (pc' := 14) [(0, .ref x), (1, .ref (((aD n d) (aM n)) 0)), (2, .int (nI 0))] [1, 2, 0] X dX5_turnRound_13 rfl (Nat.le_of_ble_eq_true rfl) rfl rfl ?_
  refine V_ws [XB x (a 0) r p (h 0) q, HI G h (aM n + 1) (aD n d), DW G ((aD n d) (aM n)) S, [((a 0), .inr (0, [.ref (a 1), .ref (a 2), .ref (a 3), .ref (a 4), .ref (a 5), .int (nI (S 46)), .int (nI (S 47)), .int (nI (S 48)), .int (nI (S 70)), .int (nI (S 59))])), ((a 1), .inl (G.2 0, 32, .inl (nf S))), ((a 2), .inl (G.2 0, 4, .inl (nf (fun k => S (32 + k))))), ((a 3), .inl (G.2 0, 10, .inl (nf (fun k => S (36 + k))))), ((a 4), .inl (G.2 0, 10, .inl (nf (fun k => S (49 + k))))), ((a 5), .inr (1, [.ref (a 6)])), ((a 6), .inl (G.2 0, 10, .inl (nf (fun k => S (60 + k)))))], HR G (aD n d) (aD n T) (aM n)] rfl ?_
  refine V_wsq [XB x (a 0) r p (h 0) q, HI G h (aM n + 1) (aD n d), DW G ((aD n d) (aM n)) S, [((a 0), .inr (0, [.ref (a 1), .ref (a 2), .ref (a 3), .ref (a 4), .ref (a 5), .int (nI (S 46)), .int (nI (S 47)), .int (nI (S 48)), .int (nI (S 70)), .int (nI (S 59))])), ((a 1), .inl (G.2 0, 32, .inl (nf (trF S 0)))), ((a 2), .inl (G.2 0, 4, .inl (nf (fun k => S (32 + k))))), ((a 3), .inl (G.2 0, 10, .inl (nf (fun k => S (36 + k))))), ((a 4), .inl (G.2 0, 10, .inl (nf (fun k => S (49 + k))))), ((a 5), .inr (1, [.ref (a 6)])), ((a 6), .inl (G.2 0, 10, .inl (nf (fun k => S (60 + k)))))], HR G (aD n d) (aD n T) (aM n)] (wsq.app (wsq.rf _) (wsq.app (wsq.rf _) (wsq.app (wsq.rf _) (wsq.cons (weq.rf _) (wsq.cons (weq.row (fun k hk => congrArg nI (if_neg (Nat.not_lt_zero _)).symm)) (wsq.cons (weq.rf _) (wsq.cons (weq.rf _) (wsq.cons (weq.rf _) (wsq.cons (weq.rf _) (wsq.cons (weq.rf _) (wsq.rf _))))))))))) ?_
  have lp_1 : ∀ i, i ≤ 32 → V E G A 3 [XB x (a 0) r p (h 0) q, HI G h (aM n + 1) (aD n d), DW G ((aD n d) (aM n)) S, [((a 0), .inr (0, [.ref (a 1), .ref (a 2), .ref (a 3), .ref (a 4), .ref (a 5), .int (nI (S 46)), .int (nI (S 47)), .int (nI (S 48)), .int (nI (S 70)), .int (nI (S 59))])), ((a 1), .inl (G.2 0, 32, .inl (nf (trF S i)))), ((a 2), .inl (G.2 0, 4, .inl (nf (fun k => S (32 + k))))), ((a 3), .inl (G.2 0, 10, .inl (nf (fun k => S (36 + k))))), ((a 4), .inl (G.2 0, 10, .inl (nf (fun k => S (49 + k))))), ((a 5), .inr (1, [.ref (a 6)])), ((a 6), .inl (G.2 0, 10, .inl (nf (fun k => S (60 + k)))))], HR G (aD n d) (aD n T) (aM n)] 0 0 Q 14 [(0, .ref x), (1, .ref (((aD n d) (aM n)) 0)), (2, .int (nI i))] [] := by
    refine loopD 32 ?_ ?_
    · show V E G A 3 [XB x (a 0) r p (h 0) q, HI G h (aM n + 1) (aD n d), DW G ((aD n d) (aM n)) S, [((a 0), .inr (0, [.ref (a 1), .ref (a 2), .ref (a 3), .ref (a 4), .ref (a 5), .int (nI (S 46)), .int (nI (S 47)), .int (nI (S 48)), .int (nI (S 70)), .int (nI (S 59))])), ((a 1), .inl (G.2 0, 32, .inl (nf (trF S 32)))), ((a 2), .inl (G.2 0, 4, .inl (nf (fun k => S (32 + k))))), ((a 3), .inl (G.2 0, 10, .inl (nf (fun k => S (36 + k))))), ((a 4), .inl (G.2 0, 10, .inl (nf (fun k => S (49 + k))))), ((a 5), .inr (1, [.ref (a 6)])), ((a 6), .inl (G.2 0, 10, .inl (nf (fun k => S (60 + k)))))], HR G (aD n d) (aD n T) (aM n)] 0 0 Q 14 [(0, .ref x), (1, .ref (((aD n d) (aM n)) 0)), (2, .int (nI 32))] []
      refine V_iload_n (pc' := 15) 2 X dX5_turnRound_14 rfl rfl rfl ?_
      refine V_bipush (pc' := 17) (nI 32) X dX5_turnRound_15 kb_32 rfl ?_
      refine V_icmp_ge (pc' := 20) (C := 32 ≤ 32) 44 X dX5_turnRound_17 (by decide) rfl (nI_leI (by omega) (by omega)) (fun _ => ?_) (fun hz => absurd (by omega) hz)
      refine V_wsq [XB x (a 0) r p (h 0) q, HI G h (aM n + 1) (aD n d), DW G ((aD n d) (aM n)) S, DW G a (trn S), HR G (aD n d) (aD n T) (aM n)] (wsq.app (wsq.rf _) (wsq.app (wsq.rf _) (wsq.app (wsq.rf _) (wsq.app (DW_pegs (sameB_trn S) (fun k hk => congrArg nI (by unfold trF trn; rw [if_pos (by omega), if_pos hk]))) (wsq.rf _))))) ?_
      have hI2 : IV (trn S) := IV_pegs (sameB_trn S) (fun k hk => by unfold trn; rw [if_pos hk]; exact i1 _ (by omega)) hI
      refine V_aload_n (pc' := 45) 0 X dX5_turnRound_44 rfl rfl rfl ?_
      refine V_get (pc' := 48) 0 X F10 rfl rfl dX5_turnRound_45 rfl ?_
      refine V_aload_n (pc' := 49) 1 X dX5_turnRound_48 rfl rfl rfl ?_
      refine V_callV (pc' := 52) (As := [.ref (((aD n d) (aM n)) 0)]) (st := []) 0 10 [3, 2] [0, 1, 4] (show (List.range 5).Perm ([3, 2] ++ [0, 1, 4]) by decide) X (c_X0_pegsOtherThan l G a (trn S) ((aD n d) (aM n)) S hI2 hI) rfl gX5_turnRound_X0_pegsOtherThan rfl (by decide) rfl rfl rfl (Nat.le_of_ble_eq_true rfl) ⟨Nat.le_of_ble_eq_true rfl, Nat.le_of_ble_eq_true rfl⟩ ⟨Nat.le_of_ble_eq_true rfl, Nat.le_of_ble_eq_true rfl⟩ dX5_turnRound_49 rfl (fun v_ u_ hp_ => ?_)
      obtain ⟨rfl, rfl⟩ := hp_
      show V E G A 3 [XB x (a 0) r p (h 0) q, HI G h (aM n + 1) (aD n d), HR G (aD n d) (aD n T) (aM n), DW G a (trn S), DW G ((aD n d) (aM n)) S] 0 0 Q 52 [(0, .ref x), (1, .ref (((aD n d) (aM n)) 0)), (2, .int (nI 32))] [.int (nI (sm (fun k => cnt ((trn S) k ^^^ S k)) 32))]
      refine V_ord [0, 1, 4, 3, 2] [XB x (a 0) r p (h 0) q, HI G h (aM n + 1) (aD n d), DW G ((aD n d) (aM n)) S, DW G a (trn S), HR G (aD n d) (aD n T) (aM n)] (show (List.range 5).Perm [0, 1, 4, 3, 2] by decide) rfl ?_
      refine V_ord [0, 3, 1, 2, 4] [XB x (a 0) r p (h 0) q, DW G a (trn S), HI G h (aM n + 1) (aD n d), DW G ((aD n d) (aM n)) S, HR G (aD n d) (aD n T) (aM n)] (show (List.range 5).Perm [0, 3, 1, 2, 4] by decide) rfl ?_
      refine V_join (bs' := [XB x (a 0) r p (h 0) q, DW G a (trn S), HI G h (aM n + 1) (aD n d), HD G (aD n d) (hT n S T)]) 3 rfl (HD_perm' G (aD n d) (aD n T) S (aM_lt hn)) rfl ?_
      exact V_ireturn (v := nI (sm (fun k => cnt ((trn S) k ^^^ S k)) 32)) [XB x (a 0) r p (h 0) q, DW G a (trn S), HI G h (aM n + 1) (aD n d), HD G (aD n d) (hT n S T)] hQ X hrt rfl dX5_turnRound_52 (Nat.le_of_ble_eq_true rfl) (Nat.le_of_ble_eq_true rfl) (List.Perm.refl _) ⟨rfl, rfl⟩
    · intro i hi_i ih
      show V E G A 3 [XB x (a 0) r p (h 0) q, HI G h (aM n + 1) (aD n d), DW G ((aD n d) (aM n)) S, [((a 0), .inr (0, [.ref (a 1), .ref (a 2), .ref (a 3), .ref (a 4), .ref (a 5), .int (nI (S 46)), .int (nI (S 47)), .int (nI (S 48)), .int (nI (S 70)), .int (nI (S 59))])), ((a 1), .inl (G.2 0, 32, .inl (nf (trF S i)))), ((a 2), .inl (G.2 0, 4, .inl (nf (fun k => S (32 + k))))), ((a 3), .inl (G.2 0, 10, .inl (nf (fun k => S (36 + k))))), ((a 4), .inl (G.2 0, 10, .inl (nf (fun k => S (49 + k))))), ((a 5), .inr (1, [.ref (a 6)])), ((a 6), .inl (G.2 0, 10, .inl (nf (fun k => S (60 + k)))))], HR G (aD n d) (aD n T) (aM n)] 0 0 Q 14 [(0, .ref x), (1, .ref (((aD n d) (aM n)) 0)), (2, .int (nI i))] []
      refine V_iload_n (pc' := 15) 2 X dX5_turnRound_14 rfl rfl rfl ?_
      refine V_bipush (pc' := 17) (nI 32) X dX5_turnRound_15 kb_32 rfl ?_
      refine V_icmp_ge (pc' := 20) (C := 32 ≤ i) 44 X dX5_turnRound_17 (by decide) rfl (nI_leI (by omega) (by omega)) (fun hz => absurd hz (by omega)) (fun _ => ?_)
      refine V_aload_n (pc' := 21) 0 X dX5_turnRound_20 rfl rfl rfl ?_
      refine V_get (pc' := 24) 0 X F10 rfl rfl dX5_turnRound_21 rfl ?_
      refine V_get (pc' := 27) 10 X F59 rfl rfl dX5_turnRound_24 rfl ?_
      refine V_bipush (pc' := 29) (nI 31) X dX5_turnRound_27 kb_31 rfl ?_
      refine V_iload_n (pc' := 30) 2 X dX5_turnRound_29 rfl rfl rfl ?_
      refine V_isub (pc' := 31) (nI (31 - i)) X dX5_turnRound_30 (pk_sub (by omega)) rfl ?_
      refine V_aload_n (pc' := 32) 1 X dX5_turnRound_31 rfl rfl rfl ?_
      refine V_get (pc' := 35) 3 X F59 rfl rfl dX5_turnRound_32 rfl ?_
      refine V_iload_n (pc' := 36) 2 X dX5_turnRound_35 rfl rfl rfl ?_
      refine V_iald (pc' := 37) (v := nI (S i)) 4 i X rfl (by omega) (by decide) rfl dX5_turnRound_36 rfl ?_
      refine V_iast (pc' := 38) 11 (31 - i) [XB x (a 0) r p (h 0) q, HI G h (aM n + 1) (aD n d), DW G ((aD n d) (aM n)) S, [((a 0), .inr (0, [.ref (a 1), .ref (a 2), .ref (a 3), .ref (a 4), .ref (a 5), .int (nI (S 46)), .int (nI (S 47)), .int (nI (S 48)), .int (nI (S 70)), .int (nI (S 59))])), ((a 1), .inl (G.2 0, 32, .inl (upd (nf (trF S i)) (31 - i) (nI (S i))))), ((a 2), .inl (G.2 0, 4, .inl (nf (fun k => S (32 + k))))), ((a 3), .inl (G.2 0, 10, .inl (nf (fun k => S (36 + k))))), ((a 4), .inl (G.2 0, 10, .inl (nf (fun k => S (49 + k))))), ((a 5), .inr (1, [.ref (a 6)])), ((a 6), .inl (G.2 0, 10, .inl (nf (fun k => S (60 + k)))))], HR G (aD n d) (aD n T) (aM n)] X rfl (by omega) (by decide) rfl dX5_turnRound_37 rfl ?_
      refine V_ws [XB x (a 0) r p (h 0) q, HI G h (aM n + 1) (aD n d), DW G ((aD n d) (aM n)) S, [((a 0), .inr (0, [.ref (a 1), .ref (a 2), .ref (a 3), .ref (a 4), .ref (a 5), .int (nI (S 46)), .int (nI (S 47)), .int (nI (S 48)), .int (nI (S 70)), .int (nI (S 59))])), ((a 1), .inl (G.2 0, 32, .inl (nf (va_up (trF S i) (31 - i) (S i))))), ((a 2), .inl (G.2 0, 4, .inl (nf (fun k => S (32 + k))))), ((a 3), .inl (G.2 0, 10, .inl (nf (fun k => S (36 + k))))), ((a 4), .inl (G.2 0, 10, .inl (nf (fun k => S (49 + k))))), ((a 5), .inr (1, [.ref (a 6)])), ((a 6), .inl (G.2 0, 10, .inl (nf (fun k => S (60 + k)))))], HR G (aD n d) (aD n T) (aM n)] (by simp only [nf_upd]) ?_
      refine V_iinc (pc' := 41) [(0, .ref x), (1, .ref (((aD n d) (aM n)) 0)), (2, .int (nI (i + 1)))] 2 [1, 2, 0] X dX5_turnRound_38 rfl (nI_i1 _) (Nat.le_of_ble_eq_true rfl) rfl rfl ?_
      refine V_goto (pc' := 14) X dX5_turnRound_41 (by decide) ?_
      refine V_wsq [XB x (a 0) r p (h 0) q, HI G h (aM n + 1) (aD n d), DW G ((aD n d) (aM n)) S, [((a 0), .inr (0, [.ref (a 1), .ref (a 2), .ref (a 3), .ref (a 4), .ref (a 5), .int (nI (S 46)), .int (nI (S 47)), .int (nI (S 48)), .int (nI (S 70)), .int (nI (S 59))])), ((a 1), .inl (G.2 0, 32, .inl (nf (trF S (i + 1))))), ((a 2), .inl (G.2 0, 4, .inl (nf (fun k => S (32 + k))))), ((a 3), .inl (G.2 0, 10, .inl (nf (fun k => S (36 + k))))), ((a 4), .inl (G.2 0, 10, .inl (nf (fun k => S (49 + k))))), ((a 5), .inr (1, [.ref (a 6)])), ((a 6), .inl (G.2 0, 10, .inl (nf (fun k => S (60 + k)))))], HR G (aD n d) (aD n T) (aM n)] (wsq.app (wsq.rf _) (wsq.app (wsq.rf _) (wsq.app (wsq.rf _) (wsq.cons (weq.rf _) (wsq.cons (weq.row (fun k hk => congrArg nI (tr_step hi_i hk))) (wsq.cons (weq.rf _) (wsq.cons (weq.rf _) (wsq.cons (weq.rf _) (wsq.cons (weq.rf _) (wsq.cons (weq.rf _) (wsq.rf _))))))))))) ?_
      exact ih
  exact lp_1 0 (Nat.zero_le _)

set_option maxHeartbeats 4000000 in
set_option maxRecDepth 100000 in
theorem c_X5_move (l : Launch) (G : gT) (x r p q : Nat) (a S h : Nat → Nat) (n : Nat) (d T : Nat → Nat → Nat) (hn : n ≤ 6) (hI : IV S) (m : Nat) (hm1 : 1 ≤ m) (hm : m < 32) : CM l G yX5_move wsX5_move 5 127 1 [.ref x, .int (nI m)] [XB x (a 0) r p (h 0) q, DW G a S, HI G h n d, HD G d T] 0 0 (fun v u => v = some (.int (nI (sm (fun k => cnt (mvd m S k ^^^ S k)) 32))) ∧ u = [XB x (a 0) r p (h 0) q, DW G a (mvd m S), HI G h (aM n + 1) (aD n d), HD G (aD n d) (hT n S T)]) := by
  refine CM_of RX5 4 104 rfl rfl (by decide) (by decide +kernel) (Nat.le_of_ble_eq_true rfl) (fun E A X hrt hnm => ?_)
  have F10 := Fld_of (idx := 10) 5 0 X (by decide) (by decide) (by decide +kernel) (by decide +kernel)
  have F33 := Fld_of (idx := 33) 5 3 X (by decide) (by decide) (by decide +kernel) (by decide +kernel)
  have F59 := Fld_of (idx := 59) 0 0 X (by decide) (by decide) (by decide +kernel) (by decide +kernel)
  generalize hQ : QM E G A _ _ _ = Q
  obtain ⟨i1, i2, i3, i4, i5, i6⟩ := id hI
  show V E G A 4 [XB x (a 0) r p (h 0) q, DW G a S, HI G h n d, HD G d T] 0 0 Q 0 [(0, .ref x), (1, .int (nI m))] []
  refine V_iload_n (pc' := 1) 1 X dX5_move_0 rfl rfl rfl ?_
  refine V_iconst (pc' := 2) (nI 1) X dX5_move_1 ki_1 rfl ?_
  refine V_icmp_lt (pc' := 5) (C := m < 1) 11 X dX5_move_2 (by decide) rfl (nI_ltI (by omega) (by omega)) (fun hz => absurd hz (by omega)) (fun _ => ?_)
  refine V_iload_n (pc' := 6) 1 X dX5_move_5 rfl rfl rfl ?_
  refine V_bipush (pc' := 8) (nI 32) X dX5_move_6 kb_32 rfl ?_
  refine V_icmp_lt (pc' := 11) (C := m < 32) 21 X dX5_move_8 (by decide) rfl (nI_ltI (by omega) (by omega)) (fun _ => ?_) (fun hz => absurd (by omega) hz)
  refine V_aload_n (pc' := 22) 0 X dX5_move_21 rfl rfl rfl ?_
  refine V_get (pc' := 25) 0 X F33 rfl rfl dX5_move_22 rfl ?_
  refine V_aload_n (pc' := 26) 0 X dX5_move_25 rfl rfl rfl ?_
  refine V_get (pc' := 29) 0 X F10 rfl rfl dX5_move_26 rfl ?_
  refine V_callV (pc' := 32) (As := [.ref (a 0)]) (st := []) 2 8 [2, 3, 1] [0] (show (List.range 4).Perm ([2, 3, 1] ++ [0]) by decide) X (c_X2_add l G h d T a S n hn) rfl gX5_move_X2_add rfl (by decide) rfl rfl rfl (Nat.le_of_ble_eq_true rfl) ⟨Nat.le_of_ble_eq_true rfl, Nat.le_of_ble_eq_true rfl⟩ ⟨Nat.le_of_ble_eq_true rfl, Nat.le_of_ble_eq_true rfl⟩ dX5_move_29 rfl (fun v_ u_ hp_ => ?_)
  obtain ⟨rfl, rfl⟩ := hp_
  show V E G A 4 [XB x (a 0) r p (h 0) q, HI G h (aM n + 1) (aD n d), DW G ((aD n d) (aM n)) S, DW G a S, HR G (aD n d) (aD n T) (aM n)] 0 0 Q 32 [(0, .ref x), (1, .int (nI m))] [.ref (((aD n d) (aM n)) 0)]
  refine V_astore_n (pc' := 33) [(0, .ref x), (1, .int (nI m)), (2, .ref (((aD n d) (aM n)) 0))] [1, 2, 0] X dX5_move_32 rfl (Nat.le_of_ble_eq_true rfl) rfl rfl ?_
  refine V_iconst (pc' := 34) (nI 0) X dX5_move_33 ki_0 rfl ?_
  refine V_istore_n (pc' := 35) [(0, .ref x), (1, .int (nI m)), (2, .ref (((aD n d) (aM n)) 0)), (3, .int (nI 0))] [1, 2, 3, 0] X dX5_move_34 rfl (Nat.le_of_ble_eq_true rfl) rfl rfl ?_
  refine V_ws [XB x (a 0) r p (h 0) q, HI G h (aM n + 1) (aD n d), DW G ((aD n d) (aM n)) S, [((a 0), .inr (0, [.ref (a 1), .ref (a 2), .ref (a 3), .ref (a 4), .ref (a 5), .int (nI (S 46)), .int (nI (S 47)), .int (nI (S 48)), .int (nI (S 70)), .int (nI (S 59))])), ((a 1), .inl (G.2 0, 32, .inl (nf S))), ((a 2), .inl (G.2 0, 4, .inl (nf (fun k => S (32 + k))))), ((a 3), .inl (G.2 0, 10, .inl (nf (fun k => S (36 + k))))), ((a 4), .inl (G.2 0, 10, .inl (nf (fun k => S (49 + k))))), ((a 5), .inr (1, [.ref (a 6)])), ((a 6), .inl (G.2 0, 10, .inl (nf (fun k => S (60 + k)))))], HR G (aD n d) (aD n T) (aM n)] rfl ?_
  refine V_wsq [XB x (a 0) r p (h 0) q, HI G h (aM n + 1) (aD n d), DW G ((aD n d) (aM n)) S, [((a 0), .inr (0, [.ref (a 1), .ref (a 2), .ref (a 3), .ref (a 4), .ref (a 5), .int (nI (S 46)), .int (nI (S 47)), .int (nI (S 48)), .int (nI (S 70)), .int (nI (S 59))])), ((a 1), .inl (G.2 0, 32, .inl (nf (mvF S m 0)))), ((a 2), .inl (G.2 0, 4, .inl (nf (fun k => S (32 + k))))), ((a 3), .inl (G.2 0, 10, .inl (nf (fun k => S (36 + k))))), ((a 4), .inl (G.2 0, 10, .inl (nf (fun k => S (49 + k))))), ((a 5), .inr (1, [.ref (a 6)])), ((a 6), .inl (G.2 0, 10, .inl (nf (fun k => S (60 + k)))))], HR G (aD n d) (aD n T) (aM n)] (wsq.app (wsq.rf _) (wsq.app (wsq.rf _) (wsq.app (wsq.rf _) (wsq.cons (weq.rf _) (wsq.cons (weq.row (fun k hk => congrArg nI (if_neg (Nat.not_lt_zero _)).symm)) (wsq.cons (weq.rf _) (wsq.cons (weq.rf _) (wsq.cons (weq.rf _) (wsq.cons (weq.rf _) (wsq.cons (weq.rf _) (wsq.rf _))))))))))) ?_
  have lp_1 : ∀ i, i ≤ 32 → V E G A 4 [XB x (a 0) r p (h 0) q, HI G h (aM n + 1) (aD n d), DW G ((aD n d) (aM n)) S, [((a 0), .inr (0, [.ref (a 1), .ref (a 2), .ref (a 3), .ref (a 4), .ref (a 5), .int (nI (S 46)), .int (nI (S 47)), .int (nI (S 48)), .int (nI (S 70)), .int (nI (S 59))])), ((a 1), .inl (G.2 0, 32, .inl (nf (mvF S m i)))), ((a 2), .inl (G.2 0, 4, .inl (nf (fun k => S (32 + k))))), ((a 3), .inl (G.2 0, 10, .inl (nf (fun k => S (36 + k))))), ((a 4), .inl (G.2 0, 10, .inl (nf (fun k => S (49 + k))))), ((a 5), .inr (1, [.ref (a 6)])), ((a 6), .inl (G.2 0, 10, .inl (nf (fun k => S (60 + k)))))], HR G (aD n d) (aD n T) (aM n)] 0 0 Q 35 [(0, .ref x), (1, .int (nI m)), (2, .ref (((aD n d) (aM n)) 0)), (3, .int (nI i))] [] := by
    refine loopD 32 ?_ ?_
    · show V E G A 4 [XB x (a 0) r p (h 0) q, HI G h (aM n + 1) (aD n d), DW G ((aD n d) (aM n)) S, [((a 0), .inr (0, [.ref (a 1), .ref (a 2), .ref (a 3), .ref (a 4), .ref (a 5), .int (nI (S 46)), .int (nI (S 47)), .int (nI (S 48)), .int (nI (S 70)), .int (nI (S 59))])), ((a 1), .inl (G.2 0, 32, .inl (nf (mvF S m 32)))), ((a 2), .inl (G.2 0, 4, .inl (nf (fun k => S (32 + k))))), ((a 3), .inl (G.2 0, 10, .inl (nf (fun k => S (36 + k))))), ((a 4), .inl (G.2 0, 10, .inl (nf (fun k => S (49 + k))))), ((a 5), .inr (1, [.ref (a 6)])), ((a 6), .inl (G.2 0, 10, .inl (nf (fun k => S (60 + k)))))], HR G (aD n d) (aD n T) (aM n)] 0 0 Q 35 [(0, .ref x), (1, .int (nI m)), (2, .ref (((aD n d) (aM n)) 0)), (3, .int (nI 32))] []
      refine V_iload_n (pc' := 36) 3 X dX5_move_35 rfl rfl rfl ?_
      refine V_bipush (pc' := 38) (nI 32) X dX5_move_36 kb_32 rfl ?_
      refine V_icmp_ge (pc' := 41) (C := 32 ≤ 32) 67 X dX5_move_38 (by decide) rfl (nI_leI (by omega) (by omega)) (fun _ => ?_) (fun hz => absurd (by omega) hz)
      refine V_wsq [XB x (a 0) r p (h 0) q, HI G h (aM n + 1) (aD n d), DW G ((aD n d) (aM n)) S, DW G a (mvd m S), HR G (aD n d) (aD n T) (aM n)] (wsq.app (wsq.rf _) (wsq.app (wsq.rf _) (wsq.app (wsq.rf _) (wsq.app (DW_pegs (sameB_mvd m S) (fun k hk => congrArg nI (by unfold mvF mvd; rw [if_pos (Nat.mod_lt _ (by decide)), if_pos hk]))) (wsq.rf _))))) ?_
      have hI2 : IV (mvd m S) := IV_pegs (sameB_mvd m S) (fun k hk => by unfold mvd; rw [if_pos hk]; exact i1 _ (Nat.mod_lt _ (by decide))) hI
      refine V_aload_n (pc' := 68) 0 X dX5_move_67 rfl rfl rfl ?_
      refine V_get (pc' := 71) 0 X F10 rfl rfl dX5_move_68 rfl ?_
      refine V_aload_n (pc' := 72) 2 X dX5_move_71 rfl rfl rfl ?_
      refine V_callV (pc' := 75) (As := [.ref (((aD n d) (aM n)) 0)]) (st := []) 0 10 [3, 2] [0, 1, 4] (show (List.range 5).Perm ([3, 2] ++ [0, 1, 4]) by decide) X (c_X0_pegsOtherThan l G a (mvd m S) ((aD n d) (aM n)) S hI2 hI) rfl gX5_move_X0_pegsOtherThan rfl (by decide) rfl rfl rfl (Nat.le_of_ble_eq_true rfl) ⟨Nat.le_of_ble_eq_true rfl, Nat.le_of_ble_eq_true rfl⟩ ⟨Nat.le_of_ble_eq_true rfl, Nat.le_of_ble_eq_true rfl⟩ dX5_move_72 rfl (fun v_ u_ hp_ => ?_)
      obtain ⟨rfl, rfl⟩ := hp_
      show V E G A 4 [XB x (a 0) r p (h 0) q, HI G h (aM n + 1) (aD n d), HR G (aD n d) (aD n T) (aM n), DW G a (mvd m S), DW G ((aD n d) (aM n)) S] 0 0 Q 75 [(0, .ref x), (1, .int (nI m)), (2, .ref (((aD n d) (aM n)) 0)), (3, .int (nI 32))] [.int (nI (sm (fun k => cnt ((mvd m S) k ^^^ S k)) 32))]
      refine V_ord [0, 1, 4, 3, 2] [XB x (a 0) r p (h 0) q, HI G h (aM n + 1) (aD n d), DW G ((aD n d) (aM n)) S, DW G a (mvd m S), HR G (aD n d) (aD n T) (aM n)] (show (List.range 5).Perm [0, 1, 4, 3, 2] by decide) rfl ?_
      refine V_ord [0, 3, 1, 2, 4] [XB x (a 0) r p (h 0) q, DW G a (mvd m S), HI G h (aM n + 1) (aD n d), DW G ((aD n d) (aM n)) S, HR G (aD n d) (aD n T) (aM n)] (show (List.range 5).Perm [0, 3, 1, 2, 4] by decide) rfl ?_
      refine V_join (bs' := [XB x (a 0) r p (h 0) q, DW G a (mvd m S), HI G h (aM n + 1) (aD n d), HD G (aD n d) (hT n S T)]) 3 rfl (HD_perm' G (aD n d) (aD n T) S (aM_lt hn)) rfl ?_
      exact V_ireturn (v := nI (sm (fun k => cnt ((mvd m S) k ^^^ S k)) 32)) [XB x (a 0) r p (h 0) q, DW G a (mvd m S), HI G h (aM n + 1) (aD n d), HD G (aD n d) (hT n S T)] hQ X hrt rfl dX5_move_75 (Nat.le_of_ble_eq_true rfl) (Nat.le_of_ble_eq_true rfl) (List.Perm.refl _) ⟨rfl, rfl⟩
    · intro i hi_i ih
      show V E G A 4 [XB x (a 0) r p (h 0) q, HI G h (aM n + 1) (aD n d), DW G ((aD n d) (aM n)) S, [((a 0), .inr (0, [.ref (a 1), .ref (a 2), .ref (a 3), .ref (a 4), .ref (a 5), .int (nI (S 46)), .int (nI (S 47)), .int (nI (S 48)), .int (nI (S 70)), .int (nI (S 59))])), ((a 1), .inl (G.2 0, 32, .inl (nf (mvF S m i)))), ((a 2), .inl (G.2 0, 4, .inl (nf (fun k => S (32 + k))))), ((a 3), .inl (G.2 0, 10, .inl (nf (fun k => S (36 + k))))), ((a 4), .inl (G.2 0, 10, .inl (nf (fun k => S (49 + k))))), ((a 5), .inr (1, [.ref (a 6)])), ((a 6), .inl (G.2 0, 10, .inl (nf (fun k => S (60 + k)))))], HR G (aD n d) (aD n T) (aM n)] 0 0 Q 35 [(0, .ref x), (1, .int (nI m)), (2, .ref (((aD n d) (aM n)) 0)), (3, .int (nI i))] []
      refine V_iload_n (pc' := 36) 3 X dX5_move_35 rfl rfl rfl ?_
      refine V_bipush (pc' := 38) (nI 32) X dX5_move_36 kb_32 rfl ?_
      refine V_icmp_ge (pc' := 41) (C := 32 ≤ i) 67 X dX5_move_38 (by decide) rfl (nI_leI (by omega) (by omega)) (fun hz => absurd hz (by omega)) (fun _ => ?_)
      refine V_aload_n (pc' := 42) 0 X dX5_move_41 rfl rfl rfl ?_
      refine V_get (pc' := 45) 0 X F10 rfl rfl dX5_move_42 rfl ?_
      refine V_get (pc' := 48) 10 X F59 rfl rfl dX5_move_45 rfl ?_
      refine V_iload_n (pc' := 49) 3 X dX5_move_48 rfl rfl rfl ?_
      refine V_iload_n (pc' := 50) 1 X dX5_move_49 rfl rfl rfl ?_
      refine V_iadd (pc' := 51) (nI (i + m)) X dX5_move_50 (nI_add _ _) rfl ?_
      refine V_bipush (pc' := 53) (nI 32) X dX5_move_51 kb_32 rfl ?_
      refine V_irem (pc' := 54) (nI ((i + m) % 32)) X dX5_move_53 (z_ne0 (by omega) (by omega)) (pk_rem (by omega) (by omega) (by omega)) rfl ?_
      refine V_aload_n (pc' := 55) 2 X dX5_move_54 rfl rfl rfl ?_
      refine V_get (pc' := 58) 3 X F59 rfl rfl dX5_move_55 rfl ?_
      refine V_iload_n (pc' := 59) 3 X dX5_move_58 rfl rfl rfl ?_
      refine V_iald (pc' := 60) (v := nI (S i)) 4 i X rfl (by omega) (by decide) rfl dX5_move_59 rfl ?_
      refine V_iast (pc' := 61) 11 ((i + m) % 32) [XB x (a 0) r p (h 0) q, HI G h (aM n + 1) (aD n d), DW G ((aD n d) (aM n)) S, [((a 0), .inr (0, [.ref (a 1), .ref (a 2), .ref (a 3), .ref (a 4), .ref (a 5), .int (nI (S 46)), .int (nI (S 47)), .int (nI (S 48)), .int (nI (S 70)), .int (nI (S 59))])), ((a 1), .inl (G.2 0, 32, .inl (upd (nf (mvF S m i)) ((i + m) % 32) (nI (S i))))), ((a 2), .inl (G.2 0, 4, .inl (nf (fun k => S (32 + k))))), ((a 3), .inl (G.2 0, 10, .inl (nf (fun k => S (36 + k))))), ((a 4), .inl (G.2 0, 10, .inl (nf (fun k => S (49 + k))))), ((a 5), .inr (1, [.ref (a 6)])), ((a 6), .inl (G.2 0, 10, .inl (nf (fun k => S (60 + k)))))], HR G (aD n d) (aD n T) (aM n)] X rfl (by omega) (by decide) rfl dX5_move_60 rfl ?_
      refine V_ws [XB x (a 0) r p (h 0) q, HI G h (aM n + 1) (aD n d), DW G ((aD n d) (aM n)) S, [((a 0), .inr (0, [.ref (a 1), .ref (a 2), .ref (a 3), .ref (a 4), .ref (a 5), .int (nI (S 46)), .int (nI (S 47)), .int (nI (S 48)), .int (nI (S 70)), .int (nI (S 59))])), ((a 1), .inl (G.2 0, 32, .inl (nf (va_up (mvF S m i) ((i + m) % 32) (S i))))), ((a 2), .inl (G.2 0, 4, .inl (nf (fun k => S (32 + k))))), ((a 3), .inl (G.2 0, 10, .inl (nf (fun k => S (36 + k))))), ((a 4), .inl (G.2 0, 10, .inl (nf (fun k => S (49 + k))))), ((a 5), .inr (1, [.ref (a 6)])), ((a 6), .inl (G.2 0, 10, .inl (nf (fun k => S (60 + k)))))], HR G (aD n d) (aD n T) (aM n)] (by simp only [nf_upd]) ?_
      refine V_iinc (pc' := 64) [(0, .ref x), (1, .int (nI m)), (2, .ref (((aD n d) (aM n)) 0)), (3, .int (nI (i + 1)))] 3 [1, 2, 3, 0] X dX5_move_61 rfl (nI_i1 _) (Nat.le_of_ble_eq_true rfl) rfl rfl ?_
      refine V_goto (pc' := 35) X dX5_move_64 (by decide) ?_
      refine V_wsq [XB x (a 0) r p (h 0) q, HI G h (aM n + 1) (aD n d), DW G ((aD n d) (aM n)) S, [((a 0), .inr (0, [.ref (a 1), .ref (a 2), .ref (a 3), .ref (a 4), .ref (a 5), .int (nI (S 46)), .int (nI (S 47)), .int (nI (S 48)), .int (nI (S 70)), .int (nI (S 59))])), ((a 1), .inl (G.2 0, 32, .inl (nf (mvF S m (i + 1))))), ((a 2), .inl (G.2 0, 4, .inl (nf (fun k => S (32 + k))))), ((a 3), .inl (G.2 0, 10, .inl (nf (fun k => S (36 + k))))), ((a 4), .inl (G.2 0, 10, .inl (nf (fun k => S (49 + k))))), ((a 5), .inr (1, [.ref (a 6)])), ((a 6), .inl (G.2 0, 10, .inl (nf (fun k => S (60 + k)))))], HR G (aD n d) (aD n T) (aM n)] (wsq.app (wsq.rf _) (wsq.app (wsq.rf _) (wsq.app (wsq.rf _) (wsq.cons (weq.rf _) (wsq.cons (weq.row (fun k hk => congrArg nI (mv_step hm1 hm hi_i hk))) (wsq.cons (weq.rf _) (wsq.cons (weq.rf _) (wsq.cons (weq.rf _) (wsq.cons (weq.rf _) (wsq.cons (weq.rf _) (wsq.rf _))))))))))) ?_
      exact ih
  exact lp_1 0 (Nat.zero_le _)

set_option maxHeartbeats 4000000 in
set_option maxRecDepth 100000 in
theorem c_X5_raise (l : Launch) (G : gT) (x r p q : Nat) (a S h : Nat → Nat) (n : Nat) (d T : Nat → Nat → Nat) (hn : n ≤ 6) (hI : IV S) : CM l G yX5_raise wsX5_raise 5 127 0 [.ref x] [XB x (a 0) r p (h 0) q, DW G a S, HI G h n d, HD G d T] 0 0 (fun v u => v = some (.int (nI (sm (fun k => bq (S k) 9) 32))) ∧ u = [XB x (a 0) r p (h 0) q, DW G a (rsd S), HI G h (aM n + 1) (aD n d), HD G (aD n d) (hT n S T)]) := by
  refine CM_of RX5 4 104 rfl rfl (by decide) (by decide +kernel) (Nat.le_of_ble_eq_true rfl) (fun E A X hrt hnm => ?_)
  have F10 := Fld_of (idx := 10) 5 0 X (by decide) (by decide) (by decide +kernel) (by decide +kernel)
  have F33 := Fld_of (idx := 33) 5 3 X (by decide) (by decide) (by decide +kernel) (by decide +kernel)
  have F59 := Fld_of (idx := 59) 0 0 X (by decide) (by decide) (by decide +kernel) (by decide +kernel)
  generalize hQ : QM E G A _ _ _ = Q
  obtain ⟨i1, i2, i3, i4, i5, i6⟩ := id hI
  show V E G A 4 [XB x (a 0) r p (h 0) q, DW G a S, HI G h n d, HD G d T] 0 0 Q 0 [(0, .ref x)] []
  refine V_aload_n (pc' := 1) 0 X dX5_raise_0 rfl rfl rfl ?_
  refine V_get (pc' := 4) 0 X F33 rfl rfl dX5_raise_1 rfl ?_
  refine V_aload_n (pc' := 5) 0 X dX5_raise_4 rfl rfl rfl ?_
  refine V_get (pc' := 8) 0 X F10 rfl rfl dX5_raise_5 rfl ?_
  refine V_callV (pc' := 11) (As := [.ref (a 0)]) (st := []) 2 8 [2, 3, 1] [0] (show (List.range 4).Perm ([2, 3, 1] ++ [0]) by decide) X (c_X2_add l G h d T a S n hn) rfl gX5_raise_X2_add rfl (by decide) rfl rfl rfl (Nat.le_of_ble_eq_true rfl) ⟨Nat.le_of_ble_eq_true rfl, Nat.le_of_ble_eq_true rfl⟩ ⟨Nat.le_of_ble_eq_true rfl, Nat.le_of_ble_eq_true rfl⟩ dX5_raise_8 rfl (fun v_ u_ hp_ => ?_)
  obtain ⟨rfl, rfl⟩ := hp_
  show V E G A 4 [XB x (a 0) r p (h 0) q, HI G h (aM n + 1) (aD n d), DW G ((aD n d) (aM n)) S, DW G a S, HR G (aD n d) (aD n T) (aM n)] 0 0 Q 11 [(0, .ref x)] [.ref (((aD n d) (aM n)) 0)]
  refine V_pop (pc' := 12) X dX5_raise_11 rfl rfl ?_
  refine V_iconst (pc' := 13) (nI 0) X dX5_raise_12 ki_0 rfl ?_
  refine V_istore_n (pc' := 14) [(0, .ref x), (1, .int (nI 0))] [1, 0] X dX5_raise_13 rfl (Nat.le_of_ble_eq_true rfl) rfl rfl ?_
  refine V_iconst (pc' := 15) (nI 0) X dX5_raise_14 ki_0 rfl ?_
  refine V_istore_n (pc' := 16) [(0, .ref x), (1, .int (nI 0)), (2, .int (nI 0))] [1, 2, 0] X dX5_raise_15 rfl (Nat.le_of_ble_eq_true rfl) rfl rfl ?_
  refine V_ws [XB x (a 0) r p (h 0) q, HI G h (aM n + 1) (aD n d), DW G ((aD n d) (aM n)) S, [((a 0), .inr (0, [.ref (a 1), .ref (a 2), .ref (a 3), .ref (a 4), .ref (a 5), .int (nI (S 46)), .int (nI (S 47)), .int (nI (S 48)), .int (nI (S 70)), .int (nI (S 59))])), ((a 1), .inl (G.2 0, 32, .inl (nf S))), ((a 2), .inl (G.2 0, 4, .inl (nf (fun k => S (32 + k))))), ((a 3), .inl (G.2 0, 10, .inl (nf (fun k => S (36 + k))))), ((a 4), .inl (G.2 0, 10, .inl (nf (fun k => S (49 + k))))), ((a 5), .inr (1, [.ref (a 6)])), ((a 6), .inl (G.2 0, 10, .inl (nf (fun k => S (60 + k)))))], HR G (aD n d) (aD n T) (aM n)] rfl ?_
  refine V_wsq [XB x (a 0) r p (h 0) q, HI G h (aM n + 1) (aD n d), DW G ((aD n d) (aM n)) S, [((a 0), .inr (0, [.ref (a 1), .ref (a 2), .ref (a 3), .ref (a 4), .ref (a 5), .int (nI (S 46)), .int (nI (S 47)), .int (nI (S 48)), .int (nI (S 70)), .int (nI (S 59))])), ((a 1), .inl (G.2 0, 32, .inl (nf (upN S (fun k => S k * 2 ^ 1 % 1024) 0)))), ((a 2), .inl (G.2 0, 4, .inl (nf (fun k => S (32 + k))))), ((a 3), .inl (G.2 0, 10, .inl (nf (fun k => S (36 + k))))), ((a 4), .inl (G.2 0, 10, .inl (nf (fun k => S (49 + k))))), ((a 5), .inr (1, [.ref (a 6)])), ((a 6), .inl (G.2 0, 10, .inl (nf (fun k => S (60 + k)))))], HR G (aD n d) (aD n T) (aM n)] (wsq.app (wsq.rf _) (wsq.app (wsq.rf _) (wsq.app (wsq.rf _) (wsq.cons (weq.rf _) (wsq.cons (weq.row (fun k hk => rfl)) (wsq.cons (weq.rf _) (wsq.cons (weq.rf _) (wsq.cons (weq.rf _) (wsq.cons (weq.rf _) (wsq.cons (weq.rf _) (wsq.rf _))))))))))) ?_
  have lp_1 : ∀ i, i ≤ 32 → V E G A 4 [XB x (a 0) r p (h 0) q, HI G h (aM n + 1) (aD n d), DW G ((aD n d) (aM n)) S, [((a 0), .inr (0, [.ref (a 1), .ref (a 2), .ref (a 3), .ref (a 4), .ref (a 5), .int (nI (S 46)), .int (nI (S 47)), .int (nI (S 48)), .int (nI (S 70)), .int (nI (S 59))])), ((a 1), .inl (G.2 0, 32, .inl (nf (upN S (fun k => S k * 2 ^ 1 % 1024) i)))), ((a 2), .inl (G.2 0, 4, .inl (nf (fun k => S (32 + k))))), ((a 3), .inl (G.2 0, 10, .inl (nf (fun k => S (36 + k))))), ((a 4), .inl (G.2 0, 10, .inl (nf (fun k => S (49 + k))))), ((a 5), .inr (1, [.ref (a 6)])), ((a 6), .inl (G.2 0, 10, .inl (nf (fun k => S (60 + k)))))], HR G (aD n d) (aD n T) (aM n)] 0 0 Q 16 [(0, .ref x), (1, .int (nI (sm (fun k => bq (S k) 9) i))), (2, .int (nI i))] [] := by
    refine loopD 32 ?_ ?_
    · show V E G A 4 [XB x (a 0) r p (h 0) q, HI G h (aM n + 1) (aD n d), DW G ((aD n d) (aM n)) S, [((a 0), .inr (0, [.ref (a 1), .ref (a 2), .ref (a 3), .ref (a 4), .ref (a 5), .int (nI (S 46)), .int (nI (S 47)), .int (nI (S 48)), .int (nI (S 70)), .int (nI (S 59))])), ((a 1), .inl (G.2 0, 32, .inl (nf (upN S (fun k => S k * 2 ^ 1 % 1024) 32)))), ((a 2), .inl (G.2 0, 4, .inl (nf (fun k => S (32 + k))))), ((a 3), .inl (G.2 0, 10, .inl (nf (fun k => S (36 + k))))), ((a 4), .inl (G.2 0, 10, .inl (nf (fun k => S (49 + k))))), ((a 5), .inr (1, [.ref (a 6)])), ((a 6), .inl (G.2 0, 10, .inl (nf (fun k => S (60 + k)))))], HR G (aD n d) (aD n T) (aM n)] 0 0 Q 16 [(0, .ref x), (1, .int (nI (sm (fun k => bq (S k) 9) 32))), (2, .int (nI 32))] []
      refine V_iload_n (pc' := 17) 2 X dX5_raise_16 rfl rfl rfl ?_
      refine V_bipush (pc' := 19) (nI 32) X dX5_raise_17 kb_32 rfl ?_
      refine V_icmp_ge (pc' := 22) (C := 32 ≤ 32) 66 X dX5_raise_19 (by decide) rfl (nI_leI (by omega) (by omega)) (fun _ => ?_) (fun hz => absurd (by omega) hz)
      refine V_iload_n (pc' := 67) 1 X dX5_raise_66 rfl rfl rfl ?_
      refine V_wsq [XB x (a 0) r p (h 0) q, HI G h (aM n + 1) (aD n d), DW G ((aD n d) (aM n)) S, DW G a (rsd S), HR G (aD n d) (aD n T) (aM n)] (wsq.app (wsq.rf _) (wsq.app (wsq.rf _) (wsq.app (wsq.rf _) (wsq.app (DW_pegs (sameB_rsd S) (fun k hk => congrArg nI (by rw [upN_in hk]; exact (if_pos hk).symm))) (wsq.rf _))))) ?_
      refine V_ord [0, 3, 1, 2, 4] [XB x (a 0) r p (h 0) q, DW G a (rsd S), HI G h (aM n + 1) (aD n d), DW G ((aD n d) (aM n)) S, HR G (aD n d) (aD n T) (aM n)] (show (List.range 5).Perm [0, 3, 1, 2, 4] by decide) rfl ?_
      refine V_join (bs' := [XB x (a 0) r p (h 0) q, DW G a (rsd S), HI G h (aM n + 1) (aD n d), HD G (aD n d) (hT n S T)]) 3 rfl (HD_perm' G (aD n d) (aD n T) S (aM_lt hn)) rfl ?_
      exact V_ireturn (v := nI (sm (fun k => bq (S k) 9) 32)) [XB x (a 0) r p (h 0) q, DW G a (rsd S), HI G h (aM n + 1) (aD n d), HD G (aD n d) (hT n S T)] hQ X hrt rfl dX5_raise_67 (Nat.le_of_ble_eq_true rfl) (Nat.le_of_ble_eq_true rfl) (List.Perm.refl _) ⟨rfl, rfl⟩
    · intro i hi_i ih
      show V E G A 4 [XB x (a 0) r p (h 0) q, HI G h (aM n + 1) (aD n d), DW G ((aD n d) (aM n)) S, [((a 0), .inr (0, [.ref (a 1), .ref (a 2), .ref (a 3), .ref (a 4), .ref (a 5), .int (nI (S 46)), .int (nI (S 47)), .int (nI (S 48)), .int (nI (S 70)), .int (nI (S 59))])), ((a 1), .inl (G.2 0, 32, .inl (nf (upN S (fun k => S k * 2 ^ 1 % 1024) i)))), ((a 2), .inl (G.2 0, 4, .inl (nf (fun k => S (32 + k))))), ((a 3), .inl (G.2 0, 10, .inl (nf (fun k => S (36 + k))))), ((a 4), .inl (G.2 0, 10, .inl (nf (fun k => S (49 + k))))), ((a 5), .inr (1, [.ref (a 6)])), ((a 6), .inl (G.2 0, 10, .inl (nf (fun k => S (60 + k)))))], HR G (aD n d) (aD n T) (aM n)] 0 0 Q 16 [(0, .ref x), (1, .int (nI (sm (fun k => bq (S k) 9) i))), (2, .int (nI i))] []
      have hpi := i1 i hi_i
      refine V_iload_n (pc' := 17) 2 X dX5_raise_16 rfl rfl rfl ?_
      refine V_bipush (pc' := 19) (nI 32) X dX5_raise_17 kb_32 rfl ?_
      refine V_icmp_ge (pc' := 22) (C := 32 ≤ i) 66 X dX5_raise_19 (by decide) rfl (nI_leI (by omega) (by omega)) (fun hz => absurd hz (by omega)) (fun _ => ?_)
      refine V_aload_n (pc' := 23) 0 X dX5_raise_22 rfl rfl rfl ?_
      refine V_get (pc' := 26) 0 X F10 rfl rfl dX5_raise_23 rfl ?_
      refine V_get (pc' := 29) 10 X F59 rfl rfl dX5_raise_26 rfl ?_
      refine V_iload_n (pc' := 30) 2 X dX5_raise_29 rfl rfl rfl ?_
      refine V_iald (pc' := 31) (v := nI (S i)) 11 i X rfl (by omega) (by decide) (by show nI (upN S (fun k => S k * 2 ^ 1 % 1024) i i) = nI (S i); rw [upN_out (Nat.le_refl _)]) dX5_raise_30 rfl ?_
      refine V_istore_n (pc' := 32) [(0, .ref x), (1, .int (nI (sm (fun k => bq (S k) 9) i))), (2, .int (nI i)), (3, .int (nI (S i)))] [1, 2, 3, 0] X dX5_raise_31 rfl (Nat.le_of_ble_eq_true rfl) rfl rfl ?_
      refine V_iload_n (pc' := 33) 3 X dX5_raise_32 rfl rfl rfl ?_
      refine V_bipush (pc' := 35) (nI 9) X dX5_raise_33 kb_9 rfl ?_
      refine V_callS (pc' := 38) (As := [.int (nI (S i)), .int (nI 9)]) (st := []) [] [0, 1, 2, 3, 4] (show (List.range 5).Perm ([] ++ [0, 1, 2, 3, 4]) by decide) X (c_X5_holds l G (S i) 9 (by omega) (by omega)) rfl gX5_raise_X5_holds rfl rfl (Nat.le_of_ble_eq_true rfl) ⟨Nat.le_of_ble_eq_true rfl, Nat.le_of_ble_eq_true rfl⟩ ⟨Nat.le_of_ble_eq_true rfl, Nat.le_of_ble_eq_true rfl⟩ dX5_raise_35 rfl (fun v_ u_ hp_ => ?_)
      obtain ⟨rfl, rfl⟩ := hp_
      show V E G A 4 [XB x (a 0) r p (h 0) q, HI G h (aM n + 1) (aD n d), DW G ((aD n d) (aM n)) S, [((a 0), .inr (0, [.ref (a 1), .ref (a 2), .ref (a 3), .ref (a 4), .ref (a 5), .int (nI (S 46)), .int (nI (S 47)), .int (nI (S 48)), .int (nI (S 70)), .int (nI (S 59))])), ((a 1), .inl (G.2 0, 32, .inl (nf (upN S (fun k => S k * 2 ^ 1 % 1024) i)))), ((a 2), .inl (G.2 0, 4, .inl (nf (fun k => S (32 + k))))), ((a 3), .inl (G.2 0, 10, .inl (nf (fun k => S (36 + k))))), ((a 4), .inl (G.2 0, 10, .inl (nf (fun k => S (49 + k))))), ((a 5), .inr (1, [.ref (a 6)])), ((a 6), .inl (G.2 0, 10, .inl (nf (fun k => S (60 + k)))))], HR G (aD n d) (aD n T) (aM n)] 0 0 Q 38 [(0, .ref x), (1, .int (nI (sm (fun k => bq (S k) 9) i))), (2, .int (nI i)), (3, .int (nI (S i)))] [.int (nI (bq (S i) 9))]
      refine V_if_eq (pc' := 41) (C := (bq (S i) 9) = 0) 44 X dX5_raise_38 (by decide) rfl (z_eq0 (Nat.lt_trans (bq_lt _ _) (by decide))) (fun h38 => ?_) (fun h38 => ?_)
      · refine V_aload_n (pc' := 45) 0 X dX5_raise_44 rfl rfl rfl ?_
        refine V_get (pc' := 48) 0 X F10 rfl rfl dX5_raise_45 rfl ?_
        refine V_get (pc' := 51) 10 X F59 rfl rfl dX5_raise_48 rfl ?_
        refine V_iload_n (pc' := 52) 2 X dX5_raise_51 rfl rfl rfl ?_
        refine V_iload_n (pc' := 53) 3 X dX5_raise_52 rfl rfl rfl ?_
        refine V_iconst (pc' := 54) (nI 1) X dX5_raise_53 ki_1 rfl ?_
        refine V_ishl (pc' := 55) (nI ((S i) * 2 ^ 1)) X dX5_raise_54 (z_shl _ (by omega)) rfl ?_
        refine V_sipush (pc' := 58) (nI 1023) X dX5_raise_55 ks_1023 rfl ?_
        refine V_iand (pc' := 59) (nI (((S i) * 2 ^ 1) % 1024)) X dX5_raise_58 (z_and1023 _) rfl ?_
        refine V_iast (pc' := 60) 11 i [XB x (a 0) r p (h 0) q, HI G h (aM n + 1) (aD n d), DW G ((aD n d) (aM n)) S, [((a 0), .inr (0, [.ref (a 1), .ref (a 2), .ref (a 3), .ref (a 4), .ref (a 5), .int (nI (S 46)), .int (nI (S 47)), .int (nI (S 48)), .int (nI (S 70)), .int (nI (S 59))])), ((a 1), .inl (G.2 0, 32, .inl (upd (nf (upN S (fun k => S k * 2 ^ 1 % 1024) i)) i (nI (((S i) * 2 ^ 1) % 1024))))), ((a 2), .inl (G.2 0, 4, .inl (nf (fun k => S (32 + k))))), ((a 3), .inl (G.2 0, 10, .inl (nf (fun k => S (36 + k))))), ((a 4), .inl (G.2 0, 10, .inl (nf (fun k => S (49 + k))))), ((a 5), .inr (1, [.ref (a 6)])), ((a 6), .inl (G.2 0, 10, .inl (nf (fun k => S (60 + k)))))], HR G (aD n d) (aD n T) (aM n)] X rfl (by omega) (by decide) rfl dX5_raise_59 rfl ?_
        refine V_ws [XB x (a 0) r p (h 0) q, HI G h (aM n + 1) (aD n d), DW G ((aD n d) (aM n)) S, [((a 0), .inr (0, [.ref (a 1), .ref (a 2), .ref (a 3), .ref (a 4), .ref (a 5), .int (nI (S 46)), .int (nI (S 47)), .int (nI (S 48)), .int (nI (S 70)), .int (nI (S 59))])), ((a 1), .inl (G.2 0, 32, .inl (nf (va_up (upN S (fun k => S k * 2 ^ 1 % 1024) i) i (((S i) * 2 ^ 1) % 1024))))), ((a 2), .inl (G.2 0, 4, .inl (nf (fun k => S (32 + k))))), ((a 3), .inl (G.2 0, 10, .inl (nf (fun k => S (36 + k))))), ((a 4), .inl (G.2 0, 10, .inl (nf (fun k => S (49 + k))))), ((a 5), .inr (1, [.ref (a 6)])), ((a 6), .inl (G.2 0, 10, .inl (nf (fun k => S (60 + k)))))], HR G (aD n d) (aD n T) (aM n)] (by simp only [nf_upd]) ?_
        refine V_iinc (pc' := 63) [(0, .ref x), (1, .int (nI (sm (fun k => bq (S k) 9) i))), (2, .int (nI (i + 1))), (3, .int (nI (S i)))] 2 [1, 2, 0, 3] X dX5_raise_60 rfl (nI_i1 _) (Nat.le_of_ble_eq_true rfl) rfl rfl ?_
        refine V_goto (pc' := 16) X dX5_raise_63 (by decide) ?_
        refine V_lv [0, 1, 2] [(0, .ref x), (1, .int (nI (sm (fun k => bq (S k) 9) i))), (2, .int (nI (i + 1)))] rfl ?_
        rw [sm_succ, show bq (S i) 9 = 0 from h38] at ih
        exact ih
      · refine V_iinc (pc' := 44) [(0, .ref x), (1, .int (nI (sm (fun k => bq (S k) 9) i + 1))), (2, .int (nI i)), (3, .int (nI (S i)))] 1 [1, 0, 2, 3] X dX5_raise_41 rfl (nI_i1 _) (Nat.le_of_ble_eq_true rfl) rfl rfl ?_
        refine V_aload_n (pc' := 45) 0 X dX5_raise_44 rfl rfl rfl ?_
        refine V_get (pc' := 48) 0 X F10 rfl rfl dX5_raise_45 rfl ?_
        refine V_get (pc' := 51) 10 X F59 rfl rfl dX5_raise_48 rfl ?_
        refine V_iload_n (pc' := 52) 2 X dX5_raise_51 rfl rfl rfl ?_
        refine V_iload_n (pc' := 53) 3 X dX5_raise_52 rfl rfl rfl ?_
        refine V_iconst (pc' := 54) (nI 1) X dX5_raise_53 ki_1 rfl ?_
        refine V_ishl (pc' := 55) (nI ((S i) * 2 ^ 1)) X dX5_raise_54 (z_shl _ (by omega)) rfl ?_
        refine V_sipush (pc' := 58) (nI 1023) X dX5_raise_55 ks_1023 rfl ?_
        refine V_iand (pc' := 59) (nI (((S i) * 2 ^ 1) % 1024)) X dX5_raise_58 (z_and1023 _) rfl ?_
        refine V_iast (pc' := 60) 11 i [XB x (a 0) r p (h 0) q, HI G h (aM n + 1) (aD n d), DW G ((aD n d) (aM n)) S, [((a 0), .inr (0, [.ref (a 1), .ref (a 2), .ref (a 3), .ref (a 4), .ref (a 5), .int (nI (S 46)), .int (nI (S 47)), .int (nI (S 48)), .int (nI (S 70)), .int (nI (S 59))])), ((a 1), .inl (G.2 0, 32, .inl (upd (nf (upN S (fun k => S k * 2 ^ 1 % 1024) i)) i (nI (((S i) * 2 ^ 1) % 1024))))), ((a 2), .inl (G.2 0, 4, .inl (nf (fun k => S (32 + k))))), ((a 3), .inl (G.2 0, 10, .inl (nf (fun k => S (36 + k))))), ((a 4), .inl (G.2 0, 10, .inl (nf (fun k => S (49 + k))))), ((a 5), .inr (1, [.ref (a 6)])), ((a 6), .inl (G.2 0, 10, .inl (nf (fun k => S (60 + k)))))], HR G (aD n d) (aD n T) (aM n)] X rfl (by omega) (by decide) rfl dX5_raise_59 rfl ?_
        refine V_ws [XB x (a 0) r p (h 0) q, HI G h (aM n + 1) (aD n d), DW G ((aD n d) (aM n)) S, [((a 0), .inr (0, [.ref (a 1), .ref (a 2), .ref (a 3), .ref (a 4), .ref (a 5), .int (nI (S 46)), .int (nI (S 47)), .int (nI (S 48)), .int (nI (S 70)), .int (nI (S 59))])), ((a 1), .inl (G.2 0, 32, .inl (nf (va_up (upN S (fun k => S k * 2 ^ 1 % 1024) i) i (((S i) * 2 ^ 1) % 1024))))), ((a 2), .inl (G.2 0, 4, .inl (nf (fun k => S (32 + k))))), ((a 3), .inl (G.2 0, 10, .inl (nf (fun k => S (36 + k))))), ((a 4), .inl (G.2 0, 10, .inl (nf (fun k => S (49 + k))))), ((a 5), .inr (1, [.ref (a 6)])), ((a 6), .inl (G.2 0, 10, .inl (nf (fun k => S (60 + k)))))], HR G (aD n d) (aD n T) (aM n)] (by simp only [nf_upd]) ?_
        refine V_iinc (pc' := 63) [(0, .ref x), (1, .int (nI (sm (fun k => bq (S k) 9) i + 1))), (2, .int (nI (i + 1))), (3, .int (nI (S i)))] 2 [1, 2, 0, 3] X dX5_raise_60 rfl (nI_i1 _) (Nat.le_of_ble_eq_true rfl) rfl rfl ?_
        refine V_goto (pc' := 16) X dX5_raise_63 (by decide) ?_
        refine V_lv [0, 1, 2] [(0, .ref x), (1, .int (nI (sm (fun k => bq (S k) 9) i + 1))), (2, .int (nI (i + 1)))] rfl ?_
        rw [sm_succ, show bq (S i) 9 = 1 by have := bq_lt (S i) 9; omega] at ih
        exact ih
  exact lp_1 0 (Nat.zero_le _)

set_option maxHeartbeats 4000000 in
set_option maxRecDepth 100000 in
theorem c_X5_crank (l : Launch) (G : gT) (x r p q : Nat) (a S h : Nat → Nat) (n : Nat) (d T : Nat → Nat → Nat) (hn : n ≤ 6) (hI : IV S) (m : Nat) (hm1 : 1 ≤ m) (hm : m ≤ 200) : CM l G yX5_crank wsX5_crank 6 134 1 [.ref x, .int (nI m)] [XB x (a 0) r p (h 0) q, DW G a S, HI G h n d, HD G d T] 0 0 (fun v u => v = some (.int (nI (stkN 3 S m 70 - S 70))) ∧ u = [XB x (a 0) r p (h 0) q, DW G a (stkN 3 S m), HI G h (aM n + 1) (aD n d), HD G (aD n d) (hT n S T)]) := by
  refine CM_of RX5 5 113 rfl rfl (by decide) (by decide +kernel) (Nat.le_of_ble_eq_true rfl) (fun E A X hrt hnm => ?_)
  have F10 := Fld_of (idx := 10) 5 0 X (by decide) (by decide) (by decide +kernel) (by decide +kernel)
  have F33 := Fld_of (idx := 33) 5 3 X (by decide) (by decide) (by decide +kernel) (by decide +kernel)
  generalize hQ : QM E G A _ _ _ = Q
  obtain ⟨i1, i2, i3, i4, i5, i6⟩ := id hI
  show V E G A 2 [XB x (a 0) r p (h 0) q, DW G a S, HI G h n d, HD G d T] 0 0 Q 0 [(0, .ref x), (1, .int (nI m))] []
  refine V_iload_n (pc' := 1) 1 X dX5_crank_0 rfl rfl rfl ?_
  refine V_iconst (pc' := 2) (nI 1) X dX5_crank_1 ki_1 rfl ?_
  refine V_icmp_lt (pc' := 5) (C := m < 1) 12 X dX5_crank_2 (by decide) rfl (nI_ltI (by omega) (by omega)) (fun hz => absurd hz (by omega)) (fun _ => ?_)
  refine V_iload_n (pc' := 6) 1 X dX5_crank_5 rfl rfl rfl ?_
  refine V_sipush (pc' := 9) (nI 200) X dX5_crank_6 ks_200 rfl ?_
  refine V_icmp_le (pc' := 12) (C := m ≤ 200) 22 X dX5_crank_9 (by decide) rfl (nI_leI (by omega) (by omega)) (fun _ => ?_) (fun hz => absurd (by omega) hz)
  refine V_aload_n (pc' := 23) 0 X dX5_crank_22 rfl rfl rfl ?_
  refine V_get (pc' := 26) 0 X F33 rfl rfl dX5_crank_23 rfl ?_
  refine V_aload_n (pc' := 27) 0 X dX5_crank_26 rfl rfl rfl ?_
  refine V_get (pc' := 30) 0 X F10 rfl rfl dX5_crank_27 rfl ?_
  refine V_callV (pc' := 33) (As := [.ref (a 0)]) (st := []) 2 8 [2, 3, 1] [0] (show (List.range 4).Perm ([2, 3, 1] ++ [0]) by decide) X (c_X2_add l G h d T a S n hn) rfl gX5_crank_X2_add rfl (by decide) rfl rfl rfl (Nat.le_of_ble_eq_true rfl) ⟨Nat.le_of_ble_eq_true rfl, Nat.le_of_ble_eq_true rfl⟩ ⟨Nat.le_of_ble_eq_true rfl, Nat.le_of_ble_eq_true rfl⟩ dX5_crank_30 rfl (fun v_ u_ hp_ => ?_)
  obtain ⟨rfl, rfl⟩ := hp_
  show V E G A 2 [XB x (a 0) r p (h 0) q, HI G h (aM n + 1) (aD n d), DW G ((aD n d) (aM n)) S, DW G a S, HR G (aD n d) (aD n T) (aM n)] 0 0 Q 33 [(0, .ref x), (1, .int (nI m))] [.ref (((aD n d) (aM n)) 0)]
  refine V_pop (pc' := 34) X dX5_crank_33 rfl rfl ?_
  refine V_aload_n (pc' := 35) 0 X dX5_crank_34 rfl rfl rfl ?_
  refine V_get (pc' := 38) 0 X F10 rfl rfl dX5_crank_35 rfl ?_
  refine V_iload_n (pc' := 39) 1 X dX5_crank_38 rfl rfl rfl ?_
  refine V_callV (pc' := 42) (As := [.int (nI m)]) (st := []) 0 10 [3] [0, 1, 2, 4] (show (List.range 5).Perm ([3] ++ [0, 1, 2, 4]) by decide) X (c_X0_strikeColumns l G a S m hI (by omega)) rfl gX5_crank_X0_strikeColumns rfl (by decide) rfl rfl rfl (Nat.le_of_ble_eq_true rfl) ⟨Nat.le_of_ble_eq_true rfl, Nat.le_of_ble_eq_true rfl⟩ ⟨Nat.le_of_ble_eq_true rfl, Nat.le_of_ble_eq_true rfl⟩ dX5_crank_39 rfl (fun v_ u_ hp_ => ?_)
  obtain ⟨rfl, rfl⟩ := hp_
  show V E G A 2 [XB x (a 0) r p (h 0) q, HI G h (aM n + 1) (aD n d), DW G ((aD n d) (aM n)) S, HR G (aD n d) (aD n T) (aM n), DW G a (stkN 3 S m)] 0 0 Q 42 [(0, .ref x), (1, .int (nI m))] [.int (nI (stkN 3 S m 70 - S 70))]
  refine V_ord [0, 1, 2, 4, 3] [XB x (a 0) r p (h 0) q, HI G h (aM n + 1) (aD n d), DW G ((aD n d) (aM n)) S, DW G a (stkN 3 S m), HR G (aD n d) (aD n T) (aM n)] (show (List.range 5).Perm [0, 1, 2, 4, 3] by decide) rfl ?_
  refine V_ord [0, 3, 1, 2, 4] [XB x (a 0) r p (h 0) q, DW G a (stkN 3 S m), HI G h (aM n + 1) (aD n d), DW G ((aD n d) (aM n)) S, HR G (aD n d) (aD n T) (aM n)] (show (List.range 5).Perm [0, 3, 1, 2, 4] by decide) rfl ?_
  refine V_join (bs' := [XB x (a 0) r p (h 0) q, DW G a (stkN 3 S m), HI G h (aM n + 1) (aD n d), HD G (aD n d) (hT n S T)]) 3 rfl (HD_perm' G (aD n d) (aD n T) S (aM_lt hn)) rfl ?_
  exact V_ireturn (v := nI (stkN 3 S m 70 - S 70)) [XB x (a 0) r p (h 0) q, DW G a (stkN 3 S m), HI G h (aM n + 1) (aD n d), HD G (aD n d) (hT n S T)] hQ X hrt rfl dX5_crank_42 (Nat.le_of_ble_eq_true rfl) (Nat.le_of_ble_eq_true rfl) (List.Perm.refl _) ⟨rfl, rfl⟩

set_option maxHeartbeats 4000000 in
set_option maxRecDepth 100000 in
theorem c_X5_turnBack (l : Launch) (G : gT) (x r p q : Nat) (a S h : Nat → Nat) (n : Nat) (d T : Nat → Nat → Nat) (hn : n ≤ 6) (hI : IV S) : CM l G yX5_turnBack wsX5_turnBack 5 125 0 [.ref x] [XB x (a 0) r p (h 0) q, DW G a S, HI G h n d, HD G d T] 0 0 (fun v u => v = some (.int (nI (S 47))) ∧ u = [XB x (a 0) r p (h 0) q, DW G a (tbk 3 S), HI G h (aM n + 1) (aD n d), HD G (aD n d) (hT n S T)]) := by
  refine CM_of RX5 4 104 rfl rfl (by decide) (by decide +kernel) (Nat.le_of_ble_eq_true rfl) (fun E A X hrt hnm => ?_)
  have F10 := Fld_of (idx := 10) 5 0 X (by decide) (by decide) (by decide +kernel) (by decide +kernel)
  have F33 := Fld_of (idx := 33) 5 3 X (by decide) (by decide) (by decide +kernel) (by decide +kernel)
  have F109 := Fld_of (idx := 109) 0 6 X (by decide) (by decide) (by decide +kernel) (by decide +kernel)
  have F112 := Fld_of (idx := 112) 0 4 X (by decide) (by decide) (by decide +kernel) (by decide +kernel)
  generalize hQ : QM E G A _ _ _ = Q
  obtain ⟨i1, i2, i3, i4, i5, i6⟩ := id hI
  show V E G A 2 [XB x (a 0) r p (h 0) q, DW G a S, HI G h n d, HD G d T] 0 0 Q 0 [(0, .ref x)] []
  refine V_aload_n (pc' := 1) 0 X dX5_turnBack_0 rfl rfl rfl ?_
  refine V_get (pc' := 4) 0 X F33 rfl rfl dX5_turnBack_1 rfl ?_
  refine V_aload_n (pc' := 5) 0 X dX5_turnBack_4 rfl rfl rfl ?_
  refine V_get (pc' := 8) 0 X F10 rfl rfl dX5_turnBack_5 rfl ?_
  refine V_callV (pc' := 11) (As := [.ref (a 0)]) (st := []) 2 8 [2, 3, 1] [0] (show (List.range 4).Perm ([2, 3, 1] ++ [0]) by decide) X (c_X2_add l G h d T a S n hn) rfl gX5_turnBack_X2_add rfl (by decide) rfl rfl rfl (Nat.le_of_ble_eq_true rfl) ⟨Nat.le_of_ble_eq_true rfl, Nat.le_of_ble_eq_true rfl⟩ ⟨Nat.le_of_ble_eq_true rfl, Nat.le_of_ble_eq_true rfl⟩ dX5_turnBack_8 rfl (fun v_ u_ hp_ => ?_)
  obtain ⟨rfl, rfl⟩ := hp_
  show V E G A 2 [XB x (a 0) r p (h 0) q, HI G h (aM n + 1) (aD n d), DW G ((aD n d) (aM n)) S, DW G a S, HR G (aD n d) (aD n T) (aM n)] 0 0 Q 11 [(0, .ref x)] [.ref (((aD n d) (aM n)) 0)]
  refine V_astore_n (pc' := 12) [(0, .ref x), (1, .ref (((aD n d) (aM n)) 0))] [1, 0] X dX5_turnBack_11 rfl (Nat.le_of_ble_eq_true rfl) rfl rfl ?_
  refine V_aload_n (pc' := 13) 0 X dX5_turnBack_12 rfl rfl rfl ?_
  refine V_get (pc' := 16) 0 X F10 rfl rfl dX5_turnBack_13 rfl ?_
  refine V_iconst (pc' := 17) (nI 0) X dX5_turnBack_16 ki_0 rfl ?_
  refine V_ws [XB x (a 0) r p (h 0) q, HI G h (aM n + 1) (aD n d), DW G ((aD n d) (aM n)) S, [((a 0), .inr (0, [.ref (a 1), .ref (a 2), .ref (a 3), .ref (a 4), .ref (a 5), .int (nI (S 46)), .int (nI (S 47)), .int (nI (S 48)), .int (nI (S 70)), .int (nI (S 59))])), ((a 1), .inl (G.2 0, 32, .inl (nf S))), ((a 2), .inl (G.2 0, 4, .inl (nf (fun k => S (32 + k))))), ((a 3), .inl (G.2 0, 10, .inl (nf (fun k => S (36 + k))))), ((a 4), .inl (G.2 0, 10, .inl (nf (fun k => S (49 + k))))), ((a 5), .inr (1, [.ref (a 6)])), ((a 6), .inl (G.2 0, 10, .inl (nf (fun k => S (60 + k)))))], HR G (aD n d) (aD n T) (aM n)] rfl ?_
  refine V_put (pc' := 20) 10 [XB x (a 0) r p (h 0) q, HI G h (aM n + 1) (aD n d), DW G ((aD n d) (aM n)) S, [((a 0), .inr (0, [.ref (a 1), .ref (a 2), .ref (a 3), .ref (a 4), .ref (a 5), .int (nI (S 46)), .int (nI 0), .int (nI (S 48)), .int (nI (S 70)), .int (nI (S 59))])), ((a 1), .inl (G.2 0, 32, .inl (nf S))), ((a 2), .inl (G.2 0, 4, .inl (nf (fun k => S (32 + k))))), ((a 3), .inl (G.2 0, 10, .inl (nf (fun k => S (36 + k))))), ((a 4), .inl (G.2 0, 10, .inl (nf (fun k => S (49 + k))))), ((a 5), .inr (1, [.ref (a 6)])), ((a 6), .inl (G.2 0, 10, .inl (nf (fun k => S (60 + k)))))], HR G (aD n d) (aD n T) (aM n)] X F109 rfl rfl rfl rfl (Nat.le_of_ble_eq_true rfl) rfl dX5_turnBack_17 rfl ?_
  refine V_aload_n (pc' := 21) 0 X dX5_turnBack_20 rfl rfl rfl ?_
  refine V_get (pc' := 24) 0 X F10 rfl rfl dX5_turnBack_21 rfl ?_
  refine V_get (pc' := 27) 10 X F112 rfl rfl dX5_turnBack_24 rfl ?_
  refine V_ws [XB x (a 0) r p (h 0) q, HI G h (aM n + 1) (aD n d), DW G ((aD n d) (aM n)) S, [((a 0), .inr (0, [.ref (a 1), .ref (a 2), .ref (a 3), .ref (a 4), .ref (a 5), .int (nI (S 46)), .int (nI 0), .int (nI (S 48)), .int (nI (S 70)), .int (nI (S 59))]))], [((a 1), .inl (G.2 0, 32, .inl (nf S)))], [((a 2), .inl (G.2 0, 4, .inl (nf (fun k => S (32 + k)))))], [((a 3), .inl (G.2 0, 10, .inl (nf (fun k => S (36 + k)))))], [((a 4), .inl (G.2 0, 10, .inl (nf (fun k => S (49 + k)))))], HM G (a 5) (a 6) (fun k => S (60 + k)), HR G (aD n d) (aD n T) (aM n)] rfl ?_
  refine V_callV (pc' := 30) (As := []) (st := []) 1 15 [8] [0, 1, 2, 3, 4, 5, 6, 7, 9] (show (List.range 10).Perm ([8] ++ [0, 1, 2, 3, 4, 5, 6, 7, 9]) by decide) X (c_X1_allBack l G (a 5) (a 6) (fun k => S (60 + k))) rfl gX5_turnBack_X1_allBack rfl (by decide) rfl rfl rfl (Nat.le_of_ble_eq_true rfl) ⟨Nat.le_of_ble_eq_true rfl, Nat.le_of_ble_eq_true rfl⟩ ⟨Nat.le_of_ble_eq_true rfl, Nat.le_of_ble_eq_true rfl⟩ dX5_turnBack_27 rfl (fun v_ u_ hp_ => ?_)
  obtain ⟨rfl, rfl⟩ := hp_
  show V E G A 2 [XB x (a 0) r p (h 0) q, HI G h (aM n + 1) (aD n d), DW G ((aD n d) (aM n)) S, [((a 0), .inr (0, [.ref (a 1), .ref (a 2), .ref (a 3), .ref (a 4), .ref (a 5), .int (nI (S 46)), .int (nI 0), .int (nI (S 48)), .int (nI (S 70)), .int (nI (S 59))]))], [((a 1), .inl (G.2 0, 32, .inl (nf S)))], [((a 2), .inl (G.2 0, 4, .inl (nf (fun k => S (32 + k)))))], [((a 3), .inl (G.2 0, 10, .inl (nf (fun k => S (36 + k)))))], [((a 4), .inl (G.2 0, 10, .inl (nf (fun k => S (49 + k)))))], HR G (aD n d) (aD n T) (aM n), HM G (a 5) (a 6) (fun _ => 3)] 0 0 Q 30 [(0, .ref x), (1, .ref (((aD n d) (aM n)) 0))] []
  refine V_ord [0, 1, 2, 3, 4, 5, 6, 7, 9, 8] [XB x (a 0) r p (h 0) q, HI G h (aM n + 1) (aD n d), DW G ((aD n d) (aM n)) S, [((a 0), .inr (0, [.ref (a 1), .ref (a 2), .ref (a 3), .ref (a 4), .ref (a 5), .int (nI (S 46)), .int (nI 0), .int (nI (S 48)), .int (nI (S 70)), .int (nI (S 59))]))], [((a 1), .inl (G.2 0, 32, .inl (nf S)))], [((a 2), .inl (G.2 0, 4, .inl (nf (fun k => S (32 + k)))))], [((a 3), .inl (G.2 0, 10, .inl (nf (fun k => S (36 + k)))))], [((a 4), .inl (G.2 0, 10, .inl (nf (fun k => S (49 + k)))))], HM G (a 5) (a 6) (fun _ => 3), HR G (aD n d) (aD n T) (aM n)] (show (List.range 10).Perm [0, 1, 2, 3, 4, 5, 6, 7, 9, 8] by decide) rfl ?_
  refine V_aload_n (pc' := 31) 1 X dX5_turnBack_30 rfl rfl rfl ?_
  refine V_get (pc' := 34) 3 X F109 rfl rfl dX5_turnBack_31 rfl ?_
  refine V_ws [XB x (a 0) r p (h 0) q, HI G h (aM n + 1) (aD n d), DW G ((aD n d) (aM n)) S, [((a 0), .inr (0, [.ref (a 1), .ref (a 2), .ref (a 3), .ref (a 4), .ref (a 5), .int (nI (S 46)), .int (nI 0), .int (nI (S 48)), .int (nI (S 70)), .int (nI (S 59))])), ((a 1), .inl (G.2 0, 32, .inl (nf S))), ((a 2), .inl (G.2 0, 4, .inl (nf (fun k => S (32 + k))))), ((a 3), .inl (G.2 0, 10, .inl (nf (fun k => S (36 + k))))), ((a 4), .inl (G.2 0, 10, .inl (nf (fun k => S (49 + k))))), ((a 5), .inr (1, [.ref (a 6)])), ((a 6), .inl (G.2 0, 10, .inl (nf (fun _ => 3))))], HR G (aD n d) (aD n T) (aM n)] rfl ?_
  refine V_wsq [XB x (a 0) r p (h 0) q, HI G h (aM n + 1) (aD n d), DW G ((aD n d) (aM n)) S, DW G a (tbk 3 S), HR G (aD n d) (aD n T) (aM n)] (wsq.app (wsq.rf _) (wsq.app (wsq.rf _) (wsq.app (wsq.rf _) (wsq.app (DW_of rfl rfl rfl rfl rfl (fun k hk => congrArg nI (by unfold tbk; rw [if_neg (by omega), if_neg (by omega)])) (fun k hk => congrArg nI (by unfold tbk; rw [if_neg (by omega), if_neg (by omega)])) (fun k hk => congrArg nI (by unfold tbk; rw [if_neg (by omega), if_neg (by omega)])) (fun k hk => congrArg nI (by unfold tbk; rw [if_neg (by omega), if_neg (by omega)])) (fun k hk => congrArg nI (by unfold tbk; rw [if_neg (by omega), if_pos (by omega)]))) (wsq.rf _))))) ?_
  refine V_ord [0, 3, 1, 2, 4] [XB x (a 0) r p (h 0) q, DW G a (tbk 3 S), HI G h (aM n + 1) (aD n d), DW G ((aD n d) (aM n)) S, HR G (aD n d) (aD n T) (aM n)] (show (List.range 5).Perm [0, 3, 1, 2, 4] by decide) rfl ?_
  refine V_join (bs' := [XB x (a 0) r p (h 0) q, DW G a (tbk 3 S), HI G h (aM n + 1) (aD n d), HD G (aD n d) (hT n S T)]) 3 rfl (HD_perm' G (aD n d) (aD n T) S (aM_lt hn)) rfl ?_
  exact V_ireturn (v := nI (S 47)) [XB x (a 0) r p (h 0) q, DW G a (tbk 3 S), HI G h (aM n + 1) (aD n d), HD G (aD n d) (hT n S T)] hQ X hrt rfl dX5_turnBack_34 (Nat.le_of_ble_eq_true rfl) (Nat.le_of_ble_eq_true rfl) (List.Perm.refl _) ⟨rfl, rfl⟩
