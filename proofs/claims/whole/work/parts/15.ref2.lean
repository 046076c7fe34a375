/-! the reference: its methods -/
/-- pegs put beside, turned round, moved -/
def trG (s d : Nat → Nat) (i : Nat) : Nat → Nat := fun k => if 31 - k < i then s (31 - k) else d k
theorem trG_step {s d : Nat → Nat} {i k : Nat} (hi : i < 32) (hk : k < 32) : va_up (trG s d i) (31 - i) (s i) k = trG s d (i + 1) k := by
  unfold va_up
  by_cases e : k = 31 - i
  · rw [if_pos e]; unfold trG; rw [if_pos (by omega), show 31 - k = i by omega]
  · rw [if_neg e]; unfold trG
    by_cases e2 : 31 - k < i
    · rw [if_pos e2, if_pos (by omega)]
    · rw [if_neg e2, if_neg (by omega)]
def mvG (s d : Nat → Nat) (m i : Nat) : Nat → Nat := fun k => if (k + 32 - m) % 32 < i then s ((k + 32 - m) % 32) else d k
theorem mvG_step {s d : Nat → Nat} {m i k : Nat} (hm1 : 1 ≤ m) (hm : m < 32) (hi : i < 32) (hk : k < 32) : va_up (mvG s d m i) ((i + m) % 32) (s i) k = mvG s d m (i + 1) k := by
  unfold va_up
  by_cases e : k = (i + m) % 32
  · have e2 : (k + 32 - m) % 32 = i := by omega
    rw [if_pos e]; unfold mvG; rw [e2, if_pos (by omega)]
  · have e2 : ¬ (k + 32 - m) % 32 = i := by omega
    rw [if_neg e]; unfold mvG
    by_cases e3 : (k + 32 - m) % 32 < i
    · rw [if_pos e3, if_pos (by omega)]
    · rw [if_neg e3, if_neg (by omega)]
theorem upN_S {s d s' : Nat → Nat} {k : Nat} (h1 : ∀ j, j < 32 → d j = s' j) (h2 : ∀ j, 32 ≤ j → s' j = s j) : upN s d 32 k = s' k := by
  by_cases e : k < 32
  · rw [upN_in e]; exact h1 k e
  · rw [upN_out (by omega), h2 k (by omega)]
theorem trG_trn {s d : Nat → Nat} {j : Nat} (hj : j < 32) : trG s d 32 j = trn s j := by unfold trG trn; rw [if_pos (by omega), if_pos hj]
theorem mvG_mvd {s d : Nat → Nat} {m j : Nat} (hj : j < 32) : mvG s d m 32 j = mvd m s j := by unfold mvG mvd; rw [if_pos (Nat.mod_lt _ (by decide)), if_pos hj]
theorem sm_xor {s d s' : Nat → Nat} (h : ∀ j, j < 32 → d j = s' j) : sm (fun k => cnt (s k ^^^ d k)) 32 = sm (fun k => cnt (s' k ^^^ s k)) 32 :=
  sm_congr (fun k hk => by show cnt (s k ^^^ d k) = cnt (s' k ^^^ s k); rw [h k hk, Nat.xor_comm])
theorem trn_lt {s : Nat → Nat} (hI : IV s) : ∀ k, k < 32 → trn s k < 1024 := fun k hk => by unfold trn; rw [if_pos hk]; exact hI.1 _ (by omega)
theorem mvd_lt {s : Nat → Nat} {m : Nat} (hI : IV s) : ∀ k, k < 32 → mvd m s k < 1024 := fun k hk => by unfold mvd; rw [if_pos hk]; exact hI.1 _ (Nat.mod_lt _ (by decide))
theorem sm_b9 {s : Nat → Nat} (hI : IV s) : sm (fun k => s k / 2 ^ 9) 32 = sm (fun k => bq (s k) 9) 32 :=
  sm_congr (fun k hk => by show s k / 2 ^ 9 = s k / 2 ^ 9 % 2; have := hI.1 k hk; omega)
def tbF (s : Nat → Nat) (i : Nat) : Nat → Nat := fun k => if 60 ≤ k ∧ k < 60 + i then 9 else va_up s 47 0 k
theorem tbF_step {s : Nat → Nat} {i k : Nat} : va_up (tbF s i) (60 + i) 9 k = tbF s (i + 1) k := by
  unfold va_up tbF
  by_cases e : k = 60 + i
  · rw [if_pos e, if_pos (by omega)]
  · rw [if_neg e]
    by_cases e2 : 60 ≤ k ∧ k < 60 + i
    · rw [if_pos e2, if_pos (by omega)]
    · rw [if_neg e2, if_neg (by omega)]
theorem tbF_10 {s : Nat → Nat} {k : Nat} : tbF s 10 k = tbk 9 s k := by
  unfold tbF tbk va_up
  by_cases e : k = 47
  · rw [if_neg (by omega), if_pos e, if_pos e]
  · rw [if_neg e, if_neg e]
theorem why_mf {s : Nat → Nat} (hI : IV s) {b : Nat} (hb : b < 10) (h1 : ¬ bq (s (s 47)) b = 0) : mfv s b (hq s b).1 (s (60 + b)) (s 46) = why s b := by
  have hbq := bq_lt (s (s 47)) b
  have hw := hI.2.2.1 b hb
  have hg := hI.2.2.2.2.2 b hb
  have hbit : bq (hs s) b = _ := hr_bit _ _ _ _ 10 b hb
  have e2 : wIn (fun k => s (36 + k)) (hq s b).1 = (hq s b).2 := hr_wIn _ _ _ _ b (by omega)
  unfold why mfv
  rw [if_neg h1, hbit, e2]
  by_cases c1 : s (36 + b) / 20 ≤ s (60 + b)
  · rw [if_neg (show ¬ (s (60 + b) < 9 ∧ s (60 + b) + 1 < s (36 + b) / 20 + 1) by omega), if_neg (Classical.not_not.mpr c1)]
    by_cases c2 : (hq s b).2 + s (36 + b) ≤ s 46
    · rw [if_neg (by omega), if_pos (if_pos ⟨by omega, c1, c2⟩)]
    · rw [if_pos (by omega), if_neg (fun q => by rw [if_neg (fun z => c2 z.2.2)] at q; exact absurd q (by decide))]
  · rw [if_pos (show s (60 + b) < 9 ∧ s (60 + b) + 1 < s (36 + b) / 20 + 1 by omega), if_pos c1]
/-- the strikes of a set with the bound B and with none -/
theorem hr_mono {p : Nat} {g w : Nat → Nat} {B : Nat} : ∀ n i, i ≤ n → (hr p g w B i).2 ≤ (hr p g w B n).2
  | 0, i, h => by rw [Nat.le_zero.mp h]; exact Nat.le_refl _
  | n + 1, i, h => by
    by_cases e : i = n + 1
    · rw [e]; exact Nat.le_refl _
    · have h1 := hr_mono (p := p) (g := g) (w := w) (B := B) n i (by omega)
      refine Nat.le_trans h1 ?_
      rw [show hr p g w B (n + 1) = if bq p n = 1 ∧ w n / 20 ≤ g n ∧ (hr p g w B n).2 + w n ≤ B then ((hr p g w B n).1 + 2 ^ n, (hr p g w B n).2 + w n) else hr p g w B n from rfl]
      split
      · exact Nat.le_add_right _ _
      · exact Nat.le_refl _
theorem hr_600 {p : Nat} {g w : Nat → Nat} {B : Nat} (hw : ∀ k, k < 10 → w k ≤ 60) : ∀ n, n ≤ 10 → (hr p g w B n).2 ≤ n * 60
  | 0, _ => Nat.le_refl _
  | n + 1, h => by
    have h1 := hr_600 (p := p) (g := g) (B := B) hw n (by omega)
    have h2 := hw n (by omega)
    rw [show hr p g w B (n + 1) = if bq p n = 1 ∧ w n / 20 ≤ g n ∧ (hr p g w B n).2 + w n ≤ B then ((hr p g w B n).1 + 2 ^ n, (hr p g w B n).2 + w n) else hr p g w B n from rfl]
    split
    · show (hr p g w B n).2 + w n ≤ _; omega
    · omega
abbrev hvy (s : Nat → Nat) (B i j : Nat) : Prop := bq (s i) j = 1 ∧ mfv s j (hj s B i j).1 (rsp 9 s B i j) B = 2
theorem hvy_iff {s : Nat → Nat} (hI : IV s) {B i j : Nat} (hj_ : j < 10) : hvy s B i j ↔ (bq (s i) j = 1 ∧ s (36 + j) / 20 ≤ rsp 9 s B i j ∧ B < (hj s B i j).2 + s (36 + j)) := by
  have hw := hI.2.2.1 j hj_
  have hg := rsp_le 9 s B i j
  have e2 : wIn (fun k => s (36 + k)) (hj s B i j).1 = (hj s B i j).2 := hr_wIn _ _ _ _ j (by omega)
  unfold hvy mfv
  rw [e2]
  by_cases h1 : rsp 9 s B i j < 9 ∧ rsp 9 s B i j + 1 < s (36 + j) / 20 + 1
  · rw [if_pos h1]; omega
  · rw [if_neg h1]
    by_cases h2 : B < (hj s B i j).2 + s (36 + j)
    · rw [if_pos h2]; omega
    · rw [if_neg h2]; omega
theorem tw_0 {s : Nat → Nat} {B i : Nat} : ∀ j, tw s B i j = 0 ↔ ∀ k, k < j → ¬ hvy s B i k
  | 0 => ⟨fun _ k hk => absurd hk (Nat.not_lt_zero _), fun _ => rfl⟩
  | j + 1 => by
    have ih := tw_0 (s := s) (B := B) (i := i) j
    rw [show tw s B i (j + 1) = tw s B i j + (if hvy s B i j then 1 else 0) from rfl]
    constructor
    · intro h k hk
      by_cases e : k = j
      · rw [e]; intro q; rw [if_pos q] at h; omega
      · exact ih.mp (by omega) k (by omega)
    · intro h
      rw [if_neg (h j (by omega)), ih.mpr (fun k hk => h k (by omega))]
/-- a column: never too heavy is as light with no bound -/
theorem col_iff {s : Nat → Nat} (hI : IV s) {B i : Nat} (hr_ : rsp 9 s B i = rsp 9 s 601 i) : ∀ j, j ≤ 10 → ((∀ k, k < j → ¬ hvy s B i k) ↔ (hj s 601 i j).2 ≤ B) ∧ ((hj s 601 i j).2 ≤ B → hj s B i j = hj s 601 i j)
  | 0, _ => ⟨⟨fun _ => Nat.zero_le _, fun _ k hk => absurd hk (Nat.not_lt_zero _)⟩, fun _ => rfl⟩
  | j + 1, h => by
    obtain ⟨c1, c2⟩ := col_iff hI hr_ j (by omega)
    have hw := hI.2.2.1 j (by omega)
    have h6 : (hj s 601 i j).2 ≤ j * 60 := hr_600 (fun k hk => hI.2.2.1 k hk) j (by omega)
    have hv := hvy_iff hI (B := B) (i := i) (show j < 10 by omega)
    have hU : hj s 601 i (j + 1) = if bq (s i) j = 1 ∧ s (36 + j) / 20 ≤ rsp 9 s 601 i j ∧ (hj s 601 i j).2 + s (36 + j) ≤ 601 then ((hj s 601 i j).1 + 2 ^ j, (hj s 601 i j).2 + s (36 + j)) else hj s 601 i j := rfl
    have hB : hj s B i (j + 1) = if bq (s i) j = 1 ∧ s (36 + j) / 20 ≤ rsp 9 s B i j ∧ (hj s B i j).2 + s (36 + j) ≤ B then ((hj s B i j).1 + 2 ^ j, (hj s B i j).2 + s (36 + j)) else hj s B i j := rfl
    rw [hr_] at hv hB
    have split1 : (∀ k, k < j + 1 → ¬ hvy s B i k) ↔ ((∀ k, k < j → ¬ hvy s B i k) ∧ ¬ hvy s B i j) :=
      ⟨fun q => ⟨fun k hk => q k (by omega), q j (by omega)⟩, fun q k hk => by
        by_cases e : k = j
        · rw [e]; exact q.2
        · exact q.1 k (by omega)⟩
    by_cases hc : bq (s i) j = 1 ∧ s (36 + j) / 20 ≤ rsp 9 s 601 i j
    · rw [if_pos ⟨hc.1, hc.2, by omega⟩] at hU
      rw [hU, split1, c1]
      constructor
      · constructor
        · rintro ⟨q1, q2⟩
          rw [hv, c2 q1] at q2
          show (hj s 601 i j).2 + s (36 + j) ≤ B
          by_cases z : (hj s 601 i j).2 + s (36 + j) ≤ B
          · exact z
          · exact absurd ⟨hc.1, hc.2, by omega⟩ q2
        · intro q
          have q : (hj s 601 i j).2 + s (36 + j) ≤ B := q
          refine ⟨by omega, fun z => ?_⟩
          rw [hv, c2 (by omega)] at z
          omega
      · intro q
        have q : (hj s 601 i j).2 + s (36 + j) ≤ B := q
        rw [hB, c2 (by omega), if_pos ⟨hc.1, hc.2, q⟩]
    · rw [if_neg (fun z => hc ⟨z.1, z.2.1⟩)] at hU
      rw [hU, split1, c1]
      refine ⟨⟨fun q => q.1, fun q => ⟨q, fun z => hc ⟨(hv.mp z).1, (hv.mp z).2.1⟩⟩⟩, fun q => ?_⟩
      rw [hB, if_neg (fun z => hc ⟨z.1, z.2.1⟩)]
      exact c2 q
theorem rnd_iff {s : Nat → Nat} (hI : IV s) {B : Nat} : ∀ i, (tv s B i = 0 ↔ ∀ c, c < i → (hj s 601 c 10).2 ≤ B) ∧ (tv s B i = 0 → rsp 9 s B i = rsp 9 s 601 i)
  | 0 => ⟨⟨fun _ c hc => absurd hc (Nat.not_lt_zero _), fun _ => rfl⟩, fun _ => rfl⟩
  | i + 1 => by
    obtain ⟨c1, c2⟩ := rnd_iff hI (B := B) i
    have e : tv s B (i + 1) = tv s B i + tw s B i 10 := rfl
    constructor
    · constructor
      · intro h c hc
        have h0 : tv s B i = 0 := by omega
        by_cases ec : c = i
        · rw [ec]; exact (col_iff hI (c2 h0) 10 (Nat.le_refl _)).1.mp ((tw_0 10).mp (by omega))
        · exact c1.mp h0 c (by omega)
      · intro h
        have h0 : tv s B i = 0 := c1.mpr (fun c hc => h c (by omega))
        have h1 := (tw_0 10).mpr ((col_iff hI (c2 h0) 10 (Nat.le_refl _)).1.mpr (h i (by omega)))
        omega
    · intro h
      have h0 : tv s B i = 0 := by omega
      have h1 := (col_iff hI (c2 h0) 10 (Nat.le_refl _)).1.mp ((tw_0 10).mp (by omega))
      have h2 := (col_iff hI (c2 h0) 10 (Nat.le_refl _)).2 h1
      rw [rsp_succ, rsp_succ, c2 h0]
      show swg 9 _ (hj s B i 10).1 = swg 9 _ (hj s 601 i 10).1
      rw [h2]
theorem mxs_iff {t : Nat → Nat} {B : Nat} : ∀ n, mxs t n ≤ B ↔ (1 ≤ B ∧ ∀ k, k < n → t k ≤ B)
  | 0 => ⟨fun h => ⟨h, fun k hk => absurd hk (Nat.not_lt_zero _)⟩, fun h => h.1⟩
  | n + 1 => by
    rw [show mxs t (n + 1) = max (mxs t n) (t n) from rfl, Nat.max_le, mxs_iff n]
    constructor
    · rintro ⟨⟨h1, h2⟩, h3⟩
      refine ⟨h1, fun k hk => ?_⟩
      by_cases e : k = n
      · rw [e]; exact h3
      · exact h2 k (by omega)
    · rintro ⟨h1, h2⟩
      exact ⟨⟨h1, fun k hk => h2 k (by omega)⟩, h2 n (by omega)⟩
def tE (c : Nat) (s : Nat → Nat) : Nat → Nat := fun k => wIn (fun k => s (36 + k)) (rh c s 601 k)
theorem enough_iff {s : Nat → Nat} (hI : IV s) {B : Nat} (hB : 1 ≤ B) : tv s B 32 = 0 ↔ mxs (tE 9 s) 32 ≤ B := by
  rw [(rnd_iff hI 32).1, mxs_iff]
  have e : ∀ k, tE 9 s k = (hj s 601 k 10).2 := fun k => hr_wIn _ _ _ _ 10 (Nat.le_refl _)
  exact ⟨fun h => ⟨hB, fun k hk => by rw [e]; exact h k hk⟩, fun h k hk => by have := h.2 k hk; rw [e] at this; exact this⟩
theorem mxs_pos (t : Nat → Nat) : ∀ n, 1 ≤ mxs t n
  | 0 => Nat.le_refl _
  | n + 1 => Nat.le_trans (mxs_pos t n) (Nat.le_max_left _ _)

set_option maxHeartbeats 4000000 in
set_option maxRecDepth 100000 in
theorem c_X6_turnPeg_b1 (l : Launch) (G : gT) (y : Nat → Nat) (t kn ln th : Nat) (c b : Int32) (hx : ¬ okr 0 31 c) : CM l G yX6_turnPeg wsX6_turnPeg 3 64 2 [.ref (y 0), .int c, .int b] [MO y t kn ln th] 0 0 (fun v u => v = some (.int (nI 0)) ∧ u = [MO y 1 kn ln th]) := by
  refine CM_of RX6 2 42 rfl rfl (by decide) (by decide +kernel) (Nat.le_of_ble_eq_true rfl) (fun E A X hrt hnm => ?_)
  generalize hQ : QM E G A _ _ _ = Q
  show V E G A 3 [MO y t kn ln th] 0 0 Q 0 [(0, .ref (y 0)), (1, .int c), (2, .int b)] []
  refine V_aload_n (pc' := 1) 0 X dX6_turnPeg_0 rfl rfl rfl ?_
  refine V_iload_n (pc' := 2) 1 X dX6_turnPeg_1 rfl rfl rfl ?_
  refine V_callS (pc' := 5) (As := [.int c]) (st := [.ref (y 0)]) [] [0] (show (List.range 1).Perm ([] ++ [0]) by decide) X (c_X6_isColumn0 l G c hx) rfl gX6_turnPeg_X6_isColumn rfl rfl (Nat.le_of_ble_eq_true rfl) ⟨Nat.le_of_ble_eq_true rfl, Nat.le_of_ble_eq_true rfl⟩ ⟨Nat.le_of_ble_eq_true rfl, Nat.le_of_ble_eq_true rfl⟩ dX6_turnPeg_2 rfl (fun v_ u_ hp_ => ?_)
  obtain ⟨rfl, rfl⟩ := hp_
  show V E G A 3 [MO y t kn ln th] 0 0 Q 5 [(0, .ref (y 0)), (1, .int c), (2, .int b)] [.int (nI 0), .ref (y 0)]
  refine V_if_eq (pc' := 8) (C := 0 = 0) 19 X dX6_turnPeg_5 (by decide) rfl (z_eq0 (by omega)) (fun _ => ?_) (fun hz => absurd (by decide) hz)
  refine V_iconst (pc' := 20) (nI 1) X dX6_turnPeg_19 ki_1 rfl ?_
  refine V_callV (pc' := 23) (As := [.int (nI 1)]) (st := []) 6 0 [0] [] (show (List.range 1).Perm ([0] ++ []) by decide) X (c_X6_holds1 l G y t kn ln th) rfl gX6_turnPeg_X6_holds rfl (by decide) rfl rfl rfl (Nat.le_of_ble_eq_true rfl) ⟨Nat.le_of_ble_eq_true rfl, Nat.le_of_ble_eq_true rfl⟩ ⟨Nat.le_of_ble_eq_true rfl, Nat.le_of_ble_eq_true rfl⟩ dX6_turnPeg_20 rfl (fun v_ u_ hp_ => ?_)
  obtain ⟨rfl, rfl⟩ := hp_
  show V E G A 3 [MO y 1 kn ln th] 0 0 Q 23 [(0, .ref (y 0)), (1, .int c), (2, .int b)] [.int (nI 0)]
  refine V_if_ne (pc' := 26) (C := 0 = 0) 28 X dX6_turnPeg_23 (by decide) rfl (z_eq0 (by omega)) (fun hz => absurd (by decide) hz) (fun _ => ?_)
  refine V_iconst (pc' := 27) (nI 0) X dX6_turnPeg_26 ki_0 rfl ?_
  exact V_ireturn (v := nI 0) [MO y 1 kn ln th] hQ X hrt rfl dX6_turnPeg_27 (Nat.le_of_ble_eq_true rfl) (Nat.le_of_ble_eq_true rfl) (List.Perm.refl _) ⟨rfl, rfl⟩

set_option maxHeartbeats 4000000 in
set_option maxRecDepth 100000 in
theorem c_X6_turnPeg_b2 (l : Launch) (G : gT) (y : Nat → Nat) (t kn ln th : Nat) (c : Nat) (hc : c < 32) (b : Int32) (hx : ¬ okr 0 9 b) : CM l G yX6_turnPeg wsX6_turnPeg 3 64 2 [.ref (y 0), .int (nI c), .int b] [MO y t kn ln th] 0 0 (fun v u => v = some (.int (nI 0)) ∧ u = [MO y 1 kn ln th]) := by
  refine CM_of RX6 2 42 rfl rfl (by decide) (by decide +kernel) (Nat.le_of_ble_eq_true rfl) (fun E A X hrt hnm => ?_)
  generalize hQ : QM E G A _ _ _ = Q
  show V E G A 3 [MO y t kn ln th] 0 0 Q 0 [(0, .ref (y 0)), (1, .int (nI c)), (2, .int b)] []
  refine V_aload_n (pc' := 1) 0 X dX6_turnPeg_0 rfl rfl rfl ?_
  refine V_iload_n (pc' := 2) 1 X dX6_turnPeg_1 rfl rfl rfl ?_
  refine V_callS (pc' := 5) (As := [.int (nI c)]) (st := [.ref (y 0)]) [] [0] (show (List.range 1).Perm ([] ++ [0]) by decide) X (c_X6_isColumn1 l G c (by omega)) rfl gX6_turnPeg_X6_isColumn rfl rfl (Nat.le_of_ble_eq_true rfl) ⟨Nat.le_of_ble_eq_true rfl, Nat.le_of_ble_eq_true rfl⟩ ⟨Nat.le_of_ble_eq_true rfl, Nat.le_of_ble_eq_true rfl⟩ dX6_turnPeg_2 rfl (fun v_ u_ hp_ => ?_)
  obtain ⟨rfl, rfl⟩ := hp_
  show V E G A 3 [MO y t kn ln th] 0 0 Q 5 [(0, .ref (y 0)), (1, .int (nI c)), (2, .int b)] [.int (nI 1), .ref (y 0)]
  refine V_if_eq (pc' := 8) (C := 1 = 0) 19 X dX6_turnPeg_5 (by decide) rfl (z_eq0 (by omega)) (fun hz => absurd hz (by decide)) (fun _ => ?_)
  refine V_iload_n (pc' := 9) 2 X dX6_turnPeg_8 rfl rfl rfl ?_
  refine V_callS (pc' := 12) (As := [.int b]) (st := [.ref (y 0)]) [] [0] (show (List.range 1).Perm ([] ++ [0]) by decide) X (c_X6_isBell0 l G b hx) rfl gX6_turnPeg_X6_isBell rfl rfl (Nat.le_of_ble_eq_true rfl) ⟨Nat.le_of_ble_eq_true rfl, Nat.le_of_ble_eq_true rfl⟩ ⟨Nat.le_of_ble_eq_true rfl, Nat.le_of_ble_eq_true rfl⟩ dX6_turnPeg_9 rfl (fun v_ u_ hp_ => ?_)
  obtain ⟨rfl, rfl⟩ := hp_
  show V E G A 3 [MO y t kn ln th] 0 0 Q 12 [(0, .ref (y 0)), (1, .int (nI c)), (2, .int b)] [.int (nI 0), .ref (y 0)]
  refine V_if_eq (pc' := 15) (C := 0 = 0) 19 X dX6_turnPeg_12 (by decide) rfl (z_eq0 (by omega)) (fun _ => ?_) (fun hz => absurd (by decide) hz)
  refine V_iconst (pc' := 20) (nI 1) X dX6_turnPeg_19 ki_1 rfl ?_
  refine V_callV (pc' := 23) (As := [.int (nI 1)]) (st := []) 6 0 [0] [] (show (List.range 1).Perm ([0] ++ []) by decide) X (c_X6_holds1 l G y t kn ln th) rfl gX6_turnPeg_X6_holds rfl (by decide) rfl rfl rfl (Nat.le_of_ble_eq_true rfl) ⟨Nat.le_of_ble_eq_true rfl, Nat.le_of_ble_eq_true rfl⟩ ⟨Nat.le_of_ble_eq_true rfl, Nat.le_of_ble_eq_true rfl⟩ dX6_turnPeg_20 rfl (fun v_ u_ hp_ => ?_)
  obtain ⟨rfl, rfl⟩ := hp_
  show V E G A 3 [MO y 1 kn ln th] 0 0 Q 23 [(0, .ref (y 0)), (1, .int (nI c)), (2, .int b)] [.int (nI 0)]
  refine V_if_ne (pc' := 26) (C := 0 = 0) 28 X dX6_turnPeg_23 (by decide) rfl (z_eq0 (by omega)) (fun hz => absurd (by decide) hz) (fun _ => ?_)
  refine V_iconst (pc' := 27) (nI 0) X dX6_turnPeg_26 ki_0 rfl ?_
  exact V_ireturn (v := nI 0) [MO y 1 kn ln th] hQ X hrt rfl dX6_turnPeg_27 (Nat.le_of_ble_eq_true rfl) (Nat.le_of_ble_eq_true rfl) (List.Perm.refl _) ⟨rfl, rfl⟩

set_option maxHeartbeats 4000000 in
set_option maxRecDepth 100000 in
theorem c_X6_setColumn_b1 (l : Launch) (G : gT) (y : Nat → Nat) (t kn ln th : Nat) (c b : Int32) (hx : ¬ okr 0 31 c) : CM l G yX6_setColumn wsX6_setColumn 3 64 2 [.ref (y 0), .int c, .int b] [MO y t kn ln th] 0 0 (fun v u => v = some (.int (nI 0)) ∧ u = [MO y 1 kn ln th]) := by
  refine CM_of RX6 2 42 rfl rfl (by decide) (by decide +kernel) (Nat.le_of_ble_eq_true rfl) (fun E A X hrt hnm => ?_)
  generalize hQ : QM E G A _ _ _ = Q
  show V E G A 3 [MO y t kn ln th] 0 0 Q 0 [(0, .ref (y 0)), (1, .int c), (2, .int b)] []
  refine V_aload_n (pc' := 1) 0 X dX6_setColumn_0 rfl rfl rfl ?_
  refine V_iload_n (pc' := 2) 1 X dX6_setColumn_1 rfl rfl rfl ?_
  refine V_callS (pc' := 5) (As := [.int c]) (st := [.ref (y 0)]) [] [0] (show (List.range 1).Perm ([] ++ [0]) by decide) X (c_X6_isColumn0 l G c hx) rfl gX6_setColumn_X6_isColumn rfl rfl (Nat.le_of_ble_eq_true rfl) ⟨Nat.le_of_ble_eq_true rfl, Nat.le_of_ble_eq_true rfl⟩ ⟨Nat.le_of_ble_eq_true rfl, Nat.le_of_ble_eq_true rfl⟩ dX6_setColumn_2 rfl (fun v_ u_ hp_ => ?_)
  obtain ⟨rfl, rfl⟩ := hp_
  show V E G A 3 [MO y t kn ln th] 0 0 Q 5 [(0, .ref (y 0)), (1, .int c), (2, .int b)] [.int (nI 0), .ref (y 0)]
  refine V_if_ne (pc' := 8) (C := 0 = 0) 12 X dX6_setColumn_5 (by decide) rfl (z_eq0 (by omega)) (fun hz => absurd (by decide) hz) (fun _ => ?_)
  refine V_iconst (pc' := 9) (nI 1) X dX6_setColumn_8 ki_1 rfl ?_
  refine V_goto (pc' := 28) X dX6_setColumn_9 (by decide) ?_
  refine V_callV (pc' := 31) (As := [.int (nI 1)]) (st := []) 6 0 [0] [] (show (List.range 1).Perm ([0] ++ []) by decide) X (c_X6_holds1 l G y t kn ln th) rfl gX6_setColumn_X6_holds rfl (by decide) rfl rfl rfl (Nat.le_of_ble_eq_true rfl) ⟨Nat.le_of_ble_eq_true rfl, Nat.le_of_ble_eq_true rfl⟩ ⟨Nat.le_of_ble_eq_true rfl, Nat.le_of_ble_eq_true rfl⟩ dX6_setColumn_28 rfl (fun v_ u_ hp_ => ?_)
  obtain ⟨rfl, rfl⟩ := hp_
  show V E G A 3 [MO y 1 kn ln th] 0 0 Q 31 [(0, .ref (y 0)), (1, .int c), (2, .int b)] [.int (nI 0)]
  refine V_if_ne (pc' := 34) (C := 0 = 0) 36 X dX6_setColumn_31 (by decide) rfl (z_eq0 (by omega)) (fun hz => absurd (by decide) hz) (fun _ => ?_)
  refine V_iconst (pc' := 35) (nI 0) X dX6_setColumn_34 ki_0 rfl ?_
  exact V_ireturn (v := nI 0) [MO y 1 kn ln th] hQ X hrt rfl dX6_setColumn_35 (Nat.le_of_ble_eq_true rfl) (Nat.le_of_ble_eq_true rfl) (List.Perm.refl _) ⟨rfl, rfl⟩

set_option maxHeartbeats 4000000 in
set_option maxRecDepth 100000 in
theorem c_X6_setColumn_b2 (l : Launch) (G : gT) (y : Nat → Nat) (t kn ln th : Nat) (c : Nat) (hc : c ≤ 31) (b : Int32) (hx : ¬ okr 0 1023 b) : CM l G yX6_setColumn wsX6_setColumn 3 64 2 [.ref (y 0), .int (nI c), .int b] [MO y t kn ln th] 0 0 (fun v u => v = some (.int (nI 0)) ∧ u = [MO y 2 kn ln th]) := by
  refine CM_of RX6 2 42 rfl rfl (by decide) (by decide +kernel) (Nat.le_of_ble_eq_true rfl) (fun E A X hrt hnm => ?_)
  generalize hQ : QM E G A _ _ _ = Q
  show V E G A 3 [MO y t kn ln th] 0 0 Q 0 [(0, .ref (y 0)), (1, .int (nI c)), (2, .int b)] []
  refine V_aload_n (pc' := 1) 0 X dX6_setColumn_0 rfl rfl rfl ?_
  refine V_iload_n (pc' := 2) 1 X dX6_setColumn_1 rfl rfl rfl ?_
  refine V_callS (pc' := 5) (As := [.int (nI c)]) (st := [.ref (y 0)]) [] [0] (show (List.range 1).Perm ([] ++ [0]) by decide) X (c_X6_isColumn1 l G c (by omega)) rfl gX6_setColumn_X6_isColumn rfl rfl (Nat.le_of_ble_eq_true rfl) ⟨Nat.le_of_ble_eq_true rfl, Nat.le_of_ble_eq_true rfl⟩ ⟨Nat.le_of_ble_eq_true rfl, Nat.le_of_ble_eq_true rfl⟩ dX6_setColumn_2 rfl (fun v_ u_ hp_ => ?_)
  obtain ⟨rfl, rfl⟩ := hp_
  show V E G A 3 [MO y t kn ln th] 0 0 Q 5 [(0, .ref (y 0)), (1, .int (nI c)), (2, .int b)] [.int (nI 1), .ref (y 0)]
  refine V_if_ne (pc' := 8) (C := 1 = 0) 12 X dX6_setColumn_5 (by decide) rfl (z_eq0 (by omega)) (fun _ => ?_) (fun hz => absurd hz (by decide))
  refine V_iload_n (pc' := 13) 2 X dX6_setColumn_12 rfl rfl rfl ?_
  refine V_iconst (pc' := 14) (nI 0) X dX6_setColumn_13 ki_0 rfl ?_
  refine V_sipush (pc' := 17) (nI 1023) X dX6_setColumn_14 ks_1023 rfl ?_
  refine V_callS (pc' := 20) (As := [.int b, .int (nI 0), .int (nI 1023)]) (st := [.ref (y 0)]) [] [0] (show (List.range 1).Perm ([] ++ [0]) by decide) X (c_X6_in0 l G b 0 1023 (by decide) (by decide) hx) rfl gX6_setColumn_X6_in rfl rfl (Nat.le_of_ble_eq_true rfl) ⟨Nat.le_of_ble_eq_true rfl, Nat.le_of_ble_eq_true rfl⟩ ⟨Nat.le_of_ble_eq_true rfl, Nat.le_of_ble_eq_true rfl⟩ dX6_setColumn_17 rfl (fun v_ u_ hp_ => ?_)
  obtain ⟨rfl, rfl⟩ := hp_
  show V E G A 3 [MO y t kn ln th] 0 0 Q 20 [(0, .ref (y 0)), (1, .int (nI c)), (2, .int b)] [.int (nI 0), .ref (y 0)]
  refine V_if_eq (pc' := 23) (C := 0 = 0) 27 X dX6_setColumn_20 (by decide) rfl (z_eq0 (by omega)) (fun _ => ?_) (fun hz => absurd (by decide) hz)
  refine V_iconst (pc' := 28) (nI 2) X dX6_setColumn_27 ki_2 rfl ?_
  refine V_callV (pc' := 31) (As := [.int (nI 2)]) (st := []) 6 0 [0] [] (show (List.range 1).Perm ([0] ++ []) by decide) X (c_X6_holds2 l G y t kn ln th) rfl gX6_setColumn_X6_holds rfl (by decide) rfl rfl rfl (Nat.le_of_ble_eq_true rfl) ⟨Nat.le_of_ble_eq_true rfl, Nat.le_of_ble_eq_true rfl⟩ ⟨Nat.le_of_ble_eq_true rfl, Nat.le_of_ble_eq_true rfl⟩ dX6_setColumn_28 rfl (fun v_ u_ hp_ => ?_)
  obtain ⟨rfl, rfl⟩ := hp_
  show V E G A 3 [MO y 2 kn ln th] 0 0 Q 31 [(0, .ref (y 0)), (1, .int (nI c)), (2, .int b)] [.int (nI 0)]
  refine V_if_ne (pc' := 34) (C := 0 = 0) 36 X dX6_setColumn_31 (by decide) rfl (z_eq0 (by omega)) (fun hz => absurd (by decide) hz) (fun _ => ?_)
  refine V_iconst (pc' := 35) (nI 0) X dX6_setColumn_34 ki_0 rfl ?_
  exact V_ireturn (v := nI 0) [MO y 2 kn ln th] hQ X hrt rfl dX6_setColumn_35 (Nat.le_of_ble_eq_true rfl) (Nat.le_of_ble_eq_true rfl) (List.Perm.refl _) ⟨rfl, rfl⟩

set_option maxHeartbeats 4000000 in
set_option maxRecDepth 100000 in
theorem c_X6_setTempo_b1 (l : Launch) (G : gT) (y : Nat → Nat) (t kn ln th : Nat) (c b : Int32) (hx : ¬ okr 0 3 c) : CM l G yX6_setTempo wsX6_setTempo 3 64 2 [.ref (y 0), .int c, .int b] [MO y t kn ln th] 0 0 (fun v u => v = some (.int (nI 0)) ∧ u = [MO y 1 kn ln th]) := by
  refine CM_of RX6 2 42 rfl rfl (by decide) (by decide +kernel) (Nat.le_of_ble_eq_true rfl) (fun E A X hrt hnm => ?_)
  generalize hQ : QM E G A _ _ _ = Q
  show V E G A 3 [MO y t kn ln th] 0 0 Q 0 [(0, .ref (y 0)), (1, .int c), (2, .int b)] []
  refine V_aload_n (pc' := 1) 0 X dX6_setTempo_0 rfl rfl rfl ?_
  refine V_iload_n (pc' := 2) 1 X dX6_setTempo_1 rfl rfl rfl ?_
  refine V_callS (pc' := 5) (As := [.int c]) (st := [.ref (y 0)]) [] [0] (show (List.range 1).Perm ([] ++ [0]) by decide) X (c_X6_isBar0 l G c hx) rfl gX6_setTempo_X6_isBar rfl rfl (Nat.le_of_ble_eq_true rfl) ⟨Nat.le_of_ble_eq_true rfl, Nat.le_of_ble_eq_true rfl⟩ ⟨Nat.le_of_ble_eq_true rfl, Nat.le_of_ble_eq_true rfl⟩ dX6_setTempo_2 rfl (fun v_ u_ hp_ => ?_)
  obtain ⟨rfl, rfl⟩ := hp_
  show V E G A 3 [MO y t kn ln th] 0 0 Q 5 [(0, .ref (y 0)), (1, .int c), (2, .int b)] [.int (nI 0), .ref (y 0)]
  refine V_if_ne (pc' := 8) (C := 0 = 0) 12 X dX6_setTempo_5 (by decide) rfl (z_eq0 (by omega)) (fun hz => absurd (by decide) hz) (fun _ => ?_)
  refine V_iconst (pc' := 9) (nI 1) X dX6_setTempo_8 ki_1 rfl ?_
  refine V_goto (pc' := 27) X dX6_setTempo_9 (by decide) ?_
  refine V_callV (pc' := 30) (As := [.int (nI 1)]) (st := []) 6 0 [0] [] (show (List.range 1).Perm ([0] ++ []) by decide) X (c_X6_holds1 l G y t kn ln th) rfl gX6_setTempo_X6_holds rfl (by decide) rfl rfl rfl (Nat.le_of_ble_eq_true rfl) ⟨Nat.le_of_ble_eq_true rfl, Nat.le_of_ble_eq_true rfl⟩ ⟨Nat.le_of_ble_eq_true rfl, Nat.le_of_ble_eq_true rfl⟩ dX6_setTempo_27 rfl (fun v_ u_ hp_ => ?_)
  obtain ⟨rfl, rfl⟩ := hp_
  show V E G A 3 [MO y 1 kn ln th] 0 0 Q 30 [(0, .ref (y 0)), (1, .int c), (2, .int b)] [.int (nI 0)]
  refine V_if_eq (pc' := 33) (C := 0 = 0) 45 X dX6_setTempo_30 (by decide) rfl (z_eq0 (by omega)) (fun _ => ?_) (fun hz => absurd (by decide) hz)
  refine V_iconst (pc' := 46) (nI 0) X dX6_setTempo_45 ki_0 rfl ?_
  exact V_ireturn (v := nI 0) [MO y 1 kn ln th] hQ X hrt rfl dX6_setTempo_46 (Nat.le_of_ble_eq_true rfl) (Nat.le_of_ble_eq_true rfl) (List.Perm.refl _) ⟨rfl, rfl⟩

set_option maxHeartbeats 4000000 in
set_option maxRecDepth 100000 in
theorem c_X6_setTempo_b2 (l : Launch) (G : gT) (y : Nat → Nat) (t kn ln th : Nat) (c : Nat) (hc : c ≤ 3) (b : Int32) (hx : ¬ okr 1 9 b) : CM l G yX6_setTempo wsX6_setTempo 3 64 2 [.ref (y 0), .int (nI c), .int b] [MO y t kn ln th] 0 0 (fun v u => v = some (.int (nI 0)) ∧ u = [MO y 2 kn ln th]) := by
  refine CM_of RX6 2 42 rfl rfl (by decide) (by decide +kernel) (Nat.le_of_ble_eq_true rfl) (fun E A X hrt hnm => ?_)
  generalize hQ : QM E G A _ _ _ = Q
  show V E G A 3 [MO y t kn ln th] 0 0 Q 0 [(0, .ref (y 0)), (1, .int (nI c)), (2, .int b)] []
  refine V_aload_n (pc' := 1) 0 X dX6_setTempo_0 rfl rfl rfl ?_
  refine V_iload_n (pc' := 2) 1 X dX6_setTempo_1 rfl rfl rfl ?_
  refine V_callS (pc' := 5) (As := [.int (nI c)]) (st := [.ref (y 0)]) [] [0] (show (List.range 1).Perm ([] ++ [0]) by decide) X (c_X6_isBar1 l G c (by omega)) rfl gX6_setTempo_X6_isBar rfl rfl (Nat.le_of_ble_eq_true rfl) ⟨Nat.le_of_ble_eq_true rfl, Nat.le_of_ble_eq_true rfl⟩ ⟨Nat.le_of_ble_eq_true rfl, Nat.le_of_ble_eq_true rfl⟩ dX6_setTempo_2 rfl (fun v_ u_ hp_ => ?_)
  obtain ⟨rfl, rfl⟩ := hp_
  show V E G A 3 [MO y t kn ln th] 0 0 Q 5 [(0, .ref (y 0)), (1, .int (nI c)), (2, .int b)] [.int (nI 1), .ref (y 0)]
  refine V_if_ne (pc' := 8) (C := 1 = 0) 12 X dX6_setTempo_5 (by decide) rfl (z_eq0 (by omega)) (fun _ => ?_) (fun hz => absurd hz (by decide))
  refine V_iload_n (pc' := 13) 2 X dX6_setTempo_12 rfl rfl rfl ?_
  refine V_iconst (pc' := 14) (nI 1) X dX6_setTempo_13 ki_1 rfl ?_
  refine V_bipush (pc' := 16) (nI 9) X dX6_setTempo_14 kb_9 rfl ?_
  refine V_callS (pc' := 19) (As := [.int b, .int (nI 1), .int (nI 9)]) (st := [.ref (y 0)]) [] [0] (show (List.range 1).Perm ([] ++ [0]) by decide) X (c_X6_in0 l G b 1 9 (by decide) (by decide) hx) rfl gX6_setTempo_X6_in rfl rfl (Nat.le_of_ble_eq_true rfl) ⟨Nat.le_of_ble_eq_true rfl, Nat.le_of_ble_eq_true rfl⟩ ⟨Nat.le_of_ble_eq_true rfl, Nat.le_of_ble_eq_true rfl⟩ dX6_setTempo_16 rfl (fun v_ u_ hp_ => ?_)
  obtain ⟨rfl, rfl⟩ := hp_
  show V E G A 3 [MO y t kn ln th] 0 0 Q 19 [(0, .ref (y 0)), (1, .int (nI c)), (2, .int b)] [.int (nI 0), .ref (y 0)]
  refine V_if_eq (pc' := 22) (C := 0 = 0) 26 X dX6_setTempo_19 (by decide) rfl (z_eq0 (by omega)) (fun _ => ?_) (fun hz => absurd (by decide) hz)
  refine V_iconst (pc' := 27) (nI 2) X dX6_setTempo_26 ki_2 rfl ?_
  refine V_callV (pc' := 30) (As := [.int (nI 2)]) (st := []) 6 0 [0] [] (show (List.range 1).Perm ([0] ++ []) by decide) X (c_X6_holds2 l G y t kn ln th) rfl gX6_setTempo_X6_holds rfl (by decide) rfl rfl rfl (Nat.le_of_ble_eq_true rfl) ⟨Nat.le_of_ble_eq_true rfl, Nat.le_of_ble_eq_true rfl⟩ ⟨Nat.le_of_ble_eq_true rfl, Nat.le_of_ble_eq_true rfl⟩ dX6_setTempo_27 rfl (fun v_ u_ hp_ => ?_)
  obtain ⟨rfl, rfl⟩ := hp_
  show V E G A 3 [MO y 2 kn ln th] 0 0 Q 30 [(0, .ref (y 0)), (1, .int (nI c)), (2, .int b)] [.int (nI 0)]
  refine V_if_eq (pc' := 33) (C := 0 = 0) 45 X dX6_setTempo_30 (by decide) rfl (z_eq0 (by omega)) (fun _ => ?_) (fun hz => absurd (by decide) hz)
  refine V_iconst (pc' := 46) (nI 0) X dX6_setTempo_45 ki_0 rfl ?_
  exact V_ireturn (v := nI 0) [MO y 2 kn ln th] hQ X hrt rfl dX6_setTempo_46 (Nat.le_of_ble_eq_true rfl) (Nat.le_of_ble_eq_true rfl) (List.Perm.refl _) ⟨rfl, rfl⟩

set_option maxHeartbeats 4000000 in
set_option maxRecDepth 100000 in
theorem c_X6_setWeight_b1 (l : Launch) (G : gT) (y : Nat → Nat) (t kn ln th : Nat) (c b : Int32) (hx : ¬ okr 0 9 c) : CM l G yX6_setWeight wsX6_setWeight 3 64 2 [.ref (y 0), .int c, .int b] [MO y t kn ln th] 0 0 (fun v u => v = some (.int (nI 0)) ∧ u = [MO y 1 kn ln th]) := by
  refine CM_of RX6 2 42 rfl rfl (by decide) (by decide +kernel) (Nat.le_of_ble_eq_true rfl) (fun E A X hrt hnm => ?_)
  generalize hQ : QM E G A _ _ _ = Q
  show V E G A 3 [MO y t kn ln th] 0 0 Q 0 [(0, .ref (y 0)), (1, .int c), (2, .int b)] []
  refine V_aload_n (pc' := 1) 0 X dX6_setWeight_0 rfl rfl rfl ?_
  refine V_iload_n (pc' := 2) 1 X dX6_setWeight_1 rfl rfl rfl ?_
  refine V_callS (pc' := 5) (As := [.int c]) (st := [.ref (y 0)]) [] [0] (show (List.range 1).Perm ([] ++ [0]) by decide) X (c_X6_isBell0 l G c hx) rfl gX6_setWeight_X6_isBell rfl rfl (Nat.le_of_ble_eq_true rfl) ⟨Nat.le_of_ble_eq_true rfl, Nat.le_of_ble_eq_true rfl⟩ ⟨Nat.le_of_ble_eq_true rfl, Nat.le_of_ble_eq_true rfl⟩ dX6_setWeight_2 rfl (fun v_ u_ hp_ => ?_)
  obtain ⟨rfl, rfl⟩ := hp_
  show V E G A 3 [MO y t kn ln th] 0 0 Q 5 [(0, .ref (y 0)), (1, .int c), (2, .int b)] [.int (nI 0), .ref (y 0)]
  refine V_if_ne (pc' := 8) (C := 0 = 0) 12 X dX6_setWeight_5 (by decide) rfl (z_eq0 (by omega)) (fun hz => absurd (by decide) hz) (fun _ => ?_)
  refine V_iconst (pc' := 9) (nI 1) X dX6_setWeight_8 ki_1 rfl ?_
  refine V_goto (pc' := 27) X dX6_setWeight_9 (by decide) ?_
  refine V_callV (pc' := 30) (As := [.int (nI 1)]) (st := []) 6 0 [0] [] (show (List.range 1).Perm ([0] ++ []) by decide) X (c_X6_holds1 l G y t kn ln th) rfl gX6_setWeight_X6_holds rfl (by decide) rfl rfl rfl (Nat.le_of_ble_eq_true rfl) ⟨Nat.le_of_ble_eq_true rfl, Nat.le_of_ble_eq_true rfl⟩ ⟨Nat.le_of_ble_eq_true rfl, Nat.le_of_ble_eq_true rfl⟩ dX6_setWeight_27 rfl (fun v_ u_ hp_ => ?_)
  obtain ⟨rfl, rfl⟩ := hp_
  show V E G A 3 [MO y 1 kn ln th] 0 0 Q 30 [(0, .ref (y 0)), (1, .int c), (2, .int b)] [.int (nI 0)]
  refine V_if_eq (pc' := 33) (C := 0 = 0) 45 X dX6_setWeight_30 (by decide) rfl (z_eq0 (by omega)) (fun _ => ?_) (fun hz => absurd (by decide) hz)
  refine V_iconst (pc' := 46) (nI 0) X dX6_setWeight_45 ki_0 rfl ?_
  exact V_ireturn (v := nI 0) [MO y 1 kn ln th] hQ X hrt rfl dX6_setWeight_46 (Nat.le_of_ble_eq_true rfl) (Nat.le_of_ble_eq_true rfl) (List.Perm.refl _) ⟨rfl, rfl⟩

set_option maxHeartbeats 4000000 in
set_option maxRecDepth 100000 in
theorem c_X6_setWeight_b2 (l : Launch) (G : gT) (y : Nat → Nat) (t kn ln th : Nat) (c : Nat) (hc : c ≤ 9) (b : Int32) (hx : ¬ okr 1 60 b) : CM l G yX6_setWeight wsX6_setWeight 3 64 2 [.ref (y 0), .int (nI c), .int b] [MO y t kn ln th] 0 0 (fun v u => v = some (.int (nI 0)) ∧ u = [MO y 2 kn ln th]) := by
  refine CM_of RX6 2 42 rfl rfl (by decide) (by decide +kernel) (Nat.le_of_ble_eq_true rfl) (fun E A X hrt hnm => ?_)
  generalize hQ : QM E G A _ _ _ = Q
  show V E G A 3 [MO y t kn ln th] 0 0 Q 0 [(0, .ref (y 0)), (1, .int (nI c)), (2, .int b)] []
  refine V_aload_n (pc' := 1) 0 X dX6_setWeight_0 rfl rfl rfl ?_
  refine V_iload_n (pc' := 2) 1 X dX6_setWeight_1 rfl rfl rfl ?_
  refine V_callS (pc' := 5) (As := [.int (nI c)]) (st := [.ref (y 0)]) [] [0] (show (List.range 1).Perm ([] ++ [0]) by decide) X (c_X6_isBell1 l G c (by omega)) rfl gX6_setWeight_X6_isBell rfl rfl (Nat.le_of_ble_eq_true rfl) ⟨Nat.le_of_ble_eq_true rfl, Nat.le_of_ble_eq_true rfl⟩ ⟨Nat.le_of_ble_eq_true rfl, Nat.le_of_ble_eq_true rfl⟩ dX6_setWeight_2 rfl (fun v_ u_ hp_ => ?_)
  obtain ⟨rfl, rfl⟩ := hp_
  show V E G A 3 [MO y t kn ln th] 0 0 Q 5 [(0, .ref (y 0)), (1, .int (nI c)), (2, .int b)] [.int (nI 1), .ref (y 0)]
  refine V_if_ne (pc' := 8) (C := 1 = 0) 12 X dX6_setWeight_5 (by decide) rfl (z_eq0 (by omega)) (fun _ => ?_) (fun hz => absurd hz (by decide))
  refine V_iload_n (pc' := 13) 2 X dX6_setWeight_12 rfl rfl rfl ?_
  refine V_iconst (pc' := 14) (nI 1) X dX6_setWeight_13 ki_1 rfl ?_
  refine V_bipush (pc' := 16) (nI 60) X dX6_setWeight_14 kb_60 rfl ?_
  refine V_callS (pc' := 19) (As := [.int b, .int (nI 1), .int (nI 60)]) (st := [.ref (y 0)]) [] [0] (show (List.range 1).Perm ([] ++ [0]) by decide) X (c_X6_in0 l G b 1 60 (by decide) (by decide) hx) rfl gX6_setWeight_X6_in rfl rfl (Nat.le_of_ble_eq_true rfl) ⟨Nat.le_of_ble_eq_true rfl, Nat.le_of_ble_eq_true rfl⟩ ⟨Nat.le_of_ble_eq_true rfl, Nat.le_of_ble_eq_true rfl⟩ dX6_setWeight_16 rfl (fun v_ u_ hp_ => ?_)
  obtain ⟨rfl, rfl⟩ := hp_
  show V E G A 3 [MO y t kn ln th] 0 0 Q 19 [(0, .ref (y 0)), (1, .int (nI c)), (2, .int b)] [.int (nI 0), .ref (y 0)]
  refine V_if_eq (pc' := 22) (C := 0 = 0) 26 X dX6_setWeight_19 (by decide) rfl (z_eq0 (by omega)) (fun _ => ?_) (fun hz => absurd (by decide) hz)
  refine V_iconst (pc' := 27) (nI 2) X dX6_setWeight_26 ki_2 rfl ?_
  refine V_callV (pc' := 30) (As := [.int (nI 2)]) (st := []) 6 0 [0] [] (show (List.range 1).Perm ([0] ++ []) by decide) X (c_X6_holds2 l G y t kn ln th) rfl gX6_setWeight_X6_holds rfl (by decide) rfl rfl rfl (Nat.le_of_ble_eq_true rfl) ⟨Nat.le_of_ble_eq_true rfl, Nat.le_of_ble_eq_true rfl⟩ ⟨Nat.le_of_ble_eq_true rfl, Nat.le_of_ble_eq_true rfl⟩ dX6_setWeight_27 rfl (fun v_ u_ hp_ => ?_)
  obtain ⟨rfl, rfl⟩ := hp_
  show V E G A 3 [MO y 2 kn ln th] 0 0 Q 30 [(0, .ref (y 0)), (1, .int (nI c)), (2, .int b)] [.int (nI 0)]
  refine V_if_eq (pc' := 33) (C := 0 = 0) 45 X dX6_setWeight_30 (by decide) rfl (z_eq0 (by omega)) (fun _ => ?_) (fun hz => absurd (by decide) hz)
  refine V_iconst (pc' := 46) (nI 0) X dX6_setWeight_45 ki_0 rfl ?_
  exact V_ireturn (v := nI 0) [MO y 2 kn ln th] hQ X hrt rfl dX6_setWeight_46 (Nat.le_of_ble_eq_true rfl) (Nat.le_of_ble_eq_true rfl) (List.Perm.refl _) ⟨rfl, rfl⟩

set_option maxHeartbeats 4000000 in
set_option maxRecDepth 100000 in
theorem c_X6_setBound_b1 (l : Launch) (G : gT) (y : Nat → Nat) (t kn ln th : Nat) (c : Int32) (hx : ¬ okr 1 300 c) : CM l G yX6_setBound wsX6_setBound 2 43 1 [.ref (y 0), .int c] [MO y t kn ln th] 0 0 (fun v u => v = some (.int (nI 0)) ∧ u = [MO y 1 kn ln th]) := by
  refine CM_of RX6 1 22 rfl rfl (by decide) (by decide +kernel) (Nat.le_of_ble_eq_true rfl) (fun E A X hrt hnm => ?_)
  generalize hQ : QM E G A _ _ _ = Q
  show V E G A 2 [MO y t kn ln th] 0 0 Q 0 [(0, .ref (y 0)), (1, .int c)] []
  refine V_aload_n (pc' := 1) 0 X dX6_setBound_0 rfl rfl rfl ?_
  refine V_iload_n (pc' := 2) 1 X dX6_setBound_1 rfl rfl rfl ?_
  refine V_iconst (pc' := 3) (nI 1) X dX6_setBound_2 ki_1 rfl ?_
  refine V_sipush (pc' := 6) (nI 300) X dX6_setBound_3 ks_300 rfl ?_
  refine V_callS (pc' := 9) (As := [.int c, .int (nI 1), .int (nI 300)]) (st := [.ref (y 0)]) [] [0] (show (List.range 1).Perm ([] ++ [0]) by decide) X (c_X6_in0 l G c 1 300 (by decide) (by decide) hx) rfl gX6_setBound_X6_in rfl rfl (Nat.le_of_ble_eq_true rfl) ⟨Nat.le_of_ble_eq_true rfl, Nat.le_of_ble_eq_true rfl⟩ ⟨Nat.le_of_ble_eq_true rfl, Nat.le_of_ble_eq_true rfl⟩ dX6_setBound_6 rfl (fun v_ u_ hp_ => ?_)
  obtain ⟨rfl, rfl⟩ := hp_
  show V E G A 2 [MO y t kn ln th] 0 0 Q 9 [(0, .ref (y 0)), (1, .int c)] [.int (nI 0), .ref (y 0)]
  refine V_if_eq (pc' := 12) (C := 0 = 0) 16 X dX6_setBound_9 (by decide) rfl (z_eq0 (by omega)) (fun _ => ?_) (fun hz => absurd (by decide) hz)
  refine V_iconst (pc' := 17) (nI 1) X dX6_setBound_16 ki_1 rfl ?_
  refine V_callV (pc' := 20) (As := [.int (nI 1)]) (st := []) 6 0 [0] [] (show (List.range 1).Perm ([0] ++ []) by decide) X (c_X6_holds1 l G y t kn ln th) rfl gX6_setBound_X6_holds rfl (by decide) rfl rfl rfl (Nat.le_of_ble_eq_true rfl) ⟨Nat.le_of_ble_eq_true rfl, Nat.le_of_ble_eq_true rfl⟩ ⟨Nat.le_of_ble_eq_true rfl, Nat.le_of_ble_eq_true rfl⟩ dX6_setBound_17 rfl (fun v_ u_ hp_ => ?_)
  obtain ⟨rfl, rfl⟩ := hp_
  show V E G A 2 [MO y 1 kn ln th] 0 0 Q 20 [(0, .ref (y 0)), (1, .int c)] [.int (nI 0)]
  refine V_if_eq (pc' := 23) (C := 0 = 0) 33 X dX6_setBound_20 (by decide) rfl (z_eq0 (by omega)) (fun _ => ?_) (fun hz => absurd (by decide) hz)
  refine V_iconst (pc' := 34) (nI 0) X dX6_setBound_33 ki_0 rfl ?_
  exact V_ireturn (v := nI 0) [MO y 1 kn ln th] hQ X hrt rfl dX6_setBound_34 (Nat.le_of_ble_eq_true rfl) (Nat.le_of_ble_eq_true rfl) (List.Perm.refl _) ⟨rfl, rfl⟩

set_option maxHeartbeats 4000000 in
set_option maxRecDepth 100000 in
theorem c_X6_move_b1 (l : Launch) (G : gT) (y : Nat → Nat) (t kn ln th : Nat) (c : Int32) (hx : ¬ okr 1 31 c) : CM l G yX6_move wsX6_move 2 44 1 [.ref (y 0), .int c] [MO y t kn ln th] 0 0 (fun v u => v = some (.int (nI 0)) ∧ u = [MO y 1 kn ln th]) := by
  refine CM_of RX6 1 22 rfl rfl (by decide) (by decide +kernel) (Nat.le_of_ble_eq_true rfl) (fun E A X hrt hnm => ?_)
  generalize hQ : QM E G A _ _ _ = Q
  show V E G A 3 [MO y t kn ln th] 0 0 Q 0 [(0, .ref (y 0)), (1, .int c)] []
  refine V_aload_n (pc' := 1) 0 X dX6_move_0 rfl rfl rfl ?_
  refine V_iload_n (pc' := 2) 1 X dX6_move_1 rfl rfl rfl ?_
  refine V_iconst (pc' := 3) (nI 1) X dX6_move_2 ki_1 rfl ?_
  refine V_bipush (pc' := 5) (nI 31) X dX6_move_3 kb_31 rfl ?_
  refine V_callS (pc' := 8) (As := [.int c, .int (nI 1), .int (nI 31)]) (st := [.ref (y 0)]) [] [0] (show (List.range 1).Perm ([] ++ [0]) by decide) X (c_X6_in0 l G c 1 31 (by decide) (by decide) hx) rfl gX6_move_X6_in rfl rfl (Nat.le_of_ble_eq_true rfl) ⟨Nat.le_of_ble_eq_true rfl, Nat.le_of_ble_eq_true rfl⟩ ⟨Nat.le_of_ble_eq_true rfl, Nat.le_of_ble_eq_true rfl⟩ dX6_move_5 rfl (fun v_ u_ hp_ => ?_)
  obtain ⟨rfl, rfl⟩ := hp_
  show V E G A 3 [MO y t kn ln th] 0 0 Q 8 [(0, .ref (y 0)), (1, .int c)] [.int (nI 0), .ref (y 0)]
  refine V_if_eq (pc' := 11) (C := 0 = 0) 15 X dX6_move_8 (by decide) rfl (z_eq0 (by omega)) (fun _ => ?_) (fun hz => absurd (by decide) hz)
  refine V_iconst (pc' := 16) (nI 1) X dX6_move_15 ki_1 rfl ?_
  refine V_callV (pc' := 19) (As := [.int (nI 1)]) (st := []) 6 0 [0] [] (show (List.range 1).Perm ([0] ++ []) by decide) X (c_X6_holds1 l G y t kn ln th) rfl gX6_move_X6_holds rfl (by decide) rfl rfl rfl (Nat.le_of_ble_eq_true rfl) ⟨Nat.le_of_ble_eq_true rfl, Nat.le_of_ble_eq_true rfl⟩ ⟨Nat.le_of_ble_eq_true rfl, Nat.le_of_ble_eq_true rfl⟩ dX6_move_16 rfl (fun v_ u_ hp_ => ?_)
  obtain ⟨rfl, rfl⟩ := hp_
  show V E G A 3 [MO y 1 kn ln th] 0 0 Q 19 [(0, .ref (y 0)), (1, .int c)] [.int (nI 0)]
  refine V_if_ne (pc' := 22) (C := 0 = 0) 24 X dX6_move_19 (by decide) rfl (z_eq0 (by omega)) (fun hz => absurd (by decide) hz) (fun _ => ?_)
  refine V_iconst (pc' := 23) (nI 0) X dX6_move_22 ki_0 rfl ?_
  exact V_ireturn (v := nI 0) [MO y 1 kn ln th] hQ X hrt rfl dX6_move_23 (Nat.le_of_ble_eq_true rfl) (Nat.le_of_ble_eq_true rfl) (List.Perm.refl _) ⟨rfl, rfl⟩

set_option maxHeartbeats 4000000 in
set_option maxRecDepth 100000 in
theorem c_X6_crank_b1 (l : Launch) (G : gT) (y : Nat → Nat) (t kn ln th : Nat) (c : Int32) (hx : ¬ okr 1 200 c) : CM l G yX6_crank wsX6_crank 2 43 1 [.ref (y 0), .int c] [MO y t kn ln th] 0 0 (fun v u => v = some (.int (nI 0)) ∧ u = [MO y 1 kn ln th]) := by
  refine CM_of RX6 1 22 rfl rfl (by decide) (by decide +kernel) (Nat.le_of_ble_eq_true rfl) (fun E A X hrt hnm => ?_)
  generalize hQ : QM E G A _ _ _ = Q
  show V E G A 2 [MO y t kn ln th] 0 0 Q 0 [(0, .ref (y 0)), (1, .int c)] []
  refine V_aload_n (pc' := 1) 0 X dX6_crank_0 rfl rfl rfl ?_
  refine V_iload_n (pc' := 2) 1 X dX6_crank_1 rfl rfl rfl ?_
  refine V_iconst (pc' := 3) (nI 1) X dX6_crank_2 ki_1 rfl ?_
  refine V_sipush (pc' := 6) (nI 200) X dX6_crank_3 ks_200 rfl ?_
  refine V_callS (pc' := 9) (As := [.int c, .int (nI 1), .int (nI 200)]) (st := [.ref (y 0)]) [] [0] (show (List.range 1).Perm ([] ++ [0]) by decide) X (c_X6_in0 l G c 1 200 (by decide) (by decide) hx) rfl gX6_crank_X6_in rfl rfl (Nat.le_of_ble_eq_true rfl) ⟨Nat.le_of_ble_eq_true rfl, Nat.le_of_ble_eq_true rfl⟩ ⟨Nat.le_of_ble_eq_true rfl, Nat.le_of_ble_eq_true rfl⟩ dX6_crank_6 rfl (fun v_ u_ hp_ => ?_)
  obtain ⟨rfl, rfl⟩ := hp_
  show V E G A 2 [MO y t kn ln th] 0 0 Q 9 [(0, .ref (y 0)), (1, .int c)] [.int (nI 0), .ref (y 0)]
  refine V_if_eq (pc' := 12) (C := 0 = 0) 16 X dX6_crank_9 (by decide) rfl (z_eq0 (by omega)) (fun _ => ?_) (fun hz => absurd (by decide) hz)
  refine V_iconst (pc' := 17) (nI 1) X dX6_crank_16 ki_1 rfl ?_
  refine V_callV (pc' := 20) (As := [.int (nI 1)]) (st := []) 6 0 [0] [] (show (List.range 1).Perm ([0] ++ []) by decide) X (c_X6_holds1 l G y t kn ln th) rfl gX6_crank_X6_holds rfl (by decide) rfl rfl rfl (Nat.le_of_ble_eq_true rfl) ⟨Nat.le_of_ble_eq_true rfl, Nat.le_of_ble_eq_true rfl⟩ ⟨Nat.le_of_ble_eq_true rfl, Nat.le_of_ble_eq_true rfl⟩ dX6_crank_17 rfl (fun v_ u_ hp_ => ?_)
  obtain ⟨rfl, rfl⟩ := hp_
  show V E G A 2 [MO y 1 kn ln th] 0 0 Q 20 [(0, .ref (y 0)), (1, .int c)] [.int (nI 0)]
  refine V_if_ne (pc' := 23) (C := 0 = 0) 25 X dX6_crank_20 (by decide) rfl (z_eq0 (by omega)) (fun hz => absurd (by decide) hz) (fun _ => ?_)
  refine V_iconst (pc' := 24) (nI 0) X dX6_crank_23 ki_0 rfl ?_
  exact V_ireturn (v := nI 0) [MO y 1 kn ln th] hQ X hrt rfl dX6_crank_24 (Nat.le_of_ble_eq_true rfl) (Nat.le_of_ble_eq_true rfl) (List.Perm.refl _) ⟨rfl, rfl⟩

set_option maxHeartbeats 4000000 in
set_option maxRecDepth 100000 in
theorem c_X6_pegsIn_b1 (l : Launch) (G : gT) (y : Nat → Nat) (t kn ln th : Nat) (c : Int32) (hx : ¬ okr 0 31 c) : CM l G yX6_pegsIn wsX6_pegsIn 3 63 1 [.ref (y 0), .int c] [MO y t kn ln th] 0 0 (fun v u => v = some (.int (nI 0)) ∧ u = [MO y 1 kn ln th]) := by
  refine CM_of RX6 2 42 rfl rfl (by decide) (by decide +kernel) (Nat.le_of_ble_eq_true rfl) (fun E A X hrt hnm => ?_)
  generalize hQ : QM E G A _ _ _ = Q
  show V E G A 2 [MO y t kn ln th] 0 0 Q 0 [(0, .ref (y 0)), (1, .int c)] []
  refine V_aload_n (pc' := 1) 0 X dX6_pegsIn_0 rfl rfl rfl ?_
  refine V_iload_n (pc' := 2) 1 X dX6_pegsIn_1 rfl rfl rfl ?_
  refine V_callS (pc' := 5) (As := [.int c]) (st := [.ref (y 0)]) [] [0] (show (List.range 1).Perm ([] ++ [0]) by decide) X (c_X6_isColumn0 l G c hx) rfl gX6_pegsIn_X6_isColumn rfl rfl (Nat.le_of_ble_eq_true rfl) ⟨Nat.le_of_ble_eq_true rfl, Nat.le_of_ble_eq_true rfl⟩ ⟨Nat.le_of_ble_eq_true rfl, Nat.le_of_ble_eq_true rfl⟩ dX6_pegsIn_2 rfl (fun v_ u_ hp_ => ?_)
  obtain ⟨rfl, rfl⟩ := hp_
  show V E G A 2 [MO y t kn ln th] 0 0 Q 5 [(0, .ref (y 0)), (1, .int c)] [.int (nI 0), .ref (y 0)]
  refine V_if_eq (pc' := 8) (C := 0 = 0) 12 X dX6_pegsIn_5 (by decide) rfl (z_eq0 (by omega)) (fun _ => ?_) (fun hz => absurd (by decide) hz)
  refine V_iconst (pc' := 13) (nI 1) X dX6_pegsIn_12 ki_1 rfl ?_
  refine V_callV (pc' := 16) (As := [.int (nI 1)]) (st := []) 6 0 [0] [] (show (List.range 1).Perm ([0] ++ []) by decide) X (c_X6_holds1 l G y t kn ln th) rfl gX6_pegsIn_X6_holds rfl (by decide) rfl rfl rfl (Nat.le_of_ble_eq_true rfl) ⟨Nat.le_of_ble_eq_true rfl, Nat.le_of_ble_eq_true rfl⟩ ⟨Nat.le_of_ble_eq_true rfl, Nat.le_of_ble_eq_true rfl⟩ dX6_pegsIn_13 rfl (fun v_ u_ hp_ => ?_)
  obtain ⟨rfl, rfl⟩ := hp_
  show V E G A 2 [MO y 1 kn ln th] 0 0 Q 16 [(0, .ref (y 0)), (1, .int c)] [.int (nI 0)]
  refine V_if_eq (pc' := 19) (C := 0 = 0) 30 X dX6_pegsIn_16 (by decide) rfl (z_eq0 (by omega)) (fun _ => ?_) (fun hz => absurd (by decide) hz)
  refine V_iconst (pc' := 31) (nI 0) X dX6_pegsIn_30 ki_0 rfl ?_
  exact V_ireturn (v := nI 0) [MO y 1 kn ln th] hQ X hrt rfl dX6_pegsIn_31 (Nat.le_of_ble_eq_true rfl) (Nat.le_of_ble_eq_true rfl) (List.Perm.refl _) ⟨rfl, rfl⟩

set_option maxHeartbeats 4000000 in
set_option maxRecDepth 100000 in
theorem c_X6_tempoOf_b1 (l : Launch) (G : gT) (y : Nat → Nat) (t kn ln th : Nat) (c : Int32) (hx : ¬ okr 0 3 c) : CM l G yX6_tempoOf wsX6_tempoOf 3 63 1 [.ref (y 0), .int c] [MO y t kn ln th] 0 0 (fun v u => v = some (.int (nI 0)) ∧ u = [MO y 1 kn ln th]) := by
  refine CM_of RX6 2 42 rfl rfl (by decide) (by decide +kernel) (Nat.le_of_ble_eq_true rfl) (fun E A X hrt hnm => ?_)
  generalize hQ : QM E G A _ _ _ = Q
  show V E G A 2 [MO y t kn ln th] 0 0 Q 0 [(0, .ref (y 0)), (1, .int c)] []
  refine V_aload_n (pc' := 1) 0 X dX6_tempoOf_0 rfl rfl rfl ?_
  refine V_iload_n (pc' := 2) 1 X dX6_tempoOf_1 rfl rfl rfl ?_
  refine V_callS (pc' := 5) (As := [.int c]) (st := [.ref (y 0)]) [] [0] (show (List.range 1).Perm ([] ++ [0]) by decide) X (c_X6_isBar0 l G c hx) rfl gX6_tempoOf_X6_isBar rfl rfl (Nat.le_of_ble_eq_true rfl) ⟨Nat.le_of_ble_eq_true rfl, Nat.le_of_ble_eq_true rfl⟩ ⟨Nat.le_of_ble_eq_true rfl, Nat.le_of_ble_eq_true rfl⟩ dX6_tempoOf_2 rfl (fun v_ u_ hp_ => ?_)
  obtain ⟨rfl, rfl⟩ := hp_
  show V E G A 2 [MO y t kn ln th] 0 0 Q 5 [(0, .ref (y 0)), (1, .int c)] [.int (nI 0), .ref (y 0)]
  refine V_if_eq (pc' := 8) (C := 0 = 0) 12 X dX6_tempoOf_5 (by decide) rfl (z_eq0 (by omega)) (fun _ => ?_) (fun hz => absurd (by decide) hz)
  refine V_iconst (pc' := 13) (nI 1) X dX6_tempoOf_12 ki_1 rfl ?_
  refine V_callV (pc' := 16) (As := [.int (nI 1)]) (st := []) 6 0 [0] [] (show (List.range 1).Perm ([0] ++ []) by decide) X (c_X6_holds1 l G y t kn ln th) rfl gX6_tempoOf_X6_holds rfl (by decide) rfl rfl rfl (Nat.le_of_ble_eq_true rfl) ⟨Nat.le_of_ble_eq_true rfl, Nat.le_of_ble_eq_true rfl⟩ ⟨Nat.le_of_ble_eq_true rfl, Nat.le_of_ble_eq_true rfl⟩ dX6_tempoOf_13 rfl (fun v_ u_ hp_ => ?_)
  obtain ⟨rfl, rfl⟩ := hp_
  show V E G A 2 [MO y 1 kn ln th] 0 0 Q 16 [(0, .ref (y 0)), (1, .int c)] [.int (nI 0)]
  refine V_if_eq (pc' := 19) (C := 0 = 0) 31 X dX6_tempoOf_16 (by decide) rfl (z_eq0 (by omega)) (fun _ => ?_) (fun hz => absurd (by decide) hz)
  refine V_iconst (pc' := 32) (nI 0) X dX6_tempoOf_31 ki_0 rfl ?_
  exact V_ireturn (v := nI 0) [MO y 1 kn ln th] hQ X hrt rfl dX6_tempoOf_32 (Nat.le_of_ble_eq_true rfl) (Nat.le_of_ble_eq_true rfl) (List.Perm.refl _) ⟨rfl, rfl⟩

set_option maxHeartbeats 4000000 in
set_option maxRecDepth 100000 in
theorem c_X6_weightOf_b1 (l : Launch) (G : gT) (y : Nat → Nat) (t kn ln th : Nat) (c : Int32) (hx : ¬ okr 0 9 c) : CM l G yX6_weightOf wsX6_weightOf 3 63 1 [.ref (y 0), .int c] [MO y t kn ln th] 0 0 (fun v u => v = some (.int (nI 0)) ∧ u = [MO y 1 kn ln th]) := by
  refine CM_of RX6 2 42 rfl rfl (by decide) (by decide +kernel) (Nat.le_of_ble_eq_true rfl) (fun E A X hrt hnm => ?_)
  generalize hQ : QM E G A _ _ _ = Q
  show V E G A 2 [MO y t kn ln th] 0 0 Q 0 [(0, .ref (y 0)), (1, .int c)] []
  refine V_aload_n (pc' := 1) 0 X dX6_weightOf_0 rfl rfl rfl ?_
  refine V_iload_n (pc' := 2) 1 X dX6_weightOf_1 rfl rfl rfl ?_
  refine V_callS (pc' := 5) (As := [.int c]) (st := [.ref (y 0)]) [] [0] (show (List.range 1).Perm ([] ++ [0]) by decide) X (c_X6_isBell0 l G c hx) rfl gX6_weightOf_X6_isBell rfl rfl (Nat.le_of_ble_eq_true rfl) ⟨Nat.le_of_ble_eq_true rfl, Nat.le_of_ble_eq_true rfl⟩ ⟨Nat.le_of_ble_eq_true rfl, Nat.le_of_ble_eq_true rfl⟩ dX6_weightOf_2 rfl (fun v_ u_ hp_ => ?_)
  obtain ⟨rfl, rfl⟩ := hp_
  show V E G A 2 [MO y t kn ln th] 0 0 Q 5 [(0, .ref (y 0)), (1, .int c)] [.int (nI 0), .ref (y 0)]
  refine V_if_eq (pc' := 8) (C := 0 = 0) 12 X dX6_weightOf_5 (by decide) rfl (z_eq0 (by omega)) (fun _ => ?_) (fun hz => absurd (by decide) hz)
  refine V_iconst (pc' := 13) (nI 1) X dX6_weightOf_12 ki_1 rfl ?_
  refine V_callV (pc' := 16) (As := [.int (nI 1)]) (st := []) 6 0 [0] [] (show (List.range 1).Perm ([0] ++ []) by decide) X (c_X6_holds1 l G y t kn ln th) rfl gX6_weightOf_X6_holds rfl (by decide) rfl rfl rfl (Nat.le_of_ble_eq_true rfl) ⟨Nat.le_of_ble_eq_true rfl, Nat.le_of_ble_eq_true rfl⟩ ⟨Nat.le_of_ble_eq_true rfl, Nat.le_of_ble_eq_true rfl⟩ dX6_weightOf_13 rfl (fun v_ u_ hp_ => ?_)
  obtain ⟨rfl, rfl⟩ := hp_
  show V E G A 2 [MO y 1 kn ln th] 0 0 Q 16 [(0, .ref (y 0)), (1, .int c)] [.int (nI 0)]
  refine V_if_eq (pc' := 19) (C := 0 = 0) 31 X dX6_weightOf_16 (by decide) rfl (z_eq0 (by omega)) (fun _ => ?_) (fun hz => absurd (by decide) hz)
  refine V_iconst (pc' := 32) (nI 0) X dX6_weightOf_31 ki_0 rfl ?_
  exact V_ireturn (v := nI 0) [MO y 1 kn ln th] hQ X hrt rfl dX6_weightOf_32 (Nat.le_of_ble_eq_true rfl) (Nat.le_of_ble_eq_true rfl) (List.Perm.refl _) ⟨rfl, rfl⟩

set_option maxHeartbeats 4000000 in
set_option maxRecDepth 100000 in
theorem c_X6_heardOf_b1 (l : Launch) (G : gT) (y : Nat → Nat) (t kn ln th : Nat) (c : Int32) (hx : ¬ okr 0 9 c) : CM l G yX6_heardOf wsX6_heardOf 3 63 1 [.ref (y 0), .int c] [MO y t kn ln th] 0 0 (fun v u => v = some (.int (nI 0)) ∧ u = [MO y 1 kn ln th]) := by
  refine CM_of RX6 2 42 rfl rfl (by decide) (by decide +kernel) (Nat.le_of_ble_eq_true rfl) (fun E A X hrt hnm => ?_)
  generalize hQ : QM E G A _ _ _ = Q
  show V E G A 2 [MO y t kn ln th] 0 0 Q 0 [(0, .ref (y 0)), (1, .int c)] []
  refine V_aload_n (pc' := 1) 0 X dX6_heardOf_0 rfl rfl rfl ?_
  refine V_iload_n (pc' := 2) 1 X dX6_heardOf_1 rfl rfl rfl ?_
  refine V_callS (pc' := 5) (As := [.int c]) (st := [.ref (y 0)]) [] [0] (show (List.range 1).Perm ([] ++ [0]) by decide) X (c_X6_isBell0 l G c hx) rfl gX6_heardOf_X6_isBell rfl rfl (Nat.le_of_ble_eq_true rfl) ⟨Nat.le_of_ble_eq_true rfl, Nat.le_of_ble_eq_true rfl⟩ ⟨Nat.le_of_ble_eq_true rfl, Nat.le_of_ble_eq_true rfl⟩ dX6_heardOf_2 rfl (fun v_ u_ hp_ => ?_)
  obtain ⟨rfl, rfl⟩ := hp_
  show V E G A 2 [MO y t kn ln th] 0 0 Q 5 [(0, .ref (y 0)), (1, .int c)] [.int (nI 0), .ref (y 0)]
  refine V_if_eq (pc' := 8) (C := 0 = 0) 12 X dX6_heardOf_5 (by decide) rfl (z_eq0 (by omega)) (fun _ => ?_) (fun hz => absurd (by decide) hz)
  refine V_iconst (pc' := 13) (nI 1) X dX6_heardOf_12 ki_1 rfl ?_
  refine V_callV (pc' := 16) (As := [.int (nI 1)]) (st := []) 6 0 [0] [] (show (List.range 1).Perm ([0] ++ []) by decide) X (c_X6_holds1 l G y t kn ln th) rfl gX6_heardOf_X6_holds rfl (by decide) rfl rfl rfl (Nat.le_of_ble_eq_true rfl) ⟨Nat.le_of_ble_eq_true rfl, Nat.le_of_ble_eq_true rfl⟩ ⟨Nat.le_of_ble_eq_true rfl, Nat.le_of_ble_eq_true rfl⟩ dX6_heardOf_13 rfl (fun v_ u_ hp_ => ?_)
  obtain ⟨rfl, rfl⟩ := hp_
  show V E G A 2 [MO y 1 kn ln th] 0 0 Q 16 [(0, .ref (y 0)), (1, .int c)] [.int (nI 0)]
  refine V_if_eq (pc' := 19) (C := 0 = 0) 31 X dX6_heardOf_16 (by decide) rfl (z_eq0 (by omega)) (fun _ => ?_) (fun hz => absurd (by decide) hz)
  refine V_iconst (pc' := 32) (nI 0) X dX6_heardOf_31 ki_0 rfl ?_
  exact V_ireturn (v := nI 0) [MO y 1 kn ln th] hQ X hrt rfl dX6_heardOf_32 (Nat.le_of_ble_eq_true rfl) (Nat.le_of_ble_eq_true rfl) (List.Perm.refl _) ⟨rfl, rfl⟩

set_option maxHeartbeats 4000000 in
set_option maxRecDepth 100000 in
theorem c_X6_whyMissed_b1 (l : Launch) (G : gT) (y : Nat → Nat) (t kn ln th : Nat) (c : Int32) (hx : ¬ okr 0 9 c) : CM l G yX6_whyMissed wsX6_whyMissed 3 67 1 [.ref (y 0), .int c] [MO y t kn ln th] 0 0 (fun v u => v = some (.int (nI 0)) ∧ u = [MO y 1 kn ln th]) := by
  refine CM_of RX6 2 42 rfl rfl (by decide) (by decide +kernel) (Nat.le_of_ble_eq_true rfl) (fun E A X hrt hnm => ?_)
  generalize hQ : QM E G A _ _ _ = Q
  show V E G A 6 [MO y t kn ln th] 0 0 Q 0 [(0, .ref (y 0)), (1, .int c)] []
  refine V_aload_n (pc' := 1) 0 X dX6_whyMissed_0 rfl rfl rfl ?_
  refine V_iload_n (pc' := 2) 1 X dX6_whyMissed_1 rfl rfl rfl ?_
  refine V_callS (pc' := 5) (As := [.int c]) (st := [.ref (y 0)]) [] [0] (show (List.range 1).Perm ([] ++ [0]) by decide) X (c_X6_isBell0 l G c hx) rfl gX6_whyMissed_X6_isBell rfl rfl (Nat.le_of_ble_eq_true rfl) ⟨Nat.le_of_ble_eq_true rfl, Nat.le_of_ble_eq_true rfl⟩ ⟨Nat.le_of_ble_eq_true rfl, Nat.le_of_ble_eq_true rfl⟩ dX6_whyMissed_2 rfl (fun v_ u_ hp_ => ?_)
  obtain ⟨rfl, rfl⟩ := hp_
  show V E G A 6 [MO y t kn ln th] 0 0 Q 5 [(0, .ref (y 0)), (1, .int c)] [.int (nI 0), .ref (y 0)]
  refine V_if_eq (pc' := 8) (C := 0 = 0) 12 X dX6_whyMissed_5 (by decide) rfl (z_eq0 (by omega)) (fun _ => ?_) (fun hz => absurd (by decide) hz)
  refine V_iconst (pc' := 13) (nI 1) X dX6_whyMissed_12 ki_1 rfl ?_
  refine V_callV (pc' := 16) (As := [.int (nI 1)]) (st := []) 6 0 [0] [] (show (List.range 1).Perm ([0] ++ []) by decide) X (c_X6_holds1 l G y t kn ln th) rfl gX6_whyMissed_X6_holds rfl (by decide) rfl rfl rfl (Nat.le_of_ble_eq_true rfl) ⟨Nat.le_of_ble_eq_true rfl, Nat.le_of_ble_eq_true rfl⟩ ⟨Nat.le_of_ble_eq_true rfl, Nat.le_of_ble_eq_true rfl⟩ dX6_whyMissed_13 rfl (fun v_ u_ hp_ => ?_)
  obtain ⟨rfl, rfl⟩ := hp_
  show V E G A 6 [MO y 1 kn ln th] 0 0 Q 16 [(0, .ref (y 0)), (1, .int c)] [.int (nI 0)]
  refine V_if_ne (pc' := 19) (C := 0 = 0) 21 X dX6_whyMissed_16 (by decide) rfl (z_eq0 (by omega)) (fun hz => absurd (by decide) hz) (fun _ => ?_)
  refine V_iconst (pc' := 20) (nI 0) X dX6_whyMissed_19 ki_0 rfl ?_
  exact V_ireturn (v := nI 0) [MO y 1 kn ln th] hQ X hrt rfl dX6_whyMissed_20 (Nat.le_of_ble_eq_true rfl) (Nat.le_of_ble_eq_true rfl) (List.Perm.refl _) ⟨rfl, rfl⟩

set_option maxHeartbeats 4000000 in
set_option maxRecDepth 100000 in
theorem c_X6_inRound_b1 (l : Launch) (G : gT) (y : Nat → Nat) (t kn ln th : Nat) (c : Int32) (hx : ¬ okr 0 31 c) : CM l G yX6_inRound wsX6_inRound 3 63 1 [.ref (y 0), .int c] [MO y t kn ln th] 0 0 (fun v u => v = some (.int (nI 0)) ∧ u = [MO y 1 kn ln th]) := by
  refine CM_of RX6 2 42 rfl rfl (by decide) (by decide +kernel) (Nat.le_of_ble_eq_true rfl) (fun E A X hrt hnm => ?_)
  generalize hQ : QM E G A _ _ _ = Q
  show V E G A 2 [MO y t kn ln th] 0 0 Q 0 [(0, .ref (y 0)), (1, .int c)] []
  refine V_aload_n (pc' := 1) 0 X dX6_inRound_0 rfl rfl rfl ?_
  refine V_iload_n (pc' := 2) 1 X dX6_inRound_1 rfl rfl rfl ?_
  refine V_callS (pc' := 5) (As := [.int c]) (st := [.ref (y 0)]) [] [0] (show (List.range 1).Perm ([] ++ [0]) by decide) X (c_X6_isColumn0 l G c hx) rfl gX6_inRound_X6_isColumn rfl rfl (Nat.le_of_ble_eq_true rfl) ⟨Nat.le_of_ble_eq_true rfl, Nat.le_of_ble_eq_true rfl⟩ ⟨Nat.le_of_ble_eq_true rfl, Nat.le_of_ble_eq_true rfl⟩ dX6_inRound_2 rfl (fun v_ u_ hp_ => ?_)
  obtain ⟨rfl, rfl⟩ := hp_
  show V E G A 2 [MO y t kn ln th] 0 0 Q 5 [(0, .ref (y 0)), (1, .int c)] [.int (nI 0), .ref (y 0)]
  refine V_if_eq (pc' := 8) (C := 0 = 0) 12 X dX6_inRound_5 (by decide) rfl (z_eq0 (by omega)) (fun _ => ?_) (fun hz => absurd (by decide) hz)
  refine V_iconst (pc' := 13) (nI 1) X dX6_inRound_12 ki_1 rfl ?_
  refine V_callV (pc' := 16) (As := [.int (nI 1)]) (st := []) 6 0 [0] [] (show (List.range 1).Perm ([0] ++ []) by decide) X (c_X6_holds1 l G y t kn ln th) rfl gX6_inRound_X6_holds rfl (by decide) rfl rfl rfl (Nat.le_of_ble_eq_true rfl) ⟨Nat.le_of_ble_eq_true rfl, Nat.le_of_ble_eq_true rfl⟩ ⟨Nat.le_of_ble_eq_true rfl, Nat.le_of_ble_eq_true rfl⟩ dX6_inRound_13 rfl (fun v_ u_ hp_ => ?_)
  obtain ⟨rfl, rfl⟩ := hp_
  show V E G A 2 [MO y 1 kn ln th] 0 0 Q 16 [(0, .ref (y 0)), (1, .int c)] [.int (nI 0)]
  refine V_if_ne (pc' := 19) (C := 0 = 0) 21 X dX6_inRound_16 (by decide) rfl (z_eq0 (by omega)) (fun hz => absurd (by decide) hz) (fun _ => ?_)
  refine V_iconst (pc' := 20) (nI 0) X dX6_inRound_19 ki_0 rfl ?_
  exact V_ireturn (v := nI 0) [MO y 1 kn ln th] hQ X hrt rfl dX6_inRound_20 (Nat.le_of_ble_eq_true rfl) (Nat.le_of_ble_eq_true rfl) (List.Perm.refl _) ⟨rfl, rfl⟩

set_option maxHeartbeats 4000000 in
set_option maxRecDepth 100000 in
theorem c_X6_save_b1 (l : Launch) (G : gT) (y : Nat → Nat) (t kn ln th : Nat) (c : Int32) (hx : ¬ okr 0 1 c) : CM l G yX6_save wsX6_save 2 44 1 [.ref (y 0), .int c] [MO y t kn ln th] 0 0 (fun v u => v = some (.int (nI 0)) ∧ u = [MO y 1 kn ln th]) := by
  refine CM_of RX6 1 22 rfl rfl (by decide) (by decide +kernel) (Nat.le_of_ble_eq_true rfl) (fun E A X hrt hnm => ?_)
  generalize hQ : QM E G A _ _ _ = Q
  show V E G A 3 [MO y t kn ln th] 0 0 Q 0 [(0, .ref (y 0)), (1, .int c)] []
  refine V_aload_n (pc' := 1) 0 X dX6_save_0 rfl rfl rfl ?_
  refine V_iload_n (pc' := 2) 1 X dX6_save_1 rfl rfl rfl ?_
  refine V_iconst (pc' := 3) (nI 0) X dX6_save_2 ki_0 rfl ?_
  refine V_iconst (pc' := 4) (nI 1) X dX6_save_3 ki_1 rfl ?_
  refine V_callS (pc' := 7) (As := [.int c, .int (nI 0), .int (nI 1)]) (st := [.ref (y 0)]) [] [0] (show (List.range 1).Perm ([] ++ [0]) by decide) X (c_X6_in0 l G c 0 1 (by decide) (by decide) hx) rfl gX6_save_X6_in rfl rfl (Nat.le_of_ble_eq_true rfl) ⟨Nat.le_of_ble_eq_true rfl, Nat.le_of_ble_eq_true rfl⟩ ⟨Nat.le_of_ble_eq_true rfl, Nat.le_of_ble_eq_true rfl⟩ dX6_save_4 rfl (fun v_ u_ hp_ => ?_)
  obtain ⟨rfl, rfl⟩ := hp_
  show V E G A 3 [MO y t kn ln th] 0 0 Q 7 [(0, .ref (y 0)), (1, .int c)] [.int (nI 0), .ref (y 0)]
  refine V_if_eq (pc' := 10) (C := 0 = 0) 14 X dX6_save_7 (by decide) rfl (z_eq0 (by omega)) (fun _ => ?_) (fun hz => absurd (by decide) hz)
  refine V_iconst (pc' := 15) (nI 1) X dX6_save_14 ki_1 rfl ?_
  refine V_callV (pc' := 18) (As := [.int (nI 1)]) (st := []) 6 0 [0] [] (show (List.range 1).Perm ([0] ++ []) by decide) X (c_X6_holds1 l G y t kn ln th) rfl gX6_save_X6_holds rfl (by decide) rfl rfl rfl (Nat.le_of_ble_eq_true rfl) ⟨Nat.le_of_ble_eq_true rfl, Nat.le_of_ble_eq_true rfl⟩ ⟨Nat.le_of_ble_eq_true rfl, Nat.le_of_ble_eq_true rfl⟩ dX6_save_15 rfl (fun v_ u_ hp_ => ?_)
  obtain ⟨rfl, rfl⟩ := hp_
  show V E G A 3 [MO y 1 kn ln th] 0 0 Q 18 [(0, .ref (y 0)), (1, .int c)] [.int (nI 0)]
  refine V_if_ne (pc' := 21) (C := 0 = 0) 23 X dX6_save_18 (by decide) rfl (z_eq0 (by omega)) (fun hz => absurd (by decide) hz) (fun _ => ?_)
  refine V_iconst (pc' := 22) (nI 0) X dX6_save_21 ki_0 rfl ?_
  exact V_ireturn (v := nI 0) [MO y 1 kn ln th] hQ X hrt rfl dX6_save_22 (Nat.le_of_ble_eq_true rfl) (Nat.le_of_ble_eq_true rfl) (List.Perm.refl _) ⟨rfl, rfl⟩

set_option maxHeartbeats 4000000 in
set_option maxRecDepth 100000 in
theorem c_X6_restore_b1 (l : Launch) (G : gT) (y : Nat → Nat) (t kn ln th : Nat) (c : Int32) (hx : ¬ okr 0 1 c) : CM l G yX6_restore wsX6_restore 2 45 1 [.ref (y 0), .int c] [MO y t kn ln th] 0 0 (fun v u => v = some (.int (nI 0)) ∧ u = [MO y 1 kn ln th]) := by
  refine CM_of RX6 1 22 rfl rfl (by decide) (by decide +kernel) (Nat.le_of_ble_eq_true rfl) (fun E A X hrt hnm => ?_)
  generalize hQ : QM E G A _ _ _ = Q
  show V E G A 4 [MO y t kn ln th] 0 0 Q 0 [(0, .ref (y 0)), (1, .int c)] []
  refine V_iload_n (pc' := 1) 1 X dX6_restore_0 rfl rfl rfl ?_
  refine V_iconst (pc' := 2) (nI 0) X dX6_restore_1 ki_0 rfl ?_
  refine V_iconst (pc' := 3) (nI 1) X dX6_restore_2 ki_1 rfl ?_
  refine V_callS (pc' := 6) (As := [.int c, .int (nI 0), .int (nI 1)]) (st := []) [] [0] (show (List.range 1).Perm ([] ++ [0]) by decide) X (c_X6_in0 l G c 0 1 (by decide) (by decide) hx) rfl gX6_restore_X6_in rfl rfl (Nat.le_of_ble_eq_true rfl) ⟨Nat.le_of_ble_eq_true rfl, Nat.le_of_ble_eq_true rfl⟩ ⟨Nat.le_of_ble_eq_true rfl, Nat.le_of_ble_eq_true rfl⟩ dX6_restore_3 rfl (fun v_ u_ hp_ => ?_)
  obtain ⟨rfl, rfl⟩ := hp_
  show V E G A 4 [MO y t kn ln th] 0 0 Q 6 [(0, .ref (y 0)), (1, .int c)] [.int (nI 0)]
  refine V_istore_n (pc' := 7) [(0, .ref (y 0)), (1, .int c), (2, .int (nI 0))] [1, 2, 0] X dX6_restore_6 rfl (Nat.le_of_ble_eq_true rfl) rfl rfl ?_
  refine V_aload_n (pc' := 8) 0 X dX6_restore_7 rfl rfl rfl ?_
  refine V_iload_n (pc' := 9) 2 X dX6_restore_8 rfl rfl rfl ?_
  refine V_if_ne (pc' := 12) (C := 0 = 0) 16 X dX6_restore_9 (by decide) rfl (z_eq0 (by omega)) (fun hz => absurd (by decide) hz) (fun _ => ?_)
  refine V_iconst (pc' := 13) (nI 1) X dX6_restore_12 ki_1 rfl ?_
  refine V_goto (pc' := 30) X dX6_restore_13 (by decide) ?_
  refine V_callV (pc' := 33) (As := [.int (nI 1)]) (st := []) 6 0 [0] [] (show (List.range 1).Perm ([0] ++ []) by decide) X (c_X6_holds1 l G y t kn ln th) rfl gX6_restore_X6_holds rfl (by decide) rfl rfl rfl (Nat.le_of_ble_eq_true rfl) ⟨Nat.le_of_ble_eq_true rfl, Nat.le_of_ble_eq_true rfl⟩ ⟨Nat.le_of_ble_eq_true rfl, Nat.le_of_ble_eq_true rfl⟩ dX6_restore_30 rfl (fun v_ u_ hp_ => ?_)
  obtain ⟨rfl, rfl⟩ := hp_
  show V E G A 4 [MO y 1 kn ln th] 0 0 Q 33 [(0, .ref (y 0)), (1, .int c), (2, .int (nI 0))] [.int (nI 0)]
  refine V_if_ne (pc' := 36) (C := 0 = 0) 38 X dX6_restore_33 (by decide) rfl (z_eq0 (by omega)) (fun hz => absurd (by decide) hz) (fun _ => ?_)
  refine V_iconst (pc' := 37) (nI 0) X dX6_restore_36 ki_0 rfl ?_
  exact V_ireturn (v := nI 0) [MO y 1 kn ln th] hQ X hrt rfl dX6_restore_37 (Nat.le_of_ble_eq_true rfl) (Nat.le_of_ble_eq_true rfl) (List.Perm.refl _) ⟨rfl, rfl⟩

set_option maxHeartbeats 4000000 in
set_option maxRecDepth 100000 in
theorem c_X6_undo_b1 (l : Launch) (G : gT) (y : Nat → Nat) (t ln th : Nat) : CM l G yX6_undo wsX6_undo 2 42 0 [.ref (y 0)] [MO y t 0 ln th] 0 0 (fun v u => v = some (.int (nI 0)) ∧ u = [MO y 1 0 ln th]) := by
  refine CM_of RX6 1 21 rfl rfl (by decide) (by decide +kernel) (Nat.le_of_ble_eq_true rfl) (fun E A X hrt hnm => ?_)
  have F40 := Fld_of (idx := 40) 6 5 X (by decide) (by decide) (by decide +kernel) (by decide +kernel)
  generalize hQ : QM E G A _ _ _ = Q
  show V E G A 2 [MO y t 0 ln th] 0 0 Q 0 [(0, .ref (y 0))] []
  refine V_aload_n (pc' := 1) 0 X dX6_undo_0 rfl rfl rfl ?_
  refine V_aload_n (pc' := 2) 0 X dX6_undo_1 rfl rfl rfl ?_
  refine V_get (pc' := 5) 0 X F40 rfl rfl dX6_undo_2 rfl ?_
  refine V_if_le (pc' := 8) (C := 0 = 0) 12 X dX6_undo_5 (by decide) rfl (z_le0 (by omega)) (fun _ => ?_) (fun hz => absurd (by decide) hz)
  refine V_iconst (pc' := 13) (nI 1) X dX6_undo_12 ki_1 rfl ?_
  refine V_callV (pc' := 16) (As := [.int (nI 1)]) (st := []) 6 0 [0] [] (show (List.range 1).Perm ([0] ++ []) by decide) X (c_X6_holds1 l G y t 0 ln th) rfl gX6_undo_X6_holds rfl (by decide) rfl rfl rfl (Nat.le_of_ble_eq_true rfl) ⟨Nat.le_of_ble_eq_true rfl, Nat.le_of_ble_eq_true rfl⟩ ⟨Nat.le_of_ble_eq_true rfl, Nat.le_of_ble_eq_true rfl⟩ dX6_undo_13 rfl (fun v_ u_ hp_ => ?_)
  obtain ⟨rfl, rfl⟩ := hp_
  show V E G A 2 [MO y 1 0 ln th] 0 0 Q 16 [(0, .ref (y 0))] [.int (nI 0)]
  refine V_if_ne (pc' := 19) (C := 0 = 0) 21 X dX6_undo_16 (by decide) rfl (z_eq0 (by omega)) (fun hz => absurd (by decide) hz) (fun _ => ?_)
  refine V_iconst (pc' := 20) (nI 0) X dX6_undo_19 ki_0 rfl ?_
  exact V_ireturn (v := nI 0) [MO y 1 0 ln th] hQ X hrt rfl dX6_undo_20 (Nat.le_of_ble_eq_true rfl) (Nat.le_of_ble_eq_true rfl) (List.Perm.refl _) ⟨rfl, rfl⟩

set_option maxHeartbeats 4000000 in
set_option maxRecDepth 100000 in
theorem c_X6_turnPeg (l : Launch) (G : gT) (y : Nat → Nat) (t kn ln th : Nat) (s : Nat → Nat) (hI : IV s) (g : Nat → Nat) (hn : kn ≤ 6) (c b : Nat) (hc : c < 32) (hb : b < 10) : CM l G yX6_turnPeg wsX6_turnPeg 3 64 2 [.ref (y 0), .int (nI c), .int (nI b)] [MO y t kn ln th, RW G (y 1) 70 s, RW G (y 4) 420 g] 0 0 (fun v u => v = some (.int (nI (bq (s c ^^^ 2 ^ b) b))) ∧ u = [MO y 0 (aM kn + 1) ln th, RW G (y 1) 70 (va_up s c (s c ^^^ 2 ^ b)), RW G (y 4) 420 (rcH kn s g)]) := by
  refine CM_of RX6 2 42 rfl rfl (by decide) (by decide +kernel) (Nat.le_of_ble_eq_true rfl) (fun E A X hrt hnm => ?_)
  have F7 := Fld_of (idx := 7) 6 1 X (by decide) (by decide) (by decide +kernel) (by decide +kernel)
  generalize hQ : QM E G A _ _ _ = Q
  obtain ⟨i1, i2, i3, i4, i5, i6⟩ := id hI
  have hcp := i1 c hc
  have hx10 : s c ^^^ 2 ^ b < 1024 := Nat.xor_lt_two_pow (n := 10) hcp (Nat.pow_lt_pow_right (by decide) hb)
  show V E G A 3 [MO y t kn ln th, RW G (y 1) 70 s, RW G (y 4) 420 g] 0 0 Q 0 [(0, .ref (y 0)), (1, .int (nI c)), (2, .int (nI b))] []
  refine V_aload_n (pc' := 1) 0 X dX6_turnPeg_0 rfl rfl rfl ?_
  refine V_iload_n (pc' := 2) 1 X dX6_turnPeg_1 rfl rfl rfl ?_
  refine V_callS (pc' := 5) (As := [.int (nI c)]) (st := [.ref (y 0)]) [] [0, 1, 2] (show (List.range 3).Perm ([] ++ [0, 1, 2]) by decide) X (c_X6_isColumn1 l G c (by omega)) rfl gX6_turnPeg_X6_isColumn rfl rfl (Nat.le_of_ble_eq_true rfl) ⟨Nat.le_of_ble_eq_true rfl, Nat.le_of_ble_eq_true rfl⟩ ⟨Nat.le_of_ble_eq_true rfl, Nat.le_of_ble_eq_true rfl⟩ dX6_turnPeg_2 rfl (fun v_ u_ hp_ => ?_)
  obtain ⟨rfl, rfl⟩ := hp_
  show V E G A 3 [MO y t kn ln th, RW G (y 1) 70 s, RW G (y 4) 420 g] 0 0 Q 5 [(0, .ref (y 0)), (1, .int (nI c)), (2, .int (nI b))] [.int (nI 1), .ref (y 0)]
  refine V_if_eq (pc' := 8) (C := 1 = 0) 19 X dX6_turnPeg_5 (by decide) rfl (z_eq0 (by omega)) (fun hz => absurd hz (by decide)) (fun _ => ?_)
  refine V_iload_n (pc' := 9) 2 X dX6_turnPeg_8 rfl rfl rfl ?_
  refine V_callS (pc' := 12) (As := [.int (nI b)]) (st := [.ref (y 0)]) [] [0, 1, 2] (show (List.range 3).Perm ([] ++ [0, 1, 2]) by decide) X (c_X6_isBell1 l G b (by omega)) rfl gX6_turnPeg_X6_isBell rfl rfl (Nat.le_of_ble_eq_true rfl) ⟨Nat.le_of_ble_eq_true rfl, Nat.le_of_ble_eq_true rfl⟩ ⟨Nat.le_of_ble_eq_true rfl, Nat.le_of_ble_eq_true rfl⟩ dX6_turnPeg_9 rfl (fun v_ u_ hp_ => ?_)
  obtain ⟨rfl, rfl⟩ := hp_
  show V E G A 3 [MO y t kn ln th, RW G (y 1) 70 s, RW G (y 4) 420 g] 0 0 Q 12 [(0, .ref (y 0)), (1, .int (nI c)), (2, .int (nI b))] [.int (nI 1), .ref (y 0)]
  refine V_if_eq (pc' := 15) (C := 1 = 0) 19 X dX6_turnPeg_12 (by decide) rfl (z_eq0 (by omega)) (fun hz => absurd hz (by decide)) (fun _ => ?_)
  refine V_iconst (pc' := 16) (nI 0) X dX6_turnPeg_15 ki_0 rfl ?_
  refine V_goto (pc' := 20) X dX6_turnPeg_16 (by decide) ?_
  refine V_callV (pc' := 23) (As := [.int (nI 0)]) (st := []) 6 0 [0] [1, 2] (show (List.range 3).Perm ([0] ++ [1, 2]) by decide) X (c_X6_holds0 l G y t kn ln th) rfl gX6_turnPeg_X6_holds rfl (by decide) rfl rfl rfl (Nat.le_of_ble_eq_true rfl) ⟨Nat.le_of_ble_eq_true rfl, Nat.le_of_ble_eq_true rfl⟩ ⟨Nat.le_of_ble_eq_true rfl, Nat.le_of_ble_eq_true rfl⟩ dX6_turnPeg_20 rfl (fun v_ u_ hp_ => ?_)
  obtain ⟨rfl, rfl⟩ := hp_
  show V E G A 3 [RW G (y 1) 70 s, RW G (y 4) 420 g, MO y 0 kn ln th] 0 0 Q 23 [(0, .ref (y 0)), (1, .int (nI c)), (2, .int (nI b))] [.int (nI 1)]
  refine V_ord [2, 0, 1] [MO y 0 kn ln th, RW G (y 1) 70 s, RW G (y 4) 420 g] (show (List.range 3).Perm [2, 0, 1] by decide) rfl ?_
  refine V_if_ne (pc' := 26) (C := 1 = 0) 28 X dX6_turnPeg_23 (by decide) rfl (z_eq0 (by omega)) (fun _ => ?_) (fun hz => absurd hz (by decide))
  refine V_aload_n (pc' := 29) 0 X dX6_turnPeg_28 rfl rfl rfl ?_
  refine V_callV (pc' := 32) (As := []) (st := []) 6 0 [0, 1, 2] [] (show (List.range 3).Perm ([0, 1, 2] ++ []) by decide) X (c_X6_records l G y 0 kn ln th s g hn) rfl gX6_turnPeg_X6_records rfl (by decide) rfl rfl rfl (Nat.le_of_ble_eq_true rfl) ⟨Nat.le_of_ble_eq_true rfl, Nat.le_of_ble_eq_true rfl⟩ ⟨Nat.le_of_ble_eq_true rfl, Nat.le_of_ble_eq_true rfl⟩ dX6_turnPeg_29 rfl (fun v_ u_ hp_ => ?_)
  obtain ⟨rfl, rfl⟩ := hp_
  show V E G A 3 [MO y 0 (aM kn + 1) ln th, RW G (y 1) 70 s, RW G (y 4) 420 (rcH kn s g)] 0 0 Q 32 [(0, .ref (y 0)), (1, .int (nI c)), (2, .int (nI b))] []
  refine V_aload_n (pc' := 33) 0 X dX6_turnPeg_32 rfl rfl rfl ?_
  refine V_get (pc' := 36) 0 X F7 rfl rfl dX6_turnPeg_33 rfl ?_
  refine V_iconst (pc' := 37) (nI 0) X dX6_turnPeg_36 ki_0 rfl ?_
  refine V_iload_n (pc' := 38) 1 X dX6_turnPeg_37 rfl rfl rfl ?_
  refine V_iadd (pc' := 39) (nI c) X dX6_turnPeg_38 (nI_0add _) rfl ?_
  refine V_dup2 (pc' := 40) X dX6_turnPeg_39 rfl rfl rfl ?_
  refine V_iald (pc' := 41) (v := nI (s c)) 1 c X rfl (by omega) (by decide) rfl dX6_turnPeg_40 rfl ?_
  refine V_iconst (pc' := 42) (nI 1) X dX6_turnPeg_41 ki_1 rfl ?_
  refine V_iload_n (pc' := 43) 2 X dX6_turnPeg_42 rfl rfl rfl ?_
  refine V_ishl (pc' := 44) (nI (2 ^ b)) X dX6_turnPeg_43 (z_shl1 (by omega)) rfl ?_
  refine V_ixor (pc' := 45) (nI ((s c) ^^^ (2 ^ b))) X dX6_turnPeg_44 (z_xor _ _) rfl ?_
  refine V_ws [MO y 0 (aM kn + 1) ln th, [((y 1), .inl (G.2 0, 70, .inl (nf s)))], RW G (y 4) 420 (rcH kn s g)] rfl ?_
  refine V_iast (pc' := 46) 1 c [MO y 0 (aM kn + 1) ln th, [((y 1), .inl (G.2 0, 70, .inl (upd (nf s) c (nI ((s c) ^^^ (2 ^ b))))))], RW G (y 4) 420 (rcH kn s g)] X rfl (by omega) (by decide) rfl dX6_turnPeg_45 rfl ?_
  refine V_ws [MO y 0 (aM kn + 1) ln th, [((y 1), .inl (G.2 0, 70, .inl (nf (va_up s c ((s c) ^^^ (2 ^ b))))))], RW G (y 4) 420 (rcH kn s g)] (by simp only [nf_upd]) ?_
  refine V_aload_n (pc' := 47) 0 X dX6_turnPeg_46 rfl rfl rfl ?_
  refine V_get (pc' := 50) 0 X F7 rfl rfl dX6_turnPeg_47 rfl ?_
  refine V_iconst (pc' := 51) (nI 0) X dX6_turnPeg_50 ki_0 rfl ?_
  refine V_iload_n (pc' := 52) 1 X dX6_turnPeg_51 rfl rfl rfl ?_
  refine V_iadd (pc' := 53) (nI c) X dX6_turnPeg_52 (nI_0add _) rfl ?_
  refine V_iald (pc' := 54) (v := nI (s c ^^^ 2 ^ b)) 1 c X rfl (by omega) (by decide) (congrArg nI (va_up_self s c _)) dX6_turnPeg_53 rfl ?_
  refine V_iload_n (pc' := 55) 2 X dX6_turnPeg_54 rfl rfl rfl ?_
  refine V_ishr (pc' := 56) (nI ((s c ^^^ 2 ^ b) / 2 ^ b)) X dX6_turnPeg_55 (z_shr (by omega) (by omega)) rfl ?_
  refine V_iconst (pc' := 57) (nI 1) X dX6_turnPeg_56 ki_1 rfl ?_
  refine V_iand (pc' := 58) (nI (bq (s c ^^^ 2 ^ b) b)) X dX6_turnPeg_57 (z_and1 _) rfl ?_
  refine V_iconst (pc' := 59) (nI 1) X dX6_turnPeg_58 ki_1 rfl ?_
  refine V_icmp_ne (pc' := 62) (C := (bq (s c ^^^ 2 ^ b) b) = 1) 66 X dX6_turnPeg_59 (by decide) rfl (nI_eq (Nat.lt_trans (bq_lt _ _) (by decide)) (by decide)) (fun h59 => ?_) (fun h59 => ?_)
  · refine V_iconst (pc' := 67) (nI 0) X dX6_turnPeg_66 ki_0 rfl ?_
    refine V_ws [MO y 0 (aM kn + 1) ln th, RW G (y 1) 70 (va_up s c ((s c) ^^^ (2 ^ b))), RW G (y 4) 420 (rcH kn s g)] rfl ?_
    exact V_ireturn (v := nI 0) [MO y 0 (aM kn + 1) ln th, RW G (y 1) 70 (va_up s c ((s c) ^^^ (2 ^ b))), RW G (y 4) 420 (rcH kn s g)] hQ X hrt rfl dX6_turnPeg_67 (Nat.le_of_ble_eq_true rfl) (Nat.le_of_ble_eq_true rfl) (List.Perm.refl _) ⟨by rw [show bq (s c ^^^ 2 ^ b) b = 0 by have := bq_lt (s c ^^^ 2 ^ b) b; omega], rfl⟩
  · refine V_iconst (pc' := 63) (nI 1) X dX6_turnPeg_62 ki_1 rfl ?_
    refine V_goto (pc' := 67) X dX6_turnPeg_63 (by decide) ?_
    refine V_ws [MO y 0 (aM kn + 1) ln th, RW G (y 1) 70 (va_up s c ((s c) ^^^ (2 ^ b))), RW G (y 4) 420 (rcH kn s g)] rfl ?_
    exact V_ireturn (v := nI 1) [MO y 0 (aM kn + 1) ln th, RW G (y 1) 70 (va_up s c ((s c) ^^^ (2 ^ b))), RW G (y 4) 420 (rcH kn s g)] hQ X hrt rfl dX6_turnPeg_67 (Nat.le_of_ble_eq_true rfl) (Nat.le_of_ble_eq_true rfl) (List.Perm.refl _) ⟨by rw [show bq (s c ^^^ 2 ^ b) b = 1 by have := bq_lt (s c ^^^ 2 ^ b) b; omega], rfl⟩

set_option maxHeartbeats 4000000 in
set_option maxRecDepth 100000 in
theorem c_X6_lays (l : Launch) (G : gT) (y : Nat → Nat) (t kn ln th : Nat) (s : Nat → Nat) (c w : Nat) (hc : c < 32) (hw : w < 1024) (hs : s c < 1024) : CM l G yX6_lays wsX6_lays 2 45 2 [.ref (y 0), .int (nI c), .int (nI w)] [MO y t kn ln th, RW G (y 1) 70 s] 0 0 (fun v u => v = some (.int (nI (cnt (s c ^^^ w)))) ∧ u = [MO y t kn ln th, RW G (y 1) 70 (va_up s c w)]) := by
  refine CM_of RX6 1 22 rfl rfl (by decide) (by decide +kernel) (Nat.le_of_ble_eq_true rfl) (fun E A X hrt hnm => ?_)
  have F7 := Fld_of (idx := 7) 6 1 X (by decide) (by decide) (by decide +kernel) (by decide +kernel)
  generalize hQ : QM E G A _ _ _ = Q
  have hx10 : s c ^^^ w < 1024 := Nat.xor_lt_two_pow (n := 10) hs hw
  show V E G A 4 [MO y t kn ln th, RW G (y 1) 70 s] 0 0 Q 0 [(0, .ref (y 0)), (1, .int (nI c)), (2, .int (nI w))] []
  refine V_aload_n (pc' := 1) 0 X dX6_lays_0 rfl rfl rfl ?_
  refine V_get (pc' := 4) 0 X F7 rfl rfl dX6_lays_1 rfl ?_
  refine V_iconst (pc' := 5) (nI 0) X dX6_lays_4 ki_0 rfl ?_
  refine V_iload_n (pc' := 6) 1 X dX6_lays_5 rfl rfl rfl ?_
  refine V_iadd (pc' := 7) (nI c) X dX6_lays_6 (nI_0add _) rfl ?_
  refine V_iald (pc' := 8) (v := nI (s c)) 1 c X rfl (by omega) (by decide) rfl dX6_lays_7 rfl ?_
  refine V_iload_n (pc' := 9) 2 X dX6_lays_8 rfl rfl rfl ?_
  refine V_ixor (pc' := 10) (nI ((s c) ^^^ w)) X dX6_lays_9 (z_xor _ _) rfl ?_
  refine V_callS (pc' := 13) (As := [.int (nI ((s c) ^^^ w))]) (st := []) [] [0, 1] (show (List.range 2).Perm ([] ++ [0, 1]) by decide) X (c_X6_count l G ((s c) ^^^ w) (Nat.lt_trans hx10 (by decide))) rfl gX6_lays_X6_count rfl rfl (Nat.le_of_ble_eq_true rfl) ⟨Nat.le_of_ble_eq_true rfl, Nat.le_of_ble_eq_true rfl⟩ ⟨Nat.le_of_ble_eq_true rfl, Nat.le_of_ble_eq_true rfl⟩ dX6_lays_10 rfl (fun v_ u_ hp_ => ?_)
  obtain ⟨rfl, rfl⟩ := hp_
  show V E G A 4 [MO y t kn ln th, RW G (y 1) 70 s] 0 0 Q 13 [(0, .ref (y 0)), (1, .int (nI c)), (2, .int (nI w))] [.int (nI (cnt ((s c) ^^^ w)))]
  refine V_istore_n (pc' := 14) [(0, .ref (y 0)), (1, .int (nI c)), (2, .int (nI w)), (3, .int (nI (cnt ((s c) ^^^ w))))] [1, 2, 3, 0] X dX6_lays_13 rfl (Nat.le_of_ble_eq_true rfl) rfl rfl ?_
  refine V_aload_n (pc' := 15) 0 X dX6_lays_14 rfl rfl rfl ?_
  refine V_get (pc' := 18) 0 X F7 rfl rfl dX6_lays_15 rfl ?_
  refine V_iconst (pc' := 19) (nI 0) X dX6_lays_18 ki_0 rfl ?_
  refine V_iload_n (pc' := 20) 1 X dX6_lays_19 rfl rfl rfl ?_
  refine V_iadd (pc' := 21) (nI c) X dX6_lays_20 (nI_0add _) rfl ?_
  refine V_iload_n (pc' := 22) 2 X dX6_lays_21 rfl rfl rfl ?_
  refine V_ws [MO y t kn ln th, [((y 1), .inl (G.2 0, 70, .inl (nf s)))]] rfl ?_
  refine V_iast (pc' := 23) 1 c [MO y t kn ln th, [((y 1), .inl (G.2 0, 70, .inl (upd (nf s) c (nI w))))]] X rfl (by omega) (by decide) rfl dX6_lays_22 rfl ?_
  refine V_ws [MO y t kn ln th, [((y 1), .inl (G.2 0, 70, .inl (nf (va_up s c w))))]] (by simp only [nf_upd]) ?_
  refine V_iload_n (pc' := 24) 3 X dX6_lays_23 rfl rfl rfl ?_
  refine V_ws [MO y t kn ln th, RW G (y 1) 70 (va_up s c w)] rfl ?_
  exact V_ireturn (v := nI (cnt ((s c) ^^^ w))) [MO y t kn ln th, RW G (y 1) 70 (va_up s c w)] hQ X hrt rfl dX6_lays_24 (Nat.le_of_ble_eq_true rfl) (Nat.le_of_ble_eq_true rfl) (List.Perm.refl _) ⟨rfl, rfl⟩

set_option maxHeartbeats 4000000 in
set_option maxRecDepth 100000 in
theorem c_X6_setColumn (l : Launch) (G : gT) (y : Nat → Nat) (t kn ln th : Nat) (s : Nat → Nat) (hI : IV s) (g : Nat → Nat) (hn : kn ≤ 6) (c w : Nat) (hc : c < 32) (hw : w < 1024) : CM l G yX6_setColumn wsX6_setColumn 3 67 2 [.ref (y 0), .int (nI c), .int (nI w)] [MO y t kn ln th, RW G (y 1) 70 s, RW G (y 4) 420 g] 0 0 (fun v u => v = some (.int (nI (cnt (s c ^^^ w)))) ∧ u = [MO y 0 (aM kn + 1) ln th, RW G (y 1) 70 (va_up s c w), RW G (y 4) 420 (rcH kn s g)]) := by
  refine CM_of RX6 2 45 rfl rfl (by decide) (by decide +kernel) (Nat.le_of_ble_eq_true rfl) (fun E A X hrt hnm => ?_)
  generalize hQ : QM E G A _ _ _ = Q
  obtain ⟨i1, i2, i3, i4, i5, i6⟩ := id hI
  show V E G A 3 [MO y t kn ln th, RW G (y 1) 70 s, RW G (y 4) 420 g] 0 0 Q 0 [(0, .ref (y 0)), (1, .int (nI c)), (2, .int (nI w))] []
  refine V_aload_n (pc' := 1) 0 X dX6_setColumn_0 rfl rfl rfl ?_
  refine V_iload_n (pc' := 2) 1 X dX6_setColumn_1 rfl rfl rfl ?_
  refine V_callS (pc' := 5) (As := [.int (nI c)]) (st := [.ref (y 0)]) [] [0, 1, 2] (show (List.range 3).Perm ([] ++ [0, 1, 2]) by decide) X (c_X6_isColumn1 l G c (by omega)) rfl gX6_setColumn_X6_isColumn rfl rfl (Nat.le_of_ble_eq_true rfl) ⟨Nat.le_of_ble_eq_true rfl, Nat.le_of_ble_eq_true rfl⟩ ⟨Nat.le_of_ble_eq_true rfl, Nat.le_of_ble_eq_true rfl⟩ dX6_setColumn_2 rfl (fun v_ u_ hp_ => ?_)
  obtain ⟨rfl, rfl⟩ := hp_
  show V E G A 3 [MO y t kn ln th, RW G (y 1) 70 s, RW G (y 4) 420 g] 0 0 Q 5 [(0, .ref (y 0)), (1, .int (nI c)), (2, .int (nI w))] [.int (nI 1), .ref (y 0)]
  refine V_if_ne (pc' := 8) (C := 1 = 0) 12 X dX6_setColumn_5 (by decide) rfl (z_eq0 (by omega)) (fun _ => ?_) (fun hz => absurd hz (by decide))
  refine V_iload_n (pc' := 13) 2 X dX6_setColumn_12 rfl rfl rfl ?_
  refine V_iconst (pc' := 14) (nI 0) X dX6_setColumn_13 ki_0 rfl ?_
  refine V_sipush (pc' := 17) (nI 1023) X dX6_setColumn_14 ks_1023 rfl ?_
  refine V_callS (pc' := 20) (As := [.int (nI w), .int (nI 0), .int (nI 1023)]) (st := [.ref (y 0)]) [] [0, 1, 2] (show (List.range 3).Perm ([] ++ [0, 1, 2]) by decide) X (c_X6_in l G w 0 1023 (by omega) (by decide) (by decide)) rfl gX6_setColumn_X6_in rfl rfl (Nat.le_of_ble_eq_true rfl) ⟨Nat.le_of_ble_eq_true rfl, Nat.le_of_ble_eq_true rfl⟩ ⟨Nat.le_of_ble_eq_true rfl, Nat.le_of_ble_eq_true rfl⟩ dX6_setColumn_17 rfl (fun v_ u_ hp_ => ?_)
  obtain ⟨rfl, rfl⟩ := hp_; rw [if_pos (by omega)]
  show V E G A 3 [MO y t kn ln th, RW G (y 1) 70 s, RW G (y 4) 420 g] 0 0 Q 20 [(0, .ref (y 0)), (1, .int (nI c)), (2, .int (nI w))] [.int (nI 1), .ref (y 0)]
  refine V_if_eq (pc' := 23) (C := 1 = 0) 27 X dX6_setColumn_20 (by decide) rfl (z_eq0 (by omega)) (fun hz => absurd hz (by decide)) (fun _ => ?_)
  refine V_iconst (pc' := 24) (nI 0) X dX6_setColumn_23 ki_0 rfl ?_
  refine V_goto (pc' := 28) X dX6_setColumn_24 (by decide) ?_
  refine V_callV (pc' := 31) (As := [.int (nI 0)]) (st := []) 6 0 [0] [1, 2] (show (List.range 3).Perm ([0] ++ [1, 2]) by decide) X (c_X6_holds0 l G y t kn ln th) rfl gX6_setColumn_X6_holds rfl (by decide) rfl rfl rfl (Nat.le_of_ble_eq_true rfl) ⟨Nat.le_of_ble_eq_true rfl, Nat.le_of_ble_eq_true rfl⟩ ⟨Nat.le_of_ble_eq_true rfl, Nat.le_of_ble_eq_true rfl⟩ dX6_setColumn_28 rfl (fun v_ u_ hp_ => ?_)
  obtain ⟨rfl, rfl⟩ := hp_
  show V E G A 3 [RW G (y 1) 70 s, RW G (y 4) 420 g, MO y 0 kn ln th] 0 0 Q 31 [(0, .ref (y 0)), (1, .int (nI c)), (2, .int (nI w))] [.int (nI 1)]
  refine V_ord [2, 0, 1] [MO y 0 kn ln th, RW G (y 1) 70 s, RW G (y 4) 420 g] (show (List.range 3).Perm [2, 0, 1] by decide) rfl ?_
  refine V_if_ne (pc' := 34) (C := 1 = 0) 36 X dX6_setColumn_31 (by decide) rfl (z_eq0 (by omega)) (fun _ => ?_) (fun hz => absurd hz (by decide))
  refine V_aload_n (pc' := 37) 0 X dX6_setColumn_36 rfl rfl rfl ?_
  refine V_callV (pc' := 40) (As := []) (st := []) 6 0 [0, 1, 2] [] (show (List.range 3).Perm ([0, 1, 2] ++ []) by decide) X (c_X6_records l G y 0 kn ln th s g hn) rfl gX6_setColumn_X6_records rfl (by decide) rfl rfl rfl (Nat.le_of_ble_eq_true rfl) ⟨Nat.le_of_ble_eq_true rfl, Nat.le_of_ble_eq_true rfl⟩ ⟨Nat.le_of_ble_eq_true rfl, Nat.le_of_ble_eq_true rfl⟩ dX6_setColumn_37 rfl (fun v_ u_ hp_ => ?_)
  obtain ⟨rfl, rfl⟩ := hp_
  show V E G A 3 [MO y 0 (aM kn + 1) ln th, RW G (y 1) 70 s, RW G (y 4) 420 (rcH kn s g)] 0 0 Q 40 [(0, .ref (y 0)), (1, .int (nI c)), (2, .int (nI w))] []
  refine V_aload_n (pc' := 41) 0 X dX6_setColumn_40 rfl rfl rfl ?_
  refine V_iload_n (pc' := 42) 1 X dX6_setColumn_41 rfl rfl rfl ?_
  refine V_iload_n (pc' := 43) 2 X dX6_setColumn_42 rfl rfl rfl ?_
  refine V_callV (pc' := 46) (As := [.int (nI c), .int (nI w)]) (st := []) 6 0 [0, 1] [2] (show (List.range 3).Perm ([0, 1] ++ [2]) by decide) X (c_X6_lays l G y 0 (aM kn + 1) ln th s c w hc hw (i1 c hc)) rfl gX6_setColumn_X6_lays rfl (by decide) rfl rfl rfl (Nat.le_of_ble_eq_true rfl) ⟨Nat.le_of_ble_eq_true rfl, Nat.le_of_ble_eq_true rfl⟩ ⟨Nat.le_of_ble_eq_true rfl, Nat.le_of_ble_eq_true rfl⟩ dX6_setColumn_43 rfl (fun v_ u_ hp_ => ?_)
  obtain ⟨rfl, rfl⟩ := hp_
  show V E G A 3 [RW G (y 4) 420 (rcH kn s g), MO y 0 (aM kn + 1) ln th, RW G (y 1) 70 (va_up s c w)] 0 0 Q 46 [(0, .ref (y 0)), (1, .int (nI c)), (2, .int (nI w))] [.int (nI (cnt (s c ^^^ w)))]
  refine V_ord [1, 2, 0] [MO y 0 (aM kn + 1) ln th, RW G (y 1) 70 (va_up s c w), RW G (y 4) 420 (rcH kn s g)] (show (List.range 3).Perm [1, 2, 0] by decide) rfl ?_
  exact V_ireturn (v := nI (cnt (s c ^^^ w))) [MO y 0 (aM kn + 1) ln th, RW G (y 1) 70 (va_up s c w), RW G (y 4) 420 (rcH kn s g)] hQ X hrt rfl dX6_setColumn_46 (Nat.le_of_ble_eq_true rfl) (Nat.le_of_ble_eq_true rfl) (List.Perm.refl _) ⟨rfl, rfl⟩

set_option maxHeartbeats 4000000 in
set_option maxRecDepth 100000 in
theorem c_X6_changes (l : Launch) (G : gT) (y : Nat → Nat) (t kn ln th : Nat) (s g : Nat → Nat) (hn : kn ≤ 6) (j w : Nat) (hj : j < 70) : CM l G yX6_changes wsX6_changes 2 44 2 [.ref (y 0), .int (nI j), .int (nI w)] [MO y t kn ln th, RW G (y 1) 70 s, RW G (y 4) 420 g] 0 0 (fun v u => v = some (.int (nI (s j))) ∧ u = [MO y t (aM kn + 1) ln th, RW G (y 1) 70 (va_up s j w), RW G (y 4) 420 (rcH kn s g)]) := by
  refine CM_of RX6 1 21 rfl rfl (by decide) (by decide +kernel) (Nat.le_of_ble_eq_true rfl) (fun E A X hrt hnm => ?_)
  have F7 := Fld_of (idx := 7) 6 1 X (by decide) (by decide) (by decide +kernel) (by decide +kernel)
  generalize hQ : QM E G A _ _ _ = Q
  show V E G A 4 [MO y t kn ln th, RW G (y 1) 70 s, RW G (y 4) 420 g] 0 0 Q 0 [(0, .ref (y 0)), (1, .int (nI j)), (2, .int (nI w))] []
  refine V_aload_n (pc' := 1) 0 X dX6_changes_0 rfl rfl rfl ?_
  refine V_callV (pc' := 4) (As := []) (st := []) 6 0 [0, 1, 2] [] (show (List.range 3).Perm ([0, 1, 2] ++ []) by decide) X (c_X6_records l G y t kn ln th s g hn) rfl gX6_changes_X6_records rfl (by decide) rfl rfl rfl (Nat.le_of_ble_eq_true rfl) ⟨Nat.le_of_ble_eq_true rfl, Nat.le_of_ble_eq_true rfl⟩ ⟨Nat.le_of_ble_eq_true rfl, Nat.le_of_ble_eq_true rfl⟩ dX6_changes_1 rfl (fun v_ u_ hp_ => ?_)
  obtain ⟨rfl, rfl⟩ := hp_
  show V E G A 4 [MO y t (aM kn + 1) ln th, RW G (y 1) 70 s, RW G (y 4) 420 (rcH kn s g)] 0 0 Q 4 [(0, .ref (y 0)), (1, .int (nI j)), (2, .int (nI w))] []
  refine V_aload_n (pc' := 5) 0 X dX6_changes_4 rfl rfl rfl ?_
  refine V_get (pc' := 8) 0 X F7 rfl rfl dX6_changes_5 rfl ?_
  refine V_iload_n (pc' := 9) 1 X dX6_changes_8 rfl rfl rfl ?_
  refine V_iald (pc' := 10) (v := nI (s j)) 1 j X rfl (by omega) (by decide) rfl dX6_changes_9 rfl ?_
  refine V_istore_n (pc' := 11) [(0, .ref (y 0)), (1, .int (nI j)), (2, .int (nI w)), (3, .int (nI (s j)))] [1, 2, 3, 0] X dX6_changes_10 rfl (Nat.le_of_ble_eq_true rfl) rfl rfl ?_
  refine V_aload_n (pc' := 12) 0 X dX6_changes_11 rfl rfl rfl ?_
  refine V_get (pc' := 15) 0 X F7 rfl rfl dX6_changes_12 rfl ?_
  refine V_iload_n (pc' := 16) 1 X dX6_changes_15 rfl rfl rfl ?_
  refine V_iload_n (pc' := 17) 2 X dX6_changes_16 rfl rfl rfl ?_
  refine V_ws [MO y t (aM kn + 1) ln th, [((y 1), .inl (G.2 0, 70, .inl (nf s)))], RW G (y 4) 420 (rcH kn s g)] rfl ?_
  refine V_iast (pc' := 18) 1 j [MO y t (aM kn + 1) ln th, [((y 1), .inl (G.2 0, 70, .inl (upd (nf s) j (nI w))))], RW G (y 4) 420 (rcH kn s g)] X rfl (by omega) (by decide) rfl dX6_changes_17 rfl ?_
  refine V_ws [MO y t (aM kn + 1) ln th, [((y 1), .inl (G.2 0, 70, .inl (nf (va_up s j w))))], RW G (y 4) 420 (rcH kn s g)] (by simp only [nf_upd]) ?_
  refine V_iload_n (pc' := 19) 3 X dX6_changes_18 rfl rfl rfl ?_
  refine V_ws [MO y t (aM kn + 1) ln th, RW G (y 1) 70 (va_up s j w), RW G (y 4) 420 (rcH kn s g)] rfl ?_
  exact V_ireturn (v := nI (s j)) [MO y t (aM kn + 1) ln th, RW G (y 1) 70 (va_up s j w), RW G (y 4) 420 (rcH kn s g)] hQ X hrt rfl dX6_changes_19 (Nat.le_of_ble_eq_true rfl) (Nat.le_of_ble_eq_true rfl) (List.Perm.refl _) ⟨rfl, rfl⟩

set_option maxHeartbeats 4000000 in
set_option maxRecDepth 100000 in
theorem c_X6_setTempo (l : Launch) (G : gT) (y : Nat → Nat) (t kn ln th : Nat) (s : Nat → Nat) (hI : IV s) (g : Nat → Nat) (hn : kn ≤ 6) (c w : Nat) (hc : c ≤ 3) (hw1 : 1 ≤ w) (hw : w ≤ 9) : CM l G yX6_setTempo wsX6_setTempo 3 66 2 [.ref (y 0), .int (nI c), .int (nI w)] [MO y t kn ln th, RW G (y 1) 70 s, RW G (y 4) 420 g] 0 0 (fun v u => v = some (.int (nI (s (32 + c)))) ∧ u = [MO y 0 (aM kn + 1) ln th, RW G (y 1) 70 (va_up s (32 + c) w), RW G (y 4) 420 (rcH kn s g)]) := by
  refine CM_of RX6 2 44 rfl rfl (by decide) (by decide +kernel) (Nat.le_of_ble_eq_true rfl) (fun E A X hrt hnm => ?_)
  generalize hQ : QM E G A _ _ _ = Q
  obtain ⟨i1, i2, i3, i4, i5, i6⟩ := id hI
  show V E G A 3 [MO y t kn ln th, RW G (y 1) 70 s, RW G (y 4) 420 g] 0 0 Q 0 [(0, .ref (y 0)), (1, .int (nI c)), (2, .int (nI w))] []
  refine V_aload_n (pc' := 1) 0 X dX6_setTempo_0 rfl rfl rfl ?_
  refine V_iload_n (pc' := 2) 1 X dX6_setTempo_1 rfl rfl rfl ?_
  refine V_callS (pc' := 5) (As := [.int (nI c)]) (st := [.ref (y 0)]) [] [0, 1, 2] (show (List.range 3).Perm ([] ++ [0, 1, 2]) by decide) X (c_X6_isBar1 l G c (by omega)) rfl gX6_setTempo_X6_isBar rfl rfl (Nat.le_of_ble_eq_true rfl) ⟨Nat.le_of_ble_eq_true rfl, Nat.le_of_ble_eq_true rfl⟩ ⟨Nat.le_of_ble_eq_true rfl, Nat.le_of_ble_eq_true rfl⟩ dX6_setTempo_2 rfl (fun v_ u_ hp_ => ?_)
  obtain ⟨rfl, rfl⟩ := hp_
  show V E G A 3 [MO y t kn ln th, RW G (y 1) 70 s, RW G (y 4) 420 g] 0 0 Q 5 [(0, .ref (y 0)), (1, .int (nI c)), (2, .int (nI w))] [.int (nI 1), .ref (y 0)]
  refine V_if_ne (pc' := 8) (C := 1 = 0) 12 X dX6_setTempo_5 (by decide) rfl (z_eq0 (by omega)) (fun _ => ?_) (fun hz => absurd hz (by decide))
  refine V_iload_n (pc' := 13) 2 X dX6_setTempo_12 rfl rfl rfl ?_
  refine V_iconst (pc' := 14) (nI 1) X dX6_setTempo_13 ki_1 rfl ?_
  refine V_bipush (pc' := 16) (nI 9) X dX6_setTempo_14 kb_9 rfl ?_
  refine V_callS (pc' := 19) (As := [.int (nI w), .int (nI 1), .int (nI 9)]) (st := [.ref (y 0)]) [] [0, 1, 2] (show (List.range 3).Perm ([] ++ [0, 1, 2]) by decide) X (c_X6_in l G w 1 9 (by omega) (by decide) (by decide)) rfl gX6_setTempo_X6_in rfl rfl (Nat.le_of_ble_eq_true rfl) ⟨Nat.le_of_ble_eq_true rfl, Nat.le_of_ble_eq_true rfl⟩ ⟨Nat.le_of_ble_eq_true rfl, Nat.le_of_ble_eq_true rfl⟩ dX6_setTempo_16 rfl (fun v_ u_ hp_ => ?_)
  obtain ⟨rfl, rfl⟩ := hp_; rw [if_pos (by omega)]
  show V E G A 3 [MO y t kn ln th, RW G (y 1) 70 s, RW G (y 4) 420 g] 0 0 Q 19 [(0, .ref (y 0)), (1, .int (nI c)), (2, .int (nI w))] [.int (nI 1), .ref (y 0)]
  refine V_if_eq (pc' := 22) (C := 1 = 0) 26 X dX6_setTempo_19 (by decide) rfl (z_eq0 (by omega)) (fun hz => absurd hz (by decide)) (fun _ => ?_)
  refine V_iconst (pc' := 23) (nI 0) X dX6_setTempo_22 ki_0 rfl ?_
  refine V_goto (pc' := 27) X dX6_setTempo_23 (by decide) ?_
  refine V_callV (pc' := 30) (As := [.int (nI 0)]) (st := []) 6 0 [0] [1, 2] (show (List.range 3).Perm ([0] ++ [1, 2]) by decide) X (c_X6_holds0 l G y t kn ln th) rfl gX6_setTempo_X6_holds rfl (by decide) rfl rfl rfl (Nat.le_of_ble_eq_true rfl) ⟨Nat.le_of_ble_eq_true rfl, Nat.le_of_ble_eq_true rfl⟩ ⟨Nat.le_of_ble_eq_true rfl, Nat.le_of_ble_eq_true rfl⟩ dX6_setTempo_27 rfl (fun v_ u_ hp_ => ?_)
  obtain ⟨rfl, rfl⟩ := hp_
  show V E G A 3 [RW G (y 1) 70 s, RW G (y 4) 420 g, MO y 0 kn ln th] 0 0 Q 30 [(0, .ref (y 0)), (1, .int (nI c)), (2, .int (nI w))] [.int (nI 1)]
  refine V_ord [2, 0, 1] [MO y 0 kn ln th, RW G (y 1) 70 s, RW G (y 4) 420 g] (show (List.range 3).Perm [2, 0, 1] by decide) rfl ?_
  refine V_if_eq (pc' := 33) (C := 1 = 0) 45 X dX6_setTempo_30 (by decide) rfl (z_eq0 (by omega)) (fun hz => absurd hz (by decide)) (fun _ => ?_)
  refine V_aload_n (pc' := 34) 0 X dX6_setTempo_33 rfl rfl rfl ?_
  refine V_bipush (pc' := 36) (nI 32) X dX6_setTempo_34 kb_32 rfl ?_
  refine V_iload_n (pc' := 37) 1 X dX6_setTempo_36 rfl rfl rfl ?_
  refine V_iadd (pc' := 38) (nI (32 + c)) X dX6_setTempo_37 (nI_add _ _) rfl ?_
  refine V_iload_n (pc' := 39) 2 X dX6_setTempo_38 rfl rfl rfl ?_
  refine V_callV (pc' := 42) (As := [.int (nI (32 + c)), .int (nI w)]) (st := []) 6 0 [0, 1, 2] [] (show (List.range 3).Perm ([0, 1, 2] ++ []) by decide) X (c_X6_changes l G y 0 kn ln th s g hn (32 + c) w (by omega)) rfl gX6_setTempo_X6_changes rfl (by decide) rfl rfl rfl (Nat.le_of_ble_eq_true rfl) ⟨Nat.le_of_ble_eq_true rfl, Nat.le_of_ble_eq_true rfl⟩ ⟨Nat.le_of_ble_eq_true rfl, Nat.le_of_ble_eq_true rfl⟩ dX6_setTempo_39 rfl (fun v_ u_ hp_ => ?_)
  obtain ⟨rfl, rfl⟩ := hp_
  show V E G A 3 [MO y 0 (aM kn + 1) ln th, RW G (y 1) 70 (va_up s (32 + c) w), RW G (y 4) 420 (rcH kn s g)] 0 0 Q 42 [(0, .ref (y 0)), (1, .int (nI c)), (2, .int (nI w))] [.int (nI (s (32 + c)))]
  refine V_goto (pc' := 46) X dX6_setTempo_42 (by decide) ?_
  exact V_ireturn (v := nI (s (32 + c))) [MO y 0 (aM kn + 1) ln th, RW G (y 1) 70 (va_up s (32 + c) w), RW G (y 4) 420 (rcH kn s g)] hQ X hrt rfl dX6_setTempo_46 (Nat.le_of_ble_eq_true rfl) (Nat.le_of_ble_eq_true rfl) (List.Perm.refl _) ⟨rfl, rfl⟩

set_option maxHeartbeats 4000000 in
set_option maxRecDepth 100000 in
theorem c_X6_setWeight (l : Launch) (G : gT) (y : Nat → Nat) (t kn ln th : Nat) (s : Nat → Nat) (hI : IV s) (g : Nat → Nat) (hn : kn ≤ 6) (c w : Nat) (hc : c ≤ 9) (hw1 : 1 ≤ w) (hw : w ≤ 60) : CM l G yX6_setWeight wsX6_setWeight 3 66 2 [.ref (y 0), .int (nI c), .int (nI w)] [MO y t kn ln th, RW G (y 1) 70 s, RW G (y 4) 420 g] 0 0 (fun v u => v = some (.int (nI (s (36 + c)))) ∧ u = [MO y 0 (aM kn + 1) ln th, RW G (y 1) 70 (va_up s (36 + c) w), RW G (y 4) 420 (rcH kn s g)]) := by
  refine CM_of RX6 2 44 rfl rfl (by decide) (by decide +kernel) (Nat.le_of_ble_eq_true rfl) (fun E A X hrt hnm => ?_)
  generalize hQ : QM E G A _ _ _ = Q
  obtain ⟨i1, i2, i3, i4, i5, i6⟩ := id hI
  show V E G A 3 [MO y t kn ln th, RW G (y 1) 70 s, RW G (y 4) 420 g] 0 0 Q 0 [(0, .ref (y 0)), (1, .int (nI c)), (2, .int (nI w))] []
  refine V_aload_n (pc' := 1) 0 X dX6_setWeight_0 rfl rfl rfl ?_
  refine V_iload_n (pc' := 2) 1 X dX6_setWeight_1 rfl rfl rfl ?_
  refine V_callS (pc' := 5) (As := [.int (nI c)]) (st := [.ref (y 0)]) [] [0, 1, 2] (show (List.range 3).Perm ([] ++ [0, 1, 2]) by decide) X (c_X6_isBell1 l G c (by omega)) rfl gX6_setWeight_X6_isBell rfl rfl (Nat.le_of_ble_eq_true rfl) ⟨Nat.le_of_ble_eq_true rfl, Nat.le_of_ble_eq_true rfl⟩ ⟨Nat.le_of_ble_eq_true rfl, Nat.le_of_ble_eq_true rfl⟩ dX6_setWeight_2 rfl (fun v_ u_ hp_ => ?_)
  obtain ⟨rfl, rfl⟩ := hp_
  show V E G A 3 [MO y t kn ln th, RW G (y 1) 70 s, RW G (y 4) 420 g] 0 0 Q 5 [(0, .ref (y 0)), (1, .int (nI c)), (2, .int (nI w))] [.int (nI 1), .ref (y 0)]
  refine V_if_ne (pc' := 8) (C := 1 = 0) 12 X dX6_setWeight_5 (by decide) rfl (z_eq0 (by omega)) (fun _ => ?_) (fun hz => absurd hz (by decide))
  refine V_iload_n (pc' := 13) 2 X dX6_setWeight_12 rfl rfl rfl ?_
  refine V_iconst (pc' := 14) (nI 1) X dX6_setWeight_13 ki_1 rfl ?_
  refine V_bipush (pc' := 16) (nI 60) X dX6_setWeight_14 kb_60 rfl ?_
  refine V_callS (pc' := 19) (As := [.int (nI w), .int (nI 1), .int (nI 60)]) (st := [.ref (y 0)]) [] [0, 1, 2] (show (List.range 3).Perm ([] ++ [0, 1, 2]) by decide) X (c_X6_in l G w 1 60 (by omega) (by decide) (by decide)) rfl gX6_setWeight_X6_in rfl rfl (Nat.le_of_ble_eq_true rfl) ⟨Nat.le_of_ble_eq_true rfl, Nat.le_of_ble_eq_true rfl⟩ ⟨Nat.le_of_ble_eq_true rfl, Nat.le_of_ble_eq_true rfl⟩ dX6_setWeight_16 rfl (fun v_ u_ hp_ => ?_)
  obtain ⟨rfl, rfl⟩ := hp_; rw [if_pos (by omega)]
  show V E G A 3 [MO y t kn ln th, RW G (y 1) 70 s, RW G (y 4) 420 g] 0 0 Q 19 [(0, .ref (y 0)), (1, .int (nI c)), (2, .int (nI w))] [.int (nI 1), .ref (y 0)]
  refine V_if_eq (pc' := 22) (C := 1 = 0) 26 X dX6_setWeight_19 (by decide) rfl (z_eq0 (by omega)) (fun hz => absurd hz (by decide)) (fun _ => ?_)
  refine V_iconst (pc' := 23) (nI 0) X dX6_setWeight_22 ki_0 rfl ?_
  refine V_goto (pc' := 27) X dX6_setWeight_23 (by decide) ?_
  refine V_callV (pc' := 30) (As := [.int (nI 0)]) (st := []) 6 0 [0] [1, 2] (show (List.range 3).Perm ([0] ++ [1, 2]) by decide) X (c_X6_holds0 l G y t kn ln th) rfl gX6_setWeight_X6_holds rfl (by decide) rfl rfl rfl (Nat.le_of_ble_eq_true rfl) ⟨Nat.le_of_ble_eq_true rfl, Nat.le_of_ble_eq_true rfl⟩ ⟨Nat.le_of_ble_eq_true rfl, Nat.le_of_ble_eq_true rfl⟩ dX6_setWeight_27 rfl (fun v_ u_ hp_ => ?_)
  obtain ⟨rfl, rfl⟩ := hp_
  show V E G A 3 [RW G (y 1) 70 s, RW G (y 4) 420 g, MO y 0 kn ln th] 0 0 Q 30 [(0, .ref (y 0)), (1, .int (nI c)), (2, .int (nI w))] [.int (nI 1)]
  refine V_ord [2, 0, 1] [MO y 0 kn ln th, RW G (y 1) 70 s, RW G (y 4) 420 g] (show (List.range 3).Perm [2, 0, 1] by decide) rfl ?_
  refine V_if_eq (pc' := 33) (C := 1 = 0) 45 X dX6_setWeight_30 (by decide) rfl (z_eq0 (by omega)) (fun hz => absurd hz (by decide)) (fun _ => ?_)
  refine V_aload_n (pc' := 34) 0 X dX6_setWeight_33 rfl rfl rfl ?_
  refine V_bipush (pc' := 36) (nI 36) X dX6_setWeight_34 kb_36 rfl ?_
  refine V_iload_n (pc' := 37) 1 X dX6_setWeight_36 rfl rfl rfl ?_
  refine V_iadd (pc' := 38) (nI (36 + c)) X dX6_setWeight_37 (nI_add _ _) rfl ?_
  refine V_iload_n (pc' := 39) 2 X dX6_setWeight_38 rfl rfl rfl ?_
  refine V_callV (pc' := 42) (As := [.int (nI (36 + c)), .int (nI w)]) (st := []) 6 0 [0, 1, 2] [] (show (List.range 3).Perm ([0, 1, 2] ++ []) by decide) X (c_X6_changes l G y 0 kn ln th s g hn (36 + c) w (by omega)) rfl gX6_setWeight_X6_changes rfl (by decide) rfl rfl rfl (Nat.le_of_ble_eq_true rfl) ⟨Nat.le_of_ble_eq_true rfl, Nat.le_of_ble_eq_true rfl⟩ ⟨Nat.le_of_ble_eq_true rfl, Nat.le_of_ble_eq_true rfl⟩ dX6_setWeight_39 rfl (fun v_ u_ hp_ => ?_)
  obtain ⟨rfl, rfl⟩ := hp_
  show V E G A 3 [MO y 0 (aM kn + 1) ln th, RW G (y 1) 70 (va_up s (36 + c) w), RW G (y 4) 420 (rcH kn s g)] 0 0 Q 42 [(0, .ref (y 0)), (1, .int (nI c)), (2, .int (nI w))] [.int (nI (s (36 + c)))]
  refine V_goto (pc' := 46) X dX6_setWeight_42 (by decide) ?_
  exact V_ireturn (v := nI (s (36 + c))) [MO y 0 (aM kn + 1) ln th, RW G (y 1) 70 (va_up s (36 + c) w), RW G (y 4) 420 (rcH kn s g)] hQ X hrt rfl dX6_setWeight_46 (Nat.le_of_ble_eq_true rfl) (Nat.le_of_ble_eq_true rfl) (List.Perm.refl _) ⟨rfl, rfl⟩

set_option maxHeartbeats 4000000 in
set_option maxRecDepth 100000 in
theorem c_X6_setBound (l : Launch) (G : gT) (y : Nat → Nat) (t kn ln th : Nat) (s : Nat → Nat) (hI : IV s) (g : Nat → Nat) (hn : kn ≤ 6) (w : Nat) (hw1 : 1 ≤ w) (hw : w ≤ 300) : CM l G yX6_setBound wsX6_setBound 3 65 1 [.ref (y 0), .int (nI w)] [MO y t kn ln th, RW G (y 1) 70 s, RW G (y 4) 420 g] 0 0 (fun v u => v = some (.int (nI (s 46))) ∧ u = [MO y 0 (aM kn + 1) ln th, RW G (y 1) 70 (va_up s 46 w), RW G (y 4) 420 (rcH kn s g)]) := by
  refine CM_of RX6 2 44 rfl rfl (by decide) (by decide +kernel) (Nat.le_of_ble_eq_true rfl) (fun E A X hrt hnm => ?_)
  generalize hQ : QM E G A _ _ _ = Q
  obtain ⟨i1, i2, i3, i4, i5, i6⟩ := id hI
  show V E G A 2 [MO y t kn ln th, RW G (y 1) 70 s, RW G (y 4) 420 g] 0 0 Q 0 [(0, .ref (y 0)), (1, .int (nI w))] []
  refine V_aload_n (pc' := 1) 0 X dX6_setBound_0 rfl rfl rfl ?_
  refine V_iload_n (pc' := 2) 1 X dX6_setBound_1 rfl rfl rfl ?_
  refine V_iconst (pc' := 3) (nI 1) X dX6_setBound_2 ki_1 rfl ?_
  refine V_sipush (pc' := 6) (nI 300) X dX6_setBound_3 ks_300 rfl ?_
  refine V_callS (pc' := 9) (As := [.int (nI w), .int (nI 1), .int (nI 300)]) (st := [.ref (y 0)]) [] [0, 1, 2] (show (List.range 3).Perm ([] ++ [0, 1, 2]) by decide) X (c_X6_in l G w 1 300 (by omega) (by decide) (by decide)) rfl gX6_setBound_X6_in rfl rfl (Nat.le_of_ble_eq_true rfl) ⟨Nat.le_of_ble_eq_true rfl, Nat.le_of_ble_eq_true rfl⟩ ⟨Nat.le_of_ble_eq_true rfl, Nat.le_of_ble_eq_true rfl⟩ dX6_setBound_6 rfl (fun v_ u_ hp_ => ?_)
  obtain ⟨rfl, rfl⟩ := hp_; rw [if_pos (by omega)]
  show V E G A 2 [MO y t kn ln th, RW G (y 1) 70 s, RW G (y 4) 420 g] 0 0 Q 9 [(0, .ref (y 0)), (1, .int (nI w))] [.int (nI 1), .ref (y 0)]
  refine V_if_eq (pc' := 12) (C := 1 = 0) 16 X dX6_setBound_9 (by decide) rfl (z_eq0 (by omega)) (fun hz => absurd hz (by decide)) (fun _ => ?_)
  refine V_iconst (pc' := 13) (nI 0) X dX6_setBound_12 ki_0 rfl ?_
  refine V_goto (pc' := 17) X dX6_setBound_13 (by decide) ?_
  refine V_callV (pc' := 20) (As := [.int (nI 0)]) (st := []) 6 0 [0] [1, 2] (show (List.range 3).Perm ([0] ++ [1, 2]) by decide) X (c_X6_holds0 l G y t kn ln th) rfl gX6_setBound_X6_holds rfl (by decide) rfl rfl rfl (Nat.le_of_ble_eq_true rfl) ⟨Nat.le_of_ble_eq_true rfl, Nat.le_of_ble_eq_true rfl⟩ ⟨Nat.le_of_ble_eq_true rfl, Nat.le_of_ble_eq_true rfl⟩ dX6_setBound_17 rfl (fun v_ u_ hp_ => ?_)
  obtain ⟨rfl, rfl⟩ := hp_
  show V E G A 2 [RW G (y 1) 70 s, RW G (y 4) 420 g, MO y 0 kn ln th] 0 0 Q 20 [(0, .ref (y 0)), (1, .int (nI w))] [.int (nI 1)]
  refine V_ord [2, 0, 1] [MO y 0 kn ln th, RW G (y 1) 70 s, RW G (y 4) 420 g] (show (List.range 3).Perm [2, 0, 1] by decide) rfl ?_
  refine V_if_eq (pc' := 23) (C := 1 = 0) 33 X dX6_setBound_20 (by decide) rfl (z_eq0 (by omega)) (fun hz => absurd hz (by decide)) (fun _ => ?_)
  refine V_aload_n (pc' := 24) 0 X dX6_setBound_23 rfl rfl rfl ?_
  refine V_bipush (pc' := 26) (nI 46) X dX6_setBound_24 kb_46 rfl ?_
  refine V_iload_n (pc' := 27) 1 X dX6_setBound_26 rfl rfl rfl ?_
  refine V_callV (pc' := 30) (As := [.int (nI 46), .int (nI w)]) (st := []) 6 0 [0, 1, 2] [] (show (List.range 3).Perm ([0, 1, 2] ++ []) by decide) X (c_X6_changes l G y 0 kn ln th s g hn 46 w (by omega)) rfl gX6_setBound_X6_changes rfl (by decide) rfl rfl rfl (Nat.le_of_ble_eq_true rfl) ⟨Nat.le_of_ble_eq_true rfl, Nat.le_of_ble_eq_true rfl⟩ ⟨Nat.le_of_ble_eq_true rfl, Nat.le_of_ble_eq_true rfl⟩ dX6_setBound_27 rfl (fun v_ u_ hp_ => ?_)
  obtain ⟨rfl, rfl⟩ := hp_
  show V E G A 2 [MO y 0 (aM kn + 1) ln th, RW G (y 1) 70 (va_up s 46 w), RW G (y 4) 420 (rcH kn s g)] 0 0 Q 30 [(0, .ref (y 0)), (1, .int (nI w))] [.int (nI (s 46))]
  refine V_goto (pc' := 34) X dX6_setBound_30 (by decide) ?_
  exact V_ireturn (v := nI (s 46)) [MO y 0 (aM kn + 1) ln th, RW G (y 1) 70 (va_up s 46 w), RW G (y 4) 420 (rcH kn s g)] hQ X hrt rfl dX6_setBound_34 (Nat.le_of_ble_eq_true rfl) (Nat.le_of_ble_eq_true rfl) (List.Perm.refl _) ⟨rfl, rfl⟩

set_option maxHeartbeats 4000000 in
set_option maxRecDepth 100000 in
theorem c_X6_laysAll (l : Launch) (G : gT) (y : Nat → Nat) (t kn ln th : Nat) (s : Nat → Nat) (hI : IV s) (d : Nat → Nat) (hd : ∀ k, k < 32 → d k < 1024) : CM l G yX6_laysAll wsX6_laysAll 3 67 0 [.ref (y 0)] [MO y t kn ln th, RW G (y 1) 70 s, RW G (y 7) 32 d] 0 0 (fun v u => v = some (.int (nI (sm (fun k => cnt (s k ^^^ d k)) 32))) ∧ u = [MO y t kn ln th, RW G (y 1) 70 (upN s d 32), RW G (y 7) 32 d]) := by
  refine CM_of RX6 2 45 rfl rfl (by decide) (by decide +kernel) (Nat.le_of_ble_eq_true rfl) (fun E A X hrt hnm => ?_)
  have F29 := Fld_of (idx := 29) 6 9 X (by decide) (by decide) (by decide +kernel) (by decide +kernel)
  generalize hQ : QM E G A _ _ _ = Q
  obtain ⟨i1, i2, i3, i4, i5, i6⟩ := id hI
  show V E G A 3 [MO y t kn ln th, RW G (y 1) 70 s, RW G (y 7) 32 d] 0 0 Q 0 [(0, .ref (y 0))] []
  refine V_iconst (pc' := 1) (nI 0) X dX6_laysAll_0 ki_0 rfl ?_
  refine V_istore_n (pc' := 2) [(0, .ref (y 0)), (1, .int (nI 0))] [1, 0] X dX6_laysAll_1 rfl (Nat.le_of_ble_eq_true rfl) rfl rfl ?_
  refine V_iconst (pc' := 3) (nI 0) X dX6_laysAll_2 ki_0 rfl ?_
  refine V_istore_n (pc' := 4) [(0, .ref (y 0)), (1, .int (nI 0)), (2, .int (nI 0))] [1, 2, 0] X dX6_laysAll_3 rfl (Nat.le_of_ble_eq_true rfl) rfl rfl ?_
  refine V_ws [MO y t kn ln th, RW G (y 1) 70 (upN s d 0), RW G (y 7) 32 d] rfl ?_
  have lp_1 : ∀ i, i ≤ 32 → V E G A 3 [MO y t kn ln th, RW G (y 1) 70 (upN s d i), RW G (y 7) 32 d] 0 0 Q 4 [(0, .ref (y 0)), (1, .int (nI (sm (fun k => cnt (s k ^^^ d k)) i))), (2, .int (nI i))] [] := by
    refine loopD 32 ?_ ?_
    · show V E G A 3 [MO y t kn ln th, RW G (y 1) 70 (upN s d 32), RW G (y 7) 32 d] 0 0 Q 4 [(0, .ref (y 0)), (1, .int (nI (sm (fun k => cnt (s k ^^^ d k)) 32))), (2, .int (nI 32))] []
      refine V_iload_n (pc' := 5) 2 X dX6_laysAll_4 rfl rfl rfl ?_
      refine V_bipush (pc' := 7) (nI 32) X dX6_laysAll_5 kb_32 rfl ?_
      refine V_icmp_ge (pc' := 10) (C := 32 ≤ 32) 30 X dX6_laysAll_7 (by decide) rfl (nI_leI (by omega) (by omega)) (fun _ => ?_) (fun hz => absurd (by omega) hz)
      refine V_iload_n (pc' := 31) 1 X dX6_laysAll_30 rfl rfl rfl ?_
      exact V_ireturn (v := nI (sm (fun k => cnt (s k ^^^ d k)) 32)) [MO y t kn ln th, RW G (y 1) 70 (upN s d 32), RW G (y 7) 32 d] hQ X hrt rfl dX6_laysAll_31 (Nat.le_of_ble_eq_true rfl) (Nat.le_of_ble_eq_true rfl) (List.Perm.refl _) ⟨rfl, rfl⟩
    · intro i hi_i ih
      show V E G A 3 [MO y t kn ln th, RW G (y 1) 70 (upN s d i), RW G (y 7) 32 d] 0 0 Q 4 [(0, .ref (y 0)), (1, .int (nI (sm (fun k => cnt (s k ^^^ d k)) i))), (2, .int (nI i))] []
      refine V_iload_n (pc' := 5) 2 X dX6_laysAll_4 rfl rfl rfl ?_
      refine V_bipush (pc' := 7) (nI 32) X dX6_laysAll_5 kb_32 rfl ?_
      refine V_icmp_ge (pc' := 10) (C := 32 ≤ i) 30 X dX6_laysAll_7 (by decide) rfl (nI_leI (by omega) (by omega)) (fun hz => absurd hz (by omega)) (fun _ => ?_)
      refine V_iload_n (pc' := 11) 1 X dX6_laysAll_10 rfl rfl rfl ?_
      refine V_aload_n (pc' := 12) 0 X dX6_laysAll_11 rfl rfl rfl ?_
      refine V_iload_n (pc' := 13) 2 X dX6_laysAll_12 rfl rfl rfl ?_
      refine V_aload_n (pc' := 14) 0 X dX6_laysAll_13 rfl rfl rfl ?_
      refine V_get (pc' := 17) 0 X F29 rfl rfl dX6_laysAll_14 rfl ?_
      refine V_iload_n (pc' := 18) 2 X dX6_laysAll_17 rfl rfl rfl ?_
      refine V_iald (pc' := 19) (v := nI (d i)) 2 i X rfl (by omega) (by decide) rfl dX6_laysAll_18 rfl ?_
      refine V_callV (pc' := 22) (As := [.int (nI i), .int (nI (d i))]) (st := [.int (nI (sm (fun k => cnt (s k ^^^ d k)) i))]) 6 0 [0, 1] [2] (show (List.range 3).Perm ([0, 1] ++ [2]) by decide) X (c_X6_lays l G y t kn ln th (upN s d i) i (d i) hi_i (hd i hi_i) (by rw [upN_out (Nat.le_refl _)]; exact i1 i hi_i)) rfl gX6_laysAll_X6_lays rfl (by decide) rfl rfl rfl (Nat.le_of_ble_eq_true rfl) ⟨Nat.le_of_ble_eq_true rfl, Nat.le_of_ble_eq_true rfl⟩ ⟨Nat.le_of_ble_eq_true rfl, Nat.le_of_ble_eq_true rfl⟩ dX6_laysAll_19 rfl (fun v_ u_ hp_ => ?_)
      obtain ⟨rfl, rfl⟩ := hp_; rw [show cnt (upN s d i i ^^^ d i) = cnt (s i ^^^ d i) by rw [upN_out (Nat.le_refl _)]]
      show V E G A 3 [RW G (y 7) 32 d, MO y t kn ln th, RW G (y 1) 70 (va_up (upN s d i) i (d i))] 0 0 Q 22 [(0, .ref (y 0)), (1, .int (nI (sm (fun k => cnt (s k ^^^ d k)) i))), (2, .int (nI i))] [.int (nI (cnt (s i ^^^ d i))), .int (nI (sm (fun k => cnt (s k ^^^ d k)) i))]
      refine V_ord [1, 2, 0] [MO y t kn ln th, RW G (y 1) 70 (va_up (upN s d i) i (d i)), RW G (y 7) 32 d] (show (List.range 3).Perm [1, 2, 0] by decide) rfl ?_
      refine V_iadd (pc' := 23) (nI ((sm (fun k => cnt (s k ^^^ d k)) i) + (cnt (s i ^^^ d i)))) X dX6_laysAll_22 (nI_add _ _) rfl ?_
      refine V_istore_n (pc' := 24) [(0, .ref (y 0)), (1, .int (nI ((sm (fun k => cnt (s k ^^^ d k)) i) + (cnt (s i ^^^ d i))))), (2, .int (nI i))] [1, 0, 2] X dX6_laysAll_23 rfl (Nat.le_of_ble_eq_true rfl) rfl rfl ?_
      refine V_iinc (pc' := 27) [(0, .ref (y 0)), (1, .int (nI ((sm (fun k => cnt (s k ^^^ d k)) i) + (cnt (s i ^^^ d i))))), (2, .int (nI (i + 1)))] 2 [1, 2, 0] X dX6_laysAll_24 rfl (nI_i1 _) (Nat.le_of_ble_eq_true rfl) rfl rfl ?_
      refine V_goto (pc' := 4) X dX6_laysAll_27 (by decide) ?_
      refine V_ws [MO y t kn ln th, RW G (y 1) 70 (upN s d (i + 1)), RW G (y 7) 32 d] rfl ?_
      exact ih
  exact lp_1 0 (Nat.zero_le _)

set_option maxHeartbeats 4000000 in
set_option maxRecDepth 100000 in
theorem c_X6_turnRound (l : Launch) (G : gT) (y : Nat → Nat) (t kn ln th : Nat) (s : Nat → Nat) (hI : IV s) (g d : Nat → Nat) (hn : kn ≤ 6) : CM l G yX6_turnRound wsX6_turnRound 4 88 0 [.ref (y 0)] [MO y t kn ln th, RW G (y 1) 70 s, RW G (y 4) 420 g, RW G (y 7) 32 d] 0 0 (fun v u => v = some (.int (nI (sm (fun k => cnt (trn s k ^^^ s k)) 32))) ∧ ∃ d2, u = [MO y 0 (aM kn + 1) ln th, RW G (y 1) 70 (trn s), RW G (y 4) 420 (rcH kn s g), RW G (y 7) 32 d2]) := by
  refine CM_of RX6 3 67 rfl rfl (by decide) (by decide +kernel) (Nat.le_of_ble_eq_true rfl) (fun E A X hrt hnm => ?_)
  have F7 := Fld_of (idx := 7) 6 1 X (by decide) (by decide) (by decide +kernel) (by decide +kernel)
  have F29 := Fld_of (idx := 29) 6 9 X (by decide) (by decide) (by decide +kernel) (by decide +kernel)
  have F32 := Fld_of (idx := 32) 6 0 X (by decide) (by decide) (by decide +kernel) (by decide +kernel)
  generalize hQ : QM E G A _ _ _ = Q
  obtain ⟨i1, i2, i3, i4, i5, i6⟩ := id hI
  show V E G A 2 [MO y t kn ln th, RW G (y 1) 70 s, RW G (y 4) 420 g, RW G (y 7) 32 d] 0 0 Q 0 [(0, .ref (y 0))] []
  refine V_aload_n (pc' := 1) 0 X dX6_turnRound_0 rfl rfl rfl ?_
  refine V_iconst (pc' := 2) (nI 0) X dX6_turnRound_1 ki_0 rfl ?_
  refine V_ws [[((y 0), .inr (6, [.int (nI t), .ref (y 1), .ref (y 2), .ref (y 3), .ref (y 4), .int (nI kn), .ref (y 5), .int (nI ln), .ref (y 6), .ref (y 7), .int (nI th)]))], RW G (y 1) 70 s, RW G (y 4) 420 g, RW G (y 7) 32 d] rfl ?_
  refine V_put (pc' := 5) 0 [[((y 0), .inr (6, [.int (nI 0), .ref (y 1), .ref (y 2), .ref (y 3), .ref (y 4), .int (nI kn), .ref (y 5), .int (nI ln), .ref (y 6), .ref (y 7), .int (nI th)]))], RW G (y 1) 70 s, RW G (y 4) 420 g, RW G (y 7) 32 d] X F32 rfl rfl rfl rfl (Nat.le_of_ble_eq_true rfl) rfl dX6_turnRound_2 rfl ?_
  refine V_aload_n (pc' := 6) 0 X dX6_turnRound_5 rfl rfl rfl ?_
  refine V_callV (pc' := 9) (As := []) (st := []) 6 0 [0, 1, 2] [3] (show (List.range 4).Perm ([0, 1, 2] ++ [3]) by decide) X (c_X6_records l G y 0 kn ln th s g hn) rfl gX6_turnRound_X6_records rfl (by decide) rfl rfl rfl (Nat.le_of_ble_eq_true rfl) ⟨Nat.le_of_ble_eq_true rfl, Nat.le_of_ble_eq_true rfl⟩ ⟨Nat.le_of_ble_eq_true rfl, Nat.le_of_ble_eq_true rfl⟩ dX6_turnRound_6 rfl (fun v_ u_ hp_ => ?_)
  obtain ⟨rfl, rfl⟩ := hp_
  show V E G A 2 [RW G (y 7) 32 d, MO y 0 (aM kn + 1) ln th, RW G (y 1) 70 s, RW G (y 4) 420 (rcH kn s g)] 0 0 Q 9 [(0, .ref (y 0))] []
  refine V_ord [1, 2, 3, 0] [MO y 0 (aM kn + 1) ln th, RW G (y 1) 70 s, RW G (y 4) 420 (rcH kn s g), RW G (y 7) 32 d] (show (List.range 4).Perm [1, 2, 3, 0] by decide) rfl ?_
  refine V_iconst (pc' := 10) (nI 0) X dX6_turnRound_9 ki_0 rfl ?_
  refine V_istore_n (pc' := 11) [(0, .ref (y 0)), (1, .int (nI 0))] [1, 0] X dX6_turnRound_10 rfl (Nat.le_of_ble_eq_true rfl) rfl rfl ?_
  refine V_ws [MO y 0 (aM kn + 1) ln th, RW G (y 1) 70 s, RW G (y 4) 420 (rcH kn s g), [((y 7), .inl (G.2 0, 32, .inl (nf d)))]] rfl ?_
  refine V_wsq [MO y 0 (aM kn + 1) ln th, RW G (y 1) 70 s, RW G (y 4) 420 (rcH kn s g), [((y 7), .inl (G.2 0, 32, .inl (nf (trG s d 0))))]] (wsq.app (wsq.rf _) (wsq.app (wsq.rf _) (wsq.app (wsq.rf _) (wsq.app (wsq.cons (weq.row (fun k hk => congrArg nI (if_neg (Nat.not_lt_zero _)).symm)) (wsq.rf _)) (wsq.rf _))))) ?_
  refine V_ws [MO y 0 (aM kn + 1) ln th, RW G (y 1) 70 s, RW G (y 4) 420 (rcH kn s g), RW G (y 7) 32 (trG s d 0)] rfl ?_
  have lp_1 : ∀ i, i ≤ 32 → V E G A 2 [MO y 0 (aM kn + 1) ln th, RW G (y 1) 70 s, RW G (y 4) 420 (rcH kn s g), RW G (y 7) 32 (trG s d i)] 0 0 Q 11 [(0, .ref (y 0)), (1, .int (nI i))] [] := by
    refine loopD 32 ?_ ?_
    · show V E G A 2 [MO y 0 (aM kn + 1) ln th, RW G (y 1) 70 s, RW G (y 4) 420 (rcH kn s g), RW G (y 7) 32 (trG s d 32)] 0 0 Q 11 [(0, .ref (y 0)), (1, .int (nI 32))] []
      refine V_iload_n (pc' := 12) 1 X dX6_turnRound_11 rfl rfl rfl ?_
      refine V_bipush (pc' := 14) (nI 32) X dX6_turnRound_12 kb_32 rfl ?_
      refine V_icmp_ge (pc' := 17) (C := 32 ≤ 32) 40 X dX6_turnRound_14 (by decide) rfl (nI_leI (by omega) (by omega)) (fun _ => ?_) (fun hz => absurd (by omega) hz)
      refine V_aload_n (pc' := 41) 0 X dX6_turnRound_40 rfl rfl rfl ?_
      refine V_callV (pc' := 44) (As := []) (st := []) 6 0 [0, 1, 3] [2] (show (List.range 4).Perm ([0, 1, 3] ++ [2]) by decide) X (c_X6_laysAll l G y 0 (aM kn + 1) ln th s hI (trG s d 32) (fun k hk => by rw [trG_trn hk]; exact trn_lt hI k hk)) rfl gX6_turnRound_X6_laysAll rfl (by decide) rfl rfl rfl (Nat.le_of_ble_eq_true rfl) ⟨Nat.le_of_ble_eq_true rfl, Nat.le_of_ble_eq_true rfl⟩ ⟨Nat.le_of_ble_eq_true rfl, Nat.le_of_ble_eq_true rfl⟩ dX6_turnRound_41 rfl (fun v_ u_ hp_ => ?_)
      obtain ⟨rfl, rfl⟩ := hp_
      show V E G A 2 [RW G (y 4) 420 (rcH kn s g), MO y 0 (aM kn + 1) ln th, RW G (y 1) 70 (upN s (trG s d 32) 32), RW G (y 7) 32 (trG s d 32)] 0 0 Q 44 [(0, .ref (y 0)), (1, .int (nI 32))] [.int (nI (sm (fun k => cnt (s k ^^^ (trG s d 32) k)) 32))]
      refine V_ord [1, 2, 0, 3] [MO y 0 (aM kn + 1) ln th, RW G (y 1) 70 (upN s (trG s d 32) 32), RW G (y 4) 420 (rcH kn s g), RW G (y 7) 32 (trG s d 32)] (show (List.range 4).Perm [1, 2, 0, 3] by decide) rfl ?_
      refine V_ws [MO y 0 (aM kn + 1) ln th, [((y 1), .inl (G.2 0, 70, .inl (nf (upN s (trG s d 32) 32))))], RW G (y 4) 420 (rcH kn s g), RW G (y 7) 32 (trG s d 32)] rfl ?_
      refine V_wsq [MO y 0 (aM kn + 1) ln th, [((y 1), .inl (G.2 0, 70, .inl (nf (trn s))))], RW G (y 4) 420 (rcH kn s g), RW G (y 7) 32 (trG s d 32)] (wsq.app (wsq.rf _) (wsq.app (wsq.cons (weq.row (fun k hk => congrArg nI (upN_S (fun j hj => trG_trn hj) (fun j hj => sameB_trn s j (Or.inr hj))))) (wsq.rf _)) (wsq.rf _))) ?_
      refine V_ws [MO y 0 (aM kn + 1) ln th, RW G (y 1) 70 (trn s), RW G (y 4) 420 (rcH kn s g), RW G (y 7) 32 (trG s d 32)] rfl ?_
      exact V_ireturn (v := nI (sm (fun k => cnt (s k ^^^ (trG s d 32) k)) 32)) [MO y 0 (aM kn + 1) ln th, RW G (y 1) 70 (trn s), RW G (y 4) 420 (rcH kn s g), RW G (y 7) 32 (trG s d 32)] hQ X hrt rfl dX6_turnRound_44 (Nat.le_of_ble_eq_true rfl) (Nat.le_of_ble_eq_true rfl) (List.Perm.refl _) ⟨by rw [sm_xor (s' := trn s) (fun j hj => trG_trn hj)], _, rfl⟩
    · intro i hi_i ih
      show V E G A 2 [MO y 0 (aM kn + 1) ln th, RW G (y 1) 70 s, RW G (y 4) 420 (rcH kn s g), RW G (y 7) 32 (trG s d i)] 0 0 Q 11 [(0, .ref (y 0)), (1, .int (nI i))] []
      refine V_iload_n (pc' := 12) 1 X dX6_turnRound_11 rfl rfl rfl ?_
      refine V_bipush (pc' := 14) (nI 32) X dX6_turnRound_12 kb_32 rfl ?_
      refine V_icmp_ge (pc' := 17) (C := 32 ≤ i) 40 X dX6_turnRound_14 (by decide) rfl (nI_leI (by omega) (by omega)) (fun hz => absurd hz (by omega)) (fun _ => ?_)
      refine V_aload_n (pc' := 18) 0 X dX6_turnRound_17 rfl rfl rfl ?_
      refine V_get (pc' := 21) 0 X F29 rfl rfl dX6_turnRound_18 rfl ?_
      refine V_bipush (pc' := 23) (nI 31) X dX6_turnRound_21 kb_31 rfl ?_
      refine V_iload_n (pc' := 24) 1 X dX6_turnRound_23 rfl rfl rfl ?_
      refine V_isub (pc' := 25) (nI (31 - i)) X dX6_turnRound_24 (pk_sub (by omega)) rfl ?_
      refine V_aload_n (pc' := 26) 0 X dX6_turnRound_25 rfl rfl rfl ?_
      refine V_get (pc' := 29) 0 X F7 rfl rfl dX6_turnRound_26 rfl ?_
      refine V_iconst (pc' := 30) (nI 0) X dX6_turnRound_29 ki_0 rfl ?_
      refine V_iload_n (pc' := 31) 1 X dX6_turnRound_30 rfl rfl rfl ?_
      refine V_iadd (pc' := 32) (nI i) X dX6_turnRound_31 (nI_0add _) rfl ?_
      refine V_iald (pc' := 33) (v := nI (s i)) 1 i X rfl (by omega) (by decide) rfl dX6_turnRound_32 rfl ?_
      refine V_ws [MO y 0 (aM kn + 1) ln th, RW G (y 1) 70 s, RW G (y 4) 420 (rcH kn s g), [((y 7), .inl (G.2 0, 32, .inl (nf (trG s d i))))]] rfl ?_
      refine V_iast (pc' := 34) 3 (31 - i) [MO y 0 (aM kn + 1) ln th, RW G (y 1) 70 s, RW G (y 4) 420 (rcH kn s g), [((y 7), .inl (G.2 0, 32, .inl (upd (nf (trG s d i)) (31 - i) (nI (s i)))))]] X rfl (by omega) (by decide) rfl dX6_turnRound_33 rfl ?_
      refine V_ws [MO y 0 (aM kn + 1) ln th, RW G (y 1) 70 s, RW G (y 4) 420 (rcH kn s g), [((y 7), .inl (G.2 0, 32, .inl (nf (va_up (trG s d i) (31 - i) (s i)))))]] (by simp only [nf_upd]) ?_
      refine V_iinc (pc' := 37) [(0, .ref (y 0)), (1, .int (nI (i + 1)))] 1 [1, 0] X dX6_turnRound_34 rfl (nI_i1 _) (Nat.le_of_ble_eq_true rfl) rfl rfl ?_
      refine V_goto (pc' := 11) X dX6_turnRound_37 (by decide) ?_
      refine V_wsq [MO y 0 (aM kn + 1) ln th, RW G (y 1) 70 s, RW G (y 4) 420 (rcH kn s g), [((y 7), .inl (G.2 0, 32, .inl (nf (trG s d (i + 1)))))]] (wsq.app (wsq.rf _) (wsq.app (wsq.rf _) (wsq.app (wsq.rf _) (wsq.app (wsq.cons (weq.row (fun k hk => congrArg nI (trG_step hi_i hk))) (wsq.rf _)) (wsq.rf _))))) ?_
      refine V_ws [MO y 0 (aM kn + 1) ln th, RW G (y 1) 70 s, RW G (y 4) 420 (rcH kn s g), RW G (y 7) 32 (trG s d (i + 1))] rfl ?_
      exact ih
  exact lp_1 0 (Nat.zero_le _)

set_option maxHeartbeats 4000000 in
set_option maxRecDepth 100000 in
theorem c_X6_move (l : Launch) (G : gT) (y : Nat → Nat) (t kn ln th : Nat) (s : Nat → Nat) (hI : IV s) (g d : Nat → Nat) (hn : kn ≤ 6) (m : Nat) (hm1 : 1 ≤ m) (hm : m < 32) : CM l G yX6_move wsX6_move 4 89 1 [.ref (y 0), .int (nI m)] [MO y t kn ln th, RW G (y 1) 70 s, RW G (y 4) 420 g, RW G (y 7) 32 d] 0 0 (fun v u => v = some (.int (nI (sm (fun k => cnt (mvd m s k ^^^ s k)) 32))) ∧ ∃ d2, u = [MO y 0 (aM kn + 1) ln th, RW G (y 1) 70 (mvd m s), RW G (y 4) 420 (rcH kn s g), RW G (y 7) 32 d2]) := by
  refine CM_of RX6 3 67 rfl rfl (by decide) (by decide +kernel) (Nat.le_of_ble_eq_true rfl) (fun E A X hrt hnm => ?_)
  have F7 := Fld_of (idx := 7) 6 1 X (by decide) (by decide) (by decide +kernel) (by decide +kernel)
  have F29 := Fld_of (idx := 29) 6 9 X (by decide) (by decide) (by decide +kernel) (by decide +kernel)
  generalize hQ : QM E G A _ _ _ = Q
  obtain ⟨i1, i2, i3, i4, i5, i6⟩ := id hI
  show V E G A 3 [MO y t kn ln th, RW G (y 1) 70 s, RW G (y 4) 420 g, RW G (y 7) 32 d] 0 0 Q 0 [(0, .ref (y 0)), (1, .int (nI m))] []
  refine V_aload_n (pc' := 1) 0 X dX6_move_0 rfl rfl rfl ?_
  refine V_iload_n (pc' := 2) 1 X dX6_move_1 rfl rfl rfl ?_
  refine V_iconst (pc' := 3) (nI 1) X dX6_move_2 ki_1 rfl ?_
  refine V_bipush (pc' := 5) (nI 31) X dX6_move_3 kb_31 rfl ?_
  refine V_callS (pc' := 8) (As := [.int (nI m), .int (nI 1), .int (nI 31)]) (st := [.ref (y 0)]) [] [0, 1, 2, 3] (show (List.range 4).Perm ([] ++ [0, 1, 2, 3]) by decide) X (c_X6_in l G m 1 31 (by omega) (by decide) (by decide)) rfl gX6_move_X6_in rfl rfl (Nat.le_of_ble_eq_true rfl) ⟨Nat.le_of_ble_eq_true rfl, Nat.le_of_ble_eq_true rfl⟩ ⟨Nat.le_of_ble_eq_true rfl, Nat.le_of_ble_eq_true rfl⟩ dX6_move_5 rfl (fun v_ u_ hp_ => ?_)
  obtain ⟨rfl, rfl⟩ := hp_; rw [if_pos (by omega)]
  show V E G A 3 [MO y t kn ln th, RW G (y 1) 70 s, RW G (y 4) 420 g, RW G (y 7) 32 d] 0 0 Q 8 [(0, .ref (y 0)), (1, .int (nI m))] [.int (nI 1), .ref (y 0)]
  refine V_if_eq (pc' := 11) (C := 1 = 0) 15 X dX6_move_8 (by decide) rfl (z_eq0 (by omega)) (fun hz => absurd hz (by decide)) (fun _ => ?_)
  refine V_iconst (pc' := 12) (nI 0) X dX6_move_11 ki_0 rfl ?_
  refine V_goto (pc' := 16) X dX6_move_12 (by decide) ?_
  refine V_callV (pc' := 19) (As := [.int (nI 0)]) (st := []) 6 0 [0] [1, 2, 3] (show (List.range 4).Perm ([0] ++ [1, 2, 3]) by decide) X (c_X6_holds0 l G y t kn ln th) rfl gX6_move_X6_holds rfl (by decide) rfl rfl rfl (Nat.le_of_ble_eq_true rfl) ⟨Nat.le_of_ble_eq_true rfl, Nat.le_of_ble_eq_true rfl⟩ ⟨Nat.le_of_ble_eq_true rfl, Nat.le_of_ble_eq_true rfl⟩ dX6_move_16 rfl (fun v_ u_ hp_ => ?_)
  obtain ⟨rfl, rfl⟩ := hp_
  show V E G A 3 [RW G (y 1) 70 s, RW G (y 4) 420 g, RW G (y 7) 32 d, MO y 0 kn ln th] 0 0 Q 19 [(0, .ref (y 0)), (1, .int (nI m))] [.int (nI 1)]
  refine V_ord [3, 0, 1, 2] [MO y 0 kn ln th, RW G (y 1) 70 s, RW G (y 4) 420 g, RW G (y 7) 32 d] (show (List.range 4).Perm [3, 0, 1, 2] by decide) rfl ?_
  refine V_if_ne (pc' := 22) (C := 1 = 0) 24 X dX6_move_19 (by decide) rfl (z_eq0 (by omega)) (fun _ => ?_) (fun hz => absurd hz (by decide))
  refine V_aload_n (pc' := 25) 0 X dX6_move_24 rfl rfl rfl ?_
  refine V_callV (pc' := 28) (As := []) (st := []) 6 0 [0, 1, 2] [3] (show (List.range 4).Perm ([0, 1, 2] ++ [3]) by decide) X (c_X6_records l G y 0 kn ln th s g hn) rfl gX6_move_X6_records rfl (by decide) rfl rfl rfl (Nat.le_of_ble_eq_true rfl) ⟨Nat.le_of_ble_eq_true rfl, Nat.le_of_ble_eq_true rfl⟩ ⟨Nat.le_of_ble_eq_true rfl, Nat.le_of_ble_eq_true rfl⟩ dX6_move_25 rfl (fun v_ u_ hp_ => ?_)
  obtain ⟨rfl, rfl⟩ := hp_
  show V E G A 3 [RW G (y 7) 32 d, MO y 0 (aM kn + 1) ln th, RW G (y 1) 70 s, RW G (y 4) 420 (rcH kn s g)] 0 0 Q 28 [(0, .ref (y 0)), (1, .int (nI m))] []
  refine V_ord [1, 2, 3, 0] [MO y 0 (aM kn + 1) ln th, RW G (y 1) 70 s, RW G (y 4) 420 (rcH kn s g), RW G (y 7) 32 d] (show (List.range 4).Perm [1, 2, 3, 0] by decide) rfl ?_
  refine V_iconst (pc' := 29) (nI 0) X dX6_move_28 ki_0 rfl ?_
  refine V_istore_n (pc' := 30) [(0, .ref (y 0)), (1, .int (nI m)), (2, .int (nI 0))] [1, 2, 0] X dX6_move_29 rfl (Nat.le_of_ble_eq_true rfl) rfl rfl ?_
  refine V_ws [MO y 0 (aM kn + 1) ln th, RW G (y 1) 70 s, RW G (y 4) 420 (rcH kn s g), [((y 7), .inl (G.2 0, 32, .inl (nf d)))]] rfl ?_
  refine V_wsq [MO y 0 (aM kn + 1) ln th, RW G (y 1) 70 s, RW G (y 4) 420 (rcH kn s g), [((y 7), .inl (G.2 0, 32, .inl (nf (mvG s d m 0))))]] (wsq.app (wsq.rf _) (wsq.app (wsq.rf _) (wsq.app (wsq.rf _) (wsq.app (wsq.cons (weq.row (fun k hk => congrArg nI (if_neg (Nat.not_lt_zero _)).symm)) (wsq.rf _)) (wsq.rf _))))) ?_
  refine V_ws [MO y 0 (aM kn + 1) ln th, RW G (y 1) 70 s, RW G (y 4) 420 (rcH kn s g), RW G (y 7) 32 (mvG s d m 0)] rfl ?_
  have lp_1 : ∀ i, i ≤ 32 → V E G A 3 [MO y 0 (aM kn + 1) ln th, RW G (y 1) 70 s, RW G (y 4) 420 (rcH kn s g), RW G (y 7) 32 (mvG s d m i)] 0 0 Q 30 [(0, .ref (y 0)), (1, .int (nI m)), (2, .int (nI i))] [] := by
    refine loopD 32 ?_ ?_
    · show V E G A 3 [MO y 0 (aM kn + 1) ln th, RW G (y 1) 70 s, RW G (y 4) 420 (rcH kn s g), RW G (y 7) 32 (mvG s d m 32)] 0 0 Q 30 [(0, .ref (y 0)), (1, .int (nI m)), (2, .int (nI 32))] []
      refine V_iload_n (pc' := 31) 2 X dX6_move_30 rfl rfl rfl ?_
      refine V_bipush (pc' := 33) (nI 32) X dX6_move_31 kb_32 rfl ?_
      refine V_icmp_ge (pc' := 36) (C := 32 ≤ 32) 61 X dX6_move_33 (by decide) rfl (nI_leI (by omega) (by omega)) (fun _ => ?_) (fun hz => absurd (by omega) hz)
      refine V_aload_n (pc' := 62) 0 X dX6_move_61 rfl rfl rfl ?_
      refine V_callV (pc' := 65) (As := []) (st := []) 6 0 [0, 1, 3] [2] (show (List.range 4).Perm ([0, 1, 3] ++ [2]) by decide) X (c_X6_laysAll l G y 0 (aM kn + 1) ln th s hI (mvG s d m 32) (fun k hk => by rw [mvG_mvd hk]; exact mvd_lt hI k hk)) rfl gX6_move_X6_laysAll rfl (by decide) rfl rfl rfl (Nat.le_of_ble_eq_true rfl) ⟨Nat.le_of_ble_eq_true rfl, Nat.le_of_ble_eq_true rfl⟩ ⟨Nat.le_of_ble_eq_true rfl, Nat.le_of_ble_eq_true rfl⟩ dX6_move_62 rfl (fun v_ u_ hp_ => ?_)
      obtain ⟨rfl, rfl⟩ := hp_
      show V E G A 3 [RW G (y 4) 420 (rcH kn s g), MO y 0 (aM kn + 1) ln th, RW G (y 1) 70 (upN s (mvG s d m 32) 32), RW G (y 7) 32 (mvG s d m 32)] 0 0 Q 65 [(0, .ref (y 0)), (1, .int (nI m)), (2, .int (nI 32))] [.int (nI (sm (fun k => cnt (s k ^^^ (mvG s d m 32) k)) 32))]
      refine V_ord [1, 2, 0, 3] [MO y 0 (aM kn + 1) ln th, RW G (y 1) 70 (upN s (mvG s d m 32) 32), RW G (y 4) 420 (rcH kn s g), RW G (y 7) 32 (mvG s d m 32)] (show (List.range 4).Perm [1, 2, 0, 3] by decide) rfl ?_
      refine V_ws [MO y 0 (aM kn + 1) ln th, [((y 1), .inl (G.2 0, 70, .inl (nf (upN s (mvG s d m 32) 32))))], RW G (y 4) 420 (rcH kn s g), RW G (y 7) 32 (mvG s d m 32)] rfl ?_
      refine V_wsq [MO y 0 (aM kn + 1) ln th, [((y 1), .inl (G.2 0, 70, .inl (nf (mvd m s))))], RW G (y 4) 420 (rcH kn s g), RW G (y 7) 32 (mvG s d m 32)] (wsq.app (wsq.rf _) (wsq.app (wsq.cons (weq.row (fun k hk => congrArg nI (upN_S (fun j hj => mvG_mvd hj) (fun j hj => sameB_mvd m s j (Or.inr hj))))) (wsq.rf _)) (wsq.rf _))) ?_
      refine V_ws [MO y 0 (aM kn + 1) ln th, RW G (y 1) 70 (mvd m s), RW G (y 4) 420 (rcH kn s g), RW G (y 7) 32 (mvG s d m 32)] rfl ?_
      exact V_ireturn (v := nI (sm (fun k => cnt (s k ^^^ (mvG s d m 32) k)) 32)) [MO y 0 (aM kn + 1) ln th, RW G (y 1) 70 (mvd m s), RW G (y 4) 420 (rcH kn s g), RW G (y 7) 32 (mvG s d m 32)] hQ X hrt rfl dX6_move_65 (Nat.le_of_ble_eq_true rfl) (Nat.le_of_ble_eq_true rfl) (List.Perm.refl _) ⟨by rw [sm_xor (s' := mvd m s) (fun j hj => mvG_mvd hj)], _, rfl⟩
    · intro i hi_i ih
      show V E G A 3 [MO y 0 (aM kn + 1) ln th, RW G (y 1) 70 s, RW G (y 4) 420 (rcH kn s g), RW G (y 7) 32 (mvG s d m i)] 0 0 Q 30 [(0, .ref (y 0)), (1, .int (nI m)), (2, .int (nI i))] []
      refine V_iload_n (pc' := 31) 2 X dX6_move_30 rfl rfl rfl ?_
      refine V_bipush (pc' := 33) (nI 32) X dX6_move_31 kb_32 rfl ?_
      refine V_icmp_ge (pc' := 36) (C := 32 ≤ i) 61 X dX6_move_33 (by decide) rfl (nI_leI (by omega) (by omega)) (fun hz => absurd hz (by omega)) (fun _ => ?_)
      refine V_aload_n (pc' := 37) 0 X dX6_move_36 rfl rfl rfl ?_
      refine V_get (pc' := 40) 0 X F29 rfl rfl dX6_move_37 rfl ?_
      refine V_iload_n (pc' := 41) 2 X dX6_move_40 rfl rfl rfl ?_
      refine V_iload_n (pc' := 42) 1 X dX6_move_41 rfl rfl rfl ?_
      refine V_iadd (pc' := 43) (nI (i + m)) X dX6_move_42 (nI_add _ _) rfl ?_
      refine V_bipush (pc' := 45) (nI 32) X dX6_move_43 kb_32 rfl ?_
      refine V_irem (pc' := 46) (nI ((i + m) % 32)) X dX6_move_45 (z_ne0 (by omega) (by omega)) (pk_rem (by omega) (by omega) (by omega)) rfl ?_
      refine V_aload_n (pc' := 47) 0 X dX6_move_46 rfl rfl rfl ?_
      refine V_get (pc' := 50) 0 X F7 rfl rfl dX6_move_47 rfl ?_
      refine V_iconst (pc' := 51) (nI 0) X dX6_move_50 ki_0 rfl ?_
      refine V_iload_n (pc' := 52) 2 X dX6_move_51 rfl rfl rfl ?_
      refine V_iadd (pc' := 53) (nI i) X dX6_move_52 (nI_0add _) rfl ?_
      refine V_iald (pc' := 54) (v := nI (s i)) 1 i X rfl (by omega) (by decide) rfl dX6_move_53 rfl ?_
      refine V_ws [MO y 0 (aM kn + 1) ln th, RW G (y 1) 70 s, RW G (y 4) 420 (rcH kn s g), [((y 7), .inl (G.2 0, 32, .inl (nf (mvG s d m i))))]] rfl ?_
      refine V_iast (pc' := 55) 3 ((i + m) % 32) [MO y 0 (aM kn + 1) ln th, RW G (y 1) 70 s, RW G (y 4) 420 (rcH kn s g), [((y 7), .inl (G.2 0, 32, .inl (upd (nf (mvG s d m i)) ((i + m) % 32) (nI (s i)))))]] X rfl (by omega) (by decide) rfl dX6_move_54 rfl ?_
      refine V_ws [MO y 0 (aM kn + 1) ln th, RW G (y 1) 70 s, RW G (y 4) 420 (rcH kn s g), [((y 7), .inl (G.2 0, 32, .inl (nf (va_up (mvG s d m i) ((i + m) % 32) (s i)))))]] (by simp only [nf_upd]) ?_
      refine V_iinc (pc' := 58) [(0, .ref (y 0)), (1, .int (nI m)), (2, .int (nI (i + 1)))] 2 [1, 2, 0] X dX6_move_55 rfl (nI_i1 _) (Nat.le_of_ble_eq_true rfl) rfl rfl ?_
      refine V_goto (pc' := 30) X dX6_move_58 (by decide) ?_
      refine V_wsq [MO y 0 (aM kn + 1) ln th, RW G (y 1) 70 s, RW G (y 4) 420 (rcH kn s g), [((y 7), .inl (G.2 0, 32, .inl (nf (mvG s d m (i + 1)))))]] (wsq.app (wsq.rf _) (wsq.app (wsq.rf _) (wsq.app (wsq.rf _) (wsq.app (wsq.cons (weq.row (fun k hk => congrArg nI (mvG_step hm1 hm hi_i hk))) (wsq.rf _)) (wsq.rf _))))) ?_
      refine V_ws [MO y 0 (aM kn + 1) ln th, RW G (y 1) 70 s, RW G (y 4) 420 (rcH kn s g), RW G (y 7) 32 (mvG s d m (i + 1))] rfl ?_
      exact ih
  exact lp_1 0 (Nat.zero_le _)

set_option maxHeartbeats 4000000 in
set_option maxRecDepth 100000 in
theorem c_X6_raise (l : Launch) (G : gT) (y : Nat → Nat) (t kn ln th : Nat) (s : Nat → Nat) (hI : IV s) (g : Nat → Nat) (hn : kn ≤ 6) : CM l G yX6_raise wsX6_raise 2 43 0 [.ref (y 0)] [MO y t kn ln th, RW G (y 1) 70 s, RW G (y 4) 420 g] 0 0 (fun v u => v = some (.int (nI (sm (fun k => bq (s k) 9) 32))) ∧ u = [MO y 0 (aM kn + 1) ln th, RW G (y 1) 70 (rsd s), RW G (y 4) 420 (rcH kn s g)]) := by
  refine CM_of RX6 1 21 rfl rfl (by decide) (by decide +kernel) (Nat.le_of_ble_eq_true rfl) (fun E A X hrt hnm => ?_)
  have F7 := Fld_of (idx := 7) 6 1 X (by decide) (by decide) (by decide +kernel) (by decide +kernel)
  have F32 := Fld_of (idx := 32) 6 0 X (by decide) (by decide) (by decide +kernel) (by decide +kernel)
  generalize hQ : QM E G A _ _ _ = Q
  obtain ⟨i1, i2, i3, i4, i5, i6⟩ := id hI
  show V E G A 3 [MO y t kn ln th, RW G (y 1) 70 s, RW G (y 4) 420 g] 0 0 Q 0 [(0, .ref (y 0))] []
  refine V_aload_n (pc' := 1) 0 X dX6_raise_0 rfl rfl rfl ?_
  refine V_iconst (pc' := 2) (nI 0) X dX6_raise_1 ki_0 rfl ?_
  refine V_ws [[((y 0), .inr (6, [.int (nI t), .ref (y 1), .ref (y 2), .ref (y 3), .ref (y 4), .int (nI kn), .ref (y 5), .int (nI ln), .ref (y 6), .ref (y 7), .int (nI th)]))], RW G (y 1) 70 s, RW G (y 4) 420 g] rfl ?_
  refine V_put (pc' := 5) 0 [[((y 0), .inr (6, [.int (nI 0), .ref (y 1), .ref (y 2), .ref (y 3), .ref (y 4), .int (nI kn), .ref (y 5), .int (nI ln), .ref (y 6), .ref (y 7), .int (nI th)]))], RW G (y 1) 70 s, RW G (y 4) 420 g] X F32 rfl rfl rfl rfl (Nat.le_of_ble_eq_true rfl) rfl dX6_raise_2 rfl ?_
  refine V_aload_n (pc' := 6) 0 X dX6_raise_5 rfl rfl rfl ?_
  refine V_callV (pc' := 9) (As := []) (st := []) 6 0 [0, 1, 2] [] (show (List.range 3).Perm ([0, 1, 2] ++ []) by decide) X (c_X6_records l G y 0 kn ln th s g hn) rfl gX6_raise_X6_records rfl (by decide) rfl rfl rfl (Nat.le_of_ble_eq_true rfl) ⟨Nat.le_of_ble_eq_true rfl, Nat.le_of_ble_eq_true rfl⟩ ⟨Nat.le_of_ble_eq_true rfl, Nat.le_of_ble_eq_true rfl⟩ dX6_raise_6 rfl (fun v_ u_ hp_ => ?_)
  obtain ⟨rfl, rfl⟩ := hp_
  show V E G A 3 [MO y 0 (aM kn + 1) ln th, RW G (y 1) 70 s, RW G (y 4) 420 (rcH kn s g)] 0 0 Q 9 [(0, .ref (y 0))] []
  refine V_iconst (pc' := 10) (nI 0) X dX6_raise_9 ki_0 rfl ?_
  refine V_istore_n (pc' := 11) [(0, .ref (y 0)), (1, .int (nI 0))] [1, 0] X dX6_raise_10 rfl (Nat.le_of_ble_eq_true rfl) rfl rfl ?_
  refine V_iconst (pc' := 12) (nI 0) X dX6_raise_11 ki_0 rfl ?_
  refine V_istore_n (pc' := 13) [(0, .ref (y 0)), (1, .int (nI 0)), (2, .int (nI 0))] [1, 2, 0] X dX6_raise_12 rfl (Nat.le_of_ble_eq_true rfl) rfl rfl ?_
  refine V_ws [MO y 0 (aM kn + 1) ln th, RW G (y 1) 70 (upN s (fun k => s k * 2 ^ 1 % 1024) 0), RW G (y 4) 420 (rcH kn s g)] rfl ?_
  have lp_1 : ∀ i, i ≤ 32 → V E G A 3 [MO y 0 (aM kn + 1) ln th, RW G (y 1) 70 (upN s (fun k => s k * 2 ^ 1 % 1024) i), RW G (y 4) 420 (rcH kn s g)] 0 0 Q 13 [(0, .ref (y 0)), (1, .int (nI (sm (fun k => s k / 2 ^ 9) i))), (2, .int (nI i))] [] := by
    refine loopD 32 ?_ ?_
    · show V E G A 3 [MO y 0 (aM kn + 1) ln th, RW G (y 1) 70 (upN s (fun k => s k * 2 ^ 1 % 1024) 32), RW G (y 4) 420 (rcH kn s g)] 0 0 Q 13 [(0, .ref (y 0)), (1, .int (nI (sm (fun k => s k / 2 ^ 9) 32))), (2, .int (nI 32))] []
      refine V_iload_n (pc' := 14) 2 X dX6_raise_13 rfl rfl rfl ?_
      refine V_bipush (pc' := 16) (nI 32) X dX6_raise_14 kb_32 rfl ?_
      refine V_icmp_ge (pc' := 19) (C := 32 ≤ 32) 61 X dX6_raise_16 (by decide) rfl (nI_leI (by omega) (by omega)) (fun _ => ?_) (fun hz => absurd (by omega) hz)
      refine V_iload_n (pc' := 62) 1 X dX6_raise_61 rfl rfl rfl ?_
      refine V_ws [MO y 0 (aM kn + 1) ln th, [((y 1), .inl (G.2 0, 70, .inl (nf (upN s (fun k => s k * 2 ^ 1 % 1024) 32))))], RW G (y 4) 420 (rcH kn s g)] rfl ?_
      refine V_wsq [MO y 0 (aM kn + 1) ln th, [((y 1), .inl (G.2 0, 70, .inl (nf (rsd s))))], RW G (y 4) 420 (rcH kn s g)] (wsq.app (wsq.rf _) (wsq.app (wsq.cons (weq.row (fun k hk => congrArg nI (upN_S (fun j hj => (if_pos hj).symm) (fun j hj => sameB_rsd s j (Or.inr hj))))) (wsq.rf _)) (wsq.rf _))) ?_
      refine V_ws [MO y 0 (aM kn + 1) ln th, RW G (y 1) 70 (rsd s), RW G (y 4) 420 (rcH kn s g)] rfl ?_
      exact V_ireturn (v := nI (sm (fun k => s k / 2 ^ 9) 32)) [MO y 0 (aM kn + 1) ln th, RW G (y 1) 70 (rsd s), RW G (y 4) 420 (rcH kn s g)] hQ X hrt rfl dX6_raise_62 (Nat.le_of_ble_eq_true rfl) (Nat.le_of_ble_eq_true rfl) (List.Perm.refl _) ⟨by rw [sm_b9 hI], rfl⟩
    · intro i hi_i ih
      show V E G A 3 [MO y 0 (aM kn + 1) ln th, RW G (y 1) 70 (upN s (fun k => s k * 2 ^ 1 % 1024) i), RW G (y 4) 420 (rcH kn s g)] 0 0 Q 13 [(0, .ref (y 0)), (1, .int (nI (sm (fun k => s k / 2 ^ 9) i))), (2, .int (nI i))] []
      have hpi := i1 i hi_i
      refine V_iload_n (pc' := 14) 2 X dX6_raise_13 rfl rfl rfl ?_
      refine V_bipush (pc' := 16) (nI 32) X dX6_raise_14 kb_32 rfl ?_
      refine V_icmp_ge (pc' := 19) (C := 32 ≤ i) 61 X dX6_raise_16 (by decide) rfl (nI_leI (by omega) (by omega)) (fun hz => absurd hz (by omega)) (fun _ => ?_)
      refine V_iload_n (pc' := 20) 1 X dX6_raise_19 rfl rfl rfl ?_
      refine V_aload_n (pc' := 21) 0 X dX6_raise_20 rfl rfl rfl ?_
      refine V_get (pc' := 24) 0 X F7 rfl rfl dX6_raise_21 rfl ?_
      refine V_iconst (pc' := 25) (nI 0) X dX6_raise_24 ki_0 rfl ?_
      refine V_iload_n (pc' := 26) 2 X dX6_raise_25 rfl rfl rfl ?_
      refine V_iadd (pc' := 27) (nI i) X dX6_raise_26 (nI_0add _) rfl ?_
      refine V_iald (pc' := 28) (v := nI (s i)) 1 i X rfl (by omega) (by decide) (congrArg nI (upN_out (Nat.le_refl _))) dX6_raise_27 rfl ?_
      refine V_bipush (pc' := 30) (nI 9) X dX6_raise_28 kb_9 rfl ?_
      refine V_ishr (pc' := 31) (nI ((s i) / 2 ^ 9)) X dX6_raise_30 (z_shr (by omega) (by omega)) rfl ?_
      refine V_iadd (pc' := 32) (nI ((sm (fun k => s k / 2 ^ 9) i) + ((s i) / 2 ^ 9))) X dX6_raise_31 (nI_add _ _) rfl ?_
      refine V_istore_n (pc' := 33) [(0, .ref (y 0)), (1, .int (nI ((sm (fun k => s k / 2 ^ 9) i) + ((s i) / 2 ^ 9)))), (2, .int (nI i))] [1, 0, 2] X dX6_raise_32 rfl (Nat.le_of_ble_eq_true rfl) rfl rfl ?_
      refine V_aload_n (pc' := 34) 0 X dX6_raise_33 rfl rfl rfl ?_
      refine V_get (pc' := 37) 0 X F7 rfl rfl dX6_raise_34 rfl ?_
      refine V_iconst (pc' := 38) (nI 0) X dX6_raise_37 ki_0 rfl ?_
      refine V_iload_n (pc' := 39) 2 X dX6_raise_38 rfl rfl rfl ?_
      refine V_iadd (pc' := 40) (nI i) X dX6_raise_39 (nI_0add _) rfl ?_
      refine V_aload_n (pc' := 41) 0 X dX6_raise_40 rfl rfl rfl ?_
      refine V_get (pc' := 44) 0 X F7 rfl rfl dX6_raise_41 rfl ?_
      refine V_iconst (pc' := 45) (nI 0) X dX6_raise_44 ki_0 rfl ?_
      refine V_iload_n (pc' := 46) 2 X dX6_raise_45 rfl rfl rfl ?_
      refine V_iadd (pc' := 47) (nI i) X dX6_raise_46 (nI_0add _) rfl ?_
      refine V_iald (pc' := 48) (v := nI (s i)) 1 i X rfl (by omega) (by decide) (congrArg nI (upN_out (Nat.le_refl _))) dX6_raise_47 rfl ?_
      refine V_iconst (pc' := 49) (nI 1) X dX6_raise_48 ki_1 rfl ?_
      refine V_ishl (pc' := 50) (nI ((s i) * 2 ^ 1)) X dX6_raise_49 (z_shl _ (by omega)) rfl ?_
      refine V_sipush (pc' := 53) (nI 1023) X dX6_raise_50 ks_1023 rfl ?_
      refine V_iand (pc' := 54) (nI (((s i) * 2 ^ 1) % 1024)) X dX6_raise_53 (z_and1023 _) rfl ?_
      refine V_ws [MO y 0 (aM kn + 1) ln th, [((y 1), .inl (G.2 0, 70, .inl (nf (upN s (fun k => s k * 2 ^ 1 % 1024) i))))], RW G (y 4) 420 (rcH kn s g)] rfl ?_
      refine V_iast (pc' := 55) 1 i [MO y 0 (aM kn + 1) ln th, [((y 1), .inl (G.2 0, 70, .inl (upd (nf (upN s (fun k => s k * 2 ^ 1 % 1024) i)) i (nI (((s i) * 2 ^ 1) % 1024)))))], RW G (y 4) 420 (rcH kn s g)] X rfl (by omega) (by decide) rfl dX6_raise_54 rfl ?_
      refine V_ws [MO y 0 (aM kn + 1) ln th, [((y 1), .inl (G.2 0, 70, .inl (nf (va_up (upN s (fun k => s k * 2 ^ 1 % 1024) i) i (((s i) * 2 ^ 1) % 1024)))))], RW G (y 4) 420 (rcH kn s g)] (by simp only [nf_upd]) ?_
      refine V_iinc (pc' := 58) [(0, .ref (y 0)), (1, .int (nI ((sm (fun k => s k / 2 ^ 9) i) + ((s i) / 2 ^ 9)))), (2, .int (nI (i + 1)))] 2 [1, 2, 0] X dX6_raise_55 rfl (nI_i1 _) (Nat.le_of_ble_eq_true rfl) rfl rfl ?_
      refine V_goto (pc' := 13) X dX6_raise_58 (by decide) ?_
      refine V_ws [MO y 0 (aM kn + 1) ln th, RW G (y 1) 70 (va_up (upN s (fun k => s k * 2 ^ 1 % 1024) i) i (((s i) * 2 ^ 1) % 1024)), RW G (y 4) 420 (rcH kn s g)] rfl ?_
      exact ih
  exact lp_1 0 (Nat.zero_le _)

set_option maxHeartbeats 4000000 in
set_option maxRecDepth 100000 in
theorem c_X6_crank (l : Launch) (G : gT) (y : Nat → Nat) (t kn ln th : Nat) (s : Nat → Nat) (hI : IV s) (g : Nat → Nat) (hn : kn ≤ 6) (m : Nat) (hm1 : 1 ≤ m) (hm : m ≤ 200) : CM l G yX6_crank wsX6_crank 5 116 1 [.ref (y 0), .int (nI m)] [MO y t kn ln th, RW G (y 1) 70 s, RW G (y 4) 420 g] 0 0 (fun v u => v = some (.int (nI (stkN 9 s m 70 - s 70))) ∧ u = [MO y 0 (aM kn + 1) ln th, RW G (y 1) 70 (stkN 9 s m), RW G (y 4) 420 (rcH kn s g)]) := by
  refine CM_of RX6 4 95 rfl rfl (by decide) (by decide +kernel) (Nat.le_of_ble_eq_true rfl) (fun E A X hrt hnm => ?_)
  generalize hQ : QM E G A _ _ _ = Q
  obtain ⟨i1, i2, i3, i4, i5, i6⟩ := id hI
  show V E G A 2 [MO y t kn ln th, RW G (y 1) 70 s, RW G (y 4) 420 g] 0 0 Q 0 [(0, .ref (y 0)), (1, .int (nI m))] []
  refine V_aload_n (pc' := 1) 0 X dX6_crank_0 rfl rfl rfl ?_
  refine V_iload_n (pc' := 2) 1 X dX6_crank_1 rfl rfl rfl ?_
  refine V_iconst (pc' := 3) (nI 1) X dX6_crank_2 ki_1 rfl ?_
  refine V_sipush (pc' := 6) (nI 200) X dX6_crank_3 ks_200 rfl ?_
  refine V_callS (pc' := 9) (As := [.int (nI m), .int (nI 1), .int (nI 200)]) (st := [.ref (y 0)]) [] [0, 1, 2] (show (List.range 3).Perm ([] ++ [0, 1, 2]) by decide) X (c_X6_in l G m 1 200 (by omega) (by decide) (by decide)) rfl gX6_crank_X6_in rfl rfl (Nat.le_of_ble_eq_true rfl) ⟨Nat.le_of_ble_eq_true rfl, Nat.le_of_ble_eq_true rfl⟩ ⟨Nat.le_of_ble_eq_true rfl, Nat.le_of_ble_eq_true rfl⟩ dX6_crank_6 rfl (fun v_ u_ hp_ => ?_)
  obtain ⟨rfl, rfl⟩ := hp_; rw [if_pos (by omega)]
  show V E G A 2 [MO y t kn ln th, RW G (y 1) 70 s, RW G (y 4) 420 g] 0 0 Q 9 [(0, .ref (y 0)), (1, .int (nI m))] [.int (nI 1), .ref (y 0)]
  refine V_if_eq (pc' := 12) (C := 1 = 0) 16 X dX6_crank_9 (by decide) rfl (z_eq0 (by omega)) (fun hz => absurd hz (by decide)) (fun _ => ?_)
  refine V_iconst (pc' := 13) (nI 0) X dX6_crank_12 ki_0 rfl ?_
  refine V_goto (pc' := 17) X dX6_crank_13 (by decide) ?_
  refine V_callV (pc' := 20) (As := [.int (nI 0)]) (st := []) 6 0 [0] [1, 2] (show (List.range 3).Perm ([0] ++ [1, 2]) by decide) X (c_X6_holds0 l G y t kn ln th) rfl gX6_crank_X6_holds rfl (by decide) rfl rfl rfl (Nat.le_of_ble_eq_true rfl) ⟨Nat.le_of_ble_eq_true rfl, Nat.le_of_ble_eq_true rfl⟩ ⟨Nat.le_of_ble_eq_true rfl, Nat.le_of_ble_eq_true rfl⟩ dX6_crank_17 rfl (fun v_ u_ hp_ => ?_)
  obtain ⟨rfl, rfl⟩ := hp_
  show V E G A 2 [RW G (y 1) 70 s, RW G (y 4) 420 g, MO y 0 kn ln th] 0 0 Q 20 [(0, .ref (y 0)), (1, .int (nI m))] [.int (nI 1)]
  refine V_ord [2, 0, 1] [MO y 0 kn ln th, RW G (y 1) 70 s, RW G (y 4) 420 g] (show (List.range 3).Perm [2, 0, 1] by decide) rfl ?_
  refine V_if_ne (pc' := 23) (C := 1 = 0) 25 X dX6_crank_20 (by decide) rfl (z_eq0 (by omega)) (fun _ => ?_) (fun hz => absurd hz (by decide))
  refine V_aload_n (pc' := 26) 0 X dX6_crank_25 rfl rfl rfl ?_
  refine V_callV (pc' := 29) (As := []) (st := []) 6 0 [0, 1, 2] [] (show (List.range 3).Perm ([0, 1, 2] ++ []) by decide) X (c_X6_records l G y 0 kn ln th s g hn) rfl gX6_crank_X6_records rfl (by decide) rfl rfl rfl (Nat.le_of_ble_eq_true rfl) ⟨Nat.le_of_ble_eq_true rfl, Nat.le_of_ble_eq_true rfl⟩ ⟨Nat.le_of_ble_eq_true rfl, Nat.le_of_ble_eq_true rfl⟩ dX6_crank_26 rfl (fun v_ u_ hp_ => ?_)
  obtain ⟨rfl, rfl⟩ := hp_
  show V E G A 2 [MO y 0 (aM kn + 1) ln th, RW G (y 1) 70 s, RW G (y 4) 420 (rcH kn s g)] 0 0 Q 29 [(0, .ref (y 0)), (1, .int (nI m))] []
  refine V_aload_n (pc' := 30) 0 X dX6_crank_29 rfl rfl rfl ?_
  refine V_iload_n (pc' := 31) 1 X dX6_crank_30 rfl rfl rfl ?_
  refine V_callV (pc' := 34) (As := [.int (nI m)]) (st := []) 6 0 [0, 1] [2] (show (List.range 3).Perm ([0, 1] ++ [2]) by decide) X (c_X6_cranks l G y 0 (aM kn + 1) ln th s hI m (by omega)) rfl gX6_crank_X6_cranks rfl (by decide) rfl rfl rfl (Nat.le_of_ble_eq_true rfl) ⟨Nat.le_of_ble_eq_true rfl, Nat.le_of_ble_eq_true rfl⟩ ⟨Nat.le_of_ble_eq_true rfl, Nat.le_of_ble_eq_true rfl⟩ dX6_crank_31 rfl (fun v_ u_ hp_ => ?_)
  obtain ⟨rfl, rfl⟩ := hp_
  show V E G A 2 [RW G (y 4) 420 (rcH kn s g), MO y 0 (aM kn + 1) ln th, RW G (y 1) 70 (stkN 9 s m)] 0 0 Q 34 [(0, .ref (y 0)), (1, .int (nI m))] [.int (nI (stkN 9 s m 70 - s 70))]
  refine V_ord [1, 2, 0] [MO y 0 (aM kn + 1) ln th, RW G (y 1) 70 (stkN 9 s m), RW G (y 4) 420 (rcH kn s g)] (show (List.range 3).Perm [1, 2, 0] by decide) rfl ?_
  exact V_ireturn (v := nI (stkN 9 s m 70 - s 70)) [MO y 0 (aM kn + 1) ln th, RW G (y 1) 70 (stkN 9 s m), RW G (y 4) 420 (rcH kn s g)] hQ X hrt rfl dX6_crank_34 (Nat.le_of_ble_eq_true rfl) (Nat.le_of_ble_eq_true rfl) (List.Perm.refl _) ⟨rfl, rfl⟩

set_option maxHeartbeats 4000000 in
set_option maxRecDepth 100000 in
theorem c_X6_turnBack (l : Launch) (G : gT) (y : Nat → Nat) (t kn ln th : Nat) (s : Nat → Nat) (hI : IV s) (g : Nat → Nat) (hn : kn ≤ 6) : CM l G yX6_turnBack wsX6_turnBack 2 43 0 [.ref (y 0)] [MO y t kn ln th, RW G (y 1) 70 s, RW G (y 4) 420 g] 0 0 (fun v u => v = some (.int (nI (s 47))) ∧ u = [MO y 0 (aM kn + 1) ln th, RW G (y 1) 70 (tbk 9 s), RW G (y 4) 420 (rcH kn s g)]) := by
  refine CM_of RX6 1 21 rfl rfl (by decide) (by decide +kernel) (Nat.le_of_ble_eq_true rfl) (fun E A X hrt hnm => ?_)
  have F7 := Fld_of (idx := 7) 6 1 X (by decide) (by decide) (by decide +kernel) (by decide +kernel)
  have F32 := Fld_of (idx := 32) 6 0 X (by decide) (by decide) (by decide +kernel) (by decide +kernel)
  generalize hQ : QM E G A _ _ _ = Q
  obtain ⟨i1, i2, i3, i4, i5, i6⟩ := id hI
  show V E G A 3 [MO y t kn ln th, RW G (y 1) 70 s, RW G (y 4) 420 g] 0 0 Q 0 [(0, .ref (y 0))] []
  refine V_aload_n (pc' := 1) 0 X dX6_turnBack_0 rfl rfl rfl ?_
  refine V_iconst (pc' := 2) (nI 0) X dX6_turnBack_1 ki_0 rfl ?_
  refine V_ws [[((y 0), .inr (6, [.int (nI t), .ref (y 1), .ref (y 2), .ref (y 3), .ref (y 4), .int (nI kn), .ref (y 5), .int (nI ln), .ref (y 6), .ref (y 7), .int (nI th)]))], RW G (y 1) 70 s, RW G (y 4) 420 g] rfl ?_
  refine V_put (pc' := 5) 0 [[((y 0), .inr (6, [.int (nI 0), .ref (y 1), .ref (y 2), .ref (y 3), .ref (y 4), .int (nI kn), .ref (y 5), .int (nI ln), .ref (y 6), .ref (y 7), .int (nI th)]))], RW G (y 1) 70 s, RW G (y 4) 420 g] X F32 rfl rfl rfl rfl (Nat.le_of_ble_eq_true rfl) rfl dX6_turnBack_2 rfl ?_
  refine V_aload_n (pc' := 6) 0 X dX6_turnBack_5 rfl rfl rfl ?_
  refine V_callV (pc' := 9) (As := []) (st := []) 6 0 [0, 1, 2] [] (show (List.range 3).Perm ([0, 1, 2] ++ []) by decide) X (c_X6_records l G y 0 kn ln th s g hn) rfl gX6_turnBack_X6_records rfl (by decide) rfl rfl rfl (Nat.le_of_ble_eq_true rfl) ⟨Nat.le_of_ble_eq_true rfl, Nat.le_of_ble_eq_true rfl⟩ ⟨Nat.le_of_ble_eq_true rfl, Nat.le_of_ble_eq_true rfl⟩ dX6_turnBack_6 rfl (fun v_ u_ hp_ => ?_)
  obtain ⟨rfl, rfl⟩ := hp_
  show V E G A 3 [MO y 0 (aM kn + 1) ln th, RW G (y 1) 70 s, RW G (y 4) 420 (rcH kn s g)] 0 0 Q 9 [(0, .ref (y 0))] []
  refine V_aload_n (pc' := 10) 0 X dX6_turnBack_9 rfl rfl rfl ?_
  refine V_get (pc' := 13) 0 X F7 rfl rfl dX6_turnBack_10 rfl ?_
  refine V_bipush (pc' := 15) (nI 47) X dX6_turnBack_13 kb_47 rfl ?_
  refine V_iald (pc' := 16) (v := nI (s 47)) 1 47 X rfl (by omega) (by decide) rfl dX6_turnBack_15 rfl ?_
  refine V_istore_n (pc' := 17) [(0, .ref (y 0)), (1, .int (nI (s 47)))] [1, 0] X dX6_turnBack_16 rfl (Nat.le_of_ble_eq_true rfl) rfl rfl ?_
  refine V_aload_n (pc' := 18) 0 X dX6_turnBack_17 rfl rfl rfl ?_
  refine V_get (pc' := 21) 0 X F7 rfl rfl dX6_turnBack_18 rfl ?_
  refine V_bipush (pc' := 23) (nI 47) X dX6_turnBack_21 kb_47 rfl ?_
  refine V_iconst (pc' := 24) (nI 0) X dX6_turnBack_23 ki_0 rfl ?_
  refine V_ws [MO y 0 (aM kn + 1) ln th, [((y 1), .inl (G.2 0, 70, .inl (nf s)))], RW G (y 4) 420 (rcH kn s g)] rfl ?_
  refine V_iast (pc' := 25) 1 47 [MO y 0 (aM kn + 1) ln th, [((y 1), .inl (G.2 0, 70, .inl (upd (nf s) 47 (nI 0))))], RW G (y 4) 420 (rcH kn s g)] X rfl (by omega) (by decide) rfl dX6_turnBack_24 rfl ?_
  refine V_ws [MO y 0 (aM kn + 1) ln th, [((y 1), .inl (G.2 0, 70, .inl (nf (va_up s 47 0))))], RW G (y 4) 420 (rcH kn s g)] (by simp only [nf_upd]) ?_
  refine V_iconst (pc' := 26) (nI 0) X dX6_turnBack_25 ki_0 rfl ?_
  refine V_istore_n (pc' := 27) [(0, .ref (y 0)), (1, .int (nI (s 47))), (2, .int (nI 0))] [1, 2, 0] X dX6_turnBack_26 rfl (Nat.le_of_ble_eq_true rfl) rfl rfl ?_
  refine V_wsq [MO y 0 (aM kn + 1) ln th, [((y 1), .inl (G.2 0, 70, .inl (nf (tbF s 0))))], RW G (y 4) 420 (rcH kn s g)] (wsq.app (wsq.rf _) (wsq.app (wsq.cons (weq.row (fun k hk => congrArg nI (if_neg (by omega)).symm)) (wsq.rf _)) (wsq.rf _))) ?_
  refine V_ws [MO y 0 (aM kn + 1) ln th, RW G (y 1) 70 (tbF s 0), RW G (y 4) 420 (rcH kn s g)] rfl ?_
  refine V_ws [MO y 0 (aM kn + 1) ln th, RW G (y 1) 70 (tbF s 0), RW G (y 4) 420 (rcH kn s g)] rfl ?_
  have lp_1 : ∀ i, i ≤ 10 → V E G A 3 [MO y 0 (aM kn + 1) ln th, RW G (y 1) 70 (tbF s i), RW G (y 4) 420 (rcH kn s g)] 0 0 Q 27 [(0, .ref (y 0)), (1, .int (nI (s 47))), (2, .int (nI i))] [] := by
    refine loopD 10 ?_ ?_
    · show V E G A 3 [MO y 0 (aM kn + 1) ln th, RW G (y 1) 70 (tbF s 10), RW G (y 4) 420 (rcH kn s g)] 0 0 Q 27 [(0, .ref (y 0)), (1, .int (nI (s 47))), (2, .int (nI 10))] []
      refine V_iload_n (pc' := 28) 2 X dX6_turnBack_27 rfl rfl rfl ?_
      refine V_bipush (pc' := 30) (nI 10) X dX6_turnBack_28 kb_10 rfl ?_
      refine V_icmp_ge (pc' := 33) (C := 10 ≤ 10) 50 X dX6_turnBack_30 (by decide) rfl (nI_leI (by omega) (by omega)) (fun _ => ?_) (fun hz => absurd (by omega) hz)
      refine V_iload_n (pc' := 51) 1 X dX6_turnBack_50 rfl rfl rfl ?_
      refine V_ws [MO y 0 (aM kn + 1) ln th, [((y 1), .inl (G.2 0, 70, .inl (nf (tbF s 10))))], RW G (y 4) 420 (rcH kn s g)] rfl ?_
      refine V_wsq [MO y 0 (aM kn + 1) ln th, [((y 1), .inl (G.2 0, 70, .inl (nf (tbk 9 s))))], RW G (y 4) 420 (rcH kn s g)] (wsq.app (wsq.rf _) (wsq.app (wsq.cons (weq.row (fun k hk => congrArg nI tbF_10)) (wsq.rf _)) (wsq.rf _))) ?_
      refine V_ws [MO y 0 (aM kn + 1) ln th, RW G (y 1) 70 (tbk 9 s), RW G (y 4) 420 (rcH kn s g)] rfl ?_
      exact V_ireturn (v := nI (s 47)) [MO y 0 (aM kn + 1) ln th, RW G (y 1) 70 (tbk 9 s), RW G (y 4) 420 (rcH kn s g)] hQ X hrt rfl dX6_turnBack_51 (Nat.le_of_ble_eq_true rfl) (Nat.le_of_ble_eq_true rfl) (List.Perm.refl _) ⟨rfl, rfl⟩
    · intro i hi_i ih
      show V E G A 3 [MO y 0 (aM kn + 1) ln th, RW G (y 1) 70 (tbF s i), RW G (y 4) 420 (rcH kn s g)] 0 0 Q 27 [(0, .ref (y 0)), (1, .int (nI (s 47))), (2, .int (nI i))] []
      refine V_iload_n (pc' := 28) 2 X dX6_turnBack_27 rfl rfl rfl ?_
      refine V_bipush (pc' := 30) (nI 10) X dX6_turnBack_28 kb_10 rfl ?_
      refine V_icmp_ge (pc' := 33) (C := 10 ≤ i) 50 X dX6_turnBack_30 (by decide) rfl (nI_leI (by omega) (by omega)) (fun hz => absurd hz (by omega)) (fun _ => ?_)
      refine V_aload_n (pc' := 34) 0 X dX6_turnBack_33 rfl rfl rfl ?_
      refine V_get (pc' := 37) 0 X F7 rfl rfl dX6_turnBack_34 rfl ?_
      refine V_bipush (pc' := 39) (nI 60) X dX6_turnBack_37 kb_60 rfl ?_
      refine V_iload_n (pc' := 40) 2 X dX6_turnBack_39 rfl rfl rfl ?_
      refine V_iadd (pc' := 41) (nI (60 + i)) X dX6_turnBack_40 (nI_add _ _) rfl ?_
      refine V_bipush (pc' := 43) (nI 9) X dX6_turnBack_41 kb_9 rfl ?_
      refine V_ws [MO y 0 (aM kn + 1) ln th, [((y 1), .inl (G.2 0, 70, .inl (nf (tbF s i))))], RW G (y 4) 420 (rcH kn s g)] rfl ?_
      refine V_iast (pc' := 44) 1 (60 + i) [MO y 0 (aM kn + 1) ln th, [((y 1), .inl (G.2 0, 70, .inl (upd (nf (tbF s i)) (60 + i) (nI 9))))], RW G (y 4) 420 (rcH kn s g)] X rfl (by omega) (by decide) rfl dX6_turnBack_43 rfl ?_
      refine V_ws [MO y 0 (aM kn + 1) ln th, [((y 1), .inl (G.2 0, 70, .inl (nf (va_up (tbF s i) (60 + i) 9))))], RW G (y 4) 420 (rcH kn s g)] (by simp only [nf_upd]) ?_
      refine V_iinc (pc' := 47) [(0, .ref (y 0)), (1, .int (nI (s 47))), (2, .int (nI (i + 1)))] 2 [1, 2, 0] X dX6_turnBack_44 rfl (nI_i1 _) (Nat.le_of_ble_eq_true rfl) rfl rfl ?_
      refine V_goto (pc' := 27) X dX6_turnBack_47 (by decide) ?_
      refine V_wsq [MO y 0 (aM kn + 1) ln th, [((y 1), .inl (G.2 0, 70, .inl (nf (tbF s (i + 1)))))], RW G (y 4) 420 (rcH kn s g)] (wsq.app (wsq.rf _) (wsq.app (wsq.cons (weq.row (fun k hk => congrArg nI tbF_step)) (wsq.rf _)) (wsq.rf _))) ?_
      refine V_ws [MO y 0 (aM kn + 1) ln th, RW G (y 1) 70 (tbF s (i + 1)), RW G (y 4) 420 (rcH kn s g)] rfl ?_
      exact ih
  exact lp_1 0 (Nat.zero_le _)

set_option maxHeartbeats 4000000 in
set_option maxRecDepth 100000 in
theorem c_X6_pegsIn (l : Launch) (G : gT) (y : Nat → Nat) (t kn ln th : Nat) (s : Nat → Nat) (hI : IV s) (c : Nat) (hc : c ≤ 31) : CM l G yX6_pegsIn wsX6_pegsIn 3 63 1 [.ref (y 0), .int (nI c)] [MO y t kn ln th, RW G (y 1) 70 s] 0 0 (fun v u => v = some (.int (nI (s c))) ∧ u = [MO y 0 kn ln th, RW G (y 1) 70 s]) := by
  refine CM_of RX6 2 42 rfl rfl (by decide) (by decide +kernel) (Nat.le_of_ble_eq_true rfl) (fun E A X hrt hnm => ?_)
  have F7 := Fld_of (idx := 7) 6 1 X (by decide) (by decide) (by decide +kernel) (by decide +kernel)
  generalize hQ : QM E G A _ _ _ = Q
  obtain ⟨i1, i2, i3, i4, i5, i6⟩ := id hI
  show V E G A 2 [MO y t kn ln th, RW G (y 1) 70 s] 0 0 Q 0 [(0, .ref (y 0)), (1, .int (nI c))] []
  refine V_aload_n (pc' := 1) 0 X dX6_pegsIn_0 rfl rfl rfl ?_
  refine V_iload_n (pc' := 2) 1 X dX6_pegsIn_1 rfl rfl rfl ?_
  refine V_callS (pc' := 5) (As := [.int (nI c)]) (st := [.ref (y 0)]) [] [0, 1] (show (List.range 2).Perm ([] ++ [0, 1]) by decide) X (c_X6_isColumn1 l G c (by omega)) rfl gX6_pegsIn_X6_isColumn rfl rfl (Nat.le_of_ble_eq_true rfl) ⟨Nat.le_of_ble_eq_true rfl, Nat.le_of_ble_eq_true rfl⟩ ⟨Nat.le_of_ble_eq_true rfl, Nat.le_of_ble_eq_true rfl⟩ dX6_pegsIn_2 rfl (fun v_ u_ hp_ => ?_)
  obtain ⟨rfl, rfl⟩ := hp_
  show V E G A 2 [MO y t kn ln th, RW G (y 1) 70 s] 0 0 Q 5 [(0, .ref (y 0)), (1, .int (nI c))] [.int (nI 1), .ref (y 0)]
  refine V_if_eq (pc' := 8) (C := 1 = 0) 12 X dX6_pegsIn_5 (by decide) rfl (z_eq0 (by omega)) (fun hz => absurd hz (by decide)) (fun _ => ?_)
  refine V_iconst (pc' := 9) (nI 0) X dX6_pegsIn_8 ki_0 rfl ?_
  refine V_goto (pc' := 13) X dX6_pegsIn_9 (by decide) ?_
  refine V_callV (pc' := 16) (As := [.int (nI 0)]) (st := []) 6 0 [0] [1] (show (List.range 2).Perm ([0] ++ [1]) by decide) X (c_X6_holds0 l G y t kn ln th) rfl gX6_pegsIn_X6_holds rfl (by decide) rfl rfl rfl (Nat.le_of_ble_eq_true rfl) ⟨Nat.le_of_ble_eq_true rfl, Nat.le_of_ble_eq_true rfl⟩ ⟨Nat.le_of_ble_eq_true rfl, Nat.le_of_ble_eq_true rfl⟩ dX6_pegsIn_13 rfl (fun v_ u_ hp_ => ?_)
  obtain ⟨rfl, rfl⟩ := hp_
  show V E G A 2 [RW G (y 1) 70 s, MO y 0 kn ln th] 0 0 Q 16 [(0, .ref (y 0)), (1, .int (nI c))] [.int (nI 1)]
  refine V_ord [1, 0] [MO y 0 kn ln th, RW G (y 1) 70 s] (show (List.range 2).Perm [1, 0] by decide) rfl ?_
  refine V_if_eq (pc' := 19) (C := 1 = 0) 30 X dX6_pegsIn_16 (by decide) rfl (z_eq0 (by omega)) (fun hz => absurd hz (by decide)) (fun _ => ?_)
  refine V_aload_n (pc' := 20) 0 X dX6_pegsIn_19 rfl rfl rfl ?_
  refine V_get (pc' := 23) 0 X F7 rfl rfl dX6_pegsIn_20 rfl ?_
  refine V_iconst (pc' := 24) (nI 0) X dX6_pegsIn_23 ki_0 rfl ?_
  refine V_iload_n (pc' := 25) 1 X dX6_pegsIn_24 rfl rfl rfl ?_
  refine V_iadd (pc' := 26) (nI c) X dX6_pegsIn_25 (nI_0add _) rfl ?_
  refine V_iald (pc' := 27) (v := nI (s c)) 1 c X rfl (by omega) (by decide) rfl dX6_pegsIn_26 rfl ?_
  refine V_goto (pc' := 31) X dX6_pegsIn_27 (by decide) ?_
  exact V_ireturn (v := nI (s c)) [MO y 0 kn ln th, RW G (y 1) 70 s] hQ X hrt rfl dX6_pegsIn_31 (Nat.le_of_ble_eq_true rfl) (Nat.le_of_ble_eq_true rfl) (List.Perm.refl _) ⟨rfl, rfl⟩

set_option maxHeartbeats 4000000 in
set_option maxRecDepth 100000 in
theorem c_X6_tempoOf (l : Launch) (G : gT) (y : Nat → Nat) (t kn ln th : Nat) (s : Nat → Nat) (hI : IV s) (c : Nat) (hc : c ≤ 3) : CM l G yX6_tempoOf wsX6_tempoOf 3 63 1 [.ref (y 0), .int (nI c)] [MO y t kn ln th, RW G (y 1) 70 s] 0 0 (fun v u => v = some (.int (nI (s (32 + c)))) ∧ u = [MO y 0 kn ln th, RW G (y 1) 70 s]) := by
  refine CM_of RX6 2 42 rfl rfl (by decide) (by decide +kernel) (Nat.le_of_ble_eq_true rfl) (fun E A X hrt hnm => ?_)
  have F7 := Fld_of (idx := 7) 6 1 X (by decide) (by decide) (by decide +kernel) (by decide +kernel)
  generalize hQ : QM E G A _ _ _ = Q
  obtain ⟨i1, i2, i3, i4, i5, i6⟩ := id hI
  show V E G A 2 [MO y t kn ln th, RW G (y 1) 70 s] 0 0 Q 0 [(0, .ref (y 0)), (1, .int (nI c))] []
  refine V_aload_n (pc' := 1) 0 X dX6_tempoOf_0 rfl rfl rfl ?_
  refine V_iload_n (pc' := 2) 1 X dX6_tempoOf_1 rfl rfl rfl ?_
  refine V_callS (pc' := 5) (As := [.int (nI c)]) (st := [.ref (y 0)]) [] [0, 1] (show (List.range 2).Perm ([] ++ [0, 1]) by decide) X (c_X6_isBar1 l G c (by omega)) rfl gX6_tempoOf_X6_isBar rfl rfl (Nat.le_of_ble_eq_true rfl) ⟨Nat.le_of_ble_eq_true rfl, Nat.le_of_ble_eq_true rfl⟩ ⟨Nat.le_of_ble_eq_true rfl, Nat.le_of_ble_eq_true rfl⟩ dX6_tempoOf_2 rfl (fun v_ u_ hp_ => ?_)
  obtain ⟨rfl, rfl⟩ := hp_
  show V E G A 2 [MO y t kn ln th, RW G (y 1) 70 s] 0 0 Q 5 [(0, .ref (y 0)), (1, .int (nI c))] [.int (nI 1), .ref (y 0)]
  refine V_if_eq (pc' := 8) (C := 1 = 0) 12 X dX6_tempoOf_5 (by decide) rfl (z_eq0 (by omega)) (fun hz => absurd hz (by decide)) (fun _ => ?_)
  refine V_iconst (pc' := 9) (nI 0) X dX6_tempoOf_8 ki_0 rfl ?_
  refine V_goto (pc' := 13) X dX6_tempoOf_9 (by decide) ?_
  refine V_callV (pc' := 16) (As := [.int (nI 0)]) (st := []) 6 0 [0] [1] (show (List.range 2).Perm ([0] ++ [1]) by decide) X (c_X6_holds0 l G y t kn ln th) rfl gX6_tempoOf_X6_holds rfl (by decide) rfl rfl rfl (Nat.le_of_ble_eq_true rfl) ⟨Nat.le_of_ble_eq_true rfl, Nat.le_of_ble_eq_true rfl⟩ ⟨Nat.le_of_ble_eq_true rfl, Nat.le_of_ble_eq_true rfl⟩ dX6_tempoOf_13 rfl (fun v_ u_ hp_ => ?_)
  obtain ⟨rfl, rfl⟩ := hp_
  show V E G A 2 [RW G (y 1) 70 s, MO y 0 kn ln th] 0 0 Q 16 [(0, .ref (y 0)), (1, .int (nI c))] [.int (nI 1)]
  refine V_ord [1, 0] [MO y 0 kn ln th, RW G (y 1) 70 s] (show (List.range 2).Perm [1, 0] by decide) rfl ?_
  refine V_if_eq (pc' := 19) (C := 1 = 0) 31 X dX6_tempoOf_16 (by decide) rfl (z_eq0 (by omega)) (fun hz => absurd hz (by decide)) (fun _ => ?_)
  refine V_aload_n (pc' := 20) 0 X dX6_tempoOf_19 rfl rfl rfl ?_
  refine V_get (pc' := 23) 0 X F7 rfl rfl dX6_tempoOf_20 rfl ?_
  refine V_bipush (pc' := 25) (nI 32) X dX6_tempoOf_23 kb_32 rfl ?_
  refine V_iload_n (pc' := 26) 1 X dX6_tempoOf_25 rfl rfl rfl ?_
  refine V_iadd (pc' := 27) (nI (32 + c)) X dX6_tempoOf_26 (nI_add _ _) rfl ?_
  refine V_iald (pc' := 28) (v := nI (s (32 + c))) 1 (32 + c) X rfl (by omega) (by decide) rfl dX6_tempoOf_27 rfl ?_
  refine V_goto (pc' := 32) X dX6_tempoOf_28 (by decide) ?_
  exact V_ireturn (v := nI (s (32 + c))) [MO y 0 kn ln th, RW G (y 1) 70 s] hQ X hrt rfl dX6_tempoOf_32 (Nat.le_of_ble_eq_true rfl) (Nat.le_of_ble_eq_true rfl) (List.Perm.refl _) ⟨rfl, rfl⟩

set_option maxHeartbeats 4000000 in
set_option maxRecDepth 100000 in
theorem c_X6_weightOf (l : Launch) (G : gT) (y : Nat → Nat) (t kn ln th : Nat) (s : Nat → Nat) (hI : IV s) (c : Nat) (hc : c ≤ 9) : CM l G yX6_weightOf wsX6_weightOf 3 63 1 [.ref (y 0), .int (nI c)] [MO y t kn ln th, RW G (y 1) 70 s] 0 0 (fun v u => v = some (.int (nI (s (36 + c)))) ∧ u = [MO y 0 kn ln th, RW G (y 1) 70 s]) := by
  refine CM_of RX6 2 42 rfl rfl (by decide) (by decide +kernel) (Nat.le_of_ble_eq_true rfl) (fun E A X hrt hnm => ?_)
  have F7 := Fld_of (idx := 7) 6 1 X (by decide) (by decide) (by decide +kernel) (by decide +kernel)
  generalize hQ : QM E G A _ _ _ = Q
  obtain ⟨i1, i2, i3, i4, i5, i6⟩ := id hI
  show V E G A 2 [MO y t kn ln th, RW G (y 1) 70 s] 0 0 Q 0 [(0, .ref (y 0)), (1, .int (nI c))] []
  refine V_aload_n (pc' := 1) 0 X dX6_weightOf_0 rfl rfl rfl ?_
  refine V_iload_n (pc' := 2) 1 X dX6_weightOf_1 rfl rfl rfl ?_
  refine V_callS (pc' := 5) (As := [.int (nI c)]) (st := [.ref (y 0)]) [] [0, 1] (show (List.range 2).Perm ([] ++ [0, 1]) by decide) X (c_X6_isBell1 l G c (by omega)) rfl gX6_weightOf_X6_isBell rfl rfl (Nat.le_of_ble_eq_true rfl) ⟨Nat.le_of_ble_eq_true rfl, Nat.le_of_ble_eq_true rfl⟩ ⟨Nat.le_of_ble_eq_true rfl, Nat.le_of_ble_eq_true rfl⟩ dX6_weightOf_2 rfl (fun v_ u_ hp_ => ?_)
  obtain ⟨rfl, rfl⟩ := hp_
  show V E G A 2 [MO y t kn ln th, RW G (y 1) 70 s] 0 0 Q 5 [(0, .ref (y 0)), (1, .int (nI c))] [.int (nI 1), .ref (y 0)]
  refine V_if_eq (pc' := 8) (C := 1 = 0) 12 X dX6_weightOf_5 (by decide) rfl (z_eq0 (by omega)) (fun hz => absurd hz (by decide)) (fun _ => ?_)
  refine V_iconst (pc' := 9) (nI 0) X dX6_weightOf_8 ki_0 rfl ?_
  refine V_goto (pc' := 13) X dX6_weightOf_9 (by decide) ?_
  refine V_callV (pc' := 16) (As := [.int (nI 0)]) (st := []) 6 0 [0] [1] (show (List.range 2).Perm ([0] ++ [1]) by decide) X (c_X6_holds0 l G y t kn ln th) rfl gX6_weightOf_X6_holds rfl (by decide) rfl rfl rfl (Nat.le_of_ble_eq_true rfl) ⟨Nat.le_of_ble_eq_true rfl, Nat.le_of_ble_eq_true rfl⟩ ⟨Nat.le_of_ble_eq_true rfl, Nat.le_of_ble_eq_true rfl⟩ dX6_weightOf_13 rfl (fun v_ u_ hp_ => ?_)
  obtain ⟨rfl, rfl⟩ := hp_
  show V E G A 2 [RW G (y 1) 70 s, MO y 0 kn ln th] 0 0 Q 16 [(0, .ref (y 0)), (1, .int (nI c))] [.int (nI 1)]
  refine V_ord [1, 0] [MO y 0 kn ln th, RW G (y 1) 70 s] (show (List.range 2).Perm [1, 0] by decide) rfl ?_
  refine V_if_eq (pc' := 19) (C := 1 = 0) 31 X dX6_weightOf_16 (by decide) rfl (z_eq0 (by omega)) (fun hz => absurd hz (by decide)) (fun _ => ?_)
  refine V_aload_n (pc' := 20) 0 X dX6_weightOf_19 rfl rfl rfl ?_
  refine V_get (pc' := 23) 0 X F7 rfl rfl dX6_weightOf_20 rfl ?_
  refine V_bipush (pc' := 25) (nI 36) X dX6_weightOf_23 kb_36 rfl ?_
  refine V_iload_n (pc' := 26) 1 X dX6_weightOf_25 rfl rfl rfl ?_
  refine V_iadd (pc' := 27) (nI (36 + c)) X dX6_weightOf_26 (nI_add _ _) rfl ?_
  refine V_iald (pc' := 28) (v := nI (s (36 + c))) 1 (36 + c) X rfl (by omega) (by decide) rfl dX6_weightOf_27 rfl ?_
  refine V_goto (pc' := 32) X dX6_weightOf_28 (by decide) ?_
  exact V_ireturn (v := nI (s (36 + c))) [MO y 0 kn ln th, RW G (y 1) 70 s] hQ X hrt rfl dX6_weightOf_32 (Nat.le_of_ble_eq_true rfl) (Nat.le_of_ble_eq_true rfl) (List.Perm.refl _) ⟨rfl, rfl⟩

set_option maxHeartbeats 4000000 in
set_option maxRecDepth 100000 in
theorem c_X6_heardOf (l : Launch) (G : gT) (y : Nat → Nat) (t kn ln th : Nat) (s : Nat → Nat) (hI : IV s) (c : Nat) (hc : c ≤ 9) : CM l G yX6_heardOf wsX6_heardOf 3 63 1 [.ref (y 0), .int (nI c)] [MO y t kn ln th, RW G (y 1) 70 s] 0 0 (fun v u => v = some (.int (nI (s (49 + c)))) ∧ u = [MO y 0 kn ln th, RW G (y 1) 70 s]) := by
  refine CM_of RX6 2 42 rfl rfl (by decide) (by decide +kernel) (Nat.le_of_ble_eq_true rfl) (fun E A X hrt hnm => ?_)
  have F7 := Fld_of (idx := 7) 6 1 X (by decide) (by decide) (by decide +kernel) (by decide +kernel)
  generalize hQ : QM E G A _ _ _ = Q
  obtain ⟨i1, i2, i3, i4, i5, i6⟩ := id hI
  show V E G A 2 [MO y t kn ln th, RW G (y 1) 70 s] 0 0 Q 0 [(0, .ref (y 0)), (1, .int (nI c))] []
  refine V_aload_n (pc' := 1) 0 X dX6_heardOf_0 rfl rfl rfl ?_
  refine V_iload_n (pc' := 2) 1 X dX6_heardOf_1 rfl rfl rfl ?_
  refine V_callS (pc' := 5) (As := [.int (nI c)]) (st := [.ref (y 0)]) [] [0, 1] (show (List.range 2).Perm ([] ++ [0, 1]) by decide) X (c_X6_isBell1 l G c (by omega)) rfl gX6_heardOf_X6_isBell rfl rfl (Nat.le_of_ble_eq_true rfl) ⟨Nat.le_of_ble_eq_true rfl, Nat.le_of_ble_eq_true rfl⟩ ⟨Nat.le_of_ble_eq_true rfl, Nat.le_of_ble_eq_true rfl⟩ dX6_heardOf_2 rfl (fun v_ u_ hp_ => ?_)
  obtain ⟨rfl, rfl⟩ := hp_
  show V E G A 2 [MO y t kn ln th, RW G (y 1) 70 s] 0 0 Q 5 [(0, .ref (y 0)), (1, .int (nI c))] [.int (nI 1), .ref (y 0)]
  refine V_if_eq (pc' := 8) (C := 1 = 0) 12 X dX6_heardOf_5 (by decide) rfl (z_eq0 (by omega)) (fun hz => absurd hz (by decide)) (fun _ => ?_)
  refine V_iconst (pc' := 9) (nI 0) X dX6_heardOf_8 ki_0 rfl ?_
  refine V_goto (pc' := 13) X dX6_heardOf_9 (by decide) ?_
  refine V_callV (pc' := 16) (As := [.int (nI 0)]) (st := []) 6 0 [0] [1] (show (List.range 2).Perm ([0] ++ [1]) by decide) X (c_X6_holds0 l G y t kn ln th) rfl gX6_heardOf_X6_holds rfl (by decide) rfl rfl rfl (Nat.le_of_ble_eq_true rfl) ⟨Nat.le_of_ble_eq_true rfl, Nat.le_of_ble_eq_true rfl⟩ ⟨Nat.le_of_ble_eq_true rfl, Nat.le_of_ble_eq_true rfl⟩ dX6_heardOf_13 rfl (fun v_ u_ hp_ => ?_)
  obtain ⟨rfl, rfl⟩ := hp_
  show V E G A 2 [RW G (y 1) 70 s, MO y 0 kn ln th] 0 0 Q 16 [(0, .ref (y 0)), (1, .int (nI c))] [.int (nI 1)]
  refine V_ord [1, 0] [MO y 0 kn ln th, RW G (y 1) 70 s] (show (List.range 2).Perm [1, 0] by decide) rfl ?_
  refine V_if_eq (pc' := 19) (C := 1 = 0) 31 X dX6_heardOf_16 (by decide) rfl (z_eq0 (by omega)) (fun hz => absurd hz (by decide)) (fun _ => ?_)
  refine V_aload_n (pc' := 20) 0 X dX6_heardOf_19 rfl rfl rfl ?_
  refine V_get (pc' := 23) 0 X F7 rfl rfl dX6_heardOf_20 rfl ?_
  refine V_bipush (pc' := 25) (nI 49) X dX6_heardOf_23 kb_49 rfl ?_
  refine V_iload_n (pc' := 26) 1 X dX6_heardOf_25 rfl rfl rfl ?_
  refine V_iadd (pc' := 27) (nI (49 + c)) X dX6_heardOf_26 (nI_add _ _) rfl ?_
  refine V_iald (pc' := 28) (v := nI (s (49 + c))) 1 (49 + c) X rfl (by omega) (by decide) rfl dX6_heardOf_27 rfl ?_
  refine V_goto (pc' := 32) X dX6_heardOf_28 (by decide) ?_
  exact V_ireturn (v := nI (s (49 + c))) [MO y 0 kn ln th, RW G (y 1) 70 s] hQ X hrt rfl dX6_heardOf_32 (Nat.le_of_ble_eq_true rfl) (Nat.le_of_ble_eq_true rfl) (List.Perm.refl _) ⟨rfl, rfl⟩

set_option maxHeartbeats 4000000 in
set_option maxRecDepth 100000 in
theorem c_X6_pegs (l : Launch) (G : gT) (y : Nat → Nat) (t kn ln th : Nat) (s : Nat → Nat) (hI : IV s) : CM l G yX6_pegs wsX6_pegs 3 64 0 [.ref (y 0)] [MO y t kn ln th, RW G (y 1) 70 s] 0 0 (fun v u => v = some (.int (nI (sm (fun k => cnt (s k)) 32))) ∧ u = [MO y 0 kn ln th, RW G (y 1) 70 s]) := by
  refine CM_of RX6 2 44 rfl rfl (by decide) (by decide +kernel) (Nat.le_of_ble_eq_true rfl) (fun E A X hrt hnm => ?_)
  have F32 := Fld_of (idx := 32) 6 0 X (by decide) (by decide) (by decide +kernel) (by decide +kernel)
  generalize hQ : QM E G A _ _ _ = Q
  obtain ⟨i1, i2, i3, i4, i5, i6⟩ := id hI
  show V E G A 1 [MO y t kn ln th, RW G (y 1) 70 s] 0 0 Q 0 [(0, .ref (y 0))] []
  refine V_aload_n (pc' := 1) 0 X dX6_pegs_0 rfl rfl rfl ?_
  refine V_iconst (pc' := 2) (nI 0) X dX6_pegs_1 ki_0 rfl ?_
  refine V_ws [[((y 0), .inr (6, [.int (nI t), .ref (y 1), .ref (y 2), .ref (y 3), .ref (y 4), .int (nI kn), .ref (y 5), .int (nI ln), .ref (y 6), .ref (y 7), .int (nI th)]))], RW G (y 1) 70 s] rfl ?_
  refine V_put (pc' := 5) 0 [[((y 0), .inr (6, [.int (nI 0), .ref (y 1), .ref (y 2), .ref (y 3), .ref (y 4), .int (nI kn), .ref (y 5), .int (nI ln), .ref (y 6), .ref (y 7), .int (nI th)]))], RW G (y 1) 70 s] X F32 rfl rfl rfl rfl (Nat.le_of_ble_eq_true rfl) rfl dX6_pegs_2 rfl ?_
  refine V_aload_n (pc' := 6) 0 X dX6_pegs_5 rfl rfl rfl ?_
  refine V_callV (pc' := 9) (As := []) (st := []) 6 0 [0, 1] [] (show (List.range 2).Perm ([0, 1] ++ []) by decide) X (c_X6_allPegs l G y 0 kn ln th s hI) rfl gX6_pegs_X6_allPegs rfl (by decide) rfl rfl rfl (Nat.le_of_ble_eq_true rfl) ⟨Nat.le_of_ble_eq_true rfl, Nat.le_of_ble_eq_true rfl⟩ ⟨Nat.le_of_ble_eq_true rfl, Nat.le_of_ble_eq_true rfl⟩ dX6_pegs_6 rfl (fun v_ u_ hp_ => ?_)
  obtain ⟨rfl, rfl⟩ := hp_
  show V E G A 1 [MO y 0 kn ln th, RW G (y 1) 70 s] 0 0 Q 9 [(0, .ref (y 0))] [.int (nI (sm (fun k => cnt (s k)) 32))]
  exact V_ireturn (v := nI (sm (fun k => cnt (s k)) 32)) [MO y 0 kn ln th, RW G (y 1) 70 s] hQ X hrt rfl dX6_pegs_9 (Nat.le_of_ble_eq_true rfl) (Nat.le_of_ble_eq_true rfl) (List.Perm.refl _) ⟨rfl, rfl⟩

set_option maxHeartbeats 4000000 in
set_option maxRecDepth 100000 in
theorem c_X6_column (l : Launch) (G : gT) (y : Nat → Nat) (t kn ln th : Nat) (s : Nat → Nat) (hI : IV s) : CM l G yX6_column wsX6_column 1 20 0 [.ref (y 0)] [MO y t kn ln th, RW G (y 1) 70 s] 0 0 (fun v u => v = some (.int (nI (s 47))) ∧ u = [MO y 0 kn ln th, RW G (y 1) 70 s]) := by
  refine CM_of RX6 0 0 rfl rfl (by decide) (by decide +kernel) (Nat.le_of_ble_eq_true rfl) (fun E A X hrt hnm => ?_)
  have F7 := Fld_of (idx := 7) 6 1 X (by decide) (by decide) (by decide +kernel) (by decide +kernel)
  have F32 := Fld_of (idx := 32) 6 0 X (by decide) (by decide) (by decide +kernel) (by decide +kernel)
  generalize hQ : QM E G A _ _ _ = Q
  obtain ⟨i1, i2, i3, i4, i5, i6⟩ := id hI
  show V E G A 1 [MO y t kn ln th, RW G (y 1) 70 s] 0 0 Q 0 [(0, .ref (y 0))] []
  refine V_aload_n (pc' := 1) 0 X dX6_column_0 rfl rfl rfl ?_
  refine V_iconst (pc' := 2) (nI 0) X dX6_column_1 ki_0 rfl ?_
  refine V_ws [[((y 0), .inr (6, [.int (nI t), .ref (y 1), .ref (y 2), .ref (y 3), .ref (y 4), .int (nI kn), .ref (y 5), .int (nI ln), .ref (y 6), .ref (y 7), .int (nI th)]))], RW G (y 1) 70 s] rfl ?_
  refine V_put (pc' := 5) 0 [[((y 0), .inr (6, [.int (nI 0), .ref (y 1), .ref (y 2), .ref (y 3), .ref (y 4), .int (nI kn), .ref (y 5), .int (nI ln), .ref (y 6), .ref (y 7), .int (nI th)]))], RW G (y 1) 70 s] X F32 rfl rfl rfl rfl (Nat.le_of_ble_eq_true rfl) rfl dX6_column_2 rfl ?_
  refine V_aload_n (pc' := 6) 0 X dX6_column_5 rfl rfl rfl ?_
  refine V_get (pc' := 9) 0 X F7 rfl rfl dX6_column_6 rfl ?_
  refine V_bipush (pc' := 11) (nI 47) X dX6_column_9 kb_47 rfl ?_
  refine V_iald (pc' := 12) (v := nI (s 47)) 1 47 X rfl (by omega) (by decide) rfl dX6_column_11 rfl ?_
  refine V_ws [MO y 0 kn ln th, RW G (y 1) 70 s] rfl ?_
  exact V_ireturn (v := nI (s 47)) [MO y 0 kn ln th, RW G (y 1) 70 s] hQ X hrt rfl dX6_column_12 (Nat.le_of_ble_eq_true rfl) (Nat.le_of_ble_eq_true rfl) (List.Perm.refl _) ⟨rfl, rfl⟩

set_option maxHeartbeats 4000000 in
set_option maxRecDepth 100000 in
theorem c_X6_time (l : Launch) (G : gT) (y : Nat → Nat) (t kn ln th : Nat) (s : Nat → Nat) (hI : IV s) : CM l G yX6_time wsX6_time 1 20 0 [.ref (y 0)] [MO y t kn ln th, RW G (y 1) 70 s] 0 0 (fun v u => v = some (.int (nI (s 48))) ∧ u = [MO y 0 kn ln th, RW G (y 1) 70 s]) := by
  refine CM_of RX6 0 0 rfl rfl (by decide) (by decide +kernel) (Nat.le_of_ble_eq_true rfl) (fun E A X hrt hnm => ?_)
  have F7 := Fld_of (idx := 7) 6 1 X (by decide) (by decide) (by decide +kernel) (by decide +kernel)
  have F32 := Fld_of (idx := 32) 6 0 X (by decide) (by decide) (by decide +kernel) (by decide +kernel)
  generalize hQ : QM E G A _ _ _ = Q
  obtain ⟨i1, i2, i3, i4, i5, i6⟩ := id hI
  show V E G A 1 [MO y t kn ln th, RW G (y 1) 70 s] 0 0 Q 0 [(0, .ref (y 0))] []
  refine V_aload_n (pc' := 1) 0 X dX6_time_0 rfl rfl rfl ?_
  refine V_iconst (pc' := 2) (nI 0) X dX6_time_1 ki_0 rfl ?_
  refine V_ws [[((y 0), .inr (6, [.int (nI t), .ref (y 1), .ref (y 2), .ref (y 3), .ref (y 4), .int (nI kn), .ref (y 5), .int (nI ln), .ref (y 6), .ref (y 7), .int (nI th)]))], RW G (y 1) 70 s] rfl ?_
  refine V_put (pc' := 5) 0 [[((y 0), .inr (6, [.int (nI 0), .ref (y 1), .ref (y 2), .ref (y 3), .ref (y 4), .int (nI kn), .ref (y 5), .int (nI ln), .ref (y 6), .ref (y 7), .int (nI th)]))], RW G (y 1) 70 s] X F32 rfl rfl rfl rfl (Nat.le_of_ble_eq_true rfl) rfl dX6_time_2 rfl ?_
  refine V_aload_n (pc' := 6) 0 X dX6_time_5 rfl rfl rfl ?_
  refine V_get (pc' := 9) 0 X F7 rfl rfl dX6_time_6 rfl ?_
  refine V_bipush (pc' := 11) (nI 48) X dX6_time_9 kb_48 rfl ?_
  refine V_iald (pc' := 12) (v := nI (s 48)) 1 48 X rfl (by omega) (by decide) rfl dX6_time_11 rfl ?_
  refine V_ws [MO y 0 kn ln th, RW G (y 1) 70 s] rfl ?_
  exact V_ireturn (v := nI (s 48)) [MO y 0 kn ln th, RW G (y 1) 70 s] hQ X hrt rfl dX6_time_12 (Nat.le_of_ble_eq_true rfl) (Nat.le_of_ble_eq_true rfl) (List.Perm.refl _) ⟨rfl, rfl⟩

set_option maxHeartbeats 4000000 in
set_option maxRecDepth 100000 in
theorem c_X6_missed (l : Launch) (G : gT) (y : Nat → Nat) (t kn ln th : Nat) (s : Nat → Nat) (hI : IV s) : CM l G yX6_missed wsX6_missed 1 20 0 [.ref (y 0)] [MO y t kn ln th, RW G (y 1) 70 s] 0 0 (fun v u => v = some (.int (nI (s 59))) ∧ u = [MO y 0 kn ln th, RW G (y 1) 70 s]) := by
  refine CM_of RX6 0 0 rfl rfl (by decide) (by decide +kernel) (Nat.le_of_ble_eq_true rfl) (fun E A X hrt hnm => ?_)
  have F7 := Fld_of (idx := 7) 6 1 X (by decide) (by decide) (by decide +kernel) (by decide +kernel)
  have F32 := Fld_of (idx := 32) 6 0 X (by decide) (by decide) (by decide +kernel) (by decide +kernel)
  generalize hQ : QM E G A _ _ _ = Q
  obtain ⟨i1, i2, i3, i4, i5, i6⟩ := id hI
  show V E G A 1 [MO y t kn ln th, RW G (y 1) 70 s] 0 0 Q 0 [(0, .ref (y 0))] []
  refine V_aload_n (pc' := 1) 0 X dX6_missed_0 rfl rfl rfl ?_
  refine V_iconst (pc' := 2) (nI 0) X dX6_missed_1 ki_0 rfl ?_
  refine V_ws [[((y 0), .inr (6, [.int (nI t), .ref (y 1), .ref (y 2), .ref (y 3), .ref (y 4), .int (nI kn), .ref (y 5), .int (nI ln), .ref (y 6), .ref (y 7), .int (nI th)]))], RW G (y 1) 70 s] rfl ?_
  refine V_put (pc' := 5) 0 [[((y 0), .inr (6, [.int (nI 0), .ref (y 1), .ref (y 2), .ref (y 3), .ref (y 4), .int (nI kn), .ref (y 5), .int (nI ln), .ref (y 6), .ref (y 7), .int (nI th)]))], RW G (y 1) 70 s] X F32 rfl rfl rfl rfl (Nat.le_of_ble_eq_true rfl) rfl dX6_missed_2 rfl ?_
  refine V_aload_n (pc' := 6) 0 X dX6_missed_5 rfl rfl rfl ?_
  refine V_get (pc' := 9) 0 X F7 rfl rfl dX6_missed_6 rfl ?_
  refine V_bipush (pc' := 11) (nI 59) X dX6_missed_9 kb_59 rfl ?_
  refine V_iald (pc' := 12) (v := nI (s 59)) 1 59 X rfl (by omega) (by decide) rfl dX6_missed_11 rfl ?_
  refine V_ws [MO y 0 kn ln th, RW G (y 1) 70 s] rfl ?_
  exact V_ireturn (v := nI (s 59)) [MO y 0 kn ln th, RW G (y 1) 70 s] hQ X hrt rfl dX6_missed_12 (Nat.le_of_ble_eq_true rfl) (Nat.le_of_ble_eq_true rfl) (List.Perm.refl _) ⟨rfl, rfl⟩

set_option maxHeartbeats 4000000 in
set_option maxRecDepth 100000 in
theorem c_X6_heard (l : Launch) (G : gT) (y : Nat → Nat) (t kn ln th : Nat) (s : Nat → Nat) (hI : IV s) (b : Nat) (hb : b < 2) : CM l G yX6_heard wsX6_heard 1 23 1 [.ref (y 0), .int (nI b)] [MO y t kn ln th, RW G (y 1) 70 s] 0 0 (fun v u => v = some (.int (nI (sm (fun k => s (49 + k)) 10))) ∧ u = [MO y 0 kn ln th, RW G (y 1) 70 s]) := by
  refine CM_of RX6 0 0 rfl rfl (by decide) (by decide +kernel) (Nat.le_of_ble_eq_true rfl) (fun E A X hrt hnm => ?_)
  have F7 := Fld_of (idx := 7) 6 1 X (by decide) (by decide) (by decide +kernel) (by decide +kernel)
  have F32 := Fld_of (idx := 32) 6 0 X (by decide) (by decide) (by decide +kernel) (by decide +kernel)
  generalize hQ : QM E G A _ _ _ = Q
  obtain ⟨i1, i2, i3, i4, i5, i6⟩ := id hI
  show V E G A 4 [MO y t kn ln th, RW G (y 1) 70 s] 0 0 Q 0 [(0, .ref (y 0)), (1, .int (nI b))] []
  refine V_aload_n (pc' := 1) 0 X dX6_heard_0 rfl rfl rfl ?_
  refine V_iconst (pc' := 2) (nI 0) X dX6_heard_1 ki_0 rfl ?_
  refine V_ws [[((y 0), .inr (6, [.int (nI t), .ref (y 1), .ref (y 2), .ref (y 3), .ref (y 4), .int (nI kn), .ref (y 5), .int (nI ln), .ref (y 6), .ref (y 7), .int (nI th)]))], RW G (y 1) 70 s] rfl ?_
  refine V_put (pc' := 5) 0 [[((y 0), .inr (6, [.int (nI 0), .ref (y 1), .ref (y 2), .ref (y 3), .ref (y 4), .int (nI kn), .ref (y 5), .int (nI ln), .ref (y 6), .ref (y 7), .int (nI th)]))], RW G (y 1) 70 s] X F32 rfl rfl rfl rfl (Nat.le_of_ble_eq_true rfl) rfl dX6_heard_2 rfl ?_
  refine V_iconst (pc' := 6) (nI 0) X dX6_heard_5 ki_0 rfl ?_
  refine V_istore_n (pc' := 7) [(0, .ref (y 0)), (1, .int (nI b)), (2, .int (nI 0))] [1, 2, 0] X dX6_heard_6 rfl (Nat.le_of_ble_eq_true rfl) rfl rfl ?_
  refine V_iconst (pc' := 8) (nI 0) X dX6_heard_7 ki_0 rfl ?_
  refine V_istore_n (pc' := 9) [(0, .ref (y 0)), (1, .int (nI b)), (2, .int (nI 0)), (3, .int (nI 0))] [1, 2, 3, 0] X dX6_heard_8 rfl (Nat.le_of_ble_eq_true rfl) rfl rfl ?_
  refine V_ws [MO y 0 kn ln th, RW G (y 1) 70 s] rfl ?_
  have lp_1 : ∀ i, i ≤ 10 → V E G A 4 [MO y 0 kn ln th, RW G (y 1) 70 s] 0 0 Q 9 [(0, .ref (y 0)), (1, .int (nI b)), (2, .int (nI (sm (fun k => s (49 + k)) i))), (3, .int (nI i))] [] := by
    refine loopD 10 ?_ ?_
    · show V E G A 4 [MO y 0 kn ln th, RW G (y 1) 70 s] 0 0 Q 9 [(0, .ref (y 0)), (1, .int (nI b)), (2, .int (nI (sm (fun k => s (49 + k)) 10))), (3, .int (nI 10))] []
      refine V_iload_n (pc' := 10) 3 X dX6_heard_9 rfl rfl rfl ?_
      refine V_bipush (pc' := 12) (nI 10) X dX6_heard_10 kb_10 rfl ?_
      refine V_icmp_ge (pc' := 15) (C := 10 ≤ 10) 33 X dX6_heard_12 (by decide) rfl (nI_leI (by omega) (by omega)) (fun _ => ?_) (fun hz => absurd (by omega) hz)
      refine V_iload_n (pc' := 34) 2 X dX6_heard_33 rfl rfl rfl ?_
      exact V_ireturn (v := nI (sm (fun k => s (49 + k)) 10)) [MO y 0 kn ln th, RW G (y 1) 70 s] hQ X hrt rfl dX6_heard_34 (Nat.le_of_ble_eq_true rfl) (Nat.le_of_ble_eq_true rfl) (List.Perm.refl _) ⟨rfl, rfl⟩
    · intro i hi_i ih
      show V E G A 4 [MO y 0 kn ln th, RW G (y 1) 70 s] 0 0 Q 9 [(0, .ref (y 0)), (1, .int (nI b)), (2, .int (nI (sm (fun k => s (49 + k)) i))), (3, .int (nI i))] []
      refine V_iload_n (pc' := 10) 3 X dX6_heard_9 rfl rfl rfl ?_
      refine V_bipush (pc' := 12) (nI 10) X dX6_heard_10 kb_10 rfl ?_
      refine V_icmp_ge (pc' := 15) (C := 10 ≤ i) 33 X dX6_heard_12 (by decide) rfl (nI_leI (by omega) (by omega)) (fun hz => absurd hz (by omega)) (fun _ => ?_)
      refine V_iload_n (pc' := 16) 2 X dX6_heard_15 rfl rfl rfl ?_
      refine V_aload_n (pc' := 17) 0 X dX6_heard_16 rfl rfl rfl ?_
      refine V_get (pc' := 20) 0 X F7 rfl rfl dX6_heard_17 rfl ?_
      refine V_bipush (pc' := 22) (nI 49) X dX6_heard_20 kb_49 rfl ?_
      refine V_iload_n (pc' := 23) 3 X dX6_heard_22 rfl rfl rfl ?_
      refine V_iadd (pc' := 24) (nI (49 + i)) X dX6_heard_23 (nI_add _ _) rfl ?_
      refine V_iald (pc' := 25) (v := nI (s (49 + i))) 1 (49 + i) X rfl (by omega) (by decide) rfl dX6_heard_24 rfl ?_
      refine V_iadd (pc' := 26) (nI ((sm (fun k => s (49 + k)) i) + (s (49 + i)))) X dX6_heard_25 (nI_add _ _) rfl ?_
      refine V_istore_n (pc' := 27) [(0, .ref (y 0)), (1, .int (nI b)), (2, .int (nI ((sm (fun k => s (49 + k)) i) + (s (49 + i))))), (3, .int (nI i))] [1, 2, 0, 3] X dX6_heard_26 rfl (Nat.le_of_ble_eq_true rfl) rfl rfl ?_
      refine V_iinc (pc' := 30) [(0, .ref (y 0)), (1, .int (nI b)), (2, .int (nI ((sm (fun k => s (49 + k)) i) + (s (49 + i))))), (3, .int (nI (i + 1)))] 3 [1, 2, 3, 0] X dX6_heard_27 rfl (nI_i1 _) (Nat.le_of_ble_eq_true rfl) rfl rfl ?_
      refine V_goto (pc' := 9) X dX6_heard_30 (by decide) ?_
      exact ih
  exact lp_1 0 (Nat.zero_le _)

set_option maxHeartbeats 4000000 in
set_option maxRecDepth 100000 in
theorem c_X6_ticksOfRound (l : Launch) (G : gT) (y : Nat → Nat) (t kn ln th : Nat) (s : Nat → Nat) (hI : IV s) (b : Nat) (hb : b < 2) : CM l G yX6_ticksOfRound wsX6_ticksOfRound 1 23 1 [.ref (y 0), .int (nI b)] [MO y t kn ln th, RW G (y 1) 70 s] 0 0 (fun v u => v = some (.int (nI (sm (fun k => 8 * s (32 + k)) 4))) ∧ u = [MO y 0 kn ln th, RW G (y 1) 70 s]) := by
  refine CM_of RX6 0 0 rfl rfl (by decide) (by decide +kernel) (Nat.le_of_ble_eq_true rfl) (fun E A X hrt hnm => ?_)
  have F7 := Fld_of (idx := 7) 6 1 X (by decide) (by decide) (by decide +kernel) (by decide +kernel)
  have F32 := Fld_of (idx := 32) 6 0 X (by decide) (by decide) (by decide +kernel) (by decide +kernel)
  generalize hQ : QM E G A _ _ _ = Q
  obtain ⟨i1, i2, i3, i4, i5, i6⟩ := id hI
  show V E G A 4 [MO y t kn ln th, RW G (y 1) 70 s] 0 0 Q 0 [(0, .ref (y 0)), (1, .int (nI b))] []
  refine V_aload_n (pc' := 1) 0 X dX6_ticksOfRound_0 rfl rfl rfl ?_
  refine V_iconst (pc' := 2) (nI 0) X dX6_ticksOfRound_1 ki_0 rfl ?_
  refine V_ws [[((y 0), .inr (6, [.int (nI t), .ref (y 1), .ref (y 2), .ref (y 3), .ref (y 4), .int (nI kn), .ref (y 5), .int (nI ln), .ref (y 6), .ref (y 7), .int (nI th)]))], RW G (y 1) 70 s] rfl ?_
  refine V_put (pc' := 5) 0 [[((y 0), .inr (6, [.int (nI 0), .ref (y 1), .ref (y 2), .ref (y 3), .ref (y 4), .int (nI kn), .ref (y 5), .int (nI ln), .ref (y 6), .ref (y 7), .int (nI th)]))], RW G (y 1) 70 s] X F32 rfl rfl rfl rfl (Nat.le_of_ble_eq_true rfl) rfl dX6_ticksOfRound_2 rfl ?_
  refine V_iconst (pc' := 6) (nI 0) X dX6_ticksOfRound_5 ki_0 rfl ?_
  refine V_istore_n (pc' := 7) [(0, .ref (y 0)), (1, .int (nI b)), (2, .int (nI 0))] [1, 2, 0] X dX6_ticksOfRound_6 rfl (Nat.le_of_ble_eq_true rfl) rfl rfl ?_
  refine V_iconst (pc' := 8) (nI 0) X dX6_ticksOfRound_7 ki_0 rfl ?_
  refine V_istore_n (pc' := 9) [(0, .ref (y 0)), (1, .int (nI b)), (2, .int (nI 0)), (3, .int (nI 0))] [1, 2, 3, 0] X dX6_ticksOfRound_8 rfl (Nat.le_of_ble_eq_true rfl) rfl rfl ?_
  refine V_ws [MO y 0 kn ln th, RW G (y 1) 70 s] rfl ?_
  have lp_1 : ∀ i, i ≤ 4 → V E G A 4 [MO y 0 kn ln th, RW G (y 1) 70 s] 0 0 Q 9 [(0, .ref (y 0)), (1, .int (nI b)), (2, .int (nI (sm (fun k => 8 * s (32 + k)) i))), (3, .int (nI i))] [] := by
    refine loopD 4 ?_ ?_
    · show V E G A 4 [MO y 0 kn ln th, RW G (y 1) 70 s] 0 0 Q 9 [(0, .ref (y 0)), (1, .int (nI b)), (2, .int (nI (sm (fun k => 8 * s (32 + k)) 4))), (3, .int (nI 4))] []
      refine V_iload_n (pc' := 10) 3 X dX6_ticksOfRound_9 rfl rfl rfl ?_
      refine V_iconst (pc' := 11) (nI 4) X dX6_ticksOfRound_10 ki_4 rfl ?_
      refine V_icmp_ge (pc' := 14) (C := 4 ≤ 4) 35 X dX6_ticksOfRound_11 (by decide) rfl (nI_leI (by omega) (by omega)) (fun _ => ?_) (fun hz => absurd (by omega) hz)
      refine V_iload_n (pc' := 36) 2 X dX6_ticksOfRound_35 rfl rfl rfl ?_
      exact V_ireturn (v := nI (sm (fun k => 8 * s (32 + k)) 4)) [MO y 0 kn ln th, RW G (y 1) 70 s] hQ X hrt rfl dX6_ticksOfRound_36 (Nat.le_of_ble_eq_true rfl) (Nat.le_of_ble_eq_true rfl) (List.Perm.refl _) ⟨rfl, rfl⟩
    · intro i hi_i ih
      show V E G A 4 [MO y 0 kn ln th, RW G (y 1) 70 s] 0 0 Q 9 [(0, .ref (y 0)), (1, .int (nI b)), (2, .int (nI (sm (fun k => 8 * s (32 + k)) i))), (3, .int (nI i))] []
      refine V_iload_n (pc' := 10) 3 X dX6_ticksOfRound_9 rfl rfl rfl ?_
      refine V_iconst (pc' := 11) (nI 4) X dX6_ticksOfRound_10 ki_4 rfl ?_
      refine V_icmp_ge (pc' := 14) (C := 4 ≤ i) 35 X dX6_ticksOfRound_11 (by decide) rfl (nI_leI (by omega) (by omega)) (fun hz => absurd hz (by omega)) (fun _ => ?_)
      refine V_iload_n (pc' := 15) 2 X dX6_ticksOfRound_14 rfl rfl rfl ?_
      refine V_bipush (pc' := 17) (nI 8) X dX6_ticksOfRound_15 kb_8 rfl ?_
      refine V_aload_n (pc' := 18) 0 X dX6_ticksOfRound_17 rfl rfl rfl ?_
      refine V_get (pc' := 21) 0 X F7 rfl rfl dX6_ticksOfRound_18 rfl ?_
      refine V_bipush (pc' := 23) (nI 32) X dX6_ticksOfRound_21 kb_32 rfl ?_
      refine V_iload_n (pc' := 24) 3 X dX6_ticksOfRound_23 rfl rfl rfl ?_
      refine V_iadd (pc' := 25) (nI (32 + i)) X dX6_ticksOfRound_24 (nI_add _ _) rfl ?_
      refine V_iald (pc' := 26) (v := nI (s (32 + i))) 1 (32 + i) X rfl (by omega) (by decide) rfl dX6_ticksOfRound_25 rfl ?_
      refine V_imul (pc' := 27) (nI (8 * (s (32 + i)))) X dX6_ticksOfRound_26 (pk_mul _ _) rfl ?_
      refine V_iadd (pc' := 28) (nI ((sm (fun k => 8 * s (32 + k)) i) + (8 * (s (32 + i))))) X dX6_ticksOfRound_27 (nI_add _ _) rfl ?_
      refine V_istore_n (pc' := 29) [(0, .ref (y 0)), (1, .int (nI b)), (2, .int (nI ((sm (fun k => 8 * s (32 + k)) i) + (8 * (s (32 + i)))))), (3, .int (nI i))] [1, 2, 0, 3] X dX6_ticksOfRound_28 rfl (Nat.le_of_ble_eq_true rfl) rfl rfl ?_
      refine V_iinc (pc' := 32) [(0, .ref (y 0)), (1, .int (nI b)), (2, .int (nI ((sm (fun k => 8 * s (32 + k)) i) + (8 * (s (32 + i)))))), (3, .int (nI (i + 1)))] 3 [1, 2, 3, 0] X dX6_ticksOfRound_29 rfl (nI_i1 _) (Nat.le_of_ble_eq_true rfl) rfl rfl ?_
      refine V_goto (pc' := 9) X dX6_ticksOfRound_32 (by decide) ?_
      exact ih
  exact lp_1 0 (Nat.zero_le _)

set_option maxHeartbeats 4000000 in
set_option maxRecDepth 100000 in
theorem c_X6_whyMissed (l : Launch) (G : gT) (y : Nat → Nat) (t kn ln th : Nat) (s : Nat → Nat) (hI : IV s) (b : Nat) (hb : b < 10) : CM l G yX6_whyMissed wsX6_whyMissed 3 72 1 [.ref (y 0), .int (nI b)] [MO y t kn ln th, RW G (y 1) 70 s] 0 0 (fun v u => v = some (.int (nI (why s b))) ∧ u = [MO y 0 kn ln th, RW G (y 1) 70 s]) := by
  refine CM_of RX6 2 47 rfl rfl (by decide) (by decide +kernel) (Nat.le_of_ble_eq_true rfl) (fun E A X hrt hnm => ?_)
  have F7 := Fld_of (idx := 7) 6 1 X (by decide) (by decide) (by decide +kernel) (by decide +kernel)
  generalize hQ : QM E G A _ _ _ = Q
  obtain ⟨i1, i2, i3, i4, i5, i6⟩ := id hI
  have hpp := i1 _ i5
  show V E G A 6 [MO y t kn ln th, RW G (y 1) 70 s] 0 0 Q 0 [(0, .ref (y 0)), (1, .int (nI b))] []
  refine V_aload_n (pc' := 1) 0 X dX6_whyMissed_0 rfl rfl rfl ?_
  refine V_iload_n (pc' := 2) 1 X dX6_whyMissed_1 rfl rfl rfl ?_
  refine V_callS (pc' := 5) (As := [.int (nI b)]) (st := [.ref (y 0)]) [] [0, 1] (show (List.range 2).Perm ([] ++ [0, 1]) by decide) X (c_X6_isBell1 l G b (by omega)) rfl gX6_whyMissed_X6_isBell rfl rfl (Nat.le_of_ble_eq_true rfl) ⟨Nat.le_of_ble_eq_true rfl, Nat.le_of_ble_eq_true rfl⟩ ⟨Nat.le_of_ble_eq_true rfl, Nat.le_of_ble_eq_true rfl⟩ dX6_whyMissed_2 rfl (fun v_ u_ hp_ => ?_)
  obtain ⟨rfl, rfl⟩ := hp_
  show V E G A 6 [MO y t kn ln th, RW G (y 1) 70 s] 0 0 Q 5 [(0, .ref (y 0)), (1, .int (nI b))] [.int (nI 1), .ref (y 0)]
  refine V_if_eq (pc' := 8) (C := 1 = 0) 12 X dX6_whyMissed_5 (by decide) rfl (z_eq0 (by omega)) (fun hz => absurd hz (by decide)) (fun _ => ?_)
  refine V_iconst (pc' := 9) (nI 0) X dX6_whyMissed_8 ki_0 rfl ?_
  refine V_goto (pc' := 13) X dX6_whyMissed_9 (by decide) ?_
  refine V_callV (pc' := 16) (As := [.int (nI 0)]) (st := []) 6 0 [0] [1] (show (List.range 2).Perm ([0] ++ [1]) by decide) X (c_X6_holds0 l G y t kn ln th) rfl gX6_whyMissed_X6_holds rfl (by decide) rfl rfl rfl (Nat.le_of_ble_eq_true rfl) ⟨Nat.le_of_ble_eq_true rfl, Nat.le_of_ble_eq_true rfl⟩ ⟨Nat.le_of_ble_eq_true rfl, Nat.le_of_ble_eq_true rfl⟩ dX6_whyMissed_13 rfl (fun v_ u_ hp_ => ?_)
  obtain ⟨rfl, rfl⟩ := hp_
  show V E G A 6 [RW G (y 1) 70 s, MO y 0 kn ln th] 0 0 Q 16 [(0, .ref (y 0)), (1, .int (nI b))] [.int (nI 1)]
  refine V_ord [1, 0] [MO y 0 kn ln th, RW G (y 1) 70 s] (show (List.range 2).Perm [1, 0] by decide) rfl ?_
  refine V_if_ne (pc' := 19) (C := 1 = 0) 21 X dX6_whyMissed_16 (by decide) rfl (z_eq0 (by omega)) (fun _ => ?_) (fun hz => absurd hz (by decide))
  refine V_aload_n (pc' := 22) 0 X dX6_whyMissed_21 rfl rfl rfl ?_
  refine V_get (pc' := 25) 0 X F7 rfl rfl dX6_whyMissed_22 rfl ?_
  refine V_iconst (pc' := 26) (nI 0) X dX6_whyMissed_25 ki_0 rfl ?_
  refine V_aload_n (pc' := 27) 0 X dX6_whyMissed_26 rfl rfl rfl ?_
  refine V_get (pc' := 30) 0 X F7 rfl rfl dX6_whyMissed_27 rfl ?_
  refine V_bipush (pc' := 32) (nI 47) X dX6_whyMissed_30 kb_47 rfl ?_
  refine V_iald (pc' := 33) (v := nI (s 47)) 1 47 X rfl (by omega) (by decide) rfl dX6_whyMissed_32 rfl ?_
  refine V_iadd (pc' := 34) (nI (s 47)) X dX6_whyMissed_33 (nI_0add _) rfl ?_
  refine V_iald (pc' := 35) (v := nI (s (s 47))) 1 (s 47) X rfl (by omega) (by decide) rfl dX6_whyMissed_34 rfl ?_
  refine V_istore_n (pc' := 36) [(0, .ref (y 0)), (1, .int (nI b)), (2, .int (nI (s (s 47))))] [1, 2, 0] X dX6_whyMissed_35 rfl (Nat.le_of_ble_eq_true rfl) rfl rfl ?_
  refine V_iload_n (pc' := 37) 2 X dX6_whyMissed_36 rfl rfl rfl ?_
  refine V_iload_n (pc' := 38) 1 X dX6_whyMissed_37 rfl rfl rfl ?_
  refine V_ishr (pc' := 39) (nI ((s (s 47)) / 2 ^ b)) X dX6_whyMissed_38 (z_shr (by omega) (by omega)) rfl ?_
  refine V_iconst (pc' := 40) (nI 1) X dX6_whyMissed_39 ki_1 rfl ?_
  refine V_iand (pc' := 41) (nI (bq (s (s 47)) b)) X dX6_whyMissed_40 (z_and1 _) rfl ?_
  refine V_if_ne (pc' := 44) (C := (bq (s (s 47)) b) = 0) 46 X dX6_whyMissed_41 (by decide) rfl (z_eq0 (Nat.lt_trans (bq_lt _ _) (by decide))) (fun h41 => ?_) (fun h41 => ?_)
  · refine V_iconst (pc' := 47) (nI 0) X dX6_whyMissed_46 ki_0 rfl ?_
    refine V_istore_n (pc' := 48) [(0, .ref (y 0)), (1, .int (nI b)), (2, .int (nI (s (s 47)))), (3, .int (nI 0))] [1, 2, 3, 0] X dX6_whyMissed_47 rfl (Nat.le_of_ble_eq_true rfl) rfl rfl ?_
    refine V_iconst (pc' := 49) (nI 0) X dX6_whyMissed_48 ki_0 rfl ?_
    refine V_istore (pc' := 51) [(0, .ref (y 0)), (1, .int (nI b)), (2, .int (nI (s (s 47)))), (3, .int (nI 0)), (4, .int (nI 0))] [1, 2, 3, 4, 0] X dX6_whyMissed_49 (Nat.le_of_ble_eq_true rfl) rfl rfl ?_
    have lp_1 : ∀ i, i ≤ b → V E G A 6 [MO y 0 kn ln th, RW G (y 1) 70 s] 0 0 Q 51 [(0, .ref (y 0)), (1, .int (nI b)), (2, .int (nI (s (s 47)))), (3, .int (nI ((hq s i).1))), (4, .int (nI i))] [] := by
      refine loopD b ?_ ?_
      · show V E G A 6 [MO y 0 kn ln th, RW G (y 1) 70 s] 0 0 Q 51 [(0, .ref (y 0)), (1, .int (nI b)), (2, .int (nI (s (s 47)))), (3, .int (nI ((hq s b).1))), (4, .int (nI b))] []
        have hq10 := hq_le s b (by omega)
        refine V_iload (pc' := 53) 4 X dX6_whyMissed_51 rfl rfl ?_
        refine V_iload_n (pc' := 54) 1 X dX6_whyMissed_53 rfl rfl rfl ?_
        refine V_icmp_ge (pc' := 57) (C := b ≤ b) 123 X dX6_whyMissed_54 (by decide) rfl (nI_leI (by omega) (by omega)) (fun _ => ?_) (fun hz => absurd (by omega) hz)
        refine V_aload_n (pc' := 124) 0 X dX6_whyMissed_123 rfl rfl rfl ?_
        refine V_iload_n (pc' := 125) 1 X dX6_whyMissed_124 rfl rfl rfl ?_
        refine V_iload_n (pc' := 126) 3 X dX6_whyMissed_125 rfl rfl rfl ?_
        refine V_aload_n (pc' := 127) 0 X dX6_whyMissed_126 rfl rfl rfl ?_
        refine V_get (pc' := 130) 0 X F7 rfl rfl dX6_whyMissed_127 rfl ?_
        refine V_bipush (pc' := 132) (nI 60) X dX6_whyMissed_130 kb_60 rfl ?_
        refine V_iload_n (pc' := 133) 1 X dX6_whyMissed_132 rfl rfl rfl ?_
        refine V_iadd (pc' := 134) (nI (60 + b)) X dX6_whyMissed_133 (nI_add _ _) rfl ?_
        refine V_iald (pc' := 135) (v := nI (s (60 + b))) 1 (60 + b) X rfl (by omega) (by decide) rfl dX6_whyMissed_134 rfl ?_
        refine V_aload_n (pc' := 136) 0 X dX6_whyMissed_135 rfl rfl rfl ?_
        refine V_get (pc' := 139) 0 X F7 rfl rfl dX6_whyMissed_136 rfl ?_
        refine V_bipush (pc' := 141) (nI 46) X dX6_whyMissed_139 kb_46 rfl ?_
        refine V_iald (pc' := 142) (v := nI (s 46)) 1 46 X rfl (by omega) (by decide) rfl dX6_whyMissed_141 rfl ?_
        refine V_callV (pc' := 145) (As := [.int (nI b), .int (nI ((hq s b).1)), .int (nI (s (60 + b))), .int (nI (s 46))]) (st := []) 6 0 [0, 1] [] (show (List.range 2).Perm ([0, 1] ++ []) by decide) X (c_X6_missedFor l G y 0 kn ln th s hI b ((hq s b).1) (s (60 + b)) (s 46) hb hq10 (Nat.lt_of_le_of_lt (i6 b hb) (by decide)) (by omega)) rfl gX6_whyMissed_X6_missedFor rfl (by decide) rfl rfl rfl (Nat.le_of_ble_eq_true rfl) ⟨Nat.le_of_ble_eq_true rfl, Nat.le_of_ble_eq_true rfl⟩ ⟨Nat.le_of_ble_eq_true rfl, Nat.le_of_ble_eq_true rfl⟩ dX6_whyMissed_142 rfl (fun v_ u_ hp_ => ?_)
        obtain ⟨rfl, rfl⟩ := hp_; rw [why_mf hI hb h41]
        show V E G A 6 [MO y 0 kn ln th, RW G (y 1) 70 s] 0 0 Q 145 [(0, .ref (y 0)), (1, .int (nI b)), (2, .int (nI (s (s 47)))), (3, .int (nI ((hq s b).1))), (4, .int (nI b))] [.int (nI (why s b))]
        exact V_ireturn (v := nI (why s b)) [MO y 0 kn ln th, RW G (y 1) 70 s] hQ X hrt rfl dX6_whyMissed_145 (Nat.le_of_ble_eq_true rfl) (Nat.le_of_ble_eq_true rfl) (List.Perm.refl _) ⟨rfl, rfl⟩
      · intro i hi_i ih
        show V E G A 6 [MO y 0 kn ln th, RW G (y 1) 70 s] 0 0 Q 51 [(0, .ref (y 0)), (1, .int (nI b)), (2, .int (nI (s (s 47)))), (3, .int (nI ((hq s i).1))), (4, .int (nI i))] []
        have hq10 := hq_le s i (by omega)
        have h6 := i6 i (by omega)
        refine V_iload (pc' := 53) 4 X dX6_whyMissed_51 rfl rfl ?_
        refine V_iload_n (pc' := 54) 1 X dX6_whyMissed_53 rfl rfl rfl ?_
        refine V_icmp_ge (pc' := 57) (C := b ≤ i) 123 X dX6_whyMissed_54 (by decide) rfl (nI_leI (by omega) (by omega)) (fun hz => absurd hz (by omega)) (fun _ => ?_)
        refine V_iload_n (pc' := 58) 2 X dX6_whyMissed_57 rfl rfl rfl ?_
        refine V_iload (pc' := 60) 4 X dX6_whyMissed_58 rfl rfl ?_
        refine V_ishr (pc' := 61) (nI ((s (s 47)) / 2 ^ i)) X dX6_whyMissed_60 (z_shr (by omega) (by omega)) rfl ?_
        refine V_iconst (pc' := 62) (nI 1) X dX6_whyMissed_61 ki_1 rfl ?_
        refine V_iand (pc' := 63) (nI (bq (s (s 47)) i)) X dX6_whyMissed_62 (z_and1 _) rfl ?_
        refine V_iconst (pc' := 64) (nI 1) X dX6_whyMissed_63 ki_1 rfl ?_
        refine V_icmp_ne (pc' := 67) (C := (bq (s (s 47)) i) = 1) 98 X dX6_whyMissed_64 (by decide) rfl (nI_eq (Nat.lt_trans (bq_lt _ _) (by decide)) (by decide)) (fun h64 => ?_) (fun h64 => ?_)
        · refine V_iconst (pc' := 99) (nI 0) X dX6_whyMissed_98 ki_0 rfl ?_
          refine V_istore (pc' := 101) [(0, .ref (y 0)), (1, .int (nI b)), (2, .int (nI (s (s 47)))), (3, .int (nI ((hq s i).1))), (4, .int (nI i)), (5, .int (nI 0))] [1, 2, 3, 4, 5, 0] X dX6_whyMissed_99 (Nat.le_of_ble_eq_true rfl) rfl rfl ?_
          refine V_iload_n (pc' := 102) 3 X dX6_whyMissed_101 rfl rfl rfl ?_
          refine V_iload (pc' := 104) 5 X dX6_whyMissed_102 rfl rfl ?_
          refine V_if_eq (pc' := 107) (C := 0 = 0) 114 X dX6_whyMissed_104 (by decide) rfl (z_eq0 (by omega)) (fun _ => ?_) (fun hz => absurd (by decide) hz)
          refine V_iconst (pc' := 115) (nI 0) X dX6_whyMissed_114 ki_0 rfl ?_
          refine V_ior (pc' := 116) (nI ((hq s i).1)) X dX6_whyMissed_115 (by rw [z_or, Nat.or_zero]) rfl ?_
          refine V_istore_n (pc' := 117) [(0, .ref (y 0)), (1, .int (nI b)), (2, .int (nI (s (s 47)))), (3, .int (nI ((hq s i).1))), (4, .int (nI i)), (5, .int (nI 0))] [1, 2, 3, 0, 4, 5] X dX6_whyMissed_116 rfl (Nat.le_of_ble_eq_true rfl) rfl rfl ?_
          refine V_iinc (pc' := 120) [(0, .ref (y 0)), (1, .int (nI b)), (2, .int (nI (s (s 47)))), (3, .int (nI ((hq s i).1))), (4, .int (nI (i + 1))), (5, .int (nI 0))] 4 [1, 2, 3, 4, 0, 5] X dX6_whyMissed_117 rfl (nI_i1 _) (Nat.le_of_ble_eq_true rfl) rfl rfl ?_
          refine V_goto (pc' := 51) X dX6_whyMissed_120 (by decide) ?_
          refine V_lv [0, 1, 2, 3, 4] [(0, .ref (y 0)), (1, .int (nI b)), (2, .int (nI (s (s 47)))), (3, .int (nI ((hq s i).1))), (4, .int (nI (i + 1)))] rfl ?_
          obtain ⟨hq1, _⟩ := hq_no hI (Nat.lt_trans hi_i hb) (Or.inl h64)
          rw [hq1] at ih
          exact ih
        · refine V_aload_n (pc' := 68) 0 X dX6_whyMissed_67 rfl rfl rfl ?_
          refine V_iload (pc' := 70) 4 X dX6_whyMissed_68 rfl rfl ?_
          refine V_iload_n (pc' := 71) 3 X dX6_whyMissed_70 rfl rfl rfl ?_
          refine V_aload_n (pc' := 72) 0 X dX6_whyMissed_71 rfl rfl rfl ?_
          refine V_get (pc' := 75) 0 X F7 rfl rfl dX6_whyMissed_72 rfl ?_
          refine V_bipush (pc' := 77) (nI 60) X dX6_whyMissed_75 kb_60 rfl ?_
          refine V_iload (pc' := 79) 4 X dX6_whyMissed_77 rfl rfl ?_
          refine V_iadd (pc' := 80) (nI (60 + i)) X dX6_whyMissed_79 (nI_add _ _) rfl ?_
          refine V_iald (pc' := 81) (v := nI (s (60 + i))) 1 (60 + i) X rfl (by omega) (by decide) rfl dX6_whyMissed_80 rfl ?_
          refine V_aload_n (pc' := 82) 0 X dX6_whyMissed_81 rfl rfl rfl ?_
          refine V_get (pc' := 85) 0 X F7 rfl rfl dX6_whyMissed_82 rfl ?_
          refine V_bipush (pc' := 87) (nI 46) X dX6_whyMissed_85 kb_46 rfl ?_
          refine V_iald (pc' := 88) (v := nI (s 46)) 1 46 X rfl (by omega) (by decide) rfl dX6_whyMissed_87 rfl ?_
          refine V_callV (pc' := 91) (As := [.int (nI i), .int (nI ((hq s i).1)), .int (nI (s (60 + i))), .int (nI (s 46))]) (st := []) 6 0 [0, 1] [] (show (List.range 2).Perm ([0, 1] ++ []) by decide) X (c_X6_missedFor l G y 0 kn ln th s hI i ((hq s i).1) (s (60 + i)) (s 46) (Nat.lt_trans hi_i hb) hq10 (Nat.lt_of_le_of_lt h6 (by decide)) (by omega)) rfl gX6_whyMissed_X6_missedFor rfl (by decide) rfl rfl rfl (Nat.le_of_ble_eq_true rfl) ⟨Nat.le_of_ble_eq_true rfl, Nat.le_of_ble_eq_true rfl⟩ ⟨Nat.le_of_ble_eq_true rfl, Nat.le_of_ble_eq_true rfl⟩ dX6_whyMissed_88 rfl (fun v_ u_ hp_ => ?_)
          obtain ⟨rfl, rfl⟩ := hp_
          show V E G A 6 [MO y 0 kn ln th, RW G (y 1) 70 s] 0 0 Q 91 [(0, .ref (y 0)), (1, .int (nI b)), (2, .int (nI (s (s 47)))), (3, .int (nI ((hq s i).1))), (4, .int (nI i))] [.int (nI (mfv s i ((hq s i).1) (s (60 + i)) (s 46)))]
          refine V_if_ne (pc' := 94) (C := (mfv s i ((hq s i).1) (s (60 + i)) (s 46)) = 0) 98 X dX6_whyMissed_91 (by decide) rfl (z_eq0 (Nat.lt_of_le_of_lt (mfv_le _ _ _ _ _) (by decide))) (fun h91 => ?_) (fun h91 => ?_)
          · refine V_iconst (pc' := 99) (nI 0) X dX6_whyMissed_98 ki_0 rfl ?_
            refine V_istore (pc' := 101) [(0, .ref (y 0)), (1, .int (nI b)), (2, .int (nI (s (s 47)))), (3, .int (nI ((hq s i).1))), (4, .int (nI i)), (5, .int (nI 0))] [1, 2, 3, 4, 5, 0] X dX6_whyMissed_99 (Nat.le_of_ble_eq_true rfl) rfl rfl ?_
            refine V_iload_n (pc' := 102) 3 X dX6_whyMissed_101 rfl rfl rfl ?_
            refine V_iload (pc' := 104) 5 X dX6_whyMissed_102 rfl rfl ?_
            refine V_if_eq (pc' := 107) (C := 0 = 0) 114 X dX6_whyMissed_104 (by decide) rfl (z_eq0 (by omega)) (fun _ => ?_) (fun hz => absurd (by decide) hz)
            refine V_iconst (pc' := 115) (nI 0) X dX6_whyMissed_114 ki_0 rfl ?_
            refine V_ior (pc' := 116) (nI ((hq s i).1)) X dX6_whyMissed_115 (by rw [z_or, Nat.or_zero]) rfl ?_
            refine V_istore_n (pc' := 117) [(0, .ref (y 0)), (1, .int (nI b)), (2, .int (nI (s (s 47)))), (3, .int (nI ((hq s i).1))), (4, .int (nI i)), (5, .int (nI 0))] [1, 2, 3, 0, 4, 5] X dX6_whyMissed_116 rfl (Nat.le_of_ble_eq_true rfl) rfl rfl ?_
            refine V_iinc (pc' := 120) [(0, .ref (y 0)), (1, .int (nI b)), (2, .int (nI (s (s 47)))), (3, .int (nI ((hq s i).1))), (4, .int (nI (i + 1))), (5, .int (nI 0))] 4 [1, 2, 3, 4, 0, 5] X dX6_whyMissed_117 rfl (nI_i1 _) (Nat.le_of_ble_eq_true rfl) rfl rfl ?_
            refine V_goto (pc' := 51) X dX6_whyMissed_120 (by decide) ?_
            refine V_lv [0, 1, 2, 3, 4] [(0, .ref (y 0)), (1, .int (nI b)), (2, .int (nI (s (s 47)))), (3, .int (nI ((hq s i).1))), (4, .int (nI (i + 1)))] rfl ?_
            obtain ⟨hq1, _⟩ := hq_no hI (Nat.lt_trans hi_i hb) (Or.inr h91)
            rw [hq1] at ih
            exact ih
          · refine V_iconst (pc' := 95) (nI 1) X dX6_whyMissed_94 ki_1 rfl ?_
            refine V_goto (pc' := 99) X dX6_whyMissed_95 (by decide) ?_
            refine V_istore (pc' := 101) [(0, .ref (y 0)), (1, .int (nI b)), (2, .int (nI (s (s 47)))), (3, .int (nI ((hq s i).1))), (4, .int (nI i)), (5, .int (nI 1))] [1, 2, 3, 4, 5, 0] X dX6_whyMissed_99 (Nat.le_of_ble_eq_true rfl) rfl rfl ?_
            refine V_iload_n (pc' := 102) 3 X dX6_whyMissed_101 rfl rfl rfl ?_
            refine V_iload (pc' := 104) 5 X dX6_whyMissed_102 rfl rfl ?_
            refine V_if_eq (pc' := 107) (C := 1 = 0) 114 X dX6_whyMissed_104 (by decide) rfl (z_eq0 (by omega)) (fun hz => absurd hz (by decide)) (fun _ => ?_)
            refine V_iconst (pc' := 108) (nI 1) X dX6_whyMissed_107 ki_1 rfl ?_
            refine V_iload (pc' := 110) 4 X dX6_whyMissed_108 rfl rfl ?_
            refine V_ishl (pc' := 111) (nI (2 ^ i)) X dX6_whyMissed_110 (z_shl1 (by omega)) rfl ?_
            refine V_goto (pc' := 115) X dX6_whyMissed_111 (by decide) ?_
            refine V_ior (pc' := 116) (nI ((hq s i).1 + 2 ^ i)) X dX6_whyMissed_115 (by rw [z_or]; exact congrArg nI (or_pow (hr_lt _ _ _ _ _))) rfl ?_
            refine V_istore_n (pc' := 117) [(0, .ref (y 0)), (1, .int (nI b)), (2, .int (nI (s (s 47)))), (3, .int (nI ((hq s i).1 + 2 ^ i))), (4, .int (nI i)), (5, .int (nI 1))] [1, 2, 3, 0, 4, 5] X dX6_whyMissed_116 rfl (Nat.le_of_ble_eq_true rfl) rfl rfl ?_
            refine V_iinc (pc' := 120) [(0, .ref (y 0)), (1, .int (nI b)), (2, .int (nI (s (s 47)))), (3, .int (nI ((hq s i).1 + 2 ^ i))), (4, .int (nI (i + 1))), (5, .int (nI 1))] 4 [1, 2, 3, 4, 0, 5] X dX6_whyMissed_117 rfl (nI_i1 _) (Nat.le_of_ble_eq_true rfl) rfl rfl ?_
            refine V_goto (pc' := 51) X dX6_whyMissed_120 (by decide) ?_
            refine V_lv [0, 1, 2, 3, 4] [(0, .ref (y 0)), (1, .int (nI b)), (2, .int (nI (s (s 47)))), (3, .int (nI ((hq s i).1 + 2 ^ i))), (4, .int (nI (i + 1)))] rfl ?_
            obtain ⟨hq1, _⟩ := hq_yes hI (Nat.lt_trans hi_i hb) h64 h91
            rw [hq1] at ih
            exact ih
    exact lp_1 0 (Nat.zero_le _)
  · refine V_iconst (pc' := 45) (nI 3) X dX6_whyMissed_44 ki_3 rfl ?_
    exact V_ireturn (v := nI 3) [MO y 0 kn ln th, RW G (y 1) 70 s] hQ X hrt rfl dX6_whyMissed_45 (Nat.le_of_ble_eq_true rfl) (Nat.le_of_ble_eq_true rfl) (List.Perm.refl _) ⟨by unfold why; rw [if_pos h41], rfl⟩

set_option maxHeartbeats 4000000 in
set_option maxRecDepth 100000 in
theorem c_X6_inRound (l : Launch) (G : gT) (y : Nat → Nat) (t kn ln th : Nat) (s : Nat → Nat) (hI : IV s) (g d : Nat → Nat) (c : Nat) (hc : c < 32) : CM l G yX6_inRound wsX6_inRound 4 95 1 [.ref (y 0), .int (nI c)] [MO y t kn ln th, RW G (y 1) 70 s, RW G (y 6) 10 g, RW G (y 7) 32 d] 0 0 (fun v u => v = some (.int (nI (rh 9 s (s 46) c))) ∧ ∃ g2, u = [MO y 0 kn ln (tv s (s 46) 32), RW G (y 1) 70 s, RW G (y 6) 10 g2, RW G (y 7) 32 (rh 9 s (s 46))]) := by
  refine CM_of RX6 3 74 rfl rfl (by decide) (by decide +kernel) (Nat.le_of_ble_eq_true rfl) (fun E A X hrt hnm => ?_)
  have F7 := Fld_of (idx := 7) 6 1 X (by decide) (by decide) (by decide +kernel) (by decide +kernel)
  have F29 := Fld_of (idx := 29) 6 9 X (by decide) (by decide) (by decide +kernel) (by decide +kernel)
  generalize hQ : QM E G A _ _ _ = Q
  obtain ⟨i1, i2, i3, i4, i5, i6⟩ := id hI
  show V E G A 2 [MO y t kn ln th, RW G (y 1) 70 s, RW G (y 6) 10 g, RW G (y 7) 32 d] 0 0 Q 0 [(0, .ref (y 0)), (1, .int (nI c))] []
  refine V_aload_n (pc' := 1) 0 X dX6_inRound_0 rfl rfl rfl ?_
  refine V_iload_n (pc' := 2) 1 X dX6_inRound_1 rfl rfl rfl ?_
  refine V_callS (pc' := 5) (As := [.int (nI c)]) (st := [.ref (y 0)]) [] [0, 1, 2, 3] (show (List.range 4).Perm ([] ++ [0, 1, 2, 3]) by decide) X (c_X6_isColumn1 l G c (by omega)) rfl gX6_inRound_X6_isColumn rfl rfl (Nat.le_of_ble_eq_true rfl) ⟨Nat.le_of_ble_eq_true rfl, Nat.le_of_ble_eq_true rfl⟩ ⟨Nat.le_of_ble_eq_true rfl, Nat.le_of_ble_eq_true rfl⟩ dX6_inRound_2 rfl (fun v_ u_ hp_ => ?_)
  obtain ⟨rfl, rfl⟩ := hp_
  show V E G A 2 [MO y t kn ln th, RW G (y 1) 70 s, RW G (y 6) 10 g, RW G (y 7) 32 d] 0 0 Q 5 [(0, .ref (y 0)), (1, .int (nI c))] [.int (nI 1), .ref (y 0)]
  refine V_if_eq (pc' := 8) (C := 1 = 0) 12 X dX6_inRound_5 (by decide) rfl (z_eq0 (by omega)) (fun hz => absurd hz (by decide)) (fun _ => ?_)
  refine V_iconst (pc' := 9) (nI 0) X dX6_inRound_8 ki_0 rfl ?_
  refine V_goto (pc' := 13) X dX6_inRound_9 (by decide) ?_
  refine V_callV (pc' := 16) (As := [.int (nI 0)]) (st := []) 6 0 [0] [1, 2, 3] (show (List.range 4).Perm ([0] ++ [1, 2, 3]) by decide) X (c_X6_holds0 l G y t kn ln th) rfl gX6_inRound_X6_holds rfl (by decide) rfl rfl rfl (Nat.le_of_ble_eq_true rfl) ⟨Nat.le_of_ble_eq_true rfl, Nat.le_of_ble_eq_true rfl⟩ ⟨Nat.le_of_ble_eq_true rfl, Nat.le_of_ble_eq_true rfl⟩ dX6_inRound_13 rfl (fun v_ u_ hp_ => ?_)
  obtain ⟨rfl, rfl⟩ := hp_
  show V E G A 2 [RW G (y 1) 70 s, RW G (y 6) 10 g, RW G (y 7) 32 d, MO y 0 kn ln th] 0 0 Q 16 [(0, .ref (y 0)), (1, .int (nI c))] [.int (nI 1)]
  refine V_ord [3, 0, 1, 2] [MO y 0 kn ln th, RW G (y 1) 70 s, RW G (y 6) 10 g, RW G (y 7) 32 d] (show (List.range 4).Perm [3, 0, 1, 2] by decide) rfl ?_
  refine V_if_ne (pc' := 19) (C := 1 = 0) 21 X dX6_inRound_16 (by decide) rfl (z_eq0 (by omega)) (fun _ => ?_) (fun hz => absurd hz (by decide))
  refine V_aload_n (pc' := 22) 0 X dX6_inRound_21 rfl rfl rfl ?_
  refine V_aload_n (pc' := 23) 0 X dX6_inRound_22 rfl rfl rfl ?_
  refine V_get (pc' := 26) 0 X F7 rfl rfl dX6_inRound_23 rfl ?_
  refine V_bipush (pc' := 28) (nI 46) X dX6_inRound_26 kb_46 rfl ?_
  refine V_iald (pc' := 29) (v := nI (s 46)) 1 46 X rfl (by omega) (by decide) rfl dX6_inRound_28 rfl ?_
  refine V_callV (pc' := 32) (As := [.int (nI (s 46))]) (st := []) 6 0 [0, 1, 2, 3] [] (show (List.range 4).Perm ([0, 1, 2, 3] ++ []) by decide) X (c_X6_rounds l G y 0 kn ln th s hI (s 46) (by omega) g d) rfl gX6_inRound_X6_rounds rfl (by decide) rfl rfl rfl (Nat.le_of_ble_eq_true rfl) ⟨Nat.le_of_ble_eq_true rfl, Nat.le_of_ble_eq_true rfl⟩ ⟨Nat.le_of_ble_eq_true rfl, Nat.le_of_ble_eq_true rfl⟩ dX6_inRound_29 rfl (fun v_ u_ hp_ => ?_)
  obtain ⟨rfl, g_1, rfl⟩ := hp_
  show V E G A 2 [MO y 0 kn ln (tv s (s 46) 32), RW G (y 1) 70 s, RW G (y 6) 10 g_1, RW G (y 7) 32 (rh 9 s (s 46))] 0 0 Q 32 [(0, .ref (y 0)), (1, .int (nI c))] []
  refine V_aload_n (pc' := 33) 0 X dX6_inRound_32 rfl rfl rfl ?_
  refine V_get (pc' := 36) 0 X F29 rfl rfl dX6_inRound_33 rfl ?_
  refine V_iload_n (pc' := 37) 1 X dX6_inRound_36 rfl rfl rfl ?_
  refine V_iald (pc' := 38) (v := nI ((rh 9 s (s 46)) c)) 3 c X rfl (by omega) (by decide) rfl dX6_inRound_37 rfl ?_
  exact V_ireturn (v := nI ((rh 9 s (s 46)) c)) [MO y 0 kn ln (tv s (s 46) 32), RW G (y 1) 70 s, RW G (y 6) 10 g_1, RW G (y 7) 32 (rh 9 s (s 46))] hQ X hrt rfl dX6_inRound_38 (Nat.le_of_ble_eq_true rfl) (Nat.le_of_ble_eq_true rfl) (List.Perm.refl _) ⟨rfl, _, rfl⟩

set_option maxHeartbeats 4000000 in
set_option maxRecDepth 100000 in
theorem c_X6_heardOfRound (l : Launch) (G : gT) (y : Nat → Nat) (t kn ln th : Nat) (s : Nat → Nat) (hI : IV s) (g d : Nat → Nat) : CM l G yX6_heardOfRound wsX6_heardOfRound 4 96 0 [.ref (y 0)] [MO y t kn ln th, RW G (y 1) 70 s, RW G (y 6) 10 g, RW G (y 7) 32 d] 0 0 (fun v u => v = some (.int (nI (sm (fun k => cnt (rh 9 s (s 46) k)) 32))) ∧ ∃ g2, u = [MO y t kn ln (tv s (s 46) 32), RW G (y 1) 70 s, RW G (y 6) 10 g2, RW G (y 7) 32 (rh 9 s (s 46))]) := by
  refine CM_of RX6 3 74 rfl rfl (by decide) (by decide +kernel) (Nat.le_of_ble_eq_true rfl) (fun E A X hrt hnm => ?_)
  have F7 := Fld_of (idx := 7) 6 1 X (by decide) (by decide) (by decide +kernel) (by decide +kernel)
  have F29 := Fld_of (idx := 29) 6 9 X (by decide) (by decide) (by decide +kernel) (by decide +kernel)
  generalize hQ : QM E G A _ _ _ = Q
  obtain ⟨i1, i2, i3, i4, i5, i6⟩ := id hI
  show V E G A 3 [MO y t kn ln th, RW G (y 1) 70 s, RW G (y 6) 10 g, RW G (y 7) 32 d] 0 0 Q 0 [(0, .ref (y 0))] []
  refine V_aload_n (pc' := 1) 0 X dX6_heardOfRound_0 rfl rfl rfl ?_
  refine V_aload_n (pc' := 2) 0 X dX6_heardOfRound_1 rfl rfl rfl ?_
  refine V_get (pc' := 5) 0 X F7 rfl rfl dX6_heardOfRound_2 rfl ?_
  refine V_bipush (pc' := 7) (nI 46) X dX6_heardOfRound_5 kb_46 rfl ?_
  refine V_iald (pc' := 8) (v := nI (s 46)) 1 46 X rfl (by omega) (by decide) rfl dX6_heardOfRound_7 rfl ?_
  refine V_callV (pc' := 11) (As := [.int (nI (s 46))]) (st := []) 6 0 [0, 1, 2, 3] [] (show (List.range 4).Perm ([0, 1, 2, 3] ++ []) by decide) X (c_X6_rounds l G y t kn ln th s hI (s 46) (by omega) g d) rfl gX6_heardOfRound_X6_rounds rfl (by decide) rfl rfl rfl (Nat.le_of_ble_eq_true rfl) ⟨Nat.le_of_ble_eq_true rfl, Nat.le_of_ble_eq_true rfl⟩ ⟨Nat.le_of_ble_eq_true rfl, Nat.le_of_ble_eq_true rfl⟩ dX6_heardOfRound_8 rfl (fun v_ u_ hp_ => ?_)
  obtain ⟨rfl, g_1, rfl⟩ := hp_
  show V E G A 3 [MO y t kn ln (tv s (s 46) 32), RW G (y 1) 70 s, RW G (y 6) 10 g_1, RW G (y 7) 32 (rh 9 s (s 46))] 0 0 Q 11 [(0, .ref (y 0))] []
  refine V_iconst (pc' := 12) (nI 0) X dX6_heardOfRound_11 ki_0 rfl ?_
  refine V_istore_n (pc' := 13) [(0, .ref (y 0)), (1, .int (nI 0))] [1, 0] X dX6_heardOfRound_12 rfl (Nat.le_of_ble_eq_true rfl) rfl rfl ?_
  refine V_iconst (pc' := 14) (nI 0) X dX6_heardOfRound_13 ki_0 rfl ?_
  refine V_istore_n (pc' := 15) [(0, .ref (y 0)), (1, .int (nI 0)), (2, .int (nI 0))] [1, 2, 0] X dX6_heardOfRound_14 rfl (Nat.le_of_ble_eq_true rfl) rfl rfl ?_
  have lp_2 : ∀ i, i ≤ 32 → V E G A 3 [MO y t kn ln (tv s (s 46) 32), RW G (y 1) 70 s, RW G (y 6) 10 g_1, RW G (y 7) 32 (rh 9 s (s 46))] 0 0 Q 15 [(0, .ref (y 0)), (1, .int (nI (sm (fun k => cnt (rh 9 s (s 46) k)) i))), (2, .int (nI i))] [] := by
    refine loopD 32 ?_ ?_
    · show V E G A 3 [MO y t kn ln (tv s (s 46) 32), RW G (y 1) 70 s, RW G (y 6) 10 g_1, RW G (y 7) 32 (rh 9 s (s 46))] 0 0 Q 15 [(0, .ref (y 0)), (1, .int (nI (sm (fun k => cnt (rh 9 s (s 46) k)) 32))), (2, .int (nI 32))] []
      refine V_iload_n (pc' := 16) 2 X dX6_heardOfRound_15 rfl rfl rfl ?_
      refine V_bipush (pc' := 18) (nI 32) X dX6_heardOfRound_16 kb_32 rfl ?_
      refine V_icmp_ge (pc' := 21) (C := 32 ≤ 32) 39 X dX6_heardOfRound_18 (by decide) rfl (nI_leI (by omega) (by omega)) (fun _ => ?_) (fun hz => absurd (by omega) hz)
      refine V_iload_n (pc' := 40) 1 X dX6_heardOfRound_39 rfl rfl rfl ?_
      exact V_ireturn (v := nI (sm (fun k => cnt (rh 9 s (s 46) k)) 32)) [MO y t kn ln (tv s (s 46) 32), RW G (y 1) 70 s, RW G (y 6) 10 g_1, RW G (y 7) 32 (rh 9 s (s 46))] hQ X hrt rfl dX6_heardOfRound_40 (Nat.le_of_ble_eq_true rfl) (Nat.le_of_ble_eq_true rfl) (List.Perm.refl _) ⟨rfl, _, rfl⟩
    · intro i hi_i ih
      show V E G A 3 [MO y t kn ln (tv s (s 46) 32), RW G (y 1) 70 s, RW G (y 6) 10 g_1, RW G (y 7) 32 (rh 9 s (s 46))] 0 0 Q 15 [(0, .ref (y 0)), (1, .int (nI (sm (fun k => cnt (rh 9 s (s 46) k)) i))), (2, .int (nI i))] []
      refine V_iload_n (pc' := 16) 2 X dX6_heardOfRound_15 rfl rfl rfl ?_
      refine V_bipush (pc' := 18) (nI 32) X dX6_heardOfRound_16 kb_32 rfl ?_
      refine V_icmp_ge (pc' := 21) (C := 32 ≤ i) 39 X dX6_heardOfRound_18 (by decide) rfl (nI_leI (by omega) (by omega)) (fun hz => absurd hz (by omega)) (fun _ => ?_)
      refine V_iload_n (pc' := 22) 1 X dX6_heardOfRound_21 rfl rfl rfl ?_
      refine V_aload_n (pc' := 23) 0 X dX6_heardOfRound_22 rfl rfl rfl ?_
      refine V_get (pc' := 26) 0 X F29 rfl rfl dX6_heardOfRound_23 rfl ?_
      refine V_iload_n (pc' := 27) 2 X dX6_heardOfRound_26 rfl rfl rfl ?_
      refine V_iald (pc' := 28) (v := nI ((rh 9 s (s 46)) i)) 3 i X rfl (by omega) (by decide) rfl dX6_heardOfRound_27 rfl ?_
      refine V_callS (pc' := 31) (As := [.int (nI ((rh 9 s (s 46)) i))]) (st := [.int (nI (sm (fun k => cnt (rh 9 s (s 46) k)) i))]) [] [0, 1, 2, 3] (show (List.range 4).Perm ([] ++ [0, 1, 2, 3]) by decide) X (c_X6_count l G ((rh 9 s (s 46)) i) (Nat.lt_trans (rh_lt _ _ _ _) (by decide))) rfl gX6_heardOfRound_X6_count rfl rfl (Nat.le_of_ble_eq_true rfl) ⟨Nat.le_of_ble_eq_true rfl, Nat.le_of_ble_eq_true rfl⟩ ⟨Nat.le_of_ble_eq_true rfl, Nat.le_of_ble_eq_true rfl⟩ dX6_heardOfRound_28 rfl (fun v_ u_ hp_ => ?_)
      obtain ⟨rfl, rfl⟩ := hp_
      show V E G A 3 [MO y t kn ln (tv s (s 46) 32), RW G (y 1) 70 s, RW G (y 6) 10 g_1, RW G (y 7) 32 (rh 9 s (s 46))] 0 0 Q 31 [(0, .ref (y 0)), (1, .int (nI (sm (fun k => cnt (rh 9 s (s 46) k)) i))), (2, .int (nI i))] [.int (nI (cnt ((rh 9 s (s 46)) i))), .int (nI (sm (fun k => cnt (rh 9 s (s 46) k)) i))]
      refine V_iadd (pc' := 32) (nI ((sm (fun k => cnt (rh 9 s (s 46) k)) i) + (cnt ((rh 9 s (s 46)) i)))) X dX6_heardOfRound_31 (nI_add _ _) rfl ?_
      refine V_istore_n (pc' := 33) [(0, .ref (y 0)), (1, .int (nI ((sm (fun k => cnt (rh 9 s (s 46) k)) i) + (cnt ((rh 9 s (s 46)) i))))), (2, .int (nI i))] [1, 0, 2] X dX6_heardOfRound_32 rfl (Nat.le_of_ble_eq_true rfl) rfl rfl ?_
      refine V_iinc (pc' := 36) [(0, .ref (y 0)), (1, .int (nI ((sm (fun k => cnt (rh 9 s (s 46) k)) i) + (cnt ((rh 9 s (s 46)) i))))), (2, .int (nI (i + 1)))] 2 [1, 2, 0] X dX6_heardOfRound_33 rfl (nI_i1 _) (Nat.le_of_ble_eq_true rfl) rfl rfl ?_
      refine V_goto (pc' := 15) X dX6_heardOfRound_36 (by decide) ?_
      exact ih
  exact lp_2 0 (Nat.zero_le _)

set_option maxHeartbeats 4000000 in
set_option maxRecDepth 100000 in
theorem c_X6_heardInRound (l : Launch) (G : gT) (y : Nat → Nat) (t kn ln th : Nat) (s : Nat → Nat) (hI : IV s) (g d : Nat → Nat) (b : Nat) (hb : b < 2) : CM l G yX6_heardInRound wsX6_heardInRound 5 117 1 [.ref (y 0), .int (nI b)] [MO y t kn ln th, RW G (y 1) 70 s, RW G (y 6) 10 g, RW G (y 7) 32 d] 0 0 (fun v u => v = some (.int (nI (sm (fun k => cnt (rh 9 s (s 46) k)) 32))) ∧ ∃ g2, u = [MO y 0 kn ln (tv s (s 46) 32), RW G (y 1) 70 s, RW G (y 6) 10 g2, RW G (y 7) 32 (rh 9 s (s 46))]) := by
  refine CM_of RX6 4 96 rfl rfl (by decide) (by decide +kernel) (Nat.le_of_ble_eq_true rfl) (fun E A X hrt hnm => ?_)
  have F32 := Fld_of (idx := 32) 6 0 X (by decide) (by decide) (by decide +kernel) (by decide +kernel)
  generalize hQ : QM E G A _ _ _ = Q
  obtain ⟨i1, i2, i3, i4, i5, i6⟩ := id hI
  show V E G A 2 [MO y t kn ln th, RW G (y 1) 70 s, RW G (y 6) 10 g, RW G (y 7) 32 d] 0 0 Q 0 [(0, .ref (y 0)), (1, .int (nI b))] []
  refine V_aload_n (pc' := 1) 0 X dX6_heardInRound_0 rfl rfl rfl ?_
  refine V_iconst (pc' := 2) (nI 0) X dX6_heardInRound_1 ki_0 rfl ?_
  refine V_ws [[((y 0), .inr (6, [.int (nI t), .ref (y 1), .ref (y 2), .ref (y 3), .ref (y 4), .int (nI kn), .ref (y 5), .int (nI ln), .ref (y 6), .ref (y 7), .int (nI th)]))], RW G (y 1) 70 s, RW G (y 6) 10 g, RW G (y 7) 32 d] rfl ?_
  refine V_put (pc' := 5) 0 [[((y 0), .inr (6, [.int (nI 0), .ref (y 1), .ref (y 2), .ref (y 3), .ref (y 4), .int (nI kn), .ref (y 5), .int (nI ln), .ref (y 6), .ref (y 7), .int (nI th)]))], RW G (y 1) 70 s, RW G (y 6) 10 g, RW G (y 7) 32 d] X F32 rfl rfl rfl rfl (Nat.le_of_ble_eq_true rfl) rfl dX6_heardInRound_2 rfl ?_
  refine V_aload_n (pc' := 6) 0 X dX6_heardInRound_5 rfl rfl rfl ?_
  refine V_callV (pc' := 9) (As := []) (st := []) 6 0 [0, 1, 2, 3] [] (show (List.range 4).Perm ([0, 1, 2, 3] ++ []) by decide) X (c_X6_heardOfRound l G y 0 kn ln th s hI g d) rfl gX6_heardInRound_X6_heardOfRound rfl (by decide) rfl rfl rfl (Nat.le_of_ble_eq_true rfl) ⟨Nat.le_of_ble_eq_true rfl, Nat.le_of_ble_eq_true rfl⟩ ⟨Nat.le_of_ble_eq_true rfl, Nat.le_of_ble_eq_true rfl⟩ dX6_heardInRound_6 rfl (fun v_ u_ hp_ => ?_)
  obtain ⟨rfl, g_1, rfl⟩ := hp_
  show V E G A 2 [MO y 0 kn ln (tv s (s 46) 32), RW G (y 1) 70 s, RW G (y 6) 10 g_1, RW G (y 7) 32 (rh 9 s (s 46))] 0 0 Q 9 [(0, .ref (y 0)), (1, .int (nI b))] [.int (nI (sm (fun k => cnt (rh 9 s (s 46) k)) 32))]
  exact V_ireturn (v := nI (sm (fun k => cnt (rh 9 s (s 46) k)) 32)) [MO y 0 kn ln (tv s (s 46) 32), RW G (y 1) 70 s, RW G (y 6) 10 g_1, RW G (y 7) 32 (rh 9 s (s 46))] hQ X hrt rfl dX6_heardInRound_9 (Nat.le_of_ble_eq_true rfl) (Nat.le_of_ble_eq_true rfl) (List.Perm.refl _) ⟨rfl, _, rfl⟩

set_option maxHeartbeats 4000000 in
set_option maxRecDepth 100000 in
theorem c_X6_missedInRound (l : Launch) (G : gT) (y : Nat → Nat) (t kn ln th : Nat) (s : Nat → Nat) (hI : IV s) (g d : Nat → Nat) : CM l G yX6_missedInRound wsX6_missedInRound 5 116 0 [.ref (y 0)] [MO y t kn ln th, RW G (y 1) 70 s, RW G (y 6) 10 g, RW G (y 7) 32 d] 0 0 (fun v u => v = some (.int (nI (sm (fun k => cnt (s k)) 32 - sm (fun k => cnt (rh 9 s (s 46) k)) 32))) ∧ ∃ g2, u = [MO y 0 kn ln (tv s (s 46) 32), RW G (y 1) 70 s, RW G (y 6) 10 g2, RW G (y 7) 32 (rh 9 s (s 46))]) := by
  refine CM_of RX6 4 96 rfl rfl (by decide) (by decide +kernel) (Nat.le_of_ble_eq_true rfl) (fun E A X hrt hnm => ?_)
  have F32 := Fld_of (idx := 32) 6 0 X (by decide) (by decide) (by decide +kernel) (by decide +kernel)
  generalize hQ : QM E G A _ _ _ = Q
  obtain ⟨i1, i2, i3, i4, i5, i6⟩ := id hI
  show V E G A 1 [MO y t kn ln th, RW G (y 1) 70 s, RW G (y 6) 10 g, RW G (y 7) 32 d] 0 0 Q 0 [(0, .ref (y 0))] []
  refine V_aload_n (pc' := 1) 0 X dX6_missedInRound_0 rfl rfl rfl ?_
  refine V_iconst (pc' := 2) (nI 0) X dX6_missedInRound_1 ki_0 rfl ?_
  refine V_ws [[((y 0), .inr (6, [.int (nI t), .ref (y 1), .ref (y 2), .ref (y 3), .ref (y 4), .int (nI kn), .ref (y 5), .int (nI ln), .ref (y 6), .ref (y 7), .int (nI th)]))], RW G (y 1) 70 s, RW G (y 6) 10 g, RW G (y 7) 32 d] rfl ?_
  refine V_put (pc' := 5) 0 [[((y 0), .inr (6, [.int (nI 0), .ref (y 1), .ref (y 2), .ref (y 3), .ref (y 4), .int (nI kn), .ref (y 5), .int (nI ln), .ref (y 6), .ref (y 7), .int (nI th)]))], RW G (y 1) 70 s, RW G (y 6) 10 g, RW G (y 7) 32 d] X F32 rfl rfl rfl rfl (Nat.le_of_ble_eq_true rfl) rfl dX6_missedInRound_2 rfl ?_
  refine V_aload_n (pc' := 6) 0 X dX6_missedInRound_5 rfl rfl rfl ?_
  refine V_callV (pc' := 9) (As := []) (st := []) 6 0 [0, 1] [2, 3] (show (List.range 4).Perm ([0, 1] ++ [2, 3]) by decide) X (c_X6_allPegs l G y 0 kn ln th s hI) rfl gX6_missedInRound_X6_allPegs rfl (by decide) rfl rfl rfl (Nat.le_of_ble_eq_true rfl) ⟨Nat.le_of_ble_eq_true rfl, Nat.le_of_ble_eq_true rfl⟩ ⟨Nat.le_of_ble_eq_true rfl, Nat.le_of_ble_eq_true rfl⟩ dX6_missedInRound_6 rfl (fun v_ u_ hp_ => ?_)
  obtain ⟨rfl, rfl⟩ := hp_
  show V E G A 1 [RW G (y 6) 10 g, RW G (y 7) 32 d, MO y 0 kn ln th, RW G (y 1) 70 s] 0 0 Q 9 [(0, .ref (y 0))] [.int (nI (sm (fun k => cnt (s k)) 32))]
  refine V_ord [2, 3, 0, 1] [MO y 0 kn ln th, RW G (y 1) 70 s, RW G (y 6) 10 g, RW G (y 7) 32 d] (show (List.range 4).Perm [2, 3, 0, 1] by decide) rfl ?_
  refine V_aload_n (pc' := 10) 0 X dX6_missedInRound_9 rfl rfl rfl ?_
  refine V_callV (pc' := 13) (As := []) (st := [.int (nI (sm (fun k => cnt (s k)) 32))]) 6 0 [0, 1, 2, 3] [] (show (List.range 4).Perm ([0, 1, 2, 3] ++ []) by decide) X (c_X6_heardOfRound l G y 0 kn ln th s hI g d) rfl gX6_missedInRound_X6_heardOfRound rfl (by decide) rfl rfl rfl (Nat.le_of_ble_eq_true rfl) ⟨Nat.le_of_ble_eq_true rfl, Nat.le_of_ble_eq_true rfl⟩ ⟨Nat.le_of_ble_eq_true rfl, Nat.le_of_ble_eq_true rfl⟩ dX6_missedInRound_10 rfl (fun v_ u_ hp_ => ?_)
  obtain ⟨rfl, g_1, rfl⟩ := hp_
  show V E G A 1 [MO y 0 kn ln (tv s (s 46) 32), RW G (y 1) 70 s, RW G (y 6) 10 g_1, RW G (y 7) 32 (rh 9 s (s 46))] 0 0 Q 13 [(0, .ref (y 0))] [.int (nI (sm (fun k => cnt (rh 9 s (s 46) k)) 32)), .int (nI (sm (fun k => cnt (s k)) 32))]
  refine V_isub (pc' := 14) (nI ((sm (fun k => cnt (s k)) 32) - (sm (fun k => cnt (rh 9 s (s 46) k)) 32))) X dX6_missedInRound_13 (pk_sub (sm_cnt_mono (fun k i => hr_bq _ _ _ _ 10 i) 32)) rfl ?_
  exact V_ireturn (v := nI ((sm (fun k => cnt (s k)) 32) - (sm (fun k => cnt (rh 9 s (s 46) k)) 32))) [MO y 0 kn ln (tv s (s 46) 32), RW G (y 1) 70 s, RW G (y 6) 10 g_1, RW G (y 7) 32 (rh 9 s (s 46))] hQ X hrt rfl dX6_missedInRound_14 (Nat.le_of_ble_eq_true rfl) (Nat.le_of_ble_eq_true rfl) (List.Perm.refl _) ⟨rfl, _, rfl⟩

set_option maxHeartbeats 4000000 in
set_option maxRecDepth 100000 in
theorem c_X6_busiest (l : Launch) (G : gT) (y : Nat → Nat) (t kn ln th : Nat) (s : Nat → Nat) (hI : IV s) (g d : Nat → Nat) : CM l G yX6_busiest wsX6_busiest 4 99 0 [.ref (y 0)] [MO y t kn ln th, RW G (y 1) 70 s, RW G (y 6) 10 g, RW G (y 7) 32 d] 0 0 (fun v u => v = some (.int (rN (bz (fun k => sm (fun j => bq (rh 9 s (s 46) j) k) 32) 10).1)) ∧ ∃ g2, u = [MO y 0 kn ln (tv s (s 46) 32), RW G (y 1) 70 s, RW G (y 6) 10 g2, RW G (y 7) 32 (rh 9 s (s 46))]) := by
  refine CM_of RX6 3 74 rfl rfl (by decide) (by decide +kernel) (Nat.le_of_ble_eq_true rfl) (fun E A X hrt hnm => ?_)
  have F7 := Fld_of (idx := 7) 6 1 X (by decide) (by decide) (by decide +kernel) (by decide +kernel)
  have F29 := Fld_of (idx := 29) 6 9 X (by decide) (by decide) (by decide +kernel) (by decide +kernel)
  have F32 := Fld_of (idx := 32) 6 0 X (by decide) (by decide) (by decide +kernel) (by decide +kernel)
  generalize hQ : QM E G A _ _ _ = Q
  obtain ⟨i1, i2, i3, i4, i5, i6⟩ := id hI
  show V E G A 6 [MO y t kn ln th, RW G (y 1) 70 s, RW G (y 6) 10 g, RW G (y 7) 32 d] 0 0 Q 0 [(0, .ref (y 0))] []
  refine V_aload_n (pc' := 1) 0 X dX6_busiest_0 rfl rfl rfl ?_
  refine V_iconst (pc' := 2) (nI 0) X dX6_busiest_1 ki_0 rfl ?_
  refine V_ws [[((y 0), .inr (6, [.int (nI t), .ref (y 1), .ref (y 2), .ref (y 3), .ref (y 4), .int (nI kn), .ref (y 5), .int (nI ln), .ref (y 6), .ref (y 7), .int (nI th)]))], RW G (y 1) 70 s, RW G (y 6) 10 g, RW G (y 7) 32 d] rfl ?_
  refine V_put (pc' := 5) 0 [[((y 0), .inr (6, [.int (nI 0), .ref (y 1), .ref (y 2), .ref (y 3), .ref (y 4), .int (nI kn), .ref (y 5), .int (nI ln), .ref (y 6), .ref (y 7), .int (nI th)]))], RW G (y 1) 70 s, RW G (y 6) 10 g, RW G (y 7) 32 d] X F32 rfl rfl rfl rfl (Nat.le_of_ble_eq_true rfl) rfl dX6_busiest_2 rfl ?_
  refine V_aload_n (pc' := 6) 0 X dX6_busiest_5 rfl rfl rfl ?_
  refine V_aload_n (pc' := 7) 0 X dX6_busiest_6 rfl rfl rfl ?_
  refine V_get (pc' := 10) 0 X F7 rfl rfl dX6_busiest_7 rfl ?_
  refine V_bipush (pc' := 12) (nI 46) X dX6_busiest_10 kb_46 rfl ?_
  refine V_iald (pc' := 13) (v := nI (s 46)) 1 46 X rfl (by omega) (by decide) rfl dX6_busiest_12 rfl ?_
  refine V_callV (pc' := 16) (As := [.int (nI (s 46))]) (st := []) 6 0 [0, 1, 2, 3] [] (show (List.range 4).Perm ([0, 1, 2, 3] ++ []) by decide) X (c_X6_rounds l G y 0 kn ln th s hI (s 46) (by omega) g d) rfl gX6_busiest_X6_rounds rfl (by decide) rfl rfl rfl (Nat.le_of_ble_eq_true rfl) ⟨Nat.le_of_ble_eq_true rfl, Nat.le_of_ble_eq_true rfl⟩ ⟨Nat.le_of_ble_eq_true rfl, Nat.le_of_ble_eq_true rfl⟩ dX6_busiest_13 rfl (fun v_ u_ hp_ => ?_)
  obtain ⟨rfl, g_1, rfl⟩ := hp_
  show V E G A 6 [MO y 0 kn ln (tv s (s 46) 32), RW G (y 1) 70 s, RW G (y 6) 10 g_1, RW G (y 7) 32 (rh 9 s (s 46))] 0 0 Q 16 [(0, .ref (y 0))] []
  refine V_iconst (pc' := 17) (-1) X dX6_busiest_16 rfl rfl ?_
  refine V_istore_n (pc' := 18) [(0, .ref (y 0)), (1, .int (-1))] [1, 0] X dX6_busiest_17 rfl (Nat.le_of_ble_eq_true rfl) rfl rfl ?_
  refine V_iconst (pc' := 19) (nI 0) X dX6_busiest_18 ki_0 rfl ?_
  refine V_istore_n (pc' := 20) [(0, .ref (y 0)), (1, .int (-1)), (2, .int (nI 0))] [1, 2, 0] X dX6_busiest_19 rfl (Nat.le_of_ble_eq_true rfl) rfl rfl ?_
  refine V_iconst (pc' := 21) (nI 0) X dX6_busiest_20 ki_0 rfl ?_
  refine V_istore_n (pc' := 22) [(0, .ref (y 0)), (1, .int (-1)), (2, .int (nI 0)), (3, .int (nI 0))] [1, 2, 3, 0] X dX6_busiest_21 rfl (Nat.le_of_ble_eq_true rfl) rfl rfl ?_
  have lp_2 : ∀ i, i ≤ 10 → V E G A 6 [MO y 0 kn ln (tv s (s 46) 32), RW G (y 1) 70 s, RW G (y 6) 10 g_1, RW G (y 7) 32 (rh 9 s (s 46))] 0 0 Q 22 [(0, .ref (y 0)), (1, .int (rN (bz (fun k => sm (fun j => bq (rh 9 s (s 46) j) k) 32) i).1)), (2, .int (nI ((bz (fun k => sm (fun j => bq (rh 9 s (s 46) j) k) 32) i).2))), (3, .int (nI i))] [] := by
    refine loopD 10 ?_ ?_
    · show V E G A 6 [MO y 0 kn ln (tv s (s 46) 32), RW G (y 1) 70 s, RW G (y 6) 10 g_1, RW G (y 7) 32 (rh 9 s (s 46))] 0 0 Q 22 [(0, .ref (y 0)), (1, .int (rN (bz (fun k => sm (fun j => bq (rh 9 s (s 46) j) k) 32) 10).1)), (2, .int (nI ((bz (fun k => sm (fun j => bq (rh 9 s (s 46) j) k) 32) 10).2))), (3, .int (nI 10))] []
      refine V_iload_n (pc' := 23) 3 X dX6_busiest_22 rfl rfl rfl ?_
      refine V_bipush (pc' := 25) (nI 10) X dX6_busiest_23 kb_10 rfl ?_
      refine V_icmp_ge (pc' := 28) (C := 10 ≤ 10) 94 X dX6_busiest_25 (by decide) rfl (nI_leI (by omega) (by omega)) (fun _ => ?_) (fun hz => absurd (by omega) hz)
      refine V_iload_n (pc' := 95) 1 X dX6_busiest_94 rfl rfl rfl ?_
      exact V_ireturn (v := (rN (bz (fun k => sm (fun j => bq (rh 9 s (s 46) j) k) 32) 10).1)) [MO y 0 kn ln (tv s (s 46) 32), RW G (y 1) 70 s, RW G (y 6) 10 g_1, RW G (y 7) 32 (rh 9 s (s 46))] hQ X hrt rfl dX6_busiest_95 (Nat.le_of_ble_eq_true rfl) (Nat.le_of_ble_eq_true rfl) (List.Perm.refl _) ⟨rfl, _, rfl⟩
    · intro i hi_i ih
      show V E G A 6 [MO y 0 kn ln (tv s (s 46) 32), RW G (y 1) 70 s, RW G (y 6) 10 g_1, RW G (y 7) 32 (rh 9 s (s 46))] 0 0 Q 22 [(0, .ref (y 0)), (1, .int (rN (bz (fun k => sm (fun j => bq (rh 9 s (s 46) j) k) 32) i).1)), (2, .int (nI ((bz (fun k => sm (fun j => bq (rh 9 s (s 46) j) k) 32) i).2))), (3, .int (nI i))] []
      have hbz := bz_le (t := (fun k => sm (fun j => bq (rh 9 s (s 46) j) k) 32)) (c := 32) (fun b => sm_bq_le _ b 32) i
      have hti : sm (fun j => bq (rh 9 s (s 46) j) i) 32 ≤ 32 := (fun b => sm_bq_le _ b 32) i
      refine V_iload_n (pc' := 23) 3 X dX6_busiest_22 rfl rfl rfl ?_
      refine V_bipush (pc' := 25) (nI 10) X dX6_busiest_23 kb_10 rfl ?_
      refine V_icmp_ge (pc' := 28) (C := 10 ≤ i) 94 X dX6_busiest_25 (by decide) rfl (nI_leI (by omega) (by omega)) (fun hz => absurd hz (by omega)) (fun _ => ?_)
      refine V_iconst (pc' := 29) (nI 0) X dX6_busiest_28 ki_0 rfl ?_
      refine V_istore (pc' := 31) [(0, .ref (y 0)), (1, .int (rN (bz (fun k => sm (fun j => bq (rh 9 s (s 46) j) k) 32) i).1)), (2, .int (nI ((bz (fun k => sm (fun j => bq (rh 9 s (s 46) j) k) 32) i).2))), (3, .int (nI i)), (4, .int (nI 0))] [1, 2, 3, 4, 0] X dX6_busiest_29 (Nat.le_of_ble_eq_true rfl) rfl rfl ?_
      refine V_iconst (pc' := 32) (nI 0) X dX6_busiest_31 ki_0 rfl ?_
      refine V_istore (pc' := 34) [(0, .ref (y 0)), (1, .int (rN (bz (fun k => sm (fun j => bq (rh 9 s (s 46) j) k) 32) i).1)), (2, .int (nI ((bz (fun k => sm (fun j => bq (rh 9 s (s 46) j) k) 32) i).2))), (3, .int (nI i)), (4, .int (nI 0)), (5, .int (nI 0))] [1, 2, 3, 4, 5, 0] X dX6_busiest_32 (Nat.le_of_ble_eq_true rfl) rfl rfl ?_
      have lp_3 : ∀ j, j ≤ 32 → V E G A 6 [MO y 0 kn ln (tv s (s 46) 32), RW G (y 1) 70 s, RW G (y 6) 10 g_1, RW G (y 7) 32 (rh 9 s (s 46))] 0 0 Q 34 [(0, .ref (y 0)), (1, .int (rN (bz (fun k => sm (fun j => bq (rh 9 s (s 46) j) k) 32) i).1)), (2, .int (nI ((bz (fun k => sm (fun j => bq (rh 9 s (s 46) j) k) 32) i).2))), (3, .int (nI i)), (4, .int (nI (sm (fun j => bq (rh 9 s (s 46) j) i) j))), (5, .int (nI j))] [] := by
        refine loopD 32 ?_ ?_
        · show V E G A 6 [MO y 0 kn ln (tv s (s 46) 32), RW G (y 1) 70 s, RW G (y 6) 10 g_1, RW G (y 7) 32 (rh 9 s (s 46))] 0 0 Q 34 [(0, .ref (y 0)), (1, .int (rN (bz (fun k => sm (fun j => bq (rh 9 s (s 46) j) k) 32) i).1)), (2, .int (nI ((bz (fun k => sm (fun j => bq (rh 9 s (s 46) j) k) 32) i).2))), (3, .int (nI i)), (4, .int (nI (sm (fun j => bq (rh 9 s (s 46) j) i) 32))), (5, .int (nI 32))] []
          refine V_iload (pc' := 36) 5 X dX6_busiest_34 rfl rfl ?_
          refine V_bipush (pc' := 38) (nI 32) X dX6_busiest_36 kb_32 rfl ?_
          refine V_icmp_ge (pc' := 41) (C := 32 ≤ 32) 63 X dX6_busiest_38 (by decide) rfl (nI_leI (by omega) (by omega)) (fun _ => ?_) (fun hz => absurd (by omega) hz)
          refine V_iload (pc' := 65) 4 X dX6_busiest_63 rfl rfl ?_
          refine V_iload_n (pc' := 66) 2 X dX6_busiest_65 rfl rfl rfl ?_
          refine V_icmp_le (pc' := 69) (C := (sm (fun j => bq (rh 9 s (s 46) j) i) 32) ≤ ((bz (fun k => sm (fun j => bq (rh 9 s (s 46) j) k) 32) i).2)) 73 X dX6_busiest_66 (by decide) rfl (nI_leI (by omega) (by omega)) (fun h66 => ?_) (fun h66 => ?_)
          · refine V_iload_n (pc' := 74) 1 X dX6_busiest_73 rfl rfl rfl ?_
            refine V_istore_n (pc' := 75) [(0, .ref (y 0)), (1, .int (rN (bz (fun k => sm (fun j => bq (rh 9 s (s 46) j) k) 32) i).1)), (2, .int (nI ((bz (fun k => sm (fun j => bq (rh 9 s (s 46) j) k) 32) i).2))), (3, .int (nI i)), (4, .int (nI (sm (fun j => bq (rh 9 s (s 46) j) i) 32))), (5, .int (nI 32))] [1, 0, 2, 3, 4, 5] X dX6_busiest_74 rfl (Nat.le_of_ble_eq_true rfl) rfl rfl ?_
            refine V_iload (pc' := 77) 4 X dX6_busiest_75 rfl rfl ?_
            refine V_iload_n (pc' := 78) 2 X dX6_busiest_77 rfl rfl rfl ?_
            refine V_icmp_le (pc' := 81) (C := (sm (fun j => bq (rh 9 s (s 46) j) i) 32) ≤ ((bz (fun k => sm (fun j => bq (rh 9 s (s 46) j) k) 32) i).2)) 86 X dX6_busiest_78 (by decide) rfl (nI_leI (by omega) (by omega)) (fun _ => ?_) (fun hz => absurd (h66) hz)
            refine V_iload_n (pc' := 87) 2 X dX6_busiest_86 rfl rfl rfl ?_
            refine V_istore_n (pc' := 88) [(0, .ref (y 0)), (1, .int (rN (bz (fun k => sm (fun j => bq (rh 9 s (s 46) j) k) 32) i).1)), (2, .int (nI ((bz (fun k => sm (fun j => bq (rh 9 s (s 46) j) k) 32) i).2))), (3, .int (nI i)), (4, .int (nI (sm (fun j => bq (rh 9 s (s 46) j) i) 32))), (5, .int (nI 32))] [1, 2, 0, 3, 4, 5] X dX6_busiest_87 rfl (Nat.le_of_ble_eq_true rfl) rfl rfl ?_
            refine V_iinc (pc' := 91) [(0, .ref (y 0)), (1, .int (rN (bz (fun k => sm (fun j => bq (rh 9 s (s 46) j) k) 32) i).1)), (2, .int (nI ((bz (fun k => sm (fun j => bq (rh 9 s (s 46) j) k) 32) i).2))), (3, .int (nI (i + 1))), (4, .int (nI (sm (fun j => bq (rh 9 s (s 46) j) i) 32))), (5, .int (nI 32))] 3 [1, 2, 3, 0, 4, 5] X dX6_busiest_88 rfl (nI_i1 _) (Nat.le_of_ble_eq_true rfl) rfl rfl ?_
            refine V_goto (pc' := 22) X dX6_busiest_91 (by decide) ?_
            refine V_lv [0, 1, 2, 3] [(0, .ref (y 0)), (1, .int (rN (bz (fun k => sm (fun j => bq (rh 9 s (s 46) j) k) 32) i).1)), (2, .int (nI ((bz (fun k => sm (fun j => bq (rh 9 s (s 46) j) k) 32) i).2))), (3, .int (nI (i + 1)))] rfl ?_
            rw [show bz (fun k => sm (fun j => bq (rh 9 s (s 46) j) k) 32) (i + 1) = bz (fun k => sm (fun j => bq (rh 9 s (s 46) j) k) 32) i by rw [bz]; exact if_neg (by omega)] at ih
            exact ih
          · refine V_iload_n (pc' := 70) 3 X dX6_busiest_69 rfl rfl rfl ?_
            refine V_goto (pc' := 74) X dX6_busiest_70 (by decide) ?_
            refine V_istore_n (pc' := 75) [(0, .ref (y 0)), (1, .int (nI i)), (2, .int (nI ((bz (fun k => sm (fun j => bq (rh 9 s (s 46) j) k) 32) i).2))), (3, .int (nI i)), (4, .int (nI (sm (fun j => bq (rh 9 s (s 46) j) i) 32))), (5, .int (nI 32))] [1, 0, 2, 3, 4, 5] X dX6_busiest_74 rfl (Nat.le_of_ble_eq_true rfl) rfl rfl ?_
            refine V_iload (pc' := 77) 4 X dX6_busiest_75 rfl rfl ?_
            refine V_iload_n (pc' := 78) 2 X dX6_busiest_77 rfl rfl rfl ?_
            refine V_icmp_le (pc' := 81) (C := (sm (fun j => bq (rh 9 s (s 46) j) i) 32) ≤ ((bz (fun k => sm (fun j => bq (rh 9 s (s 46) j) k) 32) i).2)) 86 X dX6_busiest_78 (by decide) rfl (nI_leI (by omega) (by omega)) (fun hz => absurd hz (h66)) (fun _ => ?_)
            refine V_iload (pc' := 83) 4 X dX6_busiest_81 rfl rfl ?_
            refine V_goto (pc' := 87) X dX6_busiest_83 (by decide) ?_
            refine V_istore_n (pc' := 88) [(0, .ref (y 0)), (1, .int (nI i)), (2, .int (nI (sm (fun j => bq (rh 9 s (s 46) j) i) 32))), (3, .int (nI i)), (4, .int (nI (sm (fun j => bq (rh 9 s (s 46) j) i) 32))), (5, .int (nI 32))] [1, 2, 0, 3, 4, 5] X dX6_busiest_87 rfl (Nat.le_of_ble_eq_true rfl) rfl rfl ?_
            refine V_iinc (pc' := 91) [(0, .ref (y 0)), (1, .int (nI i)), (2, .int (nI (sm (fun j => bq (rh 9 s (s 46) j) i) 32))), (3, .int (nI (i + 1))), (4, .int (nI (sm (fun j => bq (rh 9 s (s 46) j) i) 32))), (5, .int (nI 32))] 3 [1, 2, 3, 0, 4, 5] X dX6_busiest_88 rfl (nI_i1 _) (Nat.le_of_ble_eq_true rfl) rfl rfl ?_
            refine V_goto (pc' := 22) X dX6_busiest_91 (by decide) ?_
            refine V_lv [0, 1, 2, 3] [(0, .ref (y 0)), (1, .int (nI i)), (2, .int (nI (sm (fun j => bq (rh 9 s (s 46) j) i) 32))), (3, .int (nI (i + 1)))] rfl ?_
            rw [show bz (fun k => sm (fun j => bq (rh 9 s (s 46) j) k) 32) (i + 1) = (some i, sm (fun j => bq (rh 9 s (s 46) j) i) 32) by rw [bz]; exact if_pos (by omega)] at ih
            exact ih
        · intro j hi_j ih
          show V E G A 6 [MO y 0 kn ln (tv s (s 46) 32), RW G (y 1) 70 s, RW G (y 6) 10 g_1, RW G (y 7) 32 (rh 9 s (s 46))] 0 0 Q 34 [(0, .ref (y 0)), (1, .int (rN (bz (fun k => sm (fun j => bq (rh 9 s (s 46) j) k) 32) i).1)), (2, .int (nI ((bz (fun k => sm (fun j => bq (rh 9 s (s 46) j) k) 32) i).2))), (3, .int (nI i)), (4, .int (nI (sm (fun j => bq (rh 9 s (s 46) j) i) j))), (5, .int (nI j))] []
          have hrj := rh_lt 9 s (s 46) j
          refine V_iload (pc' := 36) 5 X dX6_busiest_34 rfl rfl ?_
          refine V_bipush (pc' := 38) (nI 32) X dX6_busiest_36 kb_32 rfl ?_
          refine V_icmp_ge (pc' := 41) (C := 32 ≤ j) 63 X dX6_busiest_38 (by decide) rfl (nI_leI (by omega) (by omega)) (fun hz => absurd hz (by omega)) (fun _ => ?_)
          refine V_iload (pc' := 43) 4 X dX6_busiest_41 rfl rfl ?_
          refine V_aload_n (pc' := 44) 0 X dX6_busiest_43 rfl rfl rfl ?_
          refine V_get (pc' := 47) 0 X F29 rfl rfl dX6_busiest_44 rfl ?_
          refine V_iload (pc' := 49) 5 X dX6_busiest_47 rfl rfl ?_
          refine V_iald (pc' := 50) (v := nI ((rh 9 s (s 46)) j)) 3 j X rfl (by omega) (by decide) rfl dX6_busiest_49 rfl ?_
          refine V_iload_n (pc' := 51) 3 X dX6_busiest_50 rfl rfl rfl ?_
          refine V_ishr (pc' := 52) (nI (((rh 9 s (s 46)) j) / 2 ^ i)) X dX6_busiest_51 (z_shr (by omega) (by omega)) rfl ?_
          refine V_iconst (pc' := 53) (nI 1) X dX6_busiest_52 ki_1 rfl ?_
          refine V_iand (pc' := 54) (nI (bq ((rh 9 s (s 46)) j) i)) X dX6_busiest_53 (z_and1 _) rfl ?_
          refine V_iadd (pc' := 55) (nI ((sm (fun j => bq (rh 9 s (s 46) j) i) j) + (bq ((rh 9 s (s 46)) j) i))) X dX6_busiest_54 (nI_add _ _) rfl ?_
          refine V_istore (pc' := 57) [(0, .ref (y 0)), (1, .int (rN (bz (fun k => sm (fun j => bq (rh 9 s (s 46) j) k) 32) i).1)), (2, .int (nI ((bz (fun k => sm (fun j => bq (rh 9 s (s 46) j) k) 32) i).2))), (3, .int (nI i)), (4, .int (nI ((sm (fun j => bq (rh 9 s (s 46) j) i) j) + (bq ((rh 9 s (s 46)) j) i)))), (5, .int (nI j))] [1, 2, 3, 4, 0, 5] X dX6_busiest_55 (Nat.le_of_ble_eq_true rfl) rfl rfl ?_
          refine V_iinc (pc' := 60) [(0, .ref (y 0)), (1, .int (rN (bz (fun k => sm (fun j => bq (rh 9 s (s 46) j) k) 32) i).1)), (2, .int (nI ((bz (fun k => sm (fun j => bq (rh 9 s (s 46) j) k) 32) i).2))), (3, .int (nI i)), (4, .int (nI ((sm (fun j => bq (rh 9 s (s 46) j) i) j) + (bq ((rh 9 s (s 46)) j) i)))), (5, .int (nI (j + 1)))] 5 [1, 2, 3, 4, 5, 0] X dX6_busiest_57 rfl (nI_i1 _) (Nat.le_of_ble_eq_true rfl) rfl rfl ?_
          refine V_goto (pc' := 34) X dX6_busiest_60 (by decide) ?_
          exact ih
      exact lp_3 0 (Nat.zero_le _)
  exact lp_2 0 (Nat.zero_le _)

set_option maxHeartbeats 4000000 in
set_option maxRecDepth 100000 in
theorem c_X6_heaviestColumn (l : Launch) (G : gT) (y : Nat → Nat) (t kn ln th : Nat) (s : Nat → Nat) (hI : IV s) (g d : Nat → Nat) : CM l G yX6_heaviestColumn wsX6_heaviestColumn 4 98 0 [.ref (y 0)] [MO y t kn ln th, RW G (y 1) 70 s, RW G (y 6) 10 g, RW G (y 7) 32 d] 0 0 (fun v u => v = some (.int (rN (bz (fun k => wIn (fun k => s (36 + k)) (rh 9 s (s 46) k)) 32).1)) ∧ ∃ g2, u = [MO y 0 kn ln (tv s (s 46) 32), RW G (y 1) 70 s, RW G (y 6) 10 g2, RW G (y 7) 32 (rh 9 s (s 46))]) := by
  refine CM_of RX6 3 74 rfl rfl (by decide) (by decide +kernel) (Nat.le_of_ble_eq_true rfl) (fun E A X hrt hnm => ?_)
  have F7 := Fld_of (idx := 7) 6 1 X (by decide) (by decide) (by decide +kernel) (by decide +kernel)
  have F29 := Fld_of (idx := 29) 6 9 X (by decide) (by decide) (by decide +kernel) (by decide +kernel)
  have F32 := Fld_of (idx := 32) 6 0 X (by decide) (by decide) (by decide +kernel) (by decide +kernel)
  generalize hQ : QM E G A _ _ _ = Q
  obtain ⟨i1, i2, i3, i4, i5, i6⟩ := id hI
  show V E G A 5 [MO y t kn ln th, RW G (y 1) 70 s, RW G (y 6) 10 g, RW G (y 7) 32 d] 0 0 Q 0 [(0, .ref (y 0))] []
  refine V_aload_n (pc' := 1) 0 X dX6_heaviestColumn_0 rfl rfl rfl ?_
  refine V_iconst (pc' := 2) (nI 0) X dX6_heaviestColumn_1 ki_0 rfl ?_
  refine V_ws [[((y 0), .inr (6, [.int (nI t), .ref (y 1), .ref (y 2), .ref (y 3), .ref (y 4), .int (nI kn), .ref (y 5), .int (nI ln), .ref (y 6), .ref (y 7), .int (nI th)]))], RW G (y 1) 70 s, RW G (y 6) 10 g, RW G (y 7) 32 d] rfl ?_
  refine V_put (pc' := 5) 0 [[((y 0), .inr (6, [.int (nI 0), .ref (y 1), .ref (y 2), .ref (y 3), .ref (y 4), .int (nI kn), .ref (y 5), .int (nI ln), .ref (y 6), .ref (y 7), .int (nI th)]))], RW G (y 1) 70 s, RW G (y 6) 10 g, RW G (y 7) 32 d] X F32 rfl rfl rfl rfl (Nat.le_of_ble_eq_true rfl) rfl dX6_heaviestColumn_2 rfl ?_
  refine V_aload_n (pc' := 6) 0 X dX6_heaviestColumn_5 rfl rfl rfl ?_
  refine V_aload_n (pc' := 7) 0 X dX6_heaviestColumn_6 rfl rfl rfl ?_
  refine V_get (pc' := 10) 0 X F7 rfl rfl dX6_heaviestColumn_7 rfl ?_
  refine V_bipush (pc' := 12) (nI 46) X dX6_heaviestColumn_10 kb_46 rfl ?_
  refine V_iald (pc' := 13) (v := nI (s 46)) 1 46 X rfl (by omega) (by decide) rfl dX6_heaviestColumn_12 rfl ?_
  refine V_callV (pc' := 16) (As := [.int (nI (s 46))]) (st := []) 6 0 [0, 1, 2, 3] [] (show (List.range 4).Perm ([0, 1, 2, 3] ++ []) by decide) X (c_X6_rounds l G y 0 kn ln th s hI (s 46) (by omega) g d) rfl gX6_heaviestColumn_X6_rounds rfl (by decide) rfl rfl rfl (Nat.le_of_ble_eq_true rfl) ⟨Nat.le_of_ble_eq_true rfl, Nat.le_of_ble_eq_true rfl⟩ ⟨Nat.le_of_ble_eq_true rfl, Nat.le_of_ble_eq_true rfl⟩ dX6_heaviestColumn_13 rfl (fun v_ u_ hp_ => ?_)
  obtain ⟨rfl, g_1, rfl⟩ := hp_
  show V E G A 5 [MO y 0 kn ln (tv s (s 46) 32), RW G (y 1) 70 s, RW G (y 6) 10 g_1, RW G (y 7) 32 (rh 9 s (s 46))] 0 0 Q 16 [(0, .ref (y 0))] []
  refine V_iconst (pc' := 17) (-1) X dX6_heaviestColumn_16 rfl rfl ?_
  refine V_istore_n (pc' := 18) [(0, .ref (y 0)), (1, .int (-1))] [1, 0] X dX6_heaviestColumn_17 rfl (Nat.le_of_ble_eq_true rfl) rfl rfl ?_
  refine V_iconst (pc' := 19) (nI 0) X dX6_heaviestColumn_18 ki_0 rfl ?_
  refine V_istore_n (pc' := 20) [(0, .ref (y 0)), (1, .int (-1)), (2, .int (nI 0))] [1, 2, 0] X dX6_heaviestColumn_19 rfl (Nat.le_of_ble_eq_true rfl) rfl rfl ?_
  refine V_iconst (pc' := 21) (nI 0) X dX6_heaviestColumn_20 ki_0 rfl ?_
  refine V_istore_n (pc' := 22) [(0, .ref (y 0)), (1, .int (-1)), (2, .int (nI 0)), (3, .int (nI 0))] [1, 2, 3, 0] X dX6_heaviestColumn_21 rfl (Nat.le_of_ble_eq_true rfl) rfl rfl ?_
  have lp_2 : ∀ i, i ≤ 32 → V E G A 5 [MO y 0 kn ln (tv s (s 46) 32), RW G (y 1) 70 s, RW G (y 6) 10 g_1, RW G (y 7) 32 (rh 9 s (s 46))] 0 0 Q 22 [(0, .ref (y 0)), (1, .int (rN (bz (fun k => wIn (fun k => s (36 + k)) (rh 9 s (s 46) k)) i).1)), (2, .int (nI ((bz (fun k => wIn (fun k => s (36 + k)) (rh 9 s (s 46) k)) i).2))), (3, .int (nI i))] [] := by
    refine loopD 32 ?_ ?_
    · show V E G A 5 [MO y 0 kn ln (tv s (s 46) 32), RW G (y 1) 70 s, RW G (y 6) 10 g_1, RW G (y 7) 32 (rh 9 s (s 46))] 0 0 Q 22 [(0, .ref (y 0)), (1, .int (rN (bz (fun k => wIn (fun k => s (36 + k)) (rh 9 s (s 46) k)) 32).1)), (2, .int (nI ((bz (fun k => wIn (fun k => s (36 + k)) (rh 9 s (s 46) k)) 32).2))), (3, .int (nI 32))] []
      refine V_iload_n (pc' := 23) 3 X dX6_heaviestColumn_22 rfl rfl rfl ?_
      refine V_bipush (pc' := 25) (nI 32) X dX6_heaviestColumn_23 kb_32 rfl ?_
      refine V_icmp_ge (pc' := 28) (C := 32 ≤ 32) 71 X dX6_heaviestColumn_25 (by decide) rfl (nI_leI (by omega) (by omega)) (fun _ => ?_) (fun hz => absurd (by omega) hz)
      refine V_iload_n (pc' := 72) 1 X dX6_heaviestColumn_71 rfl rfl rfl ?_
      exact V_ireturn (v := (rN (bz (fun k => wIn (fun k => s (36 + k)) (rh 9 s (s 46) k)) 32).1)) [MO y 0 kn ln (tv s (s 46) 32), RW G (y 1) 70 s, RW G (y 6) 10 g_1, RW G (y 7) 32 (rh 9 s (s 46))] hQ X hrt rfl dX6_heaviestColumn_72 (Nat.le_of_ble_eq_true rfl) (Nat.le_of_ble_eq_true rfl) (List.Perm.refl _) ⟨rfl, _, rfl⟩
    · intro i hi_i ih
      show V E G A 5 [MO y 0 kn ln (tv s (s 46) 32), RW G (y 1) 70 s, RW G (y 6) 10 g_1, RW G (y 7) 32 (rh 9 s (s 46))] 0 0 Q 22 [(0, .ref (y 0)), (1, .int (rN (bz (fun k => wIn (fun k => s (36 + k)) (rh 9 s (s 46) k)) i).1)), (2, .int (nI ((bz (fun k => wIn (fun k => s (36 + k)) (rh 9 s (s 46) k)) i).2))), (3, .int (nI i))] []
      have hbz := bz_le (t := (fun k => wIn (fun k => s (36 + k)) (rh 9 s (s 46) k))) (c := 600) (fun _ => wIn_le i3) i
      have hti : wIn (fun i => s (36 + i)) (rh 9 s (s 46) i) ≤ 600 := (fun _ => wIn_le i3) i
      refine V_iload_n (pc' := 23) 3 X dX6_heaviestColumn_22 rfl rfl rfl ?_
      refine V_bipush (pc' := 25) (nI 32) X dX6_heaviestColumn_23 kb_32 rfl ?_
      refine V_icmp_ge (pc' := 28) (C := 32 ≤ i) 71 X dX6_heaviestColumn_25 (by decide) rfl (nI_leI (by omega) (by omega)) (fun hz => absurd hz (by omega)) (fun _ => ?_)
      refine V_aload_n (pc' := 29) 0 X dX6_heaviestColumn_28 rfl rfl rfl ?_
      refine V_aload_n (pc' := 30) 0 X dX6_heaviestColumn_29 rfl rfl rfl ?_
      refine V_get (pc' := 33) 0 X F29 rfl rfl dX6_heaviestColumn_30 rfl ?_
      refine V_iload_n (pc' := 34) 3 X dX6_heaviestColumn_33 rfl rfl rfl ?_
      refine V_iald (pc' := 35) (v := nI ((rh 9 s (s 46)) i)) 3 i X rfl (by omega) (by decide) rfl dX6_heaviestColumn_34 rfl ?_
      refine V_callV (pc' := 38) (As := [.int (nI ((rh 9 s (s 46)) i))]) (st := []) 6 0 [0, 1] [2, 3] (show (List.range 4).Perm ([0, 1] ++ [2, 3]) by decide) X (c_X6_weightIn l G y 0 kn ln (tv s (s 46) 32) s hI ((rh 9 s (s 46)) i) (rh_lt _ _ _ _)) rfl gX6_heaviestColumn_X6_weightIn rfl (by decide) rfl rfl rfl (Nat.le_of_ble_eq_true rfl) ⟨Nat.le_of_ble_eq_true rfl, Nat.le_of_ble_eq_true rfl⟩ ⟨Nat.le_of_ble_eq_true rfl, Nat.le_of_ble_eq_true rfl⟩ dX6_heaviestColumn_35 rfl (fun v_ u_ hp_ => ?_)
      obtain ⟨rfl, rfl⟩ := hp_
      show V E G A 5 [RW G (y 6) 10 g_1, RW G (y 7) 32 (rh 9 s (s 46)), MO y 0 kn ln (tv s (s 46) 32), RW G (y 1) 70 s] 0 0 Q 38 [(0, .ref (y 0)), (1, .int (rN (bz (fun k => wIn (fun k => s (36 + k)) (rh 9 s (s 46) k)) i).1)), (2, .int (nI ((bz (fun k => wIn (fun k => s (36 + k)) (rh 9 s (s 46) k)) i).2))), (3, .int (nI i))] [.int (nI (wIn (fun k => s (36 + k)) ((rh 9 s (s 46)) i)))]
      refine V_ord [2, 3, 0, 1] [MO y 0 kn ln (tv s (s 46) 32), RW G (y 1) 70 s, RW G (y 6) 10 g_1, RW G (y 7) 32 (rh 9 s (s 46))] (show (List.range 4).Perm [2, 3, 0, 1] by decide) rfl ?_
      refine V_istore (pc' := 40) [(0, .ref (y 0)), (1, .int (rN (bz (fun k => wIn (fun k => s (36 + k)) (rh 9 s (s 46) k)) i).1)), (2, .int (nI ((bz (fun k => wIn (fun k => s (36 + k)) (rh 9 s (s 46) k)) i).2))), (3, .int (nI i)), (4, .int (nI (wIn (fun k => s (36 + k)) ((rh 9 s (s 46)) i))))] [1, 2, 3, 4, 0] X dX6_heaviestColumn_38 (Nat.le_of_ble_eq_true rfl) rfl rfl ?_
      refine V_iload (pc' := 42) 4 X dX6_heaviestColumn_40 rfl rfl ?_
      refine V_iload_n (pc' := 43) 2 X dX6_heaviestColumn_42 rfl rfl rfl ?_
      refine V_icmp_le (pc' := 46) (C := (wIn (fun k => s (36 + k)) ((rh 9 s (s 46)) i)) ≤ ((bz (fun k => wIn (fun k => s (36 + k)) (rh 9 s (s 46) k)) i).2)) 50 X dX6_heaviestColumn_43 (by decide) rfl (nI_leI (by omega) (by omega)) (fun h43 => ?_) (fun h43 => ?_)
      · refine V_iload_n (pc' := 51) 1 X dX6_heaviestColumn_50 rfl rfl rfl ?_
        refine V_istore_n (pc' := 52) [(0, .ref (y 0)), (1, .int (rN (bz (fun k => wIn (fun k => s (36 + k)) (rh 9 s (s 46) k)) i).1)), (2, .int (nI ((bz (fun k => wIn (fun k => s (36 + k)) (rh 9 s (s 46) k)) i).2))), (3, .int (nI i)), (4, .int (nI (wIn (fun k => s (36 + k)) ((rh 9 s (s 46)) i))))] [1, 0, 2, 3, 4] X dX6_heaviestColumn_51 rfl (Nat.le_of_ble_eq_true rfl) rfl rfl ?_
        refine V_iload (pc' := 54) 4 X dX6_heaviestColumn_52 rfl rfl ?_
        refine V_iload_n (pc' := 55) 2 X dX6_heaviestColumn_54 rfl rfl rfl ?_
        refine V_icmp_le (pc' := 58) (C := (wIn (fun k => s (36 + k)) ((rh 9 s (s 46)) i)) ≤ ((bz (fun k => wIn (fun k => s (36 + k)) (rh 9 s (s 46) k)) i).2)) 63 X dX6_heaviestColumn_55 (by decide) rfl (nI_leI (by omega) (by omega)) (fun _ => ?_) (fun hz => absurd (h43) hz)
        refine V_iload_n (pc' := 64) 2 X dX6_heaviestColumn_63 rfl rfl rfl ?_
        refine V_istore_n (pc' := 65) [(0, .ref (y 0)), (1, .int (rN (bz (fun k => wIn (fun k => s (36 + k)) (rh 9 s (s 46) k)) i).1)), (2, .int (nI ((bz (fun k => wIn (fun k => s (36 + k)) (rh 9 s (s 46) k)) i).2))), (3, .int (nI i)), (4, .int (nI (wIn (fun k => s (36 + k)) ((rh 9 s (s 46)) i))))] [1, 2, 0, 3, 4] X dX6_heaviestColumn_64 rfl (Nat.le_of_ble_eq_true rfl) rfl rfl ?_
        refine V_iinc (pc' := 68) [(0, .ref (y 0)), (1, .int (rN (bz (fun k => wIn (fun k => s (36 + k)) (rh 9 s (s 46) k)) i).1)), (2, .int (nI ((bz (fun k => wIn (fun k => s (36 + k)) (rh 9 s (s 46) k)) i).2))), (3, .int (nI (i + 1))), (4, .int (nI (wIn (fun k => s (36 + k)) ((rh 9 s (s 46)) i))))] 3 [1, 2, 3, 0, 4] X dX6_heaviestColumn_65 rfl (nI_i1 _) (Nat.le_of_ble_eq_true rfl) rfl rfl ?_
        refine V_goto (pc' := 22) X dX6_heaviestColumn_68 (by decide) ?_
        refine V_lv [0, 1, 2, 3] [(0, .ref (y 0)), (1, .int (rN (bz (fun k => wIn (fun k => s (36 + k)) (rh 9 s (s 46) k)) i).1)), (2, .int (nI ((bz (fun k => wIn (fun k => s (36 + k)) (rh 9 s (s 46) k)) i).2))), (3, .int (nI (i + 1)))] rfl ?_
        rw [show bz (fun k => wIn (fun k => s (36 + k)) (rh 9 s (s 46) k)) (i + 1) = bz (fun k => wIn (fun k => s (36 + k)) (rh 9 s (s 46) k)) i by rw [bz]; exact if_neg (by omega)] at ih
        exact ih
      · refine V_iload_n (pc' := 47) 3 X dX6_heaviestColumn_46 rfl rfl rfl ?_
        refine V_goto (pc' := 51) X dX6_heaviestColumn_47 (by decide) ?_
        refine V_istore_n (pc' := 52) [(0, .ref (y 0)), (1, .int (nI i)), (2, .int (nI ((bz (fun k => wIn (fun k => s (36 + k)) (rh 9 s (s 46) k)) i).2))), (3, .int (nI i)), (4, .int (nI (wIn (fun k => s (36 + k)) ((rh 9 s (s 46)) i))))] [1, 0, 2, 3, 4] X dX6_heaviestColumn_51 rfl (Nat.le_of_ble_eq_true rfl) rfl rfl ?_
        refine V_iload (pc' := 54) 4 X dX6_heaviestColumn_52 rfl rfl ?_
        refine V_iload_n (pc' := 55) 2 X dX6_heaviestColumn_54 rfl rfl rfl ?_
        refine V_icmp_le (pc' := 58) (C := (wIn (fun k => s (36 + k)) ((rh 9 s (s 46)) i)) ≤ ((bz (fun k => wIn (fun k => s (36 + k)) (rh 9 s (s 46) k)) i).2)) 63 X dX6_heaviestColumn_55 (by decide) rfl (nI_leI (by omega) (by omega)) (fun hz => absurd hz (h43)) (fun _ => ?_)
        refine V_iload (pc' := 60) 4 X dX6_heaviestColumn_58 rfl rfl ?_
        refine V_goto (pc' := 64) X dX6_heaviestColumn_60 (by decide) ?_
        refine V_istore_n (pc' := 65) [(0, .ref (y 0)), (1, .int (nI i)), (2, .int (nI (wIn (fun k => s (36 + k)) ((rh 9 s (s 46)) i)))), (3, .int (nI i)), (4, .int (nI (wIn (fun k => s (36 + k)) ((rh 9 s (s 46)) i))))] [1, 2, 0, 3, 4] X dX6_heaviestColumn_64 rfl (Nat.le_of_ble_eq_true rfl) rfl rfl ?_
        refine V_iinc (pc' := 68) [(0, .ref (y 0)), (1, .int (nI i)), (2, .int (nI (wIn (fun k => s (36 + k)) ((rh 9 s (s 46)) i)))), (3, .int (nI (i + 1))), (4, .int (nI (wIn (fun k => s (36 + k)) ((rh 9 s (s 46)) i))))] 3 [1, 2, 3, 0, 4] X dX6_heaviestColumn_65 rfl (nI_i1 _) (Nat.le_of_ble_eq_true rfl) rfl rfl ?_
        refine V_goto (pc' := 22) X dX6_heaviestColumn_68 (by decide) ?_
        refine V_lv [0, 1, 2, 3] [(0, .ref (y 0)), (1, .int (nI i)), (2, .int (nI (wIn (fun k => s (36 + k)) ((rh 9 s (s 46)) i)))), (3, .int (nI (i + 1)))] rfl ?_
        rw [show bz (fun k => wIn (fun k => s (36 + k)) (rh 9 s (s 46) k)) (i + 1) = (some i, wIn (fun i => s (36 + i)) (rh 9 s (s 46) i)) by rw [bz]; exact if_pos (by omega)] at ih
        exact ih
  exact lp_2 0 (Nat.zero_le _)

set_option maxHeartbeats 4000000 in
set_option maxRecDepth 100000 in
theorem c_X6_longestSilence (l : Launch) (G : gT) (y : Nat → Nat) (t kn ln th : Nat) (s : Nat → Nat) (hI : IV s) (g d : Nat → Nat) : CM l G yX6_longestSilence wsX6_longestSilence 4 97 0 [.ref (y 0)] [MO y t kn ln th, RW G (y 1) 70 s, RW G (y 6) 10 g, RW G (y 7) 32 d] 0 0 (fun v u => v = some (.int (nI (lsn (rh 9 s (s 46)) 32).1)) ∧ ∃ g2, u = [MO y 0 kn ln (tv s (s 46) 32), RW G (y 1) 70 s, RW G (y 6) 10 g2, RW G (y 7) 32 (rh 9 s (s 46))]) := by
  refine CM_of RX6 3 74 rfl rfl (by decide) (by decide +kernel) (Nat.le_of_ble_eq_true rfl) (fun E A X hrt hnm => ?_)
  have F7 := Fld_of (idx := 7) 6 1 X (by decide) (by decide) (by decide +kernel) (by decide +kernel)
  have F29 := Fld_of (idx := 29) 6 9 X (by decide) (by decide) (by decide +kernel) (by decide +kernel)
  have F32 := Fld_of (idx := 32) 6 0 X (by decide) (by decide) (by decide +kernel) (by decide +kernel)
  generalize hQ : QM E G A _ _ _ = Q
  obtain ⟨i1, i2, i3, i4, i5, i6⟩ := id hI
  show V E G A 4 [MO y t kn ln th, RW G (y 1) 70 s, RW G (y 6) 10 g, RW G (y 7) 32 d] 0 0 Q 0 [(0, .ref (y 0))] []
  refine V_aload_n (pc' := 1) 0 X dX6_longestSilence_0 rfl rfl rfl ?_
  refine V_iconst (pc' := 2) (nI 0) X dX6_longestSilence_1 ki_0 rfl ?_
  refine V_ws [[((y 0), .inr (6, [.int (nI t), .ref (y 1), .ref (y 2), .ref (y 3), .ref (y 4), .int (nI kn), .ref (y 5), .int (nI ln), .ref (y 6), .ref (y 7), .int (nI th)]))], RW G (y 1) 70 s, RW G (y 6) 10 g, RW G (y 7) 32 d] rfl ?_
  refine V_put (pc' := 5) 0 [[((y 0), .inr (6, [.int (nI 0), .ref (y 1), .ref (y 2), .ref (y 3), .ref (y 4), .int (nI kn), .ref (y 5), .int (nI ln), .ref (y 6), .ref (y 7), .int (nI th)]))], RW G (y 1) 70 s, RW G (y 6) 10 g, RW G (y 7) 32 d] X F32 rfl rfl rfl rfl (Nat.le_of_ble_eq_true rfl) rfl dX6_longestSilence_2 rfl ?_
  refine V_aload_n (pc' := 6) 0 X dX6_longestSilence_5 rfl rfl rfl ?_
  refine V_aload_n (pc' := 7) 0 X dX6_longestSilence_6 rfl rfl rfl ?_
  refine V_get (pc' := 10) 0 X F7 rfl rfl dX6_longestSilence_7 rfl ?_
  refine V_bipush (pc' := 12) (nI 46) X dX6_longestSilence_10 kb_46 rfl ?_
  refine V_iald (pc' := 13) (v := nI (s 46)) 1 46 X rfl (by omega) (by decide) rfl dX6_longestSilence_12 rfl ?_
  refine V_callV (pc' := 16) (As := [.int (nI (s 46))]) (st := []) 6 0 [0, 1, 2, 3] [] (show (List.range 4).Perm ([0, 1, 2, 3] ++ []) by decide) X (c_X6_rounds l G y 0 kn ln th s hI (s 46) (by omega) g d) rfl gX6_longestSilence_X6_rounds rfl (by decide) rfl rfl rfl (Nat.le_of_ble_eq_true rfl) ⟨Nat.le_of_ble_eq_true rfl, Nat.le_of_ble_eq_true rfl⟩ ⟨Nat.le_of_ble_eq_true rfl, Nat.le_of_ble_eq_true rfl⟩ dX6_longestSilence_13 rfl (fun v_ u_ hp_ => ?_)
  obtain ⟨rfl, g_1, rfl⟩ := hp_
  show V E G A 4 [MO y 0 kn ln (tv s (s 46) 32), RW G (y 1) 70 s, RW G (y 6) 10 g_1, RW G (y 7) 32 (rh 9 s (s 46))] 0 0 Q 16 [(0, .ref (y 0))] []
  refine V_iconst (pc' := 17) (nI 0) X dX6_longestSilence_16 ki_0 rfl ?_
  refine V_istore_n (pc' := 18) [(0, .ref (y 0)), (1, .int (nI 0))] [1, 0] X dX6_longestSilence_17 rfl (Nat.le_of_ble_eq_true rfl) rfl rfl ?_
  refine V_iconst (pc' := 19) (nI 0) X dX6_longestSilence_18 ki_0 rfl ?_
  refine V_istore_n (pc' := 20) [(0, .ref (y 0)), (1, .int (nI 0)), (2, .int (nI 0))] [1, 2, 0] X dX6_longestSilence_19 rfl (Nat.le_of_ble_eq_true rfl) rfl rfl ?_
  refine V_iconst (pc' := 21) (nI 0) X dX6_longestSilence_20 ki_0 rfl ?_
  refine V_istore_n (pc' := 22) [(0, .ref (y 0)), (1, .int (nI 0)), (2, .int (nI 0)), (3, .int (nI 0))] [1, 2, 3, 0] X dX6_longestSilence_21 rfl (Nat.le_of_ble_eq_true rfl) rfl rfl ?_
  have lp_2 : ∀ i, i ≤ 32 → V E G A 4 [MO y 0 kn ln (tv s (s 46) 32), RW G (y 1) 70 s, RW G (y 6) 10 g_1, RW G (y 7) 32 (rh 9 s (s 46))] 0 0 Q 22 [(0, .ref (y 0)), (1, .int (nI ((lsn (rh 9 s (s 46)) i).1))), (2, .int (nI ((lsn (rh 9 s (s 46)) i).2))), (3, .int (nI i))] [] := by
    refine loopD 32 ?_ ?_
    · show V E G A 4 [MO y 0 kn ln (tv s (s 46) 32), RW G (y 1) 70 s, RW G (y 6) 10 g_1, RW G (y 7) 32 (rh 9 s (s 46))] 0 0 Q 22 [(0, .ref (y 0)), (1, .int (nI ((lsn (rh 9 s (s 46)) 32).1))), (2, .int (nI ((lsn (rh 9 s (s 46)) 32).2))), (3, .int (nI 32))] []
      refine V_iload_n (pc' := 23) 3 X dX6_longestSilence_22 rfl rfl rfl ?_
      refine V_bipush (pc' := 25) (nI 32) X dX6_longestSilence_23 kb_32 rfl ?_
      refine V_icmp_ge (pc' := 28) (C := 32 ≤ 32) 62 X dX6_longestSilence_25 (by decide) rfl (nI_leI (by omega) (by omega)) (fun _ => ?_) (fun hz => absurd (by omega) hz)
      refine V_iload_n (pc' := 63) 1 X dX6_longestSilence_62 rfl rfl rfl ?_
      exact V_ireturn (v := nI ((lsn (rh 9 s (s 46)) 32).1)) [MO y 0 kn ln (tv s (s 46) 32), RW G (y 1) 70 s, RW G (y 6) 10 g_1, RW G (y 7) 32 (rh 9 s (s 46))] hQ X hrt rfl dX6_longestSilence_63 (Nat.le_of_ble_eq_true rfl) (Nat.le_of_ble_eq_true rfl) (List.Perm.refl _) ⟨rfl, _, rfl⟩
    · intro i hi_i ih
      show V E G A 4 [MO y 0 kn ln (tv s (s 46) 32), RW G (y 1) 70 s, RW G (y 6) 10 g_1, RW G (y 7) 32 (rh 9 s (s 46))] 0 0 Q 22 [(0, .ref (y 0)), (1, .int (nI ((lsn (rh 9 s (s 46)) i).1))), (2, .int (nI ((lsn (rh 9 s (s 46)) i).2))), (3, .int (nI i))] []
      have hls := lsn_le (rh 9 s (s 46)) i
      have hri := rh_lt 9 s (s 46) i
      refine V_iload_n (pc' := 23) 3 X dX6_longestSilence_22 rfl rfl rfl ?_
      refine V_bipush (pc' := 25) (nI 32) X dX6_longestSilence_23 kb_32 rfl ?_
      refine V_icmp_ge (pc' := 28) (C := 32 ≤ i) 62 X dX6_longestSilence_25 (by decide) rfl (nI_leI (by omega) (by omega)) (fun hz => absurd hz (by omega)) (fun _ => ?_)
      refine V_aload_n (pc' := 29) 0 X dX6_longestSilence_28 rfl rfl rfl ?_
      refine V_get (pc' := 32) 0 X F29 rfl rfl dX6_longestSilence_29 rfl ?_
      refine V_iload_n (pc' := 33) 3 X dX6_longestSilence_32 rfl rfl rfl ?_
      refine V_iald (pc' := 34) (v := nI ((rh 9 s (s 46)) i)) 3 i X rfl (by omega) (by decide) rfl dX6_longestSilence_33 rfl ?_
      refine V_if_ne (pc' := 37) (C := ((rh 9 s (s 46)) i) = 0) 43 X dX6_longestSilence_34 (by decide) rfl (z_eq0 (by omega)) (fun h34 => ?_) (fun h34 => ?_)
      · refine V_iconst (pc' := 44) (nI 0) X dX6_longestSilence_43 ki_0 rfl ?_
        refine V_istore_n (pc' := 45) [(0, .ref (y 0)), (1, .int (nI ((lsn (rh 9 s (s 46)) i).1))), (2, .int (nI 0)), (3, .int (nI i))] [1, 2, 0, 3] X dX6_longestSilence_44 rfl (Nat.le_of_ble_eq_true rfl) rfl rfl ?_
        refine V_iload_n (pc' := 46) 2 X dX6_longestSilence_45 rfl rfl rfl ?_
        refine V_iload_n (pc' := 47) 1 X dX6_longestSilence_46 rfl rfl rfl ?_
        refine V_icmp_le (pc' := 50) (C := 0 ≤ ((lsn (rh 9 s (s 46)) i).1)) 54 X dX6_longestSilence_47 (by decide) rfl (nI_leI (by omega) (by omega)) (fun h47 => ?_) (fun h47 => ?_)
        · refine V_iload_n (pc' := 55) 1 X dX6_longestSilence_54 rfl rfl rfl ?_
          refine V_istore_n (pc' := 56) [(0, .ref (y 0)), (1, .int (nI ((lsn (rh 9 s (s 46)) i).1))), (2, .int (nI 0)), (3, .int (nI i))] [1, 0, 2, 3] X dX6_longestSilence_55 rfl (Nat.le_of_ble_eq_true rfl) rfl rfl ?_
          refine V_iinc (pc' := 59) [(0, .ref (y 0)), (1, .int (nI ((lsn (rh 9 s (s 46)) i).1))), (2, .int (nI 0)), (3, .int (nI (i + 1)))] 3 [1, 2, 3, 0] X dX6_longestSilence_56 rfl (nI_i1 _) (Nat.le_of_ble_eq_true rfl) rfl rfl ?_
          refine V_goto (pc' := 22) X dX6_longestSilence_59 (by decide) ?_
          rw [show lsn (rh 9 s (s 46)) (i + 1) = (max (lsn (rh 9 s (s 46)) i).1 (0), 0) by rw [lsn, if_neg h34]] at ih
          rw [show max (lsn (rh 9 s (s 46)) i).1 (0) = (lsn (rh 9 s (s 46)) i).1 by omega] at ih
          exact ih
        · refine V_iload_n (pc' := 51) 2 X dX6_longestSilence_50 rfl rfl rfl ?_
          refine V_goto (pc' := 55) X dX6_longestSilence_51 (by decide) ?_
          refine V_istore_n (pc' := 56) [(0, .ref (y 0)), (1, .int (nI 0)), (2, .int (nI 0)), (3, .int (nI i))] [1, 0, 2, 3] X dX6_longestSilence_55 rfl (Nat.le_of_ble_eq_true rfl) rfl rfl ?_
          refine V_iinc (pc' := 59) [(0, .ref (y 0)), (1, .int (nI 0)), (2, .int (nI 0)), (3, .int (nI (i + 1)))] 3 [1, 2, 3, 0] X dX6_longestSilence_56 rfl (nI_i1 _) (Nat.le_of_ble_eq_true rfl) rfl rfl ?_
          refine V_goto (pc' := 22) X dX6_longestSilence_59 (by decide) ?_
          rw [show lsn (rh 9 s (s 46)) (i + 1) = (max (lsn (rh 9 s (s 46)) i).1 (0), 0) by rw [lsn, if_neg h34]] at ih
          rw [show max (lsn (rh 9 s (s 46)) i).1 (0) = 0 by omega] at ih
          exact ih
      · refine V_iload_n (pc' := 38) 2 X dX6_longestSilence_37 rfl rfl rfl ?_
        refine V_iconst (pc' := 39) (nI 1) X dX6_longestSilence_38 ki_1 rfl ?_
        refine V_iadd (pc' := 40) (nI (((lsn (rh 9 s (s 46)) i).2) + 1)) X dX6_longestSilence_39 (nI_add _ _) rfl ?_
        refine V_goto (pc' := 44) X dX6_longestSilence_40 (by decide) ?_
        refine V_istore_n (pc' := 45) [(0, .ref (y 0)), (1, .int (nI ((lsn (rh 9 s (s 46)) i).1))), (2, .int (nI (((lsn (rh 9 s (s 46)) i).2) + 1))), (3, .int (nI i))] [1, 2, 0, 3] X dX6_longestSilence_44 rfl (Nat.le_of_ble_eq_true rfl) rfl rfl ?_
        refine V_iload_n (pc' := 46) 2 X dX6_longestSilence_45 rfl rfl rfl ?_
        refine V_iload_n (pc' := 47) 1 X dX6_longestSilence_46 rfl rfl rfl ?_
        refine V_icmp_le (pc' := 50) (C := (((lsn (rh 9 s (s 46)) i).2) + 1) ≤ ((lsn (rh 9 s (s 46)) i).1)) 54 X dX6_longestSilence_47 (by decide) rfl (nI_leI (by omega) (by omega)) (fun h47 => ?_) (fun h47 => ?_)
        · refine V_iload_n (pc' := 55) 1 X dX6_longestSilence_54 rfl rfl rfl ?_
          refine V_istore_n (pc' := 56) [(0, .ref (y 0)), (1, .int (nI ((lsn (rh 9 s (s 46)) i).1))), (2, .int (nI (((lsn (rh 9 s (s 46)) i).2) + 1))), (3, .int (nI i))] [1, 0, 2, 3] X dX6_longestSilence_55 rfl (Nat.le_of_ble_eq_true rfl) rfl rfl ?_
          refine V_iinc (pc' := 59) [(0, .ref (y 0)), (1, .int (nI ((lsn (rh 9 s (s 46)) i).1))), (2, .int (nI (((lsn (rh 9 s (s 46)) i).2) + 1))), (3, .int (nI (i + 1)))] 3 [1, 2, 3, 0] X dX6_longestSilence_56 rfl (nI_i1 _) (Nat.le_of_ble_eq_true rfl) rfl rfl ?_
          refine V_goto (pc' := 22) X dX6_longestSilence_59 (by decide) ?_
          rw [show lsn (rh 9 s (s 46)) (i + 1) = (max (lsn (rh 9 s (s 46)) i).1 (((lsn (rh 9 s (s 46)) i).2) + 1), ((lsn (rh 9 s (s 46)) i).2) + 1) by rw [lsn, if_pos h34]] at ih
          rw [show max (lsn (rh 9 s (s 46)) i).1 (((lsn (rh 9 s (s 46)) i).2) + 1) = (lsn (rh 9 s (s 46)) i).1 by omega] at ih
          exact ih
        · refine V_iload_n (pc' := 51) 2 X dX6_longestSilence_50 rfl rfl rfl ?_
          refine V_goto (pc' := 55) X dX6_longestSilence_51 (by decide) ?_
          refine V_istore_n (pc' := 56) [(0, .ref (y 0)), (1, .int (nI (((lsn (rh 9 s (s 46)) i).2) + 1))), (2, .int (nI (((lsn (rh 9 s (s 46)) i).2) + 1))), (3, .int (nI i))] [1, 0, 2, 3] X dX6_longestSilence_55 rfl (Nat.le_of_ble_eq_true rfl) rfl rfl ?_
          refine V_iinc (pc' := 59) [(0, .ref (y 0)), (1, .int (nI (((lsn (rh 9 s (s 46)) i).2) + 1))), (2, .int (nI (((lsn (rh 9 s (s 46)) i).2) + 1))), (3, .int (nI (i + 1)))] 3 [1, 2, 3, 0] X dX6_longestSilence_56 rfl (nI_i1 _) (Nat.le_of_ble_eq_true rfl) rfl rfl ?_
          refine V_goto (pc' := 22) X dX6_longestSilence_59 (by decide) ?_
          rw [show lsn (rh 9 s (s 46)) (i + 1) = (max (lsn (rh 9 s (s 46)) i).1 (((lsn (rh 9 s (s 46)) i).2) + 1), ((lsn (rh 9 s (s 46)) i).2) + 1) by rw [lsn, if_pos h34]] at ih
          rw [show max (lsn (rh 9 s (s 46)) i).1 (((lsn (rh 9 s (s 46)) i).2) + 1) = ((lsn (rh 9 s (s 46)) i).2) + 1 by omega] at ih
          exact ih
  exact lp_2 0 (Nat.zero_le _)

set_option maxHeartbeats 4000000 in
set_option maxRecDepth 100000 in
theorem c_X6_enoughBound (l : Launch) (G : gT) (y : Nat → Nat) (t kn ln th : Nat) (s : Nat → Nat) (hI : IV s) (g d : Nat → Nat) : CM l G yX6_enoughBound wsX6_enoughBound 4 95 0 [.ref (y 0)] [MO y t kn ln th, RW G (y 1) 70 s, RW G (y 6) 10 g, RW G (y 7) 32 d] 0 0 (fun v u => v = some (.int (rN (if mxs (tE 9 s) 32 ≤ 300 then some (mxs (tE 9 s) 32) else none))) ∧ ∃ th2 g2 d2, u = [MO y 0 kn ln th2, RW G (y 1) 70 s, RW G (y 6) 10 g2, RW G (y 7) 32 d2]) := by
  refine CM_of RX6 3 74 rfl rfl (by decide) (by decide +kernel) (Nat.le_of_ble_eq_true rfl) (fun E A X hrt hnm => ?_)
  have F32 := Fld_of (idx := 32) 6 0 X (by decide) (by decide) (by decide +kernel) (by decide +kernel)
  have F61 := Fld_of (idx := 61) 6 10 X (by decide) (by decide) (by decide +kernel) (by decide +kernel)
  generalize hQ : QM E G A _ _ _ = Q
  obtain ⟨i1, i2, i3, i4, i5, i6⟩ := id hI
  show V E G A 2 [MO y t kn ln th, RW G (y 1) 70 s, RW G (y 6) 10 g, RW G (y 7) 32 d] 0 0 Q 0 [(0, .ref (y 0))] []
  refine V_aload_n (pc' := 1) 0 X dX6_enoughBound_0 rfl rfl rfl ?_
  refine V_iconst (pc' := 2) (nI 0) X dX6_enoughBound_1 ki_0 rfl ?_
  refine V_ws [[((y 0), .inr (6, [.int (nI t), .ref (y 1), .ref (y 2), .ref (y 3), .ref (y 4), .int (nI kn), .ref (y 5), .int (nI ln), .ref (y 6), .ref (y 7), .int (nI th)]))], RW G (y 1) 70 s, RW G (y 6) 10 g, RW G (y 7) 32 d] rfl ?_
  refine V_put (pc' := 5) 0 [[((y 0), .inr (6, [.int (nI 0), .ref (y 1), .ref (y 2), .ref (y 3), .ref (y 4), .int (nI kn), .ref (y 5), .int (nI ln), .ref (y 6), .ref (y 7), .int (nI th)]))], RW G (y 1) 70 s, RW G (y 6) 10 g, RW G (y 7) 32 d] X F32 rfl rfl rfl rfl (Nat.le_of_ble_eq_true rfl) rfl dX6_enoughBound_2 rfl ?_
  refine V_iconst (pc' := 6) (nI 1) X dX6_enoughBound_5 ki_1 rfl ?_
  refine V_istore_n (pc' := 7) [(0, .ref (y 0)), (1, .int (nI 1))] [1, 0] X dX6_enoughBound_6 rfl (Nat.le_of_ble_eq_true rfl) rfl rfl ?_
  refine V_ws [MO y 0 kn ln th, RW G (y 1) 70 s, RW G (y 6) 10 g, RW G (y 7) 32 d] rfl ?_
  have lp : ∀ i, i ≤ 300 → ∀ (th : Nat) (g d : Nat → Nat), i < mxs (tE 9 s) 32 → V E G A 2 [MO y 0 kn ln th, RW G (y 1) 70 s, RW G (y 6) 10 g, RW G (y 7) 32 d] 0 0 Q 7 [(0, .ref (y 0)), (1, .int (nI (i + 1)))] [] := by
    refine loopD 300 ?_ ?_
    · intro th g d hy
      show V E G A 2 [MO y 0 kn ln th, RW G (y 1) 70 s, RW G (y 6) 10 g, RW G (y 7) 32 d] 0 0 Q 7 [(0, .ref (y 0)), (1, .int (nI (300 + 1)))] []
      refine V_iload_n (pc' := 8) 1 X dX6_enoughBound_7 rfl rfl rfl ?_
      refine V_sipush (pc' := 11) (nI 300) X dX6_enoughBound_8 ks_300 rfl ?_
      refine V_icmp_gt (pc' := 14) (C := 300 < (300 + 1)) 34 X dX6_enoughBound_11 (by decide) rfl (nI_ltI (by omega) (by omega)) (fun _ => ?_) (fun hz => absurd (by decide) hz)
      refine V_iconst (pc' := 35) (-1) X dX6_enoughBound_34 rfl rfl ?_
      exact V_ireturn (v := (-1)) [MO y 0 kn ln th, RW G (y 1) 70 s, RW G (y 6) 10 g, RW G (y 7) 32 d] hQ X hrt rfl dX6_enoughBound_35 (Nat.le_of_ble_eq_true rfl) (Nat.le_of_ble_eq_true rfl) (List.Perm.refl _) ⟨by rw [if_neg (by omega)]; rfl, _, _, _, rfl⟩
    · intro i hi_i ih th g d hy
      show V E G A 2 [MO y 0 kn ln th, RW G (y 1) 70 s, RW G (y 6) 10 g, RW G (y 7) 32 d] 0 0 Q 7 [(0, .ref (y 0)), (1, .int (nI (i + 1)))] []
      have htv := tv_le s (i + 1) 32
      refine V_iload_n (pc' := 8) 1 X dX6_enoughBound_7 rfl rfl rfl ?_
      refine V_sipush (pc' := 11) (nI 300) X dX6_enoughBound_8 ks_300 rfl ?_
      refine V_icmp_gt (pc' := 14) (C := 300 < (i + 1)) 34 X dX6_enoughBound_11 (by decide) rfl (nI_ltI (by omega) (by omega)) (fun hz => absurd hz (by omega)) (fun _ => ?_)
      refine V_aload_n (pc' := 15) 0 X dX6_enoughBound_14 rfl rfl rfl ?_
      refine V_iload_n (pc' := 16) 1 X dX6_enoughBound_15 rfl rfl rfl ?_
      refine V_callV (pc' := 19) (As := [.int (nI (i + 1))]) (st := []) 6 0 [0, 1, 2, 3] [] (show (List.range 4).Perm ([0, 1, 2, 3] ++ []) by decide) X (c_X6_rounds l G y 0 kn ln th s hI (i + 1) (by omega) g d) rfl gX6_enoughBound_X6_rounds rfl (by decide) rfl rfl rfl (Nat.le_of_ble_eq_true rfl) ⟨Nat.le_of_ble_eq_true rfl, Nat.le_of_ble_eq_true rfl⟩ ⟨Nat.le_of_ble_eq_true rfl, Nat.le_of_ble_eq_true rfl⟩ dX6_enoughBound_16 rfl (fun v_ u_ hp_ => ?_)
      obtain ⟨rfl, g_1, rfl⟩ := hp_
      show V E G A 2 [MO y 0 kn ln (tv s (i + 1) 32), RW G (y 1) 70 s, RW G (y 6) 10 g_1, RW G (y 7) 32 (rh 9 s (i + 1))] 0 0 Q 19 [(0, .ref (y 0)), (1, .int (nI (i + 1)))] []
      refine V_aload_n (pc' := 20) 0 X dX6_enoughBound_19 rfl rfl rfl ?_
      refine V_get (pc' := 23) 0 X F61 rfl rfl dX6_enoughBound_20 rfl ?_
      refine V_if_ne (pc' := 26) (C := (tv s (i + 1) 32) = 0) 28 X dX6_enoughBound_23 (by decide) rfl (z_eq0 (by omega)) (fun h23 => ?_) (fun h23 => ?_)
      · refine V_iinc (pc' := 31) [(0, .ref (y 0)), (1, .int (nI (i + 1 + 1)))] 1 [1, 0] X dX6_enoughBound_28 rfl (nI_i1 _) (Nat.le_of_ble_eq_true rfl) rfl rfl ?_
        refine V_goto (pc' := 7) X dX6_enoughBound_31 (by decide) ?_
        have h9 : ¬ mxs (tE 9 s) 32 ≤ i + 1 := fun z => h23 ((enough_iff hI (by omega)).mpr z)
        exact ih _ _ _ (by omega)
      · refine V_iload_n (pc' := 27) 1 X dX6_enoughBound_26 rfl rfl rfl ?_
        exact V_ireturn (v := nI (i + 1)) [MO y 0 kn ln (tv s (i + 1) 32), RW G (y 1) 70 s, RW G (y 6) 10 g_1, RW G (y 7) 32 (rh 9 s (i + 1))] hQ X hrt rfl dX6_enoughBound_27 (Nat.le_of_ble_eq_true rfl) (Nat.le_of_ble_eq_true rfl) (List.Perm.refl _) ⟨by have e1 := (enough_iff hI (by omega)).mp h23; rw [show mxs (tE 9 s) 32 = i + 1 by omega, if_pos (by omega)]; rfl, _, _, _, rfl⟩
  refine V_ws [MO y 0 kn ln th, RW G (y 1) 70 s, RW G (y 6) 10 g, RW G (y 7) 32 d] rfl ?_
  exact lp 0 (Nat.zero_le _) _ _ _ (mxs_pos _ _)

set_option maxHeartbeats 4000000 in
set_option maxRecDepth 100000 in
theorem c_X6_undo (l : Launch) (G : gT) (y : Nat → Nat) (t ln th : Nat) (s g : Nat → Nat) (m : Nat) (hn : m < 6) : CM l G yX6_undo wsX6_undo 2 42 0 [.ref (y 0)] [MO y t (m + 1) ln th, RW G (y 1) 70 s, RW G (y 4) 420 g] 0 0 (fun v u => v = some (.int (nI m)) ∧ u = [MO y 0 m ln th, RW G (y 1) 70 (fun k => g (70 * m + k)), RW G (y 4) 420 g]) := by
  refine CM_of RX6 1 21 rfl rfl (by decide) (by decide +kernel) (Nat.le_of_ble_eq_true rfl) (fun E A X hrt hnm => ?_)
  have F7 := Fld_of (idx := 7) 6 1 X (by decide) (by decide) (by decide +kernel) (by decide +kernel)
  have F20 := Fld_of (idx := 20) 6 4 X (by decide) (by decide) (by decide +kernel) (by decide +kernel)
  have F40 := Fld_of (idx := 40) 6 5 X (by decide) (by decide) (by decide +kernel) (by decide +kernel)
  generalize hQ : QM E G A _ _ _ = Q
  show V E G A 2 [MO y t (m + 1) ln th, RW G (y 1) 70 s, RW G (y 4) 420 g] 0 0 Q 0 [(0, .ref (y 0))] []
  refine V_aload_n (pc' := 1) 0 X dX6_undo_0 rfl rfl rfl ?_
  refine V_aload_n (pc' := 2) 0 X dX6_undo_1 rfl rfl rfl ?_
  refine V_get (pc' := 5) 0 X F40 rfl rfl dX6_undo_2 rfl ?_
  refine V_if_le (pc' := 8) (C := (m + 1) = 0) 12 X dX6_undo_5 (by decide) rfl (z_le0 (by omega)) (fun hz => absurd hz (by omega)) (fun _ => ?_)
  refine V_iconst (pc' := 9) (nI 0) X dX6_undo_8 ki_0 rfl ?_
  refine V_goto (pc' := 13) X dX6_undo_9 (by decide) ?_
  refine V_callV (pc' := 16) (As := [.int (nI 0)]) (st := []) 6 0 [0] [1, 2] (show (List.range 3).Perm ([0] ++ [1, 2]) by decide) X (c_X6_holds0 l G y t (m + 1) ln th) rfl gX6_undo_X6_holds rfl (by decide) rfl rfl rfl (Nat.le_of_ble_eq_true rfl) ⟨Nat.le_of_ble_eq_true rfl, Nat.le_of_ble_eq_true rfl⟩ ⟨Nat.le_of_ble_eq_true rfl, Nat.le_of_ble_eq_true rfl⟩ dX6_undo_13 rfl (fun v_ u_ hp_ => ?_)
  obtain ⟨rfl, rfl⟩ := hp_
  show V E G A 2 [RW G (y 1) 70 s, RW G (y 4) 420 g, MO y 0 (m + 1) ln th] 0 0 Q 16 [(0, .ref (y 0))] [.int (nI 1)]
  refine V_ord [2, 0, 1] [MO y 0 (m + 1) ln th, RW G (y 1) 70 s, RW G (y 4) 420 g] (show (List.range 3).Perm [2, 0, 1] by decide) rfl ?_
  refine V_if_ne (pc' := 19) (C := 1 = 0) 21 X dX6_undo_16 (by decide) rfl (z_eq0 (by omega)) (fun _ => ?_) (fun hz => absurd hz (by decide))
  refine V_aload_n (pc' := 22) 0 X dX6_undo_21 rfl rfl rfl ?_
  refine V_dup (pc' := 23) X dX6_undo_22 rfl rfl ?_
  refine V_get (pc' := 26) 0 X F40 rfl rfl dX6_undo_23 rfl ?_
  refine V_iconst (pc' := 27) (nI 1) X dX6_undo_26 ki_1 rfl ?_
  refine V_isub (pc' := 28) (nI m) X dX6_undo_27 (nI_sub1 m) rfl ?_
  refine V_ws [[((y 0), .inr (6, [.int (nI 0), .ref (y 1), .ref (y 2), .ref (y 3), .ref (y 4), .int (nI (m + 1)), .ref (y 5), .int (nI ln), .ref (y 6), .ref (y 7), .int (nI th)]))], RW G (y 1) 70 s, RW G (y 4) 420 g] rfl ?_
  refine V_put (pc' := 31) 0 [[((y 0), .inr (6, [.int (nI 0), .ref (y 1), .ref (y 2), .ref (y 3), .ref (y 4), .int (nI m), .ref (y 5), .int (nI ln), .ref (y 6), .ref (y 7), .int (nI th)]))], RW G (y 1) 70 s, RW G (y 4) 420 g] X F40 rfl rfl rfl rfl (Nat.le_of_ble_eq_true rfl) rfl dX6_undo_28 rfl ?_
  refine V_iconst (pc' := 32) (nI 0) X dX6_undo_31 ki_0 rfl ?_
  refine V_istore_n (pc' := 33) [(0, .ref (y 0)), (1, .int (nI 0))] [1, 0] X dX6_undo_32 rfl (Nat.le_of_ble_eq_true rfl) rfl rfl ?_
  refine V_ws [MO y 0 m ln th, RW G (y 1) 70 s, RW G (y 4) 420 g] rfl ?_
  refine V_ws [MO y 0 m ln th, RW G (y 1) 70 (upN s (fun k => g (70 * m + k)) 0), RW G (y 4) 420 g] rfl ?_
  have lp_1 : ∀ i, i ≤ 70 → V E G A 2 [MO y 0 m ln th, RW G (y 1) 70 (upN s (fun k => g (70 * m + k)) i), RW G (y 4) 420 g] 0 0 Q 33 [(0, .ref (y 0)), (1, .int (nI i))] [] := by
    refine loopD 70 ?_ ?_
    · show V E G A 2 [MO y 0 m ln th, RW G (y 1) 70 (upN s (fun k => g (70 * m + k)) 70), RW G (y 4) 420 g] 0 0 Q 33 [(0, .ref (y 0)), (1, .int (nI 70))] []
      refine V_iload_n (pc' := 34) 1 X dX6_undo_33 rfl rfl rfl ?_
      refine V_bipush (pc' := 36) (nI 70) X dX6_undo_34 kb_70 rfl ?_
      refine V_icmp_ge (pc' := 39) (C := 70 ≤ 70) 65 X dX6_undo_36 (by decide) rfl (nI_leI (by omega) (by omega)) (fun _ => ?_) (fun hz => absurd (by omega) hz)
      refine V_aload_n (pc' := 66) 0 X dX6_undo_65 rfl rfl rfl ?_
      refine V_get (pc' := 69) 0 X F40 rfl rfl dX6_undo_66 rfl ?_
      refine V_ws [MO y 0 m ln th, [((y 1), .inl (G.2 0, 70, .inl (nf (upN s (fun k => g (70 * m + k)) 70))))], RW G (y 4) 420 g] rfl ?_
      refine V_wsq [MO y 0 m ln th, [((y 1), .inl (G.2 0, 70, .inl (nf (fun k => g (70 * m + k)))))], RW G (y 4) 420 g] (wsq.app (wsq.rf _) (wsq.app (wsq.cons (weq.row (fun k hk => congrArg nI (upN_in hk))) (wsq.rf _)) (wsq.rf _))) ?_
      refine V_ws [MO y 0 m ln th, RW G (y 1) 70 (fun k => g (70 * m + k)), RW G (y 4) 420 g] rfl ?_
      exact V_ireturn (v := nI m) [MO y 0 m ln th, RW G (y 1) 70 (fun k => g (70 * m + k)), RW G (y 4) 420 g] hQ X hrt rfl dX6_undo_69 (Nat.le_of_ble_eq_true rfl) (Nat.le_of_ble_eq_true rfl) (List.Perm.refl _) ⟨rfl, rfl⟩
    · intro i hi_i ih
      show V E G A 2 [MO y 0 m ln th, RW G (y 1) 70 (upN s (fun k => g (70 * m + k)) i), RW G (y 4) 420 g] 0 0 Q 33 [(0, .ref (y 0)), (1, .int (nI i))] []
      refine V_iload_n (pc' := 34) 1 X dX6_undo_33 rfl rfl rfl ?_
      refine V_bipush (pc' := 36) (nI 70) X dX6_undo_34 kb_70 rfl ?_
      refine V_icmp_ge (pc' := 39) (C := 70 ≤ i) 65 X dX6_undo_36 (by decide) rfl (nI_leI (by omega) (by omega)) (fun hz => absurd hz (by omega)) (fun _ => ?_)
      refine V_aload_n (pc' := 40) 0 X dX6_undo_39 rfl rfl rfl ?_
      refine V_get (pc' := 43) 0 X F7 rfl rfl dX6_undo_40 rfl ?_
      refine V_iload_n (pc' := 44) 1 X dX6_undo_43 rfl rfl rfl ?_
      refine V_aload_n (pc' := 45) 0 X dX6_undo_44 rfl rfl rfl ?_
      refine V_get (pc' := 48) 0 X F20 rfl rfl dX6_undo_45 rfl ?_
      refine V_bipush (pc' := 50) (nI 70) X dX6_undo_48 kb_70 rfl ?_
      refine V_aload_n (pc' := 51) 0 X dX6_undo_50 rfl rfl rfl ?_
      refine V_get (pc' := 54) 0 X F40 rfl rfl dX6_undo_51 rfl ?_
      refine V_imul (pc' := 55) (nI (70 * m)) X dX6_undo_54 (pk_mul _ _) rfl ?_
      refine V_iload_n (pc' := 56) 1 X dX6_undo_55 rfl rfl rfl ?_
      refine V_iadd (pc' := 57) (nI ((70 * m) + i)) X dX6_undo_56 (nI_add _ _) rfl ?_
      refine V_iald (pc' := 58) (v := nI (g ((70 * m) + i))) 2 ((70 * m) + i) X rfl (by omega) (by decide) rfl dX6_undo_57 rfl ?_
      refine V_ws [MO y 0 m ln th, [((y 1), .inl (G.2 0, 70, .inl (nf (upN s (fun k => g (70 * m + k)) i))))], RW G (y 4) 420 g] rfl ?_
      refine V_iast (pc' := 59) 1 i [MO y 0 m ln th, [((y 1), .inl (G.2 0, 70, .inl (upd (nf (upN s (fun k => g (70 * m + k)) i)) i (nI (g ((70 * m) + i))))))], RW G (y 4) 420 g] X rfl (by omega) (by decide) rfl dX6_undo_58 rfl ?_
      refine V_ws [MO y 0 m ln th, [((y 1), .inl (G.2 0, 70, .inl (nf (va_up (upN s (fun k => g (70 * m + k)) i) i (g ((70 * m) + i))))))], RW G (y 4) 420 g] (by simp only [nf_upd]) ?_
      refine V_iinc (pc' := 62) [(0, .ref (y 0)), (1, .int (nI (i + 1)))] 1 [1, 0] X dX6_undo_59 rfl (nI_i1 _) (Nat.le_of_ble_eq_true rfl) rfl rfl ?_
      refine V_goto (pc' := 33) X dX6_undo_62 (by decide) ?_
      refine V_ws [MO y 0 m ln th, RW G (y 1) 70 (va_up (upN s (fun k => g (70 * m + k)) i) i (g ((70 * m) + i))), RW G (y 4) 420 g] rfl ?_
      exact ih
  exact lp_1 0 (Nat.zero_le _)

set_option maxHeartbeats 4000000 in
set_option maxRecDepth 100000 in
theorem c_X6_undoable (l : Launch) (G : gT) (y : Nat → Nat) (t kn ln th : Nat) : CM l G yX6_undoable wsX6_undoable 1 20 0 [.ref (y 0)] [MO y t kn ln th] 0 0 (fun v u => v = some (.int (nI kn)) ∧ u = [MO y 0 kn ln th]) := by
  refine CM_of RX6 0 0 rfl rfl (by decide) (by decide +kernel) (Nat.le_of_ble_eq_true rfl) (fun E A X hrt hnm => ?_)
  have F32 := Fld_of (idx := 32) 6 0 X (by decide) (by decide) (by decide +kernel) (by decide +kernel)
  have F40 := Fld_of (idx := 40) 6 5 X (by decide) (by decide) (by decide +kernel) (by decide +kernel)
  generalize hQ : QM E G A _ _ _ = Q
  show V E G A 1 [MO y t kn ln th] 0 0 Q 0 [(0, .ref (y 0))] []
  refine V_aload_n (pc' := 1) 0 X dX6_undoable_0 rfl rfl rfl ?_
  refine V_iconst (pc' := 2) (nI 0) X dX6_undoable_1 ki_0 rfl ?_
  refine V_ws [[((y 0), .inr (6, [.int (nI t), .ref (y 1), .ref (y 2), .ref (y 3), .ref (y 4), .int (nI kn), .ref (y 5), .int (nI ln), .ref (y 6), .ref (y 7), .int (nI th)]))]] rfl ?_
  refine V_put (pc' := 5) 0 [[((y 0), .inr (6, [.int (nI 0), .ref (y 1), .ref (y 2), .ref (y 3), .ref (y 4), .int (nI kn), .ref (y 5), .int (nI ln), .ref (y 6), .ref (y 7), .int (nI th)]))]] X F32 rfl rfl rfl rfl (Nat.le_of_ble_eq_true rfl) rfl dX6_undoable_2 rfl ?_
  refine V_aload_n (pc' := 6) 0 X dX6_undoable_5 rfl rfl rfl ?_
  refine V_get (pc' := 9) 0 X F40 rfl rfl dX6_undoable_6 rfl ?_
  refine V_ws [MO y 0 kn ln th] rfl ?_
  exact V_ireturn (v := nI kn) [MO y 0 kn ln th] hQ X hrt rfl dX6_undoable_9 (Nat.le_of_ble_eq_true rfl) (Nat.le_of_ble_eq_true rfl) (List.Perm.refl _) ⟨rfl, rfl⟩

set_option maxHeartbeats 4000000 in
set_option maxRecDepth 100000 in
theorem c_X6_save (l : Launch) (G : gT) (y : Nat → Nat) (t kn ln th : Nat) (s : Nat → Nat) (hI : IV s) (sl z : Nat → Nat) (c : Nat) (hc : c < 2) : CM l G yX6_save wsX6_save 3 66 1 [.ref (y 0), .int (nI c)] [MO y t kn ln th, RW G (y 1) 70 s, RW G (y 2) 140 sl, RZ G (y 3) 2 z] 0 0 (fun v u => v = some (.int (nI (sm (fun k => cnt (s k)) 32))) ∧ u = [MO y 0 kn ln th, RW G (y 1) 70 s, RW G (y 2) 140 (wrH sl (70 * c) s 70), RZ G (y 3) 2 (va_up z c 1)]) := by
  refine CM_of RX6 2 44 rfl rfl (by decide) (by decide +kernel) (Nat.le_of_ble_eq_true rfl) (fun E A X hrt hnm => ?_)
  have F7 := Fld_of (idx := 7) 6 1 X (by decide) (by decide) (by decide +kernel) (by decide +kernel)
  have F13 := Fld_of (idx := 13) 6 2 X (by decide) (by decide) (by decide +kernel) (by decide +kernel)
  have F16 := Fld_of (idx := 16) 6 3 X (by decide) (by decide) (by decide +kernel) (by decide +kernel)
  generalize hQ : QM E G A _ _ _ = Q
  obtain ⟨i1, i2, i3, i4, i5, i6⟩ := id hI
  show V E G A 3 [MO y t kn ln th, RW G (y 1) 70 s, RW G (y 2) 140 sl, RZ G (y 3) 2 z] 0 0 Q 0 [(0, .ref (y 0)), (1, .int (nI c))] []
  refine V_aload_n (pc' := 1) 0 X dX6_save_0 rfl rfl rfl ?_
  refine V_iload_n (pc' := 2) 1 X dX6_save_1 rfl rfl rfl ?_
  refine V_iconst (pc' := 3) (nI 0) X dX6_save_2 ki_0 rfl ?_
  refine V_iconst (pc' := 4) (nI 1) X dX6_save_3 ki_1 rfl ?_
  refine V_callS (pc' := 7) (As := [.int (nI c), .int (nI 0), .int (nI 1)]) (st := [.ref (y 0)]) [] [0, 1, 2, 3] (show (List.range 4).Perm ([] ++ [0, 1, 2, 3]) by decide) X (c_X6_in l G c 0 1 (by omega) (by decide) (by decide)) rfl gX6_save_X6_in rfl rfl (Nat.le_of_ble_eq_true rfl) ⟨Nat.le_of_ble_eq_true rfl, Nat.le_of_ble_eq_true rfl⟩ ⟨Nat.le_of_ble_eq_true rfl, Nat.le_of_ble_eq_true rfl⟩ dX6_save_4 rfl (fun v_ u_ hp_ => ?_)
  obtain ⟨rfl, rfl⟩ := hp_; rw [if_pos (by omega)]
  show V E G A 3 [MO y t kn ln th, RW G (y 1) 70 s, RW G (y 2) 140 sl, RZ G (y 3) 2 z] 0 0 Q 7 [(0, .ref (y 0)), (1, .int (nI c))] [.int (nI 1), .ref (y 0)]
  refine V_if_eq (pc' := 10) (C := 1 = 0) 14 X dX6_save_7 (by decide) rfl (z_eq0 (by omega)) (fun hz => absurd hz (by decide)) (fun _ => ?_)
  refine V_iconst (pc' := 11) (nI 0) X dX6_save_10 ki_0 rfl ?_
  refine V_goto (pc' := 15) X dX6_save_11 (by decide) ?_
  refine V_callV (pc' := 18) (As := [.int (nI 0)]) (st := []) 6 0 [0] [1, 2, 3] (show (List.range 4).Perm ([0] ++ [1, 2, 3]) by decide) X (c_X6_holds0 l G y t kn ln th) rfl gX6_save_X6_holds rfl (by decide) rfl rfl rfl (Nat.le_of_ble_eq_true rfl) ⟨Nat.le_of_ble_eq_true rfl, Nat.le_of_ble_eq_true rfl⟩ ⟨Nat.le_of_ble_eq_true rfl, Nat.le_of_ble_eq_true rfl⟩ dX6_save_15 rfl (fun v_ u_ hp_ => ?_)
  obtain ⟨rfl, rfl⟩ := hp_
  show V E G A 3 [RW G (y 1) 70 s, RW G (y 2) 140 sl, RZ G (y 3) 2 z, MO y 0 kn ln th] 0 0 Q 18 [(0, .ref (y 0)), (1, .int (nI c))] [.int (nI 1)]
  refine V_ord [3, 0, 1, 2] [MO y 0 kn ln th, RW G (y 1) 70 s, RW G (y 2) 140 sl, RZ G (y 3) 2 z] (show (List.range 4).Perm [3, 0, 1, 2] by decide) rfl ?_
  refine V_if_ne (pc' := 21) (C := 1 = 0) 23 X dX6_save_18 (by decide) rfl (z_eq0 (by omega)) (fun _ => ?_) (fun hz => absurd hz (by decide))
  refine V_iconst (pc' := 24) (nI 0) X dX6_save_23 ki_0 rfl ?_
  refine V_istore_n (pc' := 25) [(0, .ref (y 0)), (1, .int (nI c)), (2, .int (nI 0))] [1, 2, 0] X dX6_save_24 rfl (Nat.le_of_ble_eq_true rfl) rfl rfl ?_
  refine V_ws [MO y 0 kn ln th, RW G (y 1) 70 s, [((y 2), .inl (G.2 0, 140, .inl (nf sl)))], RZ G (y 3) 2 z] rfl ?_
  refine V_wsq [MO y 0 kn ln th, RW G (y 1) 70 s, [((y 2), .inl (G.2 0, 140, .inl (nf (wrH sl (70 * c) s 0))))], RZ G (y 3) 2 z] (wsq.app (wsq.rf _) (wsq.app (wsq.rf _) (wsq.app (wsq.cons (weq.row (fun k hk => congrArg nI wrH_0)) (wsq.rf _)) (wsq.rf _)))) ?_
  refine V_ws [MO y 0 kn ln th, RW G (y 1) 70 s, RW G (y 2) 140 (wrH sl (70 * c) s 0), RZ G (y 3) 2 z] rfl ?_
  have lp_1 : ∀ i, i ≤ 70 → V E G A 3 [MO y 0 kn ln th, RW G (y 1) 70 s, RW G (y 2) 140 (wrH sl (70 * c) s i), RZ G (y 3) 2 z] 0 0 Q 25 [(0, .ref (y 0)), (1, .int (nI c)), (2, .int (nI i))] [] := by
    refine loopD 70 ?_ ?_
    · show V E G A 3 [MO y 0 kn ln th, RW G (y 1) 70 s, RW G (y 2) 140 (wrH sl (70 * c) s 70), RZ G (y 3) 2 z] 0 0 Q 25 [(0, .ref (y 0)), (1, .int (nI c)), (2, .int (nI 70))] []
      refine V_iload_n (pc' := 26) 2 X dX6_save_25 rfl rfl rfl ?_
      refine V_bipush (pc' := 28) (nI 70) X dX6_save_26 kb_70 rfl ?_
      refine V_icmp_ge (pc' := 31) (C := 70 ≤ 70) 54 X dX6_save_28 (by decide) rfl (nI_leI (by omega) (by omega)) (fun _ => ?_) (fun hz => absurd (by omega) hz)
      refine V_aload_n (pc' := 55) 0 X dX6_save_54 rfl rfl rfl ?_
      refine V_get (pc' := 58) 0 X F16 rfl rfl dX6_save_55 rfl ?_
      refine V_iload_n (pc' := 59) 1 X dX6_save_58 rfl rfl rfl ?_
      refine V_iconst (pc' := 60) (nI 1) X dX6_save_59 ki_1 rfl ?_
      refine V_ws [MO y 0 kn ln th, RW G (y 1) 70 s, RW G (y 2) 140 (wrH sl (70 * c) s 70), [((y 3), .inl (G.2 2, 2, .inl (nf z)))]] rfl ?_
      refine V_zast (pc' := 61) 3 c [MO y 0 kn ln th, RW G (y 1) 70 s, RW G (y 2) 140 (wrH sl (70 * c) s 70), [((y 3), .inl (G.2 2, 2, .inl (upd (nf z) c (nI 1))))]] X rfl (by omega) (by decide) (by decide +kernel) rfl dX6_save_60 rfl ?_
      refine V_ws [MO y 0 kn ln th, RW G (y 1) 70 s, RW G (y 2) 140 (wrH sl (70 * c) s 70), [((y 3), .inl (G.2 2, 2, .inl (nf (va_up z c 1))))]] (by simp only [nf_upd]) ?_
      refine V_aload_n (pc' := 62) 0 X dX6_save_61 rfl rfl rfl ?_
      refine V_callV (pc' := 65) (As := []) (st := []) 6 0 [0, 1] [2, 3] (show (List.range 4).Perm ([0, 1] ++ [2, 3]) by decide) X (c_X6_allPegs l G y 0 kn ln th s hI) rfl gX6_save_X6_allPegs rfl (by decide) rfl rfl rfl (Nat.le_of_ble_eq_true rfl) ⟨Nat.le_of_ble_eq_true rfl, Nat.le_of_ble_eq_true rfl⟩ ⟨Nat.le_of_ble_eq_true rfl, Nat.le_of_ble_eq_true rfl⟩ dX6_save_62 rfl (fun v_ u_ hp_ => ?_)
      obtain ⟨rfl, rfl⟩ := hp_
      show V E G A 3 [RW G (y 2) 140 (wrH sl (70 * c) s 70), [((y 3), .inl (G.2 2, 2, .inl (nf (va_up z c 1))))], MO y 0 kn ln th, RW G (y 1) 70 s] 0 0 Q 65 [(0, .ref (y 0)), (1, .int (nI c)), (2, .int (nI 70))] [.int (nI (sm (fun k => cnt (s k)) 32))]
      refine V_ord [2, 3, 0, 1] [MO y 0 kn ln th, RW G (y 1) 70 s, RW G (y 2) 140 (wrH sl (70 * c) s 70), [((y 3), .inl (G.2 2, 2, .inl (nf (va_up z c 1))))]] (show (List.range 4).Perm [2, 3, 0, 1] by decide) rfl ?_
      refine V_ws [MO y 0 kn ln th, RW G (y 1) 70 s, RW G (y 2) 140 (wrH sl (70 * c) s 70), RZ G (y 3) 2 (va_up z c 1)] rfl ?_
      exact V_ireturn (v := nI (sm (fun k => cnt (s k)) 32)) [MO y 0 kn ln th, RW G (y 1) 70 s, RW G (y 2) 140 (wrH sl (70 * c) s 70), RZ G (y 3) 2 (va_up z c 1)] hQ X hrt rfl dX6_save_65 (Nat.le_of_ble_eq_true rfl) (Nat.le_of_ble_eq_true rfl) (List.Perm.refl _) ⟨rfl, rfl⟩
    · intro i hi_i ih
      show V E G A 3 [MO y 0 kn ln th, RW G (y 1) 70 s, RW G (y 2) 140 (wrH sl (70 * c) s i), RZ G (y 3) 2 z] 0 0 Q 25 [(0, .ref (y 0)), (1, .int (nI c)), (2, .int (nI i))] []
      refine V_iload_n (pc' := 26) 2 X dX6_save_25 rfl rfl rfl ?_
      refine V_bipush (pc' := 28) (nI 70) X dX6_save_26 kb_70 rfl ?_
      refine V_icmp_ge (pc' := 31) (C := 70 ≤ i) 54 X dX6_save_28 (by decide) rfl (nI_leI (by omega) (by omega)) (fun hz => absurd hz (by omega)) (fun _ => ?_)
      refine V_aload_n (pc' := 32) 0 X dX6_save_31 rfl rfl rfl ?_
      refine V_get (pc' := 35) 0 X F13 rfl rfl dX6_save_32 rfl ?_
      refine V_bipush (pc' := 37) (nI 70) X dX6_save_35 kb_70 rfl ?_
      refine V_iload_n (pc' := 38) 1 X dX6_save_37 rfl rfl rfl ?_
      refine V_imul (pc' := 39) (nI (70 * c)) X dX6_save_38 (pk_mul _ _) rfl ?_
      refine V_iload_n (pc' := 40) 2 X dX6_save_39 rfl rfl rfl ?_
      refine V_iadd (pc' := 41) (nI ((70 * c) + i)) X dX6_save_40 (nI_add _ _) rfl ?_
      refine V_aload_n (pc' := 42) 0 X dX6_save_41 rfl rfl rfl ?_
      refine V_get (pc' := 45) 0 X F7 rfl rfl dX6_save_42 rfl ?_
      refine V_iload_n (pc' := 46) 2 X dX6_save_45 rfl rfl rfl ?_
      refine V_iald (pc' := 47) (v := nI (s i)) 1 i X rfl (by omega) (by decide) rfl dX6_save_46 rfl ?_
      refine V_ws [MO y 0 kn ln th, RW G (y 1) 70 s, [((y 2), .inl (G.2 0, 140, .inl (nf (wrH sl (70 * c) s i))))], RZ G (y 3) 2 z] rfl ?_
      refine V_iast (pc' := 48) 2 ((70 * c) + i) [MO y 0 kn ln th, RW G (y 1) 70 s, [((y 2), .inl (G.2 0, 140, .inl (upd (nf (wrH sl (70 * c) s i)) ((70 * c) + i) (nI (s i)))))], RZ G (y 3) 2 z] X rfl (by omega) (by decide) rfl dX6_save_47 rfl ?_
      refine V_ws [MO y 0 kn ln th, RW G (y 1) 70 s, [((y 2), .inl (G.2 0, 140, .inl (nf (va_up (wrH sl (70 * c) s i) ((70 * c) + i) (s i)))))], RZ G (y 3) 2 z] (by simp only [nf_upd]) ?_
      refine V_iinc (pc' := 51) [(0, .ref (y 0)), (1, .int (nI c)), (2, .int (nI (i + 1)))] 2 [1, 2, 0] X dX6_save_48 rfl (nI_i1 _) (Nat.le_of_ble_eq_true rfl) rfl rfl ?_
      refine V_goto (pc' := 25) X dX6_save_51 (by decide) ?_
      refine V_wsq [MO y 0 kn ln th, RW G (y 1) 70 s, [((y 2), .inl (G.2 0, 140, .inl (nf (wrH sl (70 * c) s (i + 1)))))], RZ G (y 3) 2 z] (wsq.app (wsq.rf _) (wsq.app (wsq.rf _) (wsq.app (wsq.cons (weq.row (fun k hk => congrArg nI wrH_step)) (wsq.rf _)) (wsq.rf _)))) ?_
      refine V_ws [MO y 0 kn ln th, RW G (y 1) 70 s, RW G (y 2) 140 (wrH sl (70 * c) s (i + 1)), RZ G (y 3) 2 z] rfl ?_
      exact ih
  exact lp_1 0 (Nat.zero_le _)

set_option maxHeartbeats 4000000 in
set_option maxRecDepth 100000 in
theorem c_X6_restore_b2 (l : Launch) (G : gT) (y : Nat → Nat) (t kn ln th : Nat) (z : Nat → Nat) (c : Nat) (hc : c < 2) (hzc : z c = 0) : CM l G yX6_restore wsX6_restore 2 45 1 [.ref (y 0), .int (nI c)] [MO y t kn ln th, RZ G (y 3) 2 z] 0 0 (fun v u => v = some (.int (nI 0)) ∧ u = [MO y 2 kn ln th, RZ G (y 3) 2 z]) := by
  refine CM_of RX6 1 22 rfl rfl (by decide) (by decide +kernel) (Nat.le_of_ble_eq_true rfl) (fun E A X hrt hnm => ?_)
  have F16 := Fld_of (idx := 16) 6 3 X (by decide) (by decide) (by decide +kernel) (by decide +kernel)
  generalize hQ : QM E G A _ _ _ = Q
  show V E G A 4 [MO y t kn ln th, RZ G (y 3) 2 z] 0 0 Q 0 [(0, .ref (y 0)), (1, .int (nI c))] []
  refine V_iload_n (pc' := 1) 1 X dX6_restore_0 rfl rfl rfl ?_
  refine V_iconst (pc' := 2) (nI 0) X dX6_restore_1 ki_0 rfl ?_
  refine V_iconst (pc' := 3) (nI 1) X dX6_restore_2 ki_1 rfl ?_
  refine V_callS (pc' := 6) (As := [.int (nI c), .int (nI 0), .int (nI 1)]) (st := []) [] [0, 1] (show (List.range 2).Perm ([] ++ [0, 1]) by decide) X (c_X6_in l G c 0 1 (by omega) (by decide) (by decide)) rfl gX6_restore_X6_in rfl rfl (Nat.le_of_ble_eq_true rfl) ⟨Nat.le_of_ble_eq_true rfl, Nat.le_of_ble_eq_true rfl⟩ ⟨Nat.le_of_ble_eq_true rfl, Nat.le_of_ble_eq_true rfl⟩ dX6_restore_3 rfl (fun v_ u_ hp_ => ?_)
  obtain ⟨rfl, rfl⟩ := hp_; rw [if_pos (by omega)]
  show V E G A 4 [MO y t kn ln th, RZ G (y 3) 2 z] 0 0 Q 6 [(0, .ref (y 0)), (1, .int (nI c))] [.int (nI 1)]
  refine V_istore_n (pc' := 7) [(0, .ref (y 0)), (1, .int (nI c)), (2, .int (nI 1))] [1, 2, 0] X dX6_restore_6 rfl (Nat.le_of_ble_eq_true rfl) rfl rfl ?_
  refine V_aload_n (pc' := 8) 0 X dX6_restore_7 rfl rfl rfl ?_
  refine V_iload_n (pc' := 9) 2 X dX6_restore_8 rfl rfl rfl ?_
  refine V_if_ne (pc' := 12) (C := 1 = 0) 16 X dX6_restore_9 (by decide) rfl (z_eq0 (by omega)) (fun _ => ?_) (fun hz => absurd hz (by decide))
  refine V_aload_n (pc' := 17) 0 X dX6_restore_16 rfl rfl rfl ?_
  refine V_get (pc' := 20) 0 X F16 rfl rfl dX6_restore_17 rfl ?_
  refine V_iload_n (pc' := 21) 1 X dX6_restore_20 rfl rfl rfl ?_
  refine V_zald (pc' := 22) (v := nI (z c)) 1 c X rfl (by omega) (by decide) rfl dX6_restore_21 rfl ?_
  refine V_if_ne (pc' := 25) (C := (z c) = 0) 29 X dX6_restore_22 (by decide) rfl (z_eq0 (by omega)) (fun hz => absurd (hzc) hz) (fun _ => ?_)
  refine V_iconst (pc' := 26) (nI 2) X dX6_restore_25 ki_2 rfl ?_
  refine V_goto (pc' := 30) X dX6_restore_26 (by decide) ?_
  refine V_callV (pc' := 33) (As := [.int (nI 2)]) (st := []) 6 0 [0] [1] (show (List.range 2).Perm ([0] ++ [1]) by decide) X (c_X6_holds2 l G y t kn ln th) rfl gX6_restore_X6_holds rfl (by decide) rfl rfl rfl (Nat.le_of_ble_eq_true rfl) ⟨Nat.le_of_ble_eq_true rfl, Nat.le_of_ble_eq_true rfl⟩ ⟨Nat.le_of_ble_eq_true rfl, Nat.le_of_ble_eq_true rfl⟩ dX6_restore_30 rfl (fun v_ u_ hp_ => ?_)
  obtain ⟨rfl, rfl⟩ := hp_
  show V E G A 4 [RZ G (y 3) 2 z, MO y 2 kn ln th] 0 0 Q 33 [(0, .ref (y 0)), (1, .int (nI c)), (2, .int (nI 1))] [.int (nI 0)]
  refine V_ord [1, 0] [MO y 2 kn ln th, RZ G (y 3) 2 z] (show (List.range 2).Perm [1, 0] by decide) rfl ?_
  refine V_if_ne (pc' := 36) (C := 0 = 0) 38 X dX6_restore_33 (by decide) rfl (z_eq0 (by omega)) (fun hz => absurd (by decide) hz) (fun _ => ?_)
  refine V_iconst (pc' := 37) (nI 0) X dX6_restore_36 ki_0 rfl ?_
  exact V_ireturn (v := nI 0) [MO y 2 kn ln th, RZ G (y 3) 2 z] hQ X hrt rfl dX6_restore_37 (Nat.le_of_ble_eq_true rfl) (Nat.le_of_ble_eq_true rfl) (List.Perm.refl _) ⟨rfl, rfl⟩

set_option maxHeartbeats 4000000 in
set_option maxRecDepth 100000 in
theorem c_X6_restore (l : Launch) (G : gT) (y : Nat → Nat) (t kn ln th : Nat) (s g sl z : Nat → Nat) (hn : kn ≤ 6) (c : Nat) (hc : c < 2) (hzc : z c = 1) (hO : IV (fun k => sl (70 * c + k))) : CM l G yX6_restore wsX6_restore 3 67 1 [.ref (y 0), .int (nI c)] [MO y t kn ln th, RW G (y 1) 70 s, RW G (y 4) 420 g, RW G (y 2) 140 sl, RZ G (y 3) 2 z] 0 0 (fun v u => v = some (.int (nI (sm (fun k => cnt (sl (70 * c + k))) 32))) ∧ u = [MO y 0 (aM kn + 1) ln th, RW G (y 1) 70 (fun k => sl (70 * c + k)), RW G (y 4) 420 (rcH kn s g), RW G (y 2) 140 sl, RZ G (y 3) 2 z]) := by
  refine CM_of RX6 2 44 rfl rfl (by decide) (by decide +kernel) (Nat.le_of_ble_eq_true rfl) (fun E A X hrt hnm => ?_)
  have F7 := Fld_of (idx := 7) 6 1 X (by decide) (by decide) (by decide +kernel) (by decide +kernel)
  have F13 := Fld_of (idx := 13) 6 2 X (by decide) (by decide) (by decide +kernel) (by decide +kernel)
  have F16 := Fld_of (idx := 16) 6 3 X (by decide) (by decide) (by decide +kernel) (by decide +kernel)
  generalize hQ : QM E G A _ _ _ = Q
  show V E G A 4 [MO y t kn ln th, RW G (y 1) 70 s, RW G (y 4) 420 g, RW G (y 2) 140 sl, RZ G (y 3) 2 z] 0 0 Q 0 [(0, .ref (y 0)), (1, .int (nI c))] []
  refine V_iload_n (pc' := 1) 1 X dX6_restore_0 rfl rfl rfl ?_
  refine V_iconst (pc' := 2) (nI 0) X dX6_restore_1 ki_0 rfl ?_
  refine V_iconst (pc' := 3) (nI 1) X dX6_restore_2 ki_1 rfl ?_
  refine V_callS (pc' := 6) (As := [.int (nI c), .int (nI 0), .int (nI 1)]) (st := []) [] [0, 1, 2, 3, 4] (show (List.range 5).Perm ([] ++ [0, 1, 2, 3, 4]) by decide) X (c_X6_in l G c 0 1 (by omega) (by decide) (by decide)) rfl gX6_restore_X6_in rfl rfl (Nat.le_of_ble_eq_true rfl) ⟨Nat.le_of_ble_eq_true rfl, Nat.le_of_ble_eq_true rfl⟩ ⟨Nat.le_of_ble_eq_true rfl, Nat.le_of_ble_eq_true rfl⟩ dX6_restore_3 rfl (fun v_ u_ hp_ => ?_)
  obtain ⟨rfl, rfl⟩ := hp_; rw [if_pos (by omega)]
  show V E G A 4 [MO y t kn ln th, RW G (y 1) 70 s, RW G (y 4) 420 g, RW G (y 2) 140 sl, RZ G (y 3) 2 z] 0 0 Q 6 [(0, .ref (y 0)), (1, .int (nI c))] [.int (nI 1)]
  refine V_istore_n (pc' := 7) [(0, .ref (y 0)), (1, .int (nI c)), (2, .int (nI 1))] [1, 2, 0] X dX6_restore_6 rfl (Nat.le_of_ble_eq_true rfl) rfl rfl ?_
  refine V_aload_n (pc' := 8) 0 X dX6_restore_7 rfl rfl rfl ?_
  refine V_iload_n (pc' := 9) 2 X dX6_restore_8 rfl rfl rfl ?_
  refine V_if_ne (pc' := 12) (C := 1 = 0) 16 X dX6_restore_9 (by decide) rfl (z_eq0 (by omega)) (fun _ => ?_) (fun hz => absurd hz (by decide))
  refine V_aload_n (pc' := 17) 0 X dX6_restore_16 rfl rfl rfl ?_
  refine V_get (pc' := 20) 0 X F16 rfl rfl dX6_restore_17 rfl ?_
  refine V_iload_n (pc' := 21) 1 X dX6_restore_20 rfl rfl rfl ?_
  refine V_zald (pc' := 22) (v := nI (z c)) 4 c X rfl (by omega) (by decide) rfl dX6_restore_21 rfl ?_
  refine V_if_ne (pc' := 25) (C := (z c) = 0) 29 X dX6_restore_22 (by decide) rfl (z_eq0 (by omega)) (fun _ => ?_) (fun hz => absurd hz (by omega))
  refine V_iconst (pc' := 30) (nI 0) X dX6_restore_29 ki_0 rfl ?_
  refine V_callV (pc' := 33) (As := [.int (nI 0)]) (st := []) 6 0 [0] [1, 2, 3, 4] (show (List.range 5).Perm ([0] ++ [1, 2, 3, 4]) by decide) X (c_X6_holds0 l G y t kn ln th) rfl gX6_restore_X6_holds rfl (by decide) rfl rfl rfl (Nat.le_of_ble_eq_true rfl) ⟨Nat.le_of_ble_eq_true rfl, Nat.le_of_ble_eq_true rfl⟩ ⟨Nat.le_of_ble_eq_true rfl, Nat.le_of_ble_eq_true rfl⟩ dX6_restore_30 rfl (fun v_ u_ hp_ => ?_)
  obtain ⟨rfl, rfl⟩ := hp_
  show V E G A 4 [RW G (y 1) 70 s, RW G (y 4) 420 g, RW G (y 2) 140 sl, RZ G (y 3) 2 z, MO y 0 kn ln th] 0 0 Q 33 [(0, .ref (y 0)), (1, .int (nI c)), (2, .int (nI 1))] [.int (nI 1)]
  refine V_ord [4, 0, 1, 2, 3] [MO y 0 kn ln th, RW G (y 1) 70 s, RW G (y 4) 420 g, RW G (y 2) 140 sl, RZ G (y 3) 2 z] (show (List.range 5).Perm [4, 0, 1, 2, 3] by decide) rfl ?_
  refine V_if_ne (pc' := 36) (C := 1 = 0) 38 X dX6_restore_33 (by decide) rfl (z_eq0 (by omega)) (fun _ => ?_) (fun hz => absurd hz (by decide))
  refine V_aload_n (pc' := 39) 0 X dX6_restore_38 rfl rfl rfl ?_
  refine V_callV (pc' := 42) (As := []) (st := []) 6 0 [0, 1, 2] [3, 4] (show (List.range 5).Perm ([0, 1, 2] ++ [3, 4]) by decide) X (c_X6_records l G y 0 kn ln th s g hn) rfl gX6_restore_X6_records rfl (by decide) rfl rfl rfl (Nat.le_of_ble_eq_true rfl) ⟨Nat.le_of_ble_eq_true rfl, Nat.le_of_ble_eq_true rfl⟩ ⟨Nat.le_of_ble_eq_true rfl, Nat.le_of_ble_eq_true rfl⟩ dX6_restore_39 rfl (fun v_ u_ hp_ => ?_)
  obtain ⟨rfl, rfl⟩ := hp_
  show V E G A 4 [RW G (y 2) 140 sl, RZ G (y 3) 2 z, MO y 0 (aM kn + 1) ln th, RW G (y 1) 70 s, RW G (y 4) 420 (rcH kn s g)] 0 0 Q 42 [(0, .ref (y 0)), (1, .int (nI c)), (2, .int (nI 1))] []
  refine V_ord [2, 3, 4, 0, 1] [MO y 0 (aM kn + 1) ln th, RW G (y 1) 70 s, RW G (y 4) 420 (rcH kn s g), RW G (y 2) 140 sl, RZ G (y 3) 2 z] (show (List.range 5).Perm [2, 3, 4, 0, 1] by decide) rfl ?_
  refine V_iconst (pc' := 43) (nI 0) X dX6_restore_42 ki_0 rfl ?_
  refine V_istore_n (pc' := 44) [(0, .ref (y 0)), (1, .int (nI c)), (2, .int (nI 1)), (3, .int (nI 0))] [1, 2, 3, 0] X dX6_restore_43 rfl (Nat.le_of_ble_eq_true rfl) rfl rfl ?_
  refine V_ws [MO y 0 (aM kn + 1) ln th, RW G (y 1) 70 (upN s (fun k => sl (70 * c + k)) 0), RW G (y 4) 420 (rcH kn s g), RW G (y 2) 140 sl, RZ G (y 3) 2 z] rfl ?_
  have lp_1 : ∀ i, i ≤ 70 → V E G A 4 [MO y 0 (aM kn + 1) ln th, RW G (y 1) 70 (upN s (fun k => sl (70 * c + k)) i), RW G (y 4) 420 (rcH kn s g), RW G (y 2) 140 sl, RZ G (y 3) 2 z] 0 0 Q 44 [(0, .ref (y 0)), (1, .int (nI c)), (2, .int (nI 1)), (3, .int (nI i))] [] := by
    refine loopD 70 ?_ ?_
    · show V E G A 4 [MO y 0 (aM kn + 1) ln th, RW G (y 1) 70 (upN s (fun k => sl (70 * c + k)) 70), RW G (y 4) 420 (rcH kn s g), RW G (y 2) 140 sl, RZ G (y 3) 2 z] 0 0 Q 44 [(0, .ref (y 0)), (1, .int (nI c)), (2, .int (nI 1)), (3, .int (nI 70))] []
      refine V_iload_n (pc' := 45) 3 X dX6_restore_44 rfl rfl rfl ?_
      refine V_bipush (pc' := 47) (nI 70) X dX6_restore_45 kb_70 rfl ?_
      refine V_icmp_ge (pc' := 50) (C := 70 ≤ 70) 73 X dX6_restore_47 (by decide) rfl (nI_leI (by omega) (by omega)) (fun _ => ?_) (fun hz => absurd (by omega) hz)
      refine V_ws [MO y 0 (aM kn + 1) ln th, [((y 1), .inl (G.2 0, 70, .inl (nf (upN s (fun k => sl (70 * c + k)) 70))))], RW G (y 4) 420 (rcH kn s g), RW G (y 2) 140 sl, RZ G (y 3) 2 z] rfl ?_
      refine V_wsq [MO y 0 (aM kn + 1) ln th, [((y 1), .inl (G.2 0, 70, .inl (nf (fun k => sl (70 * c + k)))))], RW G (y 4) 420 (rcH kn s g), RW G (y 2) 140 sl, RZ G (y 3) 2 z] (wsq.app (wsq.rf _) (wsq.app (wsq.cons (weq.row (fun k hk => congrArg nI (upN_in hk))) (wsq.rf _)) (wsq.rf _))) ?_
      refine V_ws [MO y 0 (aM kn + 1) ln th, RW G (y 1) 70 (fun k => sl (70 * c + k)), RW G (y 4) 420 (rcH kn s g), RW G (y 2) 140 sl, RZ G (y 3) 2 z] rfl ?_
      refine V_aload_n (pc' := 74) 0 X dX6_restore_73 rfl rfl rfl ?_
      refine V_callV (pc' := 77) (As := []) (st := []) 6 0 [0, 1] [2, 3, 4] (show (List.range 5).Perm ([0, 1] ++ [2, 3, 4]) by decide) X (c_X6_allPegs l G y 0 (aM kn + 1) ln th (fun k => sl (70 * c + k)) hO) rfl gX6_restore_X6_allPegs rfl (by decide) rfl rfl rfl (Nat.le_of_ble_eq_true rfl) ⟨Nat.le_of_ble_eq_true rfl, Nat.le_of_ble_eq_true rfl⟩ ⟨Nat.le_of_ble_eq_true rfl, Nat.le_of_ble_eq_true rfl⟩ dX6_restore_74 rfl (fun v_ u_ hp_ => ?_)
      obtain ⟨rfl, rfl⟩ := hp_
      show V E G A 4 [RW G (y 4) 420 (rcH kn s g), RW G (y 2) 140 sl, RZ G (y 3) 2 z, MO y 0 (aM kn + 1) ln th, RW G (y 1) 70 (fun k => sl (70 * c + k))] 0 0 Q 77 [(0, .ref (y 0)), (1, .int (nI c)), (2, .int (nI 1)), (3, .int (nI 70))] [.int (nI (sm (fun k => cnt ((fun k => sl (70 * c + k)) k)) 32))]
      refine V_ord [3, 4, 0, 1, 2] [MO y 0 (aM kn + 1) ln th, RW G (y 1) 70 (fun k => sl (70 * c + k)), RW G (y 4) 420 (rcH kn s g), RW G (y 2) 140 sl, RZ G (y 3) 2 z] (show (List.range 5).Perm [3, 4, 0, 1, 2] by decide) rfl ?_
      exact V_ireturn (v := nI (sm (fun k => cnt ((fun k => sl (70 * c + k)) k)) 32)) [MO y 0 (aM kn + 1) ln th, RW G (y 1) 70 (fun k => sl (70 * c + k)), RW G (y 4) 420 (rcH kn s g), RW G (y 2) 140 sl, RZ G (y 3) 2 z] hQ X hrt rfl dX6_restore_77 (Nat.le_of_ble_eq_true rfl) (Nat.le_of_ble_eq_true rfl) (List.Perm.refl _) ⟨rfl, rfl⟩
    · intro i hi_i ih
      show V E G A 4 [MO y 0 (aM kn + 1) ln th, RW G (y 1) 70 (upN s (fun k => sl (70 * c + k)) i), RW G (y 4) 420 (rcH kn s g), RW G (y 2) 140 sl, RZ G (y 3) 2 z] 0 0 Q 44 [(0, .ref (y 0)), (1, .int (nI c)), (2, .int (nI 1)), (3, .int (nI i))] []
      refine V_iload_n (pc' := 45) 3 X dX6_restore_44 rfl rfl rfl ?_
      refine V_bipush (pc' := 47) (nI 70) X dX6_restore_45 kb_70 rfl ?_
      refine V_icmp_ge (pc' := 50) (C := 70 ≤ i) 73 X dX6_restore_47 (by decide) rfl (nI_leI (by omega) (by omega)) (fun hz => absurd hz (by omega)) (fun _ => ?_)
      refine V_aload_n (pc' := 51) 0 X dX6_restore_50 rfl rfl rfl ?_
      refine V_get (pc' := 54) 0 X F7 rfl rfl dX6_restore_51 rfl ?_
      refine V_iload_n (pc' := 55) 3 X dX6_restore_54 rfl rfl rfl ?_
      refine V_aload_n (pc' := 56) 0 X dX6_restore_55 rfl rfl rfl ?_
      refine V_get (pc' := 59) 0 X F13 rfl rfl dX6_restore_56 rfl ?_
      refine V_bipush (pc' := 61) (nI 70) X dX6_restore_59 kb_70 rfl ?_
      refine V_iload_n (pc' := 62) 1 X dX6_restore_61 rfl rfl rfl ?_
      refine V_imul (pc' := 63) (nI (70 * c)) X dX6_restore_62 (pk_mul _ _) rfl ?_
      refine V_iload_n (pc' := 64) 3 X dX6_restore_63 rfl rfl rfl ?_
      refine V_iadd (pc' := 65) (nI ((70 * c) + i)) X dX6_restore_64 (nI_add _ _) rfl ?_
      refine V_iald (pc' := 66) (v := nI (sl ((70 * c) + i))) 3 ((70 * c) + i) X rfl (by omega) (by decide) rfl dX6_restore_65 rfl ?_
      refine V_ws [MO y 0 (aM kn + 1) ln th, [((y 1), .inl (G.2 0, 70, .inl (nf (upN s (fun k => sl (70 * c + k)) i))))], RW G (y 4) 420 (rcH kn s g), RW G (y 2) 140 sl, RZ G (y 3) 2 z] rfl ?_
      refine V_iast (pc' := 67) 1 i [MO y 0 (aM kn + 1) ln th, [((y 1), .inl (G.2 0, 70, .inl (upd (nf (upN s (fun k => sl (70 * c + k)) i)) i (nI (sl ((70 * c) + i))))))], RW G (y 4) 420 (rcH kn s g), RW G (y 2) 140 sl, RZ G (y 3) 2 z] X rfl (by omega) (by decide) rfl dX6_restore_66 rfl ?_
      refine V_ws [MO y 0 (aM kn + 1) ln th, [((y 1), .inl (G.2 0, 70, .inl (nf (va_up (upN s (fun k => sl (70 * c + k)) i) i (sl ((70 * c) + i))))))], RW G (y 4) 420 (rcH kn s g), RW G (y 2) 140 sl, RZ G (y 3) 2 z] (by simp only [nf_upd]) ?_
      refine V_iinc (pc' := 70) [(0, .ref (y 0)), (1, .int (nI c)), (2, .int (nI 1)), (3, .int (nI (i + 1)))] 3 [1, 2, 3, 0] X dX6_restore_67 rfl (nI_i1 _) (Nat.le_of_ble_eq_true rfl) rfl rfl ?_
      refine V_goto (pc' := 44) X dX6_restore_70 (by decide) ?_
      refine V_ws [MO y 0 (aM kn + 1) ln th, RW G (y 1) 70 (va_up (upN s (fun k => sl (70 * c + k)) i) i (sl ((70 * c) + i))), RW G (y 4) 420 (rcH kn s g), RW G (y 2) 140 sl, RZ G (y 3) 2 z] rfl ?_
      exact ih
  exact lp_1 0 (Nat.zero_le _)
